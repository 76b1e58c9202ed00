theorem dJ6_compare_7cf53_0 : decode cJ6_compare_7cf53 0 = .ok (.iload_n 0, 1) := by decide +kernel
theorem dJ6_compare_7cf53_1 : decode cJ6_compare_7cf53 1 = .ok (.iload_n 1, 1) := by decide +kernel
theorem dJ6_compare_7cf53_2 : decode cJ6_compare_7cf53 2 = .ok (.if_icmp .ge 7, 3) := by decide +kernel
theorem dJ6_compare_7cf53_5 : decode cJ6_compare_7cf53 5 = .ok (.iconst (-1), 1) := by decide +kernel
theorem dJ6_compare_7cf53_6 : decode cJ6_compare_7cf53 6 = .ok (.goto 13, 3) := by decide +kernel
theorem dJ6_compare_7cf53_9 : decode cJ6_compare_7cf53 9 = .ok (.iload_n 0, 1) := by decide +kernel
theorem dJ6_compare_7cf53_10 : decode cJ6_compare_7cf53 10 = .ok (.iload_n 1, 1) := by decide +kernel
theorem dJ6_compare_7cf53_11 : decode cJ6_compare_7cf53 11 = .ok (.if_icmp .ne 7, 3) := by decide +kernel
theorem dJ6_compare_7cf53_14 : decode cJ6_compare_7cf53 14 = .ok (.iconst 0, 1) := by decide +kernel
theorem dJ6_compare_7cf53_15 : decode cJ6_compare_7cf53 15 = .ok (.goto 4, 3) := by decide +kernel
theorem dJ6_compare_7cf53_18 : decode cJ6_compare_7cf53 18 = .ok (.iconst 1, 1) := by decide +kernel
theorem dJ6_compare_7cf53_19 : decode cJ6_compare_7cf53 19 = .ok (.ireturn, 1) := by decide +kernel
theorem dJ6_bitCount_0f7a4_0 : decode cJ6_bitCount_0f7a4 0 = .ok (.iload_n 0, 1) := by decide +kernel
theorem dJ6_bitCount_0f7a4_1 : decode cJ6_bitCount_0f7a4 1 = .ok (.iload_n 0, 1) := by decide +kernel
theorem dJ6_bitCount_0f7a4_2 : decode cJ6_bitCount_0f7a4 2 = .ok (.iconst 1, 1) := by decide +kernel
theorem dJ6_bitCount_0f7a4_3 : decode cJ6_bitCount_0f7a4 3 = .ok (.iushr, 1) := by decide +kernel
theorem dJ6_bitCount_0f7a4_4 : decode cJ6_bitCount_0f7a4 4 = .ok (.ldc_w 265, 3) := by decide +kernel
theorem dJ6_bitCount_0f7a4_7 : decode cJ6_bitCount_0f7a4 7 = .ok (.iand, 1) := by decide +kernel
theorem dJ6_bitCount_0f7a4_8 : decode cJ6_bitCount_0f7a4 8 = .ok (.isub, 1) := by decide +kernel
theorem dJ6_bitCount_0f7a4_9 : decode cJ6_bitCount_0f7a4 9 = .ok (.istore_n 0, 1) := by decide +kernel
theorem dJ6_bitCount_0f7a4_10 : decode cJ6_bitCount_0f7a4 10 = .ok (.iload_n 0, 1) := by decide +kernel
theorem dJ6_bitCount_0f7a4_11 : decode cJ6_bitCount_0f7a4 11 = .ok (.ldc_w 266, 3) := by decide +kernel
theorem dJ6_bitCount_0f7a4_14 : decode cJ6_bitCount_0f7a4 14 = .ok (.iand, 1) := by decide +kernel
theorem dJ6_bitCount_0f7a4_15 : decode cJ6_bitCount_0f7a4 15 = .ok (.iload_n 0, 1) := by decide +kernel
theorem dJ6_bitCount_0f7a4_16 : decode cJ6_bitCount_0f7a4 16 = .ok (.iconst 2, 1) := by decide +kernel
theorem dJ6_bitCount_0f7a4_17 : decode cJ6_bitCount_0f7a4 17 = .ok (.iushr, 1) := by decide +kernel
theorem dJ6_bitCount_0f7a4_18 : decode cJ6_bitCount_0f7a4 18 = .ok (.ldc_w 266, 3) := by decide +kernel
theorem dJ6_bitCount_0f7a4_21 : decode cJ6_bitCount_0f7a4 21 = .ok (.iand, 1) := by decide +kernel
theorem dJ6_bitCount_0f7a4_22 : decode cJ6_bitCount_0f7a4 22 = .ok (.iadd, 1) := by decide +kernel
theorem dJ6_bitCount_0f7a4_23 : decode cJ6_bitCount_0f7a4 23 = .ok (.istore_n 0, 1) := by decide +kernel
theorem dJ6_bitCount_0f7a4_24 : decode cJ6_bitCount_0f7a4 24 = .ok (.iload_n 0, 1) := by decide +kernel
theorem dJ6_bitCount_0f7a4_25 : decode cJ6_bitCount_0f7a4 25 = .ok (.iload_n 0, 1) := by decide +kernel
theorem dJ6_bitCount_0f7a4_26 : decode cJ6_bitCount_0f7a4 26 = .ok (.iconst 4, 1) := by decide +kernel
theorem dJ6_bitCount_0f7a4_27 : decode cJ6_bitCount_0f7a4 27 = .ok (.iushr, 1) := by decide +kernel
theorem dJ6_bitCount_0f7a4_28 : decode cJ6_bitCount_0f7a4 28 = .ok (.iadd, 1) := by decide +kernel
theorem dJ6_bitCount_0f7a4_29 : decode cJ6_bitCount_0f7a4 29 = .ok (.ldc_w 267, 3) := by decide +kernel
theorem dJ6_bitCount_0f7a4_32 : decode cJ6_bitCount_0f7a4 32 = .ok (.iand, 1) := by decide +kernel
theorem dJ6_bitCount_0f7a4_33 : decode cJ6_bitCount_0f7a4 33 = .ok (.istore_n 0, 1) := by decide +kernel
theorem dJ6_bitCount_0f7a4_34 : decode cJ6_bitCount_0f7a4 34 = .ok (.iload_n 0, 1) := by decide +kernel
theorem dJ6_bitCount_0f7a4_35 : decode cJ6_bitCount_0f7a4 35 = .ok (.iload_n 0, 1) := by decide +kernel
theorem dJ6_bitCount_0f7a4_36 : decode cJ6_bitCount_0f7a4 36 = .ok (.bipush 8, 2) := by decide +kernel
theorem dJ6_bitCount_0f7a4_38 : decode cJ6_bitCount_0f7a4 38 = .ok (.iushr, 1) := by decide +kernel
theorem dJ6_bitCount_0f7a4_39 : decode cJ6_bitCount_0f7a4 39 = .ok (.iadd, 1) := by decide +kernel
theorem dJ6_bitCount_0f7a4_40 : decode cJ6_bitCount_0f7a4 40 = .ok (.istore_n 0, 1) := by decide +kernel
theorem dJ6_bitCount_0f7a4_41 : decode cJ6_bitCount_0f7a4 41 = .ok (.iload_n 0, 1) := by decide +kernel
theorem dJ6_bitCount_0f7a4_42 : decode cJ6_bitCount_0f7a4 42 = .ok (.iload_n 0, 1) := by decide +kernel
theorem dJ6_bitCount_0f7a4_43 : decode cJ6_bitCount_0f7a4 43 = .ok (.bipush 16, 2) := by decide +kernel
theorem dJ6_bitCount_0f7a4_45 : decode cJ6_bitCount_0f7a4 45 = .ok (.iushr, 1) := by decide +kernel
theorem dJ6_bitCount_0f7a4_46 : decode cJ6_bitCount_0f7a4 46 = .ok (.iadd, 1) := by decide +kernel
theorem dJ6_bitCount_0f7a4_47 : decode cJ6_bitCount_0f7a4 47 = .ok (.istore_n 0, 1) := by decide +kernel
theorem dJ6_bitCount_0f7a4_48 : decode cJ6_bitCount_0f7a4 48 = .ok (.iload_n 0, 1) := by decide +kernel
theorem dJ6_bitCount_0f7a4_49 : decode cJ6_bitCount_0f7a4 49 = .ok (.bipush 63, 2) := by decide +kernel
theorem dJ6_bitCount_0f7a4_51 : decode cJ6_bitCount_0f7a4 51 = .ok (.iand, 1) := by decide +kernel
theorem dJ6_bitCount_0f7a4_52 : decode cJ6_bitCount_0f7a4 52 = .ok (.ireturn, 1) := by decide +kernel
theorem dJ9_abs_0f7a4_0 : decode cJ9_abs_0f7a4 0 = .ok (.iload_n 0, 1) := by decide +kernel
theorem dJ9_abs_0f7a4_1 : decode cJ9_abs_0f7a4 1 = .ok (.ifCond .ge 8, 3) := by decide +kernel
theorem dJ9_abs_0f7a4_4 : decode cJ9_abs_0f7a4 4 = .ok (.iload_n 0, 1) := by decide +kernel
theorem dJ9_abs_0f7a4_5 : decode cJ9_abs_0f7a4 5 = .ok (.ineg, 1) := by decide +kernel
theorem dJ9_abs_0f7a4_6 : decode cJ9_abs_0f7a4 6 = .ok (.goto 4, 3) := by decide +kernel
theorem dJ9_abs_0f7a4_9 : decode cJ9_abs_0f7a4 9 = .ok (.iload_n 0, 1) := by decide +kernel
theorem dJ9_abs_0f7a4_10 : decode cJ9_abs_0f7a4 10 = .ok (.ireturn, 1) := by decide +kernel
theorem dJ9_max_7cf53_0 : decode cJ9_max_7cf53 0 = .ok (.iload_n 0, 1) := by decide +kernel
theorem dJ9_max_7cf53_1 : decode cJ9_max_7cf53 1 = .ok (.iload_n 1, 1) := by decide +kernel
theorem dJ9_max_7cf53_2 : decode cJ9_max_7cf53 2 = .ok (.if_icmp .lt 7, 3) := by decide +kernel
theorem dJ9_max_7cf53_5 : decode cJ9_max_7cf53 5 = .ok (.iload_n 0, 1) := by decide +kernel
theorem dJ9_max_7cf53_6 : decode cJ9_max_7cf53 6 = .ok (.goto 4, 3) := by decide +kernel
theorem dJ9_max_7cf53_9 : decode cJ9_max_7cf53 9 = .ok (.iload_n 1, 1) := by decide +kernel
theorem dJ9_max_7cf53_10 : decode cJ9_max_7cf53 10 = .ok (.ireturn, 1) := by decide +kernel
theorem dJ9_min_7cf53_0 : decode cJ9_min_7cf53 0 = .ok (.iload_n 0, 1) := by decide +kernel
theorem dJ9_min_7cf53_1 : decode cJ9_min_7cf53 1 = .ok (.iload_n 1, 1) := by decide +kernel
theorem dJ9_min_7cf53_2 : decode cJ9_min_7cf53 2 = .ok (.if_icmp .gt 7, 3) := by decide +kernel
theorem dJ9_min_7cf53_5 : decode cJ9_min_7cf53 5 = .ok (.iload_n 0, 1) := by decide +kernel
theorem dJ9_min_7cf53_6 : decode cJ9_min_7cf53 6 = .ok (.goto 4, 3) := by decide +kernel
theorem dJ9_min_7cf53_9 : decode cJ9_min_7cf53 9 = .ok (.iload_n 1, 1) := by decide +kernel
theorem dJ9_min_7cf53_10 : decode cJ9_min_7cf53 10 = .ok (.ireturn, 1) := by decide +kernel
theorem dL_lot_0 : decode cL_lot 0 = .ok (.iload_n 1, 1) := by decide +kernel
theorem dL_lot_1 : decode cL_lot 1 = .ok (.aload_n 0, 1) := by decide +kernel
theorem dL_lot_2 : decode cL_lot 2 = .ok (.arraylength, 1) := by decide +kernel
theorem dL_lot_3 : decode cL_lot 3 = .ok (.if_icmp .ge 9, 3) := by decide +kernel
theorem dL_lot_6 : decode cL_lot 6 = .ok (.aload_n 0, 1) := by decide +kernel
theorem dL_lot_7 : decode cL_lot 7 = .ok (.iload_n 1, 1) := by decide +kernel
theorem dL_lot_8 : decode cL_lot 8 = .ok (.iaload, 1) := by decide +kernel
theorem dL_lot_9 : decode cL_lot 9 = .ok (.goto 15, 3) := by decide +kernel
theorem dL_lot_12 : decode cL_lot 12 = .ok (.ldc 7, 2) := by decide +kernel
theorem dL_lot_14 : decode cL_lot 14 = .ok (.iload_n 1, 1) := by decide +kernel
theorem dL_lot_15 : decode cL_lot 15 = .ok (.sipush 4441, 3) := by decide +kernel
theorem dL_lot_18 : decode cL_lot 18 = .ok (.iadd, 1) := by decide +kernel
theorem dL_lot_19 : decode cL_lot 19 = .ok (.imul, 1) := by decide +kernel
theorem dL_lot_20 : decode cL_lot 20 = .ok (.sipush 4201, 3) := by decide +kernel
theorem dL_lot_23 : decode cL_lot 23 = .ok (.iadd, 1) := by decide +kernel
theorem dL_lot_24 : decode cL_lot 24 = .ok (.ireturn, 1) := by decide +kernel
theorem dL_low_0 : decode cL_low 0 = .ok (.iload_n 0, 1) := by decide +kernel
theorem dL_low_1 : decode cL_low 1 = .ok (.ldc 8, 2) := by decide +kernel
theorem dL_low_3 : decode cL_low 3 = .ok (.iand, 1) := by decide +kernel
theorem dL_low_4 : decode cL_low 4 = .ok (.iload_n 1, 1) := by decide +kernel
theorem dL_low_5 : decode cL_low 5 = .ok (.irem, 1) := by decide +kernel
theorem dL_low_6 : decode cL_low 6 = .ok (.ireturn, 1) := by decide +kernel
theorem dL_look_0 : decode cL_look 0 = .ok (.ldc2_w 9, 3) := by decide +kernel
theorem dL_look_3 : decode cL_look 3 = .ok (.lstore_n 1, 1) := by decide +kernel
theorem dL_look_4 : decode cL_look 4 = .ok (.iconst 0, 1) := by decide +kernel
theorem dL_look_5 : decode cL_look 5 = .ok (.istore_n 3, 1) := by decide +kernel
theorem dL_look_6 : decode cL_look 6 = .ok (.iload_n 3, 1) := by decide +kernel
theorem dL_look_7 : decode cL_look 7 = .ok (.bipush 17, 2) := by decide +kernel
theorem dL_look_9 : decode cL_look 9 = .ok (.if_icmp .ge 22, 3) := by decide +kernel
theorem dL_look_12 : decode cL_look 12 = .ok (.ldc2_w 11, 3) := by decide +kernel
theorem dL_look_15 : decode cL_look 15 = .ok (.lload_n 1, 1) := by decide +kernel
theorem dL_look_16 : decode cL_look 16 = .ok (.lmul, 1) := by decide +kernel
theorem dL_look_17 : decode cL_look 17 = .ok (.aload_n 0, 1) := by decide +kernel
theorem dL_look_18 : decode cL_look 18 = .ok (.iload_n 3, 1) := by decide +kernel
theorem dL_look_19 : decode cL_look 19 = .ok (.invokevirtual 13, 3) := by decide +kernel
theorem dL_look_22 : decode cL_look 22 = .ok (.i2l, 1) := by decide +kernel
theorem dL_look_23 : decode cL_look 23 = .ok (.ladd, 1) := by decide +kernel
theorem dL_look_24 : decode cL_look 24 = .ok (.lstore_n 1, 1) := by decide +kernel
theorem dL_look_25 : decode cL_look 25 = .ok (.iinc 3 1, 3) := by decide +kernel
theorem dL_look_28 : decode cL_look 28 = .ok (.goto (-22), 3) := by decide +kernel
theorem dL_look_31 : decode cL_look 31 = .ok (.iconst 0, 1) := by decide +kernel
theorem dL_look_32 : decode cL_look 32 = .ok (.istore_n 3, 1) := by decide +kernel
theorem dL_look_33 : decode cL_look 33 = .ok (.iload_n 3, 1) := by decide +kernel
theorem dL_look_34 : decode cL_look 34 = .ok (.aload_n 0, 1) := by decide +kernel
theorem dL_look_35 : decode cL_look 35 = .ok (.iconst 0, 1) := by decide +kernel
theorem dL_look_36 : decode cL_look 36 = .ok (.invokevirtual 13, 3) := by decide +kernel
theorem dL_look_39 : decode cL_look 39 = .ok (.if_icmp .ge 39, 3) := by decide +kernel
theorem dL_look_42 : decode cL_look 42 = .ok (.iconst 0, 1) := by decide +kernel
theorem dL_look_43 : decode cL_look 43 = .ok (.istore 4, 2) := by decide +kernel
theorem dL_look_45 : decode cL_look 45 = .ok (.iload 4, 2) := by decide +kernel
theorem dL_look_47 : decode cL_look 47 = .ok (.iconst 4, 1) := by decide +kernel
theorem dL_look_48 : decode cL_look 48 = .ok (.if_icmp .ge 24, 3) := by decide +kernel
theorem dL_look_51 : decode cL_look 51 = .ok (.ldc2_w 11, 3) := by decide +kernel
theorem dL_look_54 : decode cL_look 54 = .ok (.lload_n 1, 1) := by decide +kernel
theorem dL_look_55 : decode cL_look 55 = .ok (.lmul, 1) := by decide +kernel
theorem dL_look_56 : decode cL_look 56 = .ok (.aload_n 0, 1) := by decide +kernel
theorem dL_look_57 : decode cL_look 57 = .ok (.iload_n 3, 1) := by decide +kernel
theorem dL_look_58 : decode cL_look 58 = .ok (.iload 4, 2) := by decide +kernel
theorem dL_look_60 : decode cL_look 60 = .ok (.invokevirtual 19, 3) := by decide +kernel
theorem dL_look_63 : decode cL_look 63 = .ok (.i2l, 1) := by decide +kernel
theorem dL_look_64 : decode cL_look 64 = .ok (.ladd, 1) := by decide +kernel
theorem dL_look_65 : decode cL_look 65 = .ok (.lstore_n 1, 1) := by decide +kernel
theorem dL_look_66 : decode cL_look 66 = .ok (.iinc 4 1, 3) := by decide +kernel
theorem dL_look_69 : decode cL_look 69 = .ok (.goto (-24), 3) := by decide +kernel
theorem dL_look_72 : decode cL_look 72 = .ok (.iinc 3 1, 3) := by decide +kernel
theorem dL_look_75 : decode cL_look 75 = .ok (.goto (-42), 3) := by decide +kernel
theorem dL_look_78 : decode cL_look 78 = .ok (.iconst 0, 1) := by decide +kernel
theorem dL_look_79 : decode cL_look 79 = .ok (.istore_n 3, 1) := by decide +kernel
theorem dL_look_80 : decode cL_look 80 = .ok (.iload_n 3, 1) := by decide +kernel
theorem dL_look_81 : decode cL_look 81 = .ok (.aload_n 0, 1) := by decide +kernel
theorem dL_look_82 : decode cL_look 82 = .ok (.iconst 1, 1) := by decide +kernel
theorem dL_look_83 : decode cL_look 83 = .ok (.invokevirtual 13, 3) := by decide +kernel
theorem dL_look_86 : decode cL_look 86 = .ok (.if_icmp .ge 39, 3) := by decide +kernel
theorem dL_look_89 : decode cL_look 89 = .ok (.iconst 0, 1) := by decide +kernel
theorem dL_look_90 : decode cL_look 90 = .ok (.istore 4, 2) := by decide +kernel
theorem dL_look_92 : decode cL_look 92 = .ok (.iload 4, 2) := by decide +kernel
theorem dL_look_94 : decode cL_look 94 = .ok (.iconst 5, 1) := by decide +kernel
theorem dL_look_95 : decode cL_look 95 = .ok (.if_icmp .ge 24, 3) := by decide +kernel
theorem dL_look_98 : decode cL_look 98 = .ok (.ldc2_w 11, 3) := by decide +kernel
theorem dL_look_101 : decode cL_look 101 = .ok (.lload_n 1, 1) := by decide +kernel
theorem dL_look_102 : decode cL_look 102 = .ok (.lmul, 1) := by decide +kernel
theorem dL_look_103 : decode cL_look 103 = .ok (.aload_n 0, 1) := by decide +kernel
theorem dL_look_104 : decode cL_look 104 = .ok (.iload_n 3, 1) := by decide +kernel
theorem dL_look_105 : decode cL_look 105 = .ok (.iload 4, 2) := by decide +kernel
theorem dL_look_107 : decode cL_look 107 = .ok (.invokevirtual 23, 3) := by decide +kernel
theorem dL_look_110 : decode cL_look 110 = .ok (.i2l, 1) := by decide +kernel
theorem dL_look_111 : decode cL_look 111 = .ok (.ladd, 1) := by decide +kernel
theorem dL_look_112 : decode cL_look 112 = .ok (.lstore_n 1, 1) := by decide +kernel
theorem dL_look_113 : decode cL_look 113 = .ok (.iinc 4 1, 3) := by decide +kernel
theorem dL_look_116 : decode cL_look 116 = .ok (.goto (-24), 3) := by decide +kernel
theorem dL_look_119 : decode cL_look 119 = .ok (.iinc 3 1, 3) := by decide +kernel
theorem dL_look_122 : decode cL_look 122 = .ok (.goto (-42), 3) := by decide +kernel
theorem dL_look_125 : decode cL_look 125 = .ok (.lload_n 1, 1) := by decide +kernel
theorem dL_look_126 : decode cL_look 126 = .ok (.lreturn, 1) := by decide +kernel
theorem dL_holds_0 : decode cL_holds 0 = .ok (.sipush 1023, 3) := by decide +kernel
theorem dL_holds_3 : decode cL_holds 3 = .ok (.istore_n 1, 1) := by decide +kernel
theorem dL_holds_4 : decode cL_holds 4 = .ok (.bipush 11, 2) := by decide +kernel
theorem dL_holds_6 : decode cL_holds 6 = .ok (.istore_n 2, 1) := by decide +kernel
theorem dL_holds_7 : decode cL_holds 7 = .ok (.aload_n 0, 1) := by decide +kernel
theorem dL_holds_8 : decode cL_holds 8 = .ok (.iconst 0, 1) := by decide +kernel
theorem dL_holds_9 : decode cL_holds 9 = .ok (.invokevirtual 13, 3) := by decide +kernel
theorem dL_holds_12 : decode cL_holds 12 = .ok (.iconst 4, 1) := by decide +kernel
theorem dL_holds_13 : decode cL_holds 13 = .ok (.if_icmp .gt 171, 3) := by decide +kernel
theorem dL_holds_16 : decode cL_holds 16 = .ok (.aload_n 0, 1) := by decide +kernel
theorem dL_holds_17 : decode cL_holds 17 = .ok (.iconst 1, 1) := by decide +kernel
theorem dL_holds_18 : decode cL_holds 18 = .ok (.invokevirtual 13, 3) := by decide +kernel
theorem dL_holds_21 : decode cL_holds 21 = .ok (.bipush 60, 2) := by decide +kernel
theorem dL_holds_23 : decode cL_holds 23 = .ok (.if_icmp .gt 161, 3) := by decide +kernel
theorem dL_holds_26 : decode cL_holds 26 = .ok (.aload_n 0, 1) := by decide +kernel
theorem dL_holds_27 : decode cL_holds 27 = .ok (.iconst 2, 1) := by decide +kernel
theorem dL_holds_28 : decode cL_holds 28 = .ok (.invokevirtual 13, 3) := by decide +kernel
theorem dL_holds_31 : decode cL_holds 31 = .ok (.ifCond .lt 153, 3) := by decide +kernel
theorem dL_holds_34 : decode cL_holds 34 = .ok (.aload_n 0, 1) := by decide +kernel
theorem dL_holds_35 : decode cL_holds 35 = .ok (.iconst 2, 1) := by decide +kernel
theorem dL_holds_36 : decode cL_holds 36 = .ok (.invokevirtual 13, 3) := by decide +kernel
theorem dL_holds_39 : decode cL_holds 39 = .ok (.bipush 10, 2) := by decide +kernel
theorem dL_holds_41 : decode cL_holds 41 = .ok (.if_icmp .ge 143, 3) := by decide +kernel
theorem dL_holds_44 : decode cL_holds 44 = .ok (.aload_n 0, 1) := by decide +kernel
theorem dL_holds_45 : decode cL_holds 45 = .ok (.iconst 3, 1) := by decide +kernel
theorem dL_holds_46 : decode cL_holds 46 = .ok (.invokevirtual 13, 3) := by decide +kernel
theorem dL_holds_49 : decode cL_holds 49 = .ok (.ifCond .lt 135, 3) := by decide +kernel
theorem dL_holds_52 : decode cL_holds 52 = .ok (.aload_n 0, 1) := by decide +kernel
theorem dL_holds_53 : decode cL_holds 53 = .ok (.iconst 3, 1) := by decide +kernel
theorem dL_holds_54 : decode cL_holds 54 = .ok (.invokevirtual 13, 3) := by decide +kernel
theorem dL_holds_57 : decode cL_holds 57 = .ok (.iconst 3, 1) := by decide +kernel
theorem dL_holds_58 : decode cL_holds 58 = .ok (.if_icmp .gt 126, 3) := by decide +kernel
theorem dL_holds_61 : decode cL_holds 61 = .ok (.aload_n 0, 1) := by decide +kernel
theorem dL_holds_62 : decode cL_holds 62 = .ok (.iconst 4, 1) := by decide +kernel
theorem dL_holds_63 : decode cL_holds 63 = .ok (.invokevirtual 13, 3) := by decide +kernel
theorem dL_holds_66 : decode cL_holds 66 = .ok (.ifCond .lt 118, 3) := by decide +kernel
theorem dL_holds_69 : decode cL_holds 69 = .ok (.aload_n 0, 1) := by decide +kernel
theorem dL_holds_70 : decode cL_holds 70 = .ok (.iconst 4, 1) := by decide +kernel
theorem dL_holds_71 : decode cL_holds 71 = .ok (.invokevirtual 13, 3) := by decide +kernel
theorem dL_holds_74 : decode cL_holds 74 = .ok (.iconst 2, 1) := by decide +kernel
theorem dL_holds_75 : decode cL_holds 75 = .ok (.if_icmp .gt 109, 3) := by decide +kernel
theorem dL_holds_78 : decode cL_holds 78 = .ok (.aload_n 0, 1) := by decide +kernel
theorem dL_holds_79 : decode cL_holds 79 = .ok (.bipush 7, 2) := by decide +kernel
theorem dL_holds_81 : decode cL_holds 81 = .ok (.invokevirtual 13, 3) := by decide +kernel
theorem dL_holds_84 : decode cL_holds 84 = .ok (.aload_n 0, 1) := by decide +kernel
theorem dL_holds_85 : decode cL_holds 85 = .ok (.iconst 1, 1) := by decide +kernel
theorem dL_holds_86 : decode cL_holds 86 = .ok (.invokevirtual 13, 3) := by decide +kernel
theorem dL_holds_89 : decode cL_holds 89 = .ok (.aload_n 0, 1) := by decide +kernel
theorem dL_holds_90 : decode cL_holds 90 = .ok (.bipush 9, 2) := by decide +kernel
theorem dL_holds_92 : decode cL_holds 92 = .ok (.invokevirtual 13, 3) := by decide +kernel
theorem dL_holds_95 : decode cL_holds 95 = .ok (.iadd, 1) := by decide +kernel
theorem dL_holds_96 : decode cL_holds 96 = .ok (.aload_n 0, 1) := by decide +kernel
theorem dL_holds_97 : decode cL_holds 97 = .ok (.bipush 10, 2) := by decide +kernel
theorem dL_holds_99 : decode cL_holds 99 = .ok (.invokevirtual 13, 3) := by decide +kernel
theorem dL_holds_102 : decode cL_holds 102 = .ok (.iadd, 1) := by decide +kernel
theorem dL_holds_103 : decode cL_holds 103 = .ok (.aload_n 0, 1) := by decide +kernel
theorem dL_holds_104 : decode cL_holds 104 = .ok (.bipush 11, 2) := by decide +kernel
theorem dL_holds_106 : decode cL_holds 106 = .ok (.invokevirtual 13, 3) := by decide +kernel
theorem dL_holds_109 : decode cL_holds 109 = .ok (.iadd, 1) := by decide +kernel
theorem dL_holds_110 : decode cL_holds 110 = .ok (.aload_n 0, 1) := by decide +kernel
theorem dL_holds_111 : decode cL_holds 111 = .ok (.bipush 12, 2) := by decide +kernel
theorem dL_holds_113 : decode cL_holds 113 = .ok (.invokevirtual 13, 3) := by decide +kernel
theorem dL_holds_116 : decode cL_holds 116 = .ok (.iadd, 1) := by decide +kernel
theorem dL_holds_117 : decode cL_holds 117 = .ok (.if_icmp .ne 67, 3) := by decide +kernel
theorem dL_holds_120 : decode cL_holds 120 = .ok (.aload_n 0, 1) := by decide +kernel
theorem dL_holds_121 : decode cL_holds 121 = .ok (.bipush 6, 2) := by decide +kernel
theorem dL_holds_123 : decode cL_holds 123 = .ok (.invokevirtual 13, 3) := by decide +kernel
theorem dL_holds_126 : decode cL_holds 126 = .ok (.ifCond .eq 11, 3) := by decide +kernel
theorem dL_holds_129 : decode cL_holds 129 = .ok (.aload_n 0, 1) := by decide +kernel
theorem dL_holds_130 : decode cL_holds 130 = .ok (.iconst 3, 1) := by decide +kernel
theorem dL_holds_131 : decode cL_holds 131 = .ok (.invokevirtual 13, 3) := by decide +kernel
theorem dL_holds_134 : decode cL_holds 134 = .ok (.ifCond .ne 50, 3) := by decide +kernel
theorem dL_holds_137 : decode cL_holds 137 = .ok (.aload_n 0, 1) := by decide +kernel
theorem dL_holds_138 : decode cL_holds 138 = .ok (.bipush 14, 2) := by decide +kernel
theorem dL_holds_140 : decode cL_holds 140 = .ok (.invokevirtual 13, 3) := by decide +kernel
theorem dL_holds_143 : decode cL_holds 143 = .ok (.aload_n 0, 1) := by decide +kernel
theorem dL_holds_144 : decode cL_holds 144 = .ok (.bipush 10, 2) := by decide +kernel
theorem dL_holds_146 : decode cL_holds 146 = .ok (.invokevirtual 13, 3) := by decide +kernel
theorem dL_holds_149 : decode cL_holds 149 = .ok (.if_icmp .gt 35, 3) := by decide +kernel
theorem dL_holds_152 : decode cL_holds 152 = .ok (.aload_n 0, 1) := by decide +kernel
theorem dL_holds_153 : decode cL_holds 153 = .ok (.aload_n 0, 1) := by decide +kernel
theorem dL_holds_154 : decode cL_holds 154 = .ok (.iconst 1, 1) := by decide +kernel
theorem dL_holds_155 : decode cL_holds 155 = .ok (.invokevirtual 13, 3) := by decide +kernel
theorem dL_holds_158 : decode cL_holds 158 = .ok (.iconst 0, 1) := by decide +kernel
theorem dL_holds_159 : decode cL_holds 159 = .ok (.invokevirtual 23, 3) := by decide +kernel
theorem dL_holds_162 : decode cL_holds 162 = .ok (.iconst (-1), 1) := by decide +kernel
theorem dL_holds_163 : decode cL_holds 163 = .ok (.if_icmp .ne 21, 3) := by decide +kernel
theorem dL_holds_166 : decode cL_holds 166 = .ok (.aload_n 0, 1) := by decide +kernel
theorem dL_holds_167 : decode cL_holds 167 = .ok (.aload_n 0, 1) := by decide +kernel
theorem dL_holds_168 : decode cL_holds 168 = .ok (.iconst 0, 1) := by decide +kernel
theorem dL_holds_169 : decode cL_holds 169 = .ok (.invokevirtual 13, 3) := by decide +kernel
theorem dL_holds_172 : decode cL_holds 172 = .ok (.iconst 0, 1) := by decide +kernel
theorem dL_holds_173 : decode cL_holds 173 = .ok (.invokevirtual 19, 3) := by decide +kernel
theorem dL_holds_176 : decode cL_holds 176 = .ok (.iconst (-1), 1) := by decide +kernel
theorem dL_holds_177 : decode cL_holds 177 = .ok (.if_icmp .ne 7, 3) := by decide +kernel
theorem dL_holds_180 : decode cL_holds 180 = .ok (.iconst 1, 1) := by decide +kernel
theorem dL_holds_181 : decode cL_holds 181 = .ok (.goto 4, 3) := by decide +kernel
theorem dL_holds_184 : decode cL_holds 184 = .ok (.iconst 0, 1) := by decide +kernel
theorem dL_holds_185 : decode cL_holds 185 = .ok (.istore_n 3, 1) := by decide +kernel
theorem dL_holds_186 : decode cL_holds 186 = .ok (.iconst 0, 1) := by decide +kernel
theorem dL_holds_187 : decode cL_holds 187 = .ok (.istore 4, 2) := by decide +kernel
theorem dL_holds_189 : decode cL_holds 189 = .ok (.iload 4, 2) := by decide +kernel
theorem dL_holds_191 : decode cL_holds 191 = .ok (.aload_n 0, 1) := by decide +kernel
theorem dL_holds_192 : decode cL_holds 192 = .ok (.iconst 1, 1) := by decide +kernel
theorem dL_holds_193 : decode cL_holds 193 = .ok (.invokevirtual 13, 3) := by decide +kernel
theorem dL_holds_196 : decode cL_holds 196 = .ok (.if_icmp .ge 197, 3) := by decide +kernel
theorem dL_holds_199 : decode cL_holds 199 = .ok (.iload_n 3, 1) := by decide +kernel
theorem dL_holds_200 : decode cL_holds 200 = .ok (.ifCond .eq 193, 3) := by decide +kernel
theorem dL_holds_203 : decode cL_holds 203 = .ok (.aload_n 0, 1) := by decide +kernel
theorem dL_holds_204 : decode cL_holds 204 = .ok (.iload 4, 2) := by decide +kernel
theorem dL_holds_206 : decode cL_holds 206 = .ok (.iconst 0, 1) := by decide +kernel
theorem dL_holds_207 : decode cL_holds 207 = .ok (.invokevirtual 23, 3) := by decide +kernel
theorem dL_holds_210 : decode cL_holds 210 = .ok (.istore 5, 2) := by decide +kernel
theorem dL_holds_212 : decode cL_holds 212 = .ok (.aload_n 0, 1) := by decide +kernel
theorem dL_holds_213 : decode cL_holds 213 = .ok (.iload 4, 2) := by decide +kernel
theorem dL_holds_215 : decode cL_holds 215 = .ok (.iconst 1, 1) := by decide +kernel
theorem dL_holds_216 : decode cL_holds 216 = .ok (.invokevirtual 23, 3) := by decide +kernel
theorem dL_holds_219 : decode cL_holds 219 = .ok (.istore 6, 2) := by decide +kernel
theorem dL_holds_221 : decode cL_holds 221 = .ok (.iconst 0, 1) := by decide +kernel
theorem dL_holds_222 : decode cL_holds 222 = .ok (.istore 7, 2) := by decide +kernel
theorem dL_holds_224 : decode cL_holds 224 = .ok (.iconst 0, 1) := by decide +kernel
theorem dL_holds_225 : decode cL_holds 225 = .ok (.istore 8, 2) := by decide +kernel
theorem dL_holds_227 : decode cL_holds 227 = .ok (.iload 8, 2) := by decide +kernel
theorem dL_holds_229 : decode cL_holds 229 = .ok (.aload_n 0, 1) := by decide +kernel
theorem dL_holds_230 : decode cL_holds 230 = .ok (.iconst 1, 1) := by decide +kernel
theorem dL_holds_231 : decode cL_holds 231 = .ok (.invokevirtual 13, 3) := by decide +kernel
theorem dL_holds_234 : decode cL_holds 234 = .ok (.if_icmp .ge 43, 3) := by decide +kernel
theorem dL_holds_237 : decode cL_holds 237 = .ok (.iload 7, 2) := by decide +kernel
theorem dL_holds_239 : decode cL_holds 239 = .ok (.aload_n 0, 1) := by decide +kernel
theorem dL_holds_240 : decode cL_holds 240 = .ok (.iload 8, 2) := by decide +kernel
theorem dL_holds_242 : decode cL_holds 242 = .ok (.iconst 0, 1) := by decide +kernel
theorem dL_holds_243 : decode cL_holds 243 = .ok (.invokevirtual 23, 3) := by decide +kernel
theorem dL_holds_246 : decode cL_holds 246 = .ok (.iload 5, 2) := by decide +kernel
theorem dL_holds_248 : decode cL_holds 248 = .ok (.if_icmp .ne 19, 3) := by decide +kernel
theorem dL_holds_251 : decode cL_holds 251 = .ok (.aload_n 0, 1) := by decide +kernel
theorem dL_holds_252 : decode cL_holds 252 = .ok (.iload 8, 2) := by decide +kernel
theorem dL_holds_254 : decode cL_holds 254 = .ok (.iconst 1, 1) := by decide +kernel
theorem dL_holds_255 : decode cL_holds 255 = .ok (.invokevirtual 23, 3) := by decide +kernel
theorem dL_holds_258 : decode cL_holds 258 = .ok (.iload 6, 2) := by decide +kernel
theorem dL_holds_260 : decode cL_holds 260 = .ok (.if_icmp .ne 7, 3) := by decide +kernel
theorem dL_holds_263 : decode cL_holds 263 = .ok (.iconst 1, 1) := by decide +kernel
theorem dL_holds_264 : decode cL_holds 264 = .ok (.goto 4, 3) := by decide +kernel
theorem dL_holds_267 : decode cL_holds 267 = .ok (.iconst 0, 1) := by decide +kernel
theorem dL_holds_268 : decode cL_holds 268 = .ok (.iadd, 1) := by decide +kernel
theorem dL_holds_269 : decode cL_holds 269 = .ok (.istore 7, 2) := by decide +kernel
theorem dL_holds_271 : decode cL_holds 271 = .ok (.iinc 8 1, 3) := by decide +kernel
theorem dL_holds_274 : decode cL_holds 274 = .ok (.goto (-47), 3) := by decide +kernel
theorem dL_holds_277 : decode cL_holds 277 = .ok (.iload_n 1, 1) := by decide +kernel
theorem dL_holds_278 : decode cL_holds 278 = .ok (.iload 5, 2) := by decide +kernel
theorem dL_holds_280 : decode cL_holds 280 = .ok (.bipush 11, 2) := by decide +kernel
theorem dL_holds_282 : decode cL_holds 282 = .ok (.if_icmp .ne 12, 3) := by decide +kernel
theorem dL_holds_285 : decode cL_holds 285 = .ok (.iconst 1, 1) := by decide +kernel
theorem dL_holds_286 : decode cL_holds 286 = .ok (.iload 6, 2) := by decide +kernel
theorem dL_holds_288 : decode cL_holds 288 = .ok (.ishl, 1) := by decide +kernel
theorem dL_holds_289 : decode cL_holds 289 = .ok (.iconst (-1), 1) := by decide +kernel
theorem dL_holds_290 : decode cL_holds 290 = .ok (.ixor, 1) := by decide +kernel
theorem dL_holds_291 : decode cL_holds 291 = .ok (.goto 6, 3) := by decide +kernel
theorem dL_holds_294 : decode cL_holds 294 = .ok (.sipush 1023, 3) := by decide +kernel
theorem dL_holds_297 : decode cL_holds 297 = .ok (.iand, 1) := by decide +kernel
theorem dL_holds_298 : decode cL_holds 298 = .ok (.istore_n 1, 1) := by decide +kernel
theorem dL_holds_299 : decode cL_holds 299 = .ok (.iload 5, 2) := by decide +kernel
theorem dL_holds_301 : decode cL_holds 301 = .ok (.ifCond .lt 81, 3) := by decide +kernel
theorem dL_holds_304 : decode cL_holds 304 = .ok (.iload 5, 2) := by decide +kernel
theorem dL_holds_306 : decode cL_holds 306 = .ok (.iload_n 2, 1) := by decide +kernel
theorem dL_holds_307 : decode cL_holds 307 = .ok (.if_icmp .gt 75, 3) := by decide +kernel
theorem dL_holds_310 : decode cL_holds 310 = .ok (.iload 6, 2) := by decide +kernel
theorem dL_holds_312 : decode cL_holds 312 = .ok (.ifCond .lt 70, 3) := by decide +kernel
theorem dL_holds_315 : decode cL_holds 315 = .ok (.iload 6, 2) := by decide +kernel
theorem dL_holds_317 : decode cL_holds 317 = .ok (.bipush 10, 2) := by decide +kernel
theorem dL_holds_319 : decode cL_holds 319 = .ok (.if_icmp .ge 63, 3) := by decide +kernel
theorem dL_holds_322 : decode cL_holds 322 = .ok (.aload_n 0, 1) := by decide +kernel
theorem dL_holds_323 : decode cL_holds 323 = .ok (.iload 5, 2) := by decide +kernel
theorem dL_holds_325 : decode cL_holds 325 = .ok (.iload 6, 2) := by decide +kernel
theorem dL_holds_327 : decode cL_holds 327 = .ok (.invokevirtual 28, 3) := by decide +kernel
theorem dL_holds_330 : decode cL_holds 330 = .ok (.iload 7, 2) := by decide +kernel
theorem dL_holds_332 : decode cL_holds 332 = .ok (.if_icmp .ne 50, 3) := by decide +kernel
theorem dL_holds_335 : decode cL_holds 335 = .ok (.aload_n 0, 1) := by decide +kernel
theorem dL_holds_336 : decode cL_holds 336 = .ok (.iload 4, 2) := by decide +kernel
theorem dL_holds_338 : decode cL_holds 338 = .ok (.iconst 4, 1) := by decide +kernel
theorem dL_holds_339 : decode cL_holds 339 = .ok (.invokevirtual 23, 3) := by decide +kernel
theorem dL_holds_342 : decode cL_holds 342 = .ok (.ifCond .eq 10, 3) := by decide +kernel
theorem dL_holds_345 : decode cL_holds 345 = .ok (.iload 5, 2) := by decide +kernel
theorem dL_holds_347 : decode cL_holds 347 = .ok (.bipush 9, 2) := by decide +kernel
theorem dL_holds_349 : decode cL_holds 349 = .ok (.if_icmp .le 33, 3) := by decide +kernel
theorem dL_holds_352 : decode cL_holds 352 = .ok (.iload 5, 2) := by decide +kernel
theorem dL_holds_354 : decode cL_holds 354 = .ok (.bipush 11, 2) := by decide +kernel
theorem dL_holds_356 : decode cL_holds 356 = .ok (.if_icmp .lt 22, 3) := by decide +kernel
theorem dL_holds_359 : decode cL_holds 359 = .ok (.iload 6, 2) := by decide +kernel
theorem dL_holds_361 : decode cL_holds 361 = .ok (.aload_n 0, 1) := by decide +kernel
theorem dL_holds_362 : decode cL_holds 362 = .ok (.iconst 2, 1) := by decide +kernel
theorem dL_holds_363 : decode cL_holds 363 = .ok (.invokevirtual 13, 3) := by decide +kernel
theorem dL_holds_366 : decode cL_holds 366 = .ok (.if_icmp .ne 12, 3) := by decide +kernel
theorem dL_holds_369 : decode cL_holds 369 = .ok (.aload_n 0, 1) := by decide +kernel
theorem dL_holds_370 : decode cL_holds 370 = .ok (.bipush 6, 2) := by decide +kernel
theorem dL_holds_372 : decode cL_holds 372 = .ok (.invokevirtual 13, 3) := by decide +kernel
theorem dL_holds_375 : decode cL_holds 375 = .ok (.ifCond .ne 7, 3) := by decide +kernel
theorem dL_holds_378 : decode cL_holds 378 = .ok (.iconst 1, 1) := by decide +kernel
theorem dL_holds_379 : decode cL_holds 379 = .ok (.goto 4, 3) := by decide +kernel
theorem dL_holds_382 : decode cL_holds 382 = .ok (.iconst 0, 1) := by decide +kernel
theorem dL_holds_383 : decode cL_holds 383 = .ok (.istore_n 3, 1) := by decide +kernel
theorem dL_holds_384 : decode cL_holds 384 = .ok (.iload 5, 2) := by decide +kernel
theorem dL_holds_386 : decode cL_holds 386 = .ok (.istore_n 2, 1) := by decide +kernel
theorem dL_holds_387 : decode cL_holds 387 = .ok (.iinc 4 1, 3) := by decide +kernel
theorem dL_holds_390 : decode cL_holds 390 = .ok (.goto (-201), 3) := by decide +kernel
theorem dL_holds_393 : decode cL_holds 393 = .ok (.iconst 0, 1) := by decide +kernel
theorem dL_holds_394 : decode cL_holds 394 = .ok (.istore 4, 2) := by decide +kernel
theorem dL_holds_396 : decode cL_holds 396 = .ok (.iload 4, 2) := by decide +kernel
theorem dL_holds_398 : decode cL_holds 398 = .ok (.aload_n 0, 1) := by decide +kernel
theorem dL_holds_399 : decode cL_holds 399 = .ok (.iconst 0, 1) := by decide +kernel
theorem dL_holds_400 : decode cL_holds 400 = .ok (.invokevirtual 13, 3) := by decide +kernel
theorem dL_holds_403 : decode cL_holds 403 = .ok (.if_icmp .ge 111, 3) := by decide +kernel
theorem dL_holds_406 : decode cL_holds 406 = .ok (.iload_n 3, 1) := by decide +kernel
theorem dL_holds_407 : decode cL_holds 407 = .ok (.ifCond .eq 107, 3) := by decide +kernel
theorem dL_holds_410 : decode cL_holds 410 = .ok (.aload_n 0, 1) := by decide +kernel
theorem dL_holds_411 : decode cL_holds 411 = .ok (.iload 4, 2) := by decide +kernel
theorem dL_holds_413 : decode cL_holds 413 = .ok (.iconst 0, 1) := by decide +kernel
theorem dL_holds_414 : decode cL_holds 414 = .ok (.invokevirtual 19, 3) := by decide +kernel
theorem dL_holds_417 : decode cL_holds 417 = .ok (.ifCond .lt 89, 3) := by decide +kernel
theorem dL_holds_420 : decode cL_holds 420 = .ok (.aload_n 0, 1) := by decide +kernel
theorem dL_holds_421 : decode cL_holds 421 = .ok (.iload 4, 2) := by decide +kernel
theorem dL_holds_423 : decode cL_holds 423 = .ok (.iconst 0, 1) := by decide +kernel
theorem dL_holds_424 : decode cL_holds 424 = .ok (.invokevirtual 19, 3) := by decide +kernel
theorem dL_holds_427 : decode cL_holds 427 = .ok (.bipush 10, 2) := by decide +kernel
theorem dL_holds_429 : decode cL_holds 429 = .ok (.if_icmp .ge 77, 3) := by decide +kernel
theorem dL_holds_432 : decode cL_holds 432 = .ok (.aload_n 0, 1) := by decide +kernel
theorem dL_holds_433 : decode cL_holds 433 = .ok (.iload 4, 2) := by decide +kernel
theorem dL_holds_435 : decode cL_holds 435 = .ok (.iconst 1, 1) := by decide +kernel
theorem dL_holds_436 : decode cL_holds 436 = .ok (.invokevirtual 19, 3) := by decide +kernel
theorem dL_holds_439 : decode cL_holds 439 = .ok (.ifCond .lt 67, 3) := by decide +kernel
theorem dL_holds_442 : decode cL_holds 442 = .ok (.aload_n 0, 1) := by decide +kernel
theorem dL_holds_443 : decode cL_holds 443 = .ok (.iload 4, 2) := by decide +kernel
theorem dL_holds_445 : decode cL_holds 445 = .ok (.iconst 1, 1) := by decide +kernel
theorem dL_holds_446 : decode cL_holds 446 = .ok (.invokevirtual 19, 3) := by decide +kernel
theorem dL_holds_449 : decode cL_holds 449 = .ok (.bipush 6, 2) := by decide +kernel
theorem dL_holds_451 : decode cL_holds 451 = .ok (.if_icmp .ge 55, 3) := by decide +kernel
theorem dL_holds_454 : decode cL_holds 454 = .ok (.aload_n 0, 1) := by decide +kernel
theorem dL_holds_455 : decode cL_holds 455 = .ok (.iload 4, 2) := by decide +kernel
theorem dL_holds_457 : decode cL_holds 457 = .ok (.iconst 3, 1) := by decide +kernel
theorem dL_holds_458 : decode cL_holds 458 = .ok (.invokevirtual 19, 3) := by decide +kernel
theorem dL_holds_461 : decode cL_holds 461 = .ok (.aload_n 0, 1) := by decide +kernel
theorem dL_holds_462 : decode cL_holds 462 = .ok (.iload 4, 2) := by decide +kernel
theorem dL_holds_464 : decode cL_holds 464 = .ok (.iconst 2, 1) := by decide +kernel
theorem dL_holds_465 : decode cL_holds 465 = .ok (.invokevirtual 19, 3) := by decide +kernel
theorem dL_holds_468 : decode cL_holds 468 = .ok (.if_icmp .ge 38, 3) := by decide +kernel
theorem dL_holds_471 : decode cL_holds 471 = .ok (.aload_n 0, 1) := by decide +kernel
theorem dL_holds_472 : decode cL_holds 472 = .ok (.iconst 5, 1) := by decide +kernel
theorem dL_holds_473 : decode cL_holds 473 = .ok (.invokevirtual 13, 3) := by decide +kernel
theorem dL_holds_476 : decode cL_holds 476 = .ok (.aload_n 0, 1) := by decide +kernel
theorem dL_holds_477 : decode cL_holds 477 = .ok (.iload 4, 2) := by decide +kernel
theorem dL_holds_479 : decode cL_holds 479 = .ok (.iconst 4, 1) := by decide +kernel
theorem dL_holds_480 : decode cL_holds 480 = .ok (.invokevirtual 19, 3) := by decide +kernel
theorem dL_holds_483 : decode cL_holds 483 = .ok (.iadd, 1) := by decide +kernel
theorem dL_holds_484 : decode cL_holds 484 = .ok (.aload_n 0, 1) := by decide +kernel
theorem dL_holds_485 : decode cL_holds 485 = .ok (.iload 4, 2) := by decide +kernel
theorem dL_holds_487 : decode cL_holds 487 = .ok (.iconst 2, 1) := by decide +kernel
theorem dL_holds_488 : decode cL_holds 488 = .ok (.invokevirtual 19, 3) := by decide +kernel
theorem dL_holds_491 : decode cL_holds 491 = .ok (.irem, 1) := by decide +kernel
theorem dL_holds_492 : decode cL_holds 492 = .ok (.aload_n 0, 1) := by decide +kernel
theorem dL_holds_493 : decode cL_holds 493 = .ok (.iload 4, 2) := by decide +kernel
theorem dL_holds_495 : decode cL_holds 495 = .ok (.iconst 3, 1) := by decide +kernel
theorem dL_holds_496 : decode cL_holds 496 = .ok (.invokevirtual 19, 3) := by decide +kernel
theorem dL_holds_499 : decode cL_holds 499 = .ok (.if_icmp .ne 7, 3) := by decide +kernel
theorem dL_holds_502 : decode cL_holds 502 = .ok (.iconst 1, 1) := by decide +kernel
theorem dL_holds_503 : decode cL_holds 503 = .ok (.goto 4, 3) := by decide +kernel
theorem dL_holds_506 : decode cL_holds 506 = .ok (.iconst 0, 1) := by decide +kernel
theorem dL_holds_507 : decode cL_holds 507 = .ok (.istore_n 3, 1) := by decide +kernel
theorem dL_holds_508 : decode cL_holds 508 = .ok (.iinc 4 1, 3) := by decide +kernel
theorem dL_holds_511 : decode cL_holds 511 = .ok (.goto (-115), 3) := by decide +kernel
theorem dL_holds_514 : decode cL_holds 514 = .ok (.iload_n 3, 1) := by decide +kernel
theorem dL_holds_515 : decode cL_holds 515 = .ok (.ifCond .eq 16, 3) := by decide +kernel
theorem dL_holds_518 : decode cL_holds 518 = .ok (.aload_n 0, 1) := by decide +kernel
theorem dL_holds_519 : decode cL_holds 519 = .ok (.iconst 0, 1) := by decide +kernel
theorem dL_holds_520 : decode cL_holds 520 = .ok (.invokevirtual 31, 3) := by decide +kernel
theorem dL_holds_523 : decode cL_holds 523 = .ok (.iload_n 1, 1) := by decide +kernel
theorem dL_holds_524 : decode cL_holds 524 = .ok (.if_icmp .ne 7, 3) := by decide +kernel
theorem dL_holds_527 : decode cL_holds 527 = .ok (.iconst 1, 1) := by decide +kernel
theorem dL_holds_528 : decode cL_holds 528 = .ok (.goto 4, 3) := by decide +kernel
theorem dL_holds_531 : decode cL_holds 531 = .ok (.iconst 0, 1) := by decide +kernel
theorem dL_holds_532 : decode cL_holds 532 = .ok (.ireturn, 1) := by decide +kernel
theorem dL_ones_0 : decode cL_ones 0 = .ok (.iconst 0, 1) := by decide +kernel
theorem dL_ones_1 : decode cL_ones 1 = .ok (.istore_n 1, 1) := by decide +kernel
theorem dL_ones_2 : decode cL_ones 2 = .ok (.iconst 0, 1) := by decide +kernel
theorem dL_ones_3 : decode cL_ones 3 = .ok (.istore_n 2, 1) := by decide +kernel
theorem dL_ones_4 : decode cL_ones 4 = .ok (.iload_n 2, 1) := by decide +kernel
theorem dL_ones_5 : decode cL_ones 5 = .ok (.bipush 10, 2) := by decide +kernel
theorem dL_ones_7 : decode cL_ones 7 = .ok (.if_icmp .ge 17, 3) := by decide +kernel
theorem dL_ones_10 : decode cL_ones 10 = .ok (.iload_n 1, 1) := by decide +kernel
theorem dL_ones_11 : decode cL_ones 11 = .ok (.iload_n 0, 1) := by decide +kernel
theorem dL_ones_12 : decode cL_ones 12 = .ok (.iload_n 2, 1) := by decide +kernel
theorem dL_ones_13 : decode cL_ones 13 = .ok (.ishr, 1) := by decide +kernel
theorem dL_ones_14 : decode cL_ones 14 = .ok (.iconst 1, 1) := by decide +kernel
theorem dL_ones_15 : decode cL_ones 15 = .ok (.iand, 1) := by decide +kernel
theorem dL_ones_16 : decode cL_ones 16 = .ok (.iadd, 1) := by decide +kernel
theorem dL_ones_17 : decode cL_ones 17 = .ok (.istore_n 1, 1) := by decide +kernel
theorem dL_ones_18 : decode cL_ones 18 = .ok (.iinc 2 1, 3) := by decide +kernel
theorem dL_ones_21 : decode cL_ones 21 = .ok (.goto (-17), 3) := by decide +kernel
theorem dL_ones_24 : decode cL_ones 24 = .ok (.iload_n 1, 1) := by decide +kernel
theorem dL_ones_25 : decode cL_ones 25 = .ok (.ireturn, 1) := by decide +kernel
theorem dL_would_0 : decode cL_would 0 = .ok (.iload_n 1, 1) := by decide +kernel
theorem dL_would_1 : decode cL_would 1 = .ok (.bipush 32, 2) := by decide +kernel
theorem dL_would_3 : decode cL_would 3 = .ok (.invokestatic 34, 3) := by decide +kernel
theorem dL_would_6 : decode cL_would 6 = .ok (.istore_n 2, 1) := by decide +kernel
theorem dL_would_7 : decode cL_would 7 = .ok (.iload_n 2, 1) := by decide +kernel
theorem dL_would_8 : decode cL_would 8 = .ok (.ifCond .eq 9, 3) := by decide +kernel
theorem dL_would_11 : decode cL_would 11 = .ok (.iload_n 2, 1) := by decide +kernel
theorem dL_would_12 : decode cL_would 12 = .ok (.bipush 31, 2) := by decide +kernel
theorem dL_would_14 : decode cL_would 14 = .ok (.if_icmp .ne 7, 3) := by decide +kernel
theorem dL_would_17 : decode cL_would 17 = .ok (.iconst 1, 1) := by decide +kernel
theorem dL_would_18 : decode cL_would 18 = .ok (.goto 4, 3) := by decide +kernel
theorem dL_would_21 : decode cL_would 21 = .ok (.iconst 0, 1) := by decide +kernel
theorem dL_would_22 : decode cL_would 22 = .ok (.istore_n 3, 1) := by decide +kernel
theorem dL_would_23 : decode cL_would 23 = .ok (.aload_n 0, 1) := by decide +kernel
theorem dL_would_24 : decode cL_would 24 = .ok (.iload_n 2, 1) := by decide +kernel
theorem dL_would_25 : decode cL_would 25 = .ok (.invokevirtual 31, 3) := by decide +kernel
theorem dL_would_28 : decode cL_would 28 = .ok (.istore 4, 2) := by decide +kernel
theorem dL_would_30 : decode cL_would 30 = .ok (.aload_n 0, 1) := by decide +kernel
theorem dL_would_31 : decode cL_would 31 = .ok (.iload_n 2, 1) := by decide +kernel
theorem dL_would_32 : decode cL_would 32 = .ok (.iconst 0, 1) := by decide +kernel
theorem dL_would_33 : decode cL_would 33 = .ok (.invokevirtual 37, 3) := by decide +kernel
theorem dL_would_36 : decode cL_would 36 = .ok (.istore 5, 2) := by decide +kernel
theorem dL_would_38 : decode cL_would 38 = .ok (.aload_n 0, 1) := by decide +kernel
theorem dL_would_39 : decode cL_would 39 = .ok (.iload_n 2, 1) := by decide +kernel
theorem dL_would_40 : decode cL_would 40 = .ok (.invokevirtual 40, 3) := by decide +kernel
theorem dL_would_43 : decode cL_would 43 = .ok (.istore 6, 2) := by decide +kernel
theorem dL_would_45 : decode cL_would 45 = .ok (.iload_n 1, 1) := by decide +kernel
theorem dL_would_46 : decode cL_would 46 = .ok (.iconst 5, 1) := by decide +kernel
theorem dL_would_47 : decode cL_would 47 = .ok (.ishr, 1) := by decide +kernel
theorem dL_would_48 : decode cL_would 48 = .ok (.bipush 34, 2) := by decide +kernel
theorem dL_would_50 : decode cL_would 50 = .ok (.invokestatic 34, 3) := by decide +kernel
theorem dL_would_53 : decode cL_would 53 = .ok (.iconst 1, 1) := by decide +kernel
theorem dL_would_54 : decode cL_would 54 = .ok (.isub, 1) := by decide +kernel
theorem dL_would_55 : decode cL_would 55 = .ok (.istore 7, 2) := by decide +kernel
theorem dL_would_57 : decode cL_would 57 = .ok (.aload_n 0, 1) := by decide +kernel
theorem dL_would_58 : decode cL_would 58 = .ok (.iload_n 2, 1) := by decide +kernel
theorem dL_would_59 : decode cL_would 59 = .ok (.iload 7, 2) := by decide +kernel
theorem dL_would_61 : decode cL_would 61 = .ok (.invokevirtual 43, 3) := by decide +kernel
theorem dL_would_64 : decode cL_would 64 = .ok (.istore 8, 2) := by decide +kernel
theorem dL_would_66 : decode cL_would 66 = .ok (.aload_n 0, 1) := by decide +kernel
theorem dL_would_67 : decode cL_would 67 = .ok (.iload_n 2, 1) := by decide +kernel
theorem dL_would_68 : decode cL_would 68 = .ok (.invokevirtual 46, 3) := by decide +kernel
theorem dL_would_71 : decode cL_would 71 = .ok (.istore 9, 2) := by decide +kernel
theorem dL_would_73 : decode cL_would 73 = .ok (.aload_n 0, 1) := by decide +kernel
theorem dL_would_74 : decode cL_would 74 = .ok (.invokevirtual 49, 3) := by decide +kernel
theorem dL_would_77 : decode cL_would 77 = .ok (.istore 10, 2) := by decide +kernel
theorem dL_would_79 : decode cL_would 79 = .ok (.aload_n 0, 1) := by decide +kernel
theorem dL_would_80 : decode cL_would 80 = .ok (.iload_n 2, 1) := by decide +kernel
theorem dL_would_81 : decode cL_would 81 = .ok (.iconst 1, 1) := by decide +kernel
theorem dL_would_82 : decode cL_would 82 = .ok (.invokevirtual 53, 3) := by decide +kernel
theorem dL_would_85 : decode cL_would 85 = .ok (.istore 11, 2) := by decide +kernel
theorem dL_would_87 : decode cL_would 87 = .ok (.aload_n 0, 1) := by decide +kernel
theorem dL_would_88 : decode cL_would 88 = .ok (.iload_n 2, 1) := by decide +kernel
theorem dL_would_89 : decode cL_would 89 = .ok (.invokevirtual 56, 3) := by decide +kernel
theorem dL_would_92 : decode cL_would 92 = .ok (.dstore 12, 2) := by decide +kernel
theorem dL_would_94 : decode cL_would 94 = .ok (.iload_n 1, 1) := by decide +kernel
theorem dL_would_95 : decode cL_would 95 = .ok (.bipush 7, 2) := by decide +kernel
theorem dL_would_97 : decode cL_would 97 = .ok (.ishr, 1) := by decide +kernel
theorem dL_would_98 : decode cL_would 98 = .ok (.iconst 5, 1) := by decide +kernel
theorem dL_would_99 : decode cL_would 99 = .ok (.invokestatic 34, 3) := by decide +kernel
theorem dL_would_102 : decode cL_would 102 = .ok (.iconst 2, 1) := by decide +kernel
theorem dL_would_103 : decode cL_would 103 = .ok (.isub, 1) := by decide +kernel
theorem dL_would_104 : decode cL_would 104 = .ok (.istore 14, 2) := by decide +kernel
theorem dL_would_106 : decode cL_would 106 = .ok (.iload_n 1, 1) := by decide +kernel
theorem dL_would_107 : decode cL_would 107 = .ok (.bipush 10, 2) := by decide +kernel
theorem dL_would_109 : decode cL_would 109 = .ok (.ishr, 1) := by decide +kernel
theorem dL_would_110 : decode cL_would 110 = .ok (.iconst 5, 1) := by decide +kernel
theorem dL_would_111 : decode cL_would 111 = .ok (.invokestatic 34, 3) := by decide +kernel
theorem dL_would_114 : decode cL_would 114 = .ok (.iconst 1, 1) := by decide +kernel
theorem dL_would_115 : decode cL_would 115 = .ok (.isub, 1) := by decide +kernel
theorem dL_would_116 : decode cL_would 116 = .ok (.istore 15, 2) := by decide +kernel
theorem dL_would_118 : decode cL_would 118 = .ok (.aload_n 0, 1) := by decide +kernel
theorem dL_would_119 : decode cL_would 119 = .ok (.iload 14, 2) := by decide +kernel
theorem dL_would_121 : decode cL_would 121 = .ok (.iload_n 2, 1) := by decide +kernel
theorem dL_would_122 : decode cL_would 122 = .ok (.iload 15, 2) := by decide +kernel
theorem dL_would_124 : decode cL_would 124 = .ok (.invokevirtual 60, 3) := by decide +kernel
theorem dL_would_127 : decode cL_would 127 = .ok (.istore 16, 2) := by decide +kernel
theorem dL_would_129 : decode cL_would 129 = .ok (.iload_n 3, 1) := by decide +kernel
theorem dL_would_130 : decode cL_would 130 = .ok (.ifCond .ne 26, 3) := by decide +kernel
theorem dL_would_133 : decode cL_would 133 = .ok (.iload 14, 2) := by decide +kernel
theorem dL_would_135 : decode cL_would 135 = .ok (.iconst (-1), 1) := by decide +kernel
theorem dL_would_136 : decode cL_would 136 = .ok (.if_icmp .lt 20, 3) := by decide +kernel
theorem dL_would_139 : decode cL_would 139 = .ok (.iload 14, 2) := by decide +kernel
theorem dL_would_141 : decode cL_would 141 = .ok (.iconst 1, 1) := by decide +kernel
theorem dL_would_142 : decode cL_would 142 = .ok (.if_icmp .gt 14, 3) := by decide +kernel
theorem dL_would_145 : decode cL_would 145 = .ok (.iload 15, 2) := by decide +kernel
theorem dL_would_147 : decode cL_would 147 = .ok (.ifCond .lt 9, 3) := by decide +kernel
theorem dL_would_150 : decode cL_would 150 = .ok (.iload 15, 2) := by decide +kernel
theorem dL_would_152 : decode cL_would 152 = .ok (.iconst 2, 1) := by decide +kernel
theorem dL_would_153 : decode cL_would 153 = .ok (.if_icmp .le 7, 3) := by decide +kernel
theorem dL_would_156 : decode cL_would 156 = .ok (.iconst 1, 1) := by decide +kernel
theorem dL_would_157 : decode cL_would 157 = .ok (.goto 4, 3) := by decide +kernel
theorem dL_would_160 : decode cL_would 160 = .ok (.iconst 0, 1) := by decide +kernel
theorem dL_would_161 : decode cL_would 161 = .ok (.istore 17, 2) := by decide +kernel
theorem dL_would_163 : decode cL_would 163 = .ok (.iload_n 2, 1) := by decide +kernel
theorem dL_would_164 : decode cL_would 164 = .ok (.bipush 31, 2) := by decide +kernel
theorem dL_would_166 : decode cL_would 166 = .ok (.if_icmp .ne 18, 3) := by decide +kernel
theorem dL_would_169 : decode cL_would 169 = .ok (.iload 4, 2) := by decide +kernel
theorem dL_would_171 : decode cL_would 171 = .ok (.iconst (-1), 1) := by decide +kernel
theorem dL_would_172 : decode cL_would 172 = .ok (.if_icmp .ne 224, 3) := by decide +kernel
theorem dL_would_175 : decode cL_would 175 = .ok (.iload 11, 2) := by decide +kernel
theorem dL_would_177 : decode cL_would 177 = .ok (.iconst (-1), 1) := by decide +kernel
theorem dL_would_178 : decode cL_would 178 = .ok (.if_icmp .ne 218, 3) := by decide +kernel
theorem dL_would_181 : decode cL_would 181 = .ok (.goto 54, 3) := by decide +kernel
theorem dL_would_184 : decode cL_would 184 = .ok (.iload 4, 2) := by decide +kernel
theorem dL_would_186 : decode cL_would 186 = .ok (.ifCond .lt 210, 3) := by decide +kernel
theorem dL_would_189 : decode cL_would 189 = .ok (.iload 4, 2) := by decide +kernel
theorem dL_would_191 : decode cL_would 191 = .ok (.sipush 1024, 3) := by decide +kernel
theorem dL_would_194 : decode cL_would 194 = .ok (.if_icmp .ge 202, 3) := by decide +kernel
theorem dL_would_197 : decode cL_would 197 = .ok (.iload 11, 2) := by decide +kernel
theorem dL_would_199 : decode cL_would 199 = .ok (.ifCond .lt 197, 3) := by decide +kernel
theorem dL_would_202 : decode cL_would 202 = .ok (.iload 11, 2) := by decide +kernel
theorem dL_would_204 : decode cL_would 204 = .ok (.iload 4, 2) := by decide +kernel
theorem dL_would_206 : decode cL_would 206 = .ok (.invokestatic 64, 3) := by decide +kernel
theorem dL_would_209 : decode cL_would 209 = .ok (.if_icmp .gt 187, 3) := by decide +kernel
theorem dL_would_212 : decode cL_would 212 = .ok (.iload 11, 2) := by decide +kernel
theorem dL_would_214 : decode cL_would 214 = .ok (.ifCond .ne 7, 3) := by decide +kernel
theorem dL_would_217 : decode cL_would 217 = .ok (.iconst 1, 1) := by decide +kernel
theorem dL_would_218 : decode cL_would 218 = .ok (.goto 4, 3) := by decide +kernel
theorem dL_would_221 : decode cL_would 221 = .ok (.iconst 0, 1) := by decide +kernel
theorem dL_would_222 : decode cL_would 222 = .ok (.iload 4, 2) := by decide +kernel
theorem dL_would_224 : decode cL_would 224 = .ok (.ifCond .ne 7, 3) := by decide +kernel
theorem dL_would_227 : decode cL_would 227 = .ok (.iconst 1, 1) := by decide +kernel
theorem dL_would_228 : decode cL_would 228 = .ok (.goto 4, 3) := by decide +kernel
theorem dL_would_231 : decode cL_would 231 = .ok (.iconst 0, 1) := by decide +kernel
theorem dL_would_232 : decode cL_would 232 = .ok (.if_icmp .ne 164, 3) := by decide +kernel
theorem dL_would_235 : decode cL_would 235 = .ok (.iload_n 3, 1) := by decide +kernel
theorem dL_would_236 : decode cL_would 236 = .ok (.ifCond .eq 33, 3) := by decide +kernel
theorem dL_would_239 : decode cL_would 239 = .ok (.iload 5, 2) := by decide +kernel
theorem dL_would_241 : decode cL_would 241 = .ok (.iconst (-1), 1) := by decide +kernel
theorem dL_would_242 : decode cL_would 242 = .ok (.if_icmp .ne 154, 3) := by decide +kernel
theorem dL_would_245 : decode cL_would 245 = .ok (.iload 6, 2) := by decide +kernel
theorem dL_would_247 : decode cL_would 247 = .ok (.iconst (-1), 1) := by decide +kernel
theorem dL_would_248 : decode cL_would 248 = .ok (.if_icmp .ne 148, 3) := by decide +kernel
theorem dL_would_251 : decode cL_would 251 = .ok (.iload 9, 2) := by decide +kernel
theorem dL_would_253 : decode cL_would 253 = .ok (.iconst (-1), 1) := by decide +kernel
theorem dL_would_254 : decode cL_would 254 = .ok (.if_icmp .ne 142, 3) := by decide +kernel
theorem dL_would_257 : decode cL_would 257 = .ok (.dload 12, 2) := by decide +kernel
theorem dL_would_259 : decode cL_would 259 = .ok (.ldc2_w 67, 3) := by decide +kernel
theorem dL_would_262 : decode cL_would 262 = .ok (.dcmp .l, 1) := by decide +kernel
theorem dL_would_263 : decode cL_would 263 = .ok (.ifCond .ne 133, 3) := by decide +kernel
theorem dL_would_266 : decode cL_would 266 = .ok (.goto 126, 3) := by decide +kernel
theorem dL_would_269 : decode cL_would 269 = .ok (.iload 5, 2) := by decide +kernel
theorem dL_would_271 : decode cL_would 271 = .ok (.ifCond .lt 125, 3) := by decide +kernel
theorem dL_would_274 : decode cL_would 274 = .ok (.iload 5, 2) := by decide +kernel
theorem dL_would_276 : decode cL_would 276 = .ok (.iload 4, 2) := by decide +kernel
theorem dL_would_278 : decode cL_would 278 = .ok (.invokestatic 64, 3) := by decide +kernel
theorem dL_would_281 : decode cL_would 281 = .ok (.if_icmp .gt 115, 3) := by decide +kernel
theorem dL_would_284 : decode cL_would 284 = .ok (.iload 5, 2) := by decide +kernel
theorem dL_would_286 : decode cL_would 286 = .ok (.aload_n 0, 1) := by decide +kernel
theorem dL_would_287 : decode cL_would 287 = .ok (.iload_n 2, 1) := by decide +kernel
theorem dL_would_288 : decode cL_would 288 = .ok (.iconst 1, 1) := by decide +kernel
theorem dL_would_289 : decode cL_would 289 = .ok (.invokevirtual 37, 3) := by decide +kernel
theorem dL_would_292 : decode cL_would 292 = .ok (.if_icmp .ne 104, 3) := by decide +kernel
theorem dL_would_295 : decode cL_would 295 = .ok (.iload 6, 2) := by decide +kernel
theorem dL_would_297 : decode cL_would 297 = .ok (.bipush (-4), 2) := by decide +kernel
theorem dL_would_299 : decode cL_would 299 = .ok (.if_icmp .ne 11, 3) := by decide +kernel
theorem dL_would_302 : decode cL_would 302 = .ok (.iload 5, 2) := by decide +kernel
theorem dL_would_304 : decode cL_would 304 = .ok (.ifCond .ne 92, 3) := by decide +kernel
theorem dL_would_307 : decode cL_would 307 = .ok (.goto 14, 3) := by decide +kernel
theorem dL_would_310 : decode cL_would 310 = .ok (.iload 6, 2) := by decide +kernel
theorem dL_would_312 : decode cL_would 312 = .ok (.ifCond .lt 84, 3) := by decide +kernel
theorem dL_would_315 : decode cL_would 315 = .ok (.iload 6, 2) := by decide +kernel
theorem dL_would_317 : decode cL_would 317 = .ok (.iload_n 2, 1) := by decide +kernel
theorem dL_would_318 : decode cL_would 318 = .ok (.if_icmp .gt 78, 3) := by decide +kernel
theorem dL_would_321 : decode cL_would 321 = .ok (.aload_n 0, 1) := by decide +kernel
theorem dL_would_322 : decode cL_would 322 = .ok (.iconst 0, 1) := by decide +kernel
theorem dL_would_323 : decode cL_would 323 = .ok (.invokevirtual 13, 3) := by decide +kernel
theorem dL_would_326 : decode cL_would 326 = .ok (.ifCond .ne 13, 3) := by decide +kernel
theorem dL_would_329 : decode cL_would 329 = .ok (.iload 9, 2) := by decide +kernel
theorem dL_would_331 : decode cL_would 331 = .ok (.bipush (-2), 2) := by decide +kernel
theorem dL_would_333 : decode cL_would 333 = .ok (.if_icmp .ne 63, 3) := by decide +kernel
theorem dL_would_336 : decode cL_would 336 = .ok (.goto 18, 3) := by decide +kernel
theorem dL_would_339 : decode cL_would 339 = .ok (.iload 9, 2) := by decide +kernel
theorem dL_would_341 : decode cL_would 341 = .ok (.ifCond .lt 55, 3) := by decide +kernel
theorem dL_would_344 : decode cL_would 344 = .ok (.iload 9, 2) := by decide +kernel
theorem dL_would_346 : decode cL_would 346 = .ok (.aload_n 0, 1) := by decide +kernel
theorem dL_would_347 : decode cL_would 347 = .ok (.iconst 0, 1) := by decide +kernel
theorem dL_would_348 : decode cL_would 348 = .ok (.invokevirtual 13, 3) := by decide +kernel
theorem dL_would_351 : decode cL_would 351 = .ok (.if_icmp .ge 45, 3) := by decide +kernel
theorem dL_would_354 : decode cL_would 354 = .ok (.dload 12, 2) := by decide +kernel
theorem dL_would_356 : decode cL_would 356 = .ok (.dconst 0, 1) := by decide +kernel
theorem dL_would_357 : decode cL_would 357 = .ok (.dcmp .l, 1) := by decide +kernel
theorem dL_would_358 : decode cL_would 358 = .ok (.ifCond .lt 38, 3) := by decide +kernel
theorem dL_would_361 : decode cL_would 361 = .ok (.dload 12, 2) := by decide +kernel
theorem dL_would_363 : decode cL_would 363 = .ok (.dconst 1, 1) := by decide +kernel
theorem dL_would_364 : decode cL_would 364 = .ok (.dcmp .g, 1) := by decide +kernel
theorem dL_would_365 : decode cL_would 365 = .ok (.ifCond .gt 31, 3) := by decide +kernel
theorem dL_would_368 : decode cL_would 368 = .ok (.iload 5, 2) := by decide +kernel
theorem dL_would_370 : decode cL_would 370 = .ok (.ifCond .le 7, 3) := by decide +kernel
theorem dL_would_373 : decode cL_would 373 = .ok (.iconst 1, 1) := by decide +kernel
theorem dL_would_374 : decode cL_would 374 = .ok (.goto 4, 3) := by decide +kernel
theorem dL_would_377 : decode cL_would 377 = .ok (.iconst 0, 1) := by decide +kernel
theorem dL_would_378 : decode cL_would 378 = .ok (.iload_n 2, 1) := by decide +kernel
theorem dL_would_379 : decode cL_would 379 = .ok (.iload 10, 2) := by decide +kernel
theorem dL_would_381 : decode cL_would 381 = .ok (.if_icmp .gt 7, 3) := by decide +kernel
theorem dL_would_384 : decode cL_would 384 = .ok (.iconst 1, 1) := by decide +kernel
theorem dL_would_385 : decode cL_would 385 = .ok (.goto 4, 3) := by decide +kernel
theorem dL_would_388 : decode cL_would 388 = .ok (.iconst 0, 1) := by decide +kernel
theorem dL_would_389 : decode cL_would 389 = .ok (.if_icmp .ne 7, 3) := by decide +kernel
theorem dL_would_392 : decode cL_would 392 = .ok (.iconst 1, 1) := by decide +kernel
theorem dL_would_393 : decode cL_would 393 = .ok (.goto 4, 3) := by decide +kernel
theorem dL_would_396 : decode cL_would 396 = .ok (.iconst 0, 1) := by decide +kernel
theorem dL_would_397 : decode cL_would 397 = .ok (.istore 18, 2) := by decide +kernel
theorem dL_would_399 : decode cL_would 399 = .ok (.iload 18, 2) := by decide +kernel
theorem dL_would_401 : decode cL_would 401 = .ok (.ifCond .eq 93, 3) := by decide +kernel
theorem dL_would_404 : decode cL_would 404 = .ok (.iload_n 3, 1) := by decide +kernel
theorem dL_would_405 : decode cL_would 405 = .ok (.ifCond .ne 14, 3) := by decide +kernel
theorem dL_would_408 : decode cL_would 408 = .ok (.iload 7, 2) := by decide +kernel
theorem dL_would_410 : decode cL_would 410 = .ok (.ifCond .lt 9, 3) := by decide +kernel
theorem dL_would_413 : decode cL_would 413 = .ok (.iload 7, 2) := by decide +kernel
theorem dL_would_415 : decode cL_would 415 = .ok (.iload_n 2, 1) := by decide +kernel
theorem dL_would_416 : decode cL_would 416 = .ok (.if_icmp .le 12, 3) := by decide +kernel
theorem dL_would_419 : decode cL_would 419 = .ok (.iload 8, 2) := by decide +kernel
theorem dL_would_421 : decode cL_would 421 = .ok (.iconst (-1), 1) := by decide +kernel
theorem dL_would_422 : decode cL_would 422 = .ok (.if_icmp .ne 72, 3) := by decide +kernel
theorem dL_would_425 : decode cL_would 425 = .ok (.goto 65, 3) := by decide +kernel
theorem dL_would_428 : decode cL_would 428 = .ok (.iload 6, 2) := by decide +kernel
theorem dL_would_430 : decode cL_would 430 = .ok (.bipush (-4), 2) := by decide +kernel
theorem dL_would_432 : decode cL_would 432 = .ok (.if_icmp .ne 13, 3) := by decide +kernel
theorem dL_would_435 : decode cL_would 435 = .ok (.iload 8, 2) := by decide +kernel
theorem dL_would_437 : decode cL_would 437 = .ok (.bipush (-4), 2) := by decide +kernel
theorem dL_would_439 : decode cL_would 439 = .ok (.if_icmp .ne 55, 3) := by decide +kernel
theorem dL_would_442 : decode cL_would 442 = .ok (.goto 48, 3) := by decide +kernel
theorem dL_would_445 : decode cL_would 445 = .ok (.iload 8, 2) := by decide +kernel
theorem dL_would_447 : decode cL_would 447 = .ok (.ifCond .lt 47, 3) := by decide +kernel
theorem dL_would_450 : decode cL_would 450 = .ok (.iload 8, 2) := by decide +kernel
theorem dL_would_452 : decode cL_would 452 = .ok (.bipush 10, 2) := by decide +kernel
theorem dL_would_454 : decode cL_would 454 = .ok (.if_icmp .ge 40, 3) := by decide +kernel
theorem dL_would_457 : decode cL_would 457 = .ok (.iload 7, 2) := by decide +kernel
theorem dL_would_459 : decode cL_would 459 = .ok (.ifCond .ne 16, 3) := by decide +kernel
theorem dL_would_462 : decode cL_would 462 = .ok (.iload 8, 2) := by decide +kernel
theorem dL_would_464 : decode cL_would 464 = .ok (.aload_n 0, 1) := by decide +kernel
theorem dL_would_465 : decode cL_would 465 = .ok (.iconst 2, 1) := by decide +kernel
theorem dL_would_466 : decode cL_would 466 = .ok (.invokevirtual 13, 3) := by decide +kernel
theorem dL_would_469 : decode cL_would 469 = .ok (.if_icmp .ne 25, 3) := by decide +kernel
theorem dL_would_472 : decode cL_would 472 = .ok (.goto 18, 3) := by decide +kernel
theorem dL_would_475 : decode cL_would 475 = .ok (.aload_n 0, 1) := by decide +kernel
theorem dL_would_476 : decode cL_would 476 = .ok (.iload 7, 2) := by decide +kernel
theorem dL_would_478 : decode cL_would 478 = .ok (.invokevirtual 31, 3) := by decide +kernel
theorem dL_would_481 : decode cL_would 481 = .ok (.iload 8, 2) := by decide +kernel
theorem dL_would_483 : decode cL_would 483 = .ok (.ishr, 1) := by decide +kernel
theorem dL_would_484 : decode cL_would 484 = .ok (.iconst 1, 1) := by decide +kernel
theorem dL_would_485 : decode cL_would 485 = .ok (.iand, 1) := by decide +kernel
theorem dL_would_486 : decode cL_would 486 = .ok (.iconst 1, 1) := by decide +kernel
theorem dL_would_487 : decode cL_would 487 = .ok (.if_icmp .ne 7, 3) := by decide +kernel
theorem dL_would_490 : decode cL_would 490 = .ok (.iconst 1, 1) := by decide +kernel
theorem dL_would_491 : decode cL_would 491 = .ok (.goto 4, 3) := by decide +kernel
theorem dL_would_494 : decode cL_would 494 = .ok (.iconst 0, 1) := by decide +kernel
theorem dL_would_495 : decode cL_would 495 = .ok (.istore 18, 2) := by decide +kernel
theorem dL_would_497 : decode cL_would 497 = .ok (.iload 18, 2) := by decide +kernel
theorem dL_would_499 : decode cL_would 499 = .ok (.ifCond .eq 90, 3) := by decide +kernel
theorem dL_would_502 : decode cL_would 502 = .ok (.iload 10, 2) := by decide +kernel
theorem dL_would_504 : decode cL_would 504 = .ok (.ifCond .lt 85, 3) := by decide +kernel
theorem dL_would_507 : decode cL_would 507 = .ok (.iload 10, 2) := by decide +kernel
theorem dL_would_509 : decode cL_would 509 = .ok (.bipush 30, 2) := by decide +kernel
theorem dL_would_511 : decode cL_would 511 = .ok (.if_icmp .gt 78, 3) := by decide +kernel
theorem dL_would_514 : decode cL_would 514 = .ok (.iload 17, 2) := by decide +kernel
theorem dL_would_516 : decode cL_would 516 = .ok (.ifCond .eq 12, 3) := by decide +kernel
theorem dL_would_519 : decode cL_would 519 = .ok (.iload 16, 2) := by decide +kernel
theorem dL_would_521 : decode cL_would 521 = .ok (.iconst (-1), 1) := by decide +kernel
theorem dL_would_522 : decode cL_would 522 = .ok (.if_icmp .ne 67, 3) := by decide +kernel
theorem dL_would_525 : decode cL_would 525 = .ok (.goto 60, 3) := by decide +kernel
theorem dL_would_528 : decode cL_would 528 = .ok (.aload_n 0, 1) := by decide +kernel
theorem dL_would_529 : decode cL_would 529 = .ok (.bipush 6, 2) := by decide +kernel
theorem dL_would_531 : decode cL_would 531 = .ok (.invokevirtual 13, 3) := by decide +kernel
theorem dL_would_534 : decode cL_would 534 = .ok (.iconst 1, 1) := by decide +kernel
theorem dL_would_535 : decode cL_would 535 = .ok (.if_icmp .ne 13, 3) := by decide +kernel
theorem dL_would_538 : decode cL_would 538 = .ok (.iload 16, 2) := by decide +kernel
theorem dL_would_540 : decode cL_would 540 = .ok (.bipush (-2), 2) := by decide +kernel
theorem dL_would_542 : decode cL_would 542 = .ok (.if_icmp .ne 47, 3) := by decide +kernel
theorem dL_would_545 : decode cL_would 545 = .ok (.goto 40, 3) := by decide +kernel
theorem dL_would_548 : decode cL_would 548 = .ok (.iload 15, 2) := by decide +kernel
theorem dL_would_550 : decode cL_would 550 = .ok (.iconst 2, 1) := by decide +kernel
theorem dL_would_551 : decode cL_would 551 = .ok (.if_icmp .ne 29, 3) := by decide +kernel
theorem dL_would_554 : decode cL_would 554 = .ok (.iload 16, 2) := by decide +kernel
theorem dL_would_556 : decode cL_would 556 = .ok (.bipush (-4), 2) := by decide +kernel
theorem dL_would_558 : decode cL_would 558 = .ok (.if_icmp .eq 27, 3) := by decide +kernel
theorem dL_would_561 : decode cL_would 561 = .ok (.iload 16, 2) := by decide +kernel
theorem dL_would_563 : decode cL_would 563 = .ok (.aload_n 0, 1) := by decide +kernel
theorem dL_would_564 : decode cL_would 564 = .ok (.iconst 3, 1) := by decide +kernel
theorem dL_would_565 : decode cL_would 565 = .ok (.invokevirtual 13, 3) := by decide +kernel
theorem dL_would_568 : decode cL_would 568 = .ok (.if_icmp .le 21, 3) := by decide +kernel
theorem dL_would_571 : decode cL_would 571 = .ok (.iload 16, 2) := by decide +kernel
theorem dL_would_573 : decode cL_would 573 = .ok (.iload_n 2, 1) := by decide +kernel
theorem dL_would_574 : decode cL_would 574 = .ok (.if_icmp .gt 15, 3) := by decide +kernel
theorem dL_would_577 : decode cL_would 577 = .ok (.goto 8, 3) := by decide +kernel
theorem dL_would_580 : decode cL_would 580 = .ok (.iload 16, 2) := by decide +kernel
theorem dL_would_582 : decode cL_would 582 = .ok (.ifCond .lt 7, 3) := by decide +kernel
theorem dL_would_585 : decode cL_would 585 = .ok (.iconst 1, 1) := by decide +kernel
theorem dL_would_586 : decode cL_would 586 = .ok (.goto 4, 3) := by decide +kernel
theorem dL_would_589 : decode cL_would 589 = .ok (.iconst 0, 1) := by decide +kernel
theorem dL_would_590 : decode cL_would 590 = .ok (.ireturn, 1) := by decide +kernel
theorem dL_curtain_0 : decode cL_curtain 0 = .ok (.iload_n 1, 1) := by decide +kernel
theorem dL_curtain_1 : decode cL_curtain 1 = .ok (.bipush 6, 2) := by decide +kernel
theorem dL_curtain_3 : decode cL_curtain 3 = .ok (.invokestatic 34, 3) := by decide +kernel
theorem dL_curtain_6 : decode cL_curtain 6 = .ok (.istore_n 2, 1) := by decide +kernel
theorem dL_curtain_7 : decode cL_curtain 7 = .ok (.aload_n 0, 1) := by decide +kernel
theorem dL_curtain_8 : decode cL_curtain 8 = .ok (.invokevirtual 69, 3) := by decide +kernel
theorem dL_curtain_11 : decode cL_curtain 11 = .ok (.ifCond .lt 7, 3) := by decide +kernel
theorem dL_curtain_14 : decode cL_curtain 14 = .ok (.iconst 1, 1) := by decide +kernel
theorem dL_curtain_15 : decode cL_curtain 15 = .ok (.goto 4, 3) := by decide +kernel
theorem dL_curtain_18 : decode cL_curtain 18 = .ok (.iconst 0, 1) := by decide +kernel
theorem dL_curtain_19 : decode cL_curtain 19 = .ok (.istore_n 3, 1) := by decide +kernel
theorem dL_curtain_20 : decode cL_curtain 20 = .ok (.iconst 0, 1) := by decide +kernel
theorem dL_curtain_21 : decode cL_curtain 21 = .ok (.istore 4, 2) := by decide +kernel
theorem dL_curtain_23 : decode cL_curtain 23 = .ok (.iload 4, 2) := by decide +kernel
theorem dL_curtain_25 : decode cL_curtain 25 = .ok (.iload_n 2, 1) := by decide +kernel
theorem dL_curtain_26 : decode cL_curtain 26 = .ok (.if_icmp .ge 252, 3) := by decide +kernel
theorem dL_curtain_29 : decode cL_curtain 29 = .ok (.iload_n 1, 1) := by decide +kernel
theorem dL_curtain_30 : decode cL_curtain 30 = .ok (.iconst 2, 1) := by decide +kernel
theorem dL_curtain_31 : decode cL_curtain 31 = .ok (.iconst 4, 1) := by decide +kernel
theorem dL_curtain_32 : decode cL_curtain 32 = .ok (.iload 4, 2) := by decide +kernel
theorem dL_curtain_34 : decode cL_curtain 34 = .ok (.imul, 1) := by decide +kernel
theorem dL_curtain_35 : decode cL_curtain 35 = .ok (.iadd, 1) := by decide +kernel
theorem dL_curtain_36 : decode cL_curtain 36 = .ok (.ishr, 1) := by decide +kernel
theorem dL_curtain_37 : decode cL_curtain 37 = .ok (.istore 5, 2) := by decide +kernel
theorem dL_curtain_39 : decode cL_curtain 39 = .ok (.iload 5, 2) := by decide +kernel
theorem dL_curtain_41 : decode cL_curtain 41 = .ok (.iconst 3, 1) := by decide +kernel
theorem dL_curtain_42 : decode cL_curtain 42 = .ok (.ishr, 1) := by decide +kernel
theorem dL_curtain_43 : decode cL_curtain 43 = .ok (.iload_n 1, 1) := by decide +kernel
theorem dL_curtain_44 : decode cL_curtain 44 = .ok (.bipush 23, 2) := by decide +kernel
theorem dL_curtain_46 : decode cL_curtain 46 = .ok (.ishr, 1) := by decide +kernel
theorem dL_curtain_47 : decode cL_curtain 47 = .ok (.bipush 9, 2) := by decide +kernel
theorem dL_curtain_49 : decode cL_curtain 49 = .ok (.invokestatic 34, 3) := by decide +kernel
theorem dL_curtain_52 : decode cL_curtain 52 = .ok (.ifCond .ne 8, 3) := by decide +kernel
theorem dL_curtain_55 : decode cL_curtain 55 = .ok (.bipush 7, 2) := by decide +kernel
theorem dL_curtain_57 : decode cL_curtain 57 = .ok (.goto 5, 3) := by decide +kernel
theorem dL_curtain_60 : decode cL_curtain 60 = .ok (.bipush 6, 2) := by decide +kernel
theorem dL_curtain_62 : decode cL_curtain 62 = .ok (.invokestatic 34, 3) := by decide +kernel
theorem dL_curtain_65 : decode cL_curtain 65 = .ok (.istore 6, 2) := by decide +kernel
theorem dL_curtain_67 : decode cL_curtain 67 = .ok (.iload_n 3, 1) := by decide +kernel
theorem dL_curtain_68 : decode cL_curtain 68 = .ok (.ifCond .eq 202, 3) := by decide +kernel
theorem dL_curtain_71 : decode cL_curtain 71 = .ok (.iload 4, 2) := by decide +kernel
theorem dL_curtain_73 : decode cL_curtain 73 = .ok (.ifCond .eq 12, 3) := by decide +kernel
theorem dL_curtain_76 : decode cL_curtain 76 = .ok (.aload_n 0, 1) := by decide +kernel
theorem dL_curtain_77 : decode cL_curtain 77 = .ok (.bipush 59, 2) := by decide +kernel
theorem dL_curtain_79 : decode cL_curtain 79 = .ok (.invokevirtual 72, 3) := by decide +kernel
theorem dL_curtain_82 : decode cL_curtain 82 = .ok (.ifCond .le 188, 3) := by decide +kernel
theorem dL_curtain_85 : decode cL_curtain 85 = .ok (.aload_n 0, 1) := by decide +kernel
theorem dL_curtain_86 : decode cL_curtain 86 = .ok (.bipush 48, 2) := by decide +kernel
theorem dL_curtain_88 : decode cL_curtain 88 = .ok (.iload 5, 2) := by decide +kernel
theorem dL_curtain_90 : decode cL_curtain 90 = .ok (.bipush 10, 2) := by decide +kernel
theorem dL_curtain_92 : decode cL_curtain 92 = .ok (.invokestatic 34, 3) := by decide +kernel
theorem dL_curtain_95 : decode cL_curtain 95 = .ok (.iadd, 1) := by decide +kernel
theorem dL_curtain_96 : decode cL_curtain 96 = .ok (.invokevirtual 72, 3) := by decide +kernel
theorem dL_curtain_99 : decode cL_curtain 99 = .ok (.ifCond .le 171, 3) := by decide +kernel
theorem dL_curtain_102 : decode cL_curtain 102 = .ok (.aload_n 0, 1) := by decide +kernel
theorem dL_curtain_103 : decode cL_curtain 103 = .ok (.iload 6, 2) := by decide +kernel
theorem dL_curtain_105 : decode cL_curtain 105 = .ok (.ifCond .ne 8, 3) := by decide +kernel
theorem dL_curtain_108 : decode cL_curtain 108 = .ok (.bipush 100, 2) := by decide +kernel
theorem dL_curtain_110 : decode cL_curtain 110 = .ok (.goto 60, 3) := by decide +kernel
theorem dL_curtain_113 : decode cL_curtain 113 = .ok (.iload 6, 2) := by decide +kernel
theorem dL_curtain_115 : decode cL_curtain 115 = .ok (.iconst 1, 1) := by decide +kernel
theorem dL_curtain_116 : decode cL_curtain 116 = .ok (.if_icmp .ne 8, 3) := by decide +kernel
theorem dL_curtain_119 : decode cL_curtain 119 = .ok (.bipush 108, 2) := by decide +kernel
theorem dL_curtain_121 : decode cL_curtain 121 = .ok (.goto 49, 3) := by decide +kernel
theorem dL_curtain_124 : decode cL_curtain 124 = .ok (.iload 6, 2) := by decide +kernel
theorem dL_curtain_126 : decode cL_curtain 126 = .ok (.iconst 2, 1) := by decide +kernel
theorem dL_curtain_127 : decode cL_curtain 127 = .ok (.if_icmp .ne 8, 3) := by decide +kernel
theorem dL_curtain_130 : decode cL_curtain 130 = .ok (.bipush 114, 2) := by decide +kernel
theorem dL_curtain_132 : decode cL_curtain 132 = .ok (.goto 38, 3) := by decide +kernel
theorem dL_curtain_135 : decode cL_curtain 135 = .ok (.iload 6, 2) := by decide +kernel
theorem dL_curtain_137 : decode cL_curtain 137 = .ok (.iconst 3, 1) := by decide +kernel
theorem dL_curtain_138 : decode cL_curtain 138 = .ok (.if_icmp .ne 8, 3) := by decide +kernel
theorem dL_curtain_141 : decode cL_curtain 141 = .ok (.bipush 119, 2) := by decide +kernel
theorem dL_curtain_143 : decode cL_curtain 143 = .ok (.goto 27, 3) := by decide +kernel
theorem dL_curtain_146 : decode cL_curtain 146 = .ok (.iload 6, 2) := by decide +kernel
theorem dL_curtain_148 : decode cL_curtain 148 = .ok (.iconst 4, 1) := by decide +kernel
theorem dL_curtain_149 : decode cL_curtain 149 = .ok (.if_icmp .ne 8, 3) := by decide +kernel
theorem dL_curtain_152 : decode cL_curtain 152 = .ok (.bipush 97, 2) := by decide +kernel
theorem dL_curtain_154 : decode cL_curtain 154 = .ok (.goto 16, 3) := by decide +kernel
theorem dL_curtain_157 : decode cL_curtain 157 = .ok (.iload 6, 2) := by decide +kernel
theorem dL_curtain_159 : decode cL_curtain 159 = .ok (.iconst 5, 1) := by decide +kernel
theorem dL_curtain_160 : decode cL_curtain 160 = .ok (.if_icmp .ne 8, 3) := by decide +kernel
theorem dL_curtain_163 : decode cL_curtain 163 = .ok (.bipush 102, 2) := by decide +kernel
theorem dL_curtain_165 : decode cL_curtain 165 = .ok (.goto 5, 3) := by decide +kernel
theorem dL_curtain_168 : decode cL_curtain 168 = .ok (.bipush 115, 2) := by decide +kernel
theorem dL_curtain_170 : decode cL_curtain 170 = .ok (.invokevirtual 72, 3) := by decide +kernel
theorem dL_curtain_173 : decode cL_curtain 173 = .ok (.ifCond .le 97, 3) := by decide +kernel
theorem dL_curtain_176 : decode cL_curtain 176 = .ok (.aload_n 0, 1) := by decide +kernel
theorem dL_curtain_177 : decode cL_curtain 177 = .ok (.bipush 48, 2) := by decide +kernel
theorem dL_curtain_179 : decode cL_curtain 179 = .ok (.iload 5, 2) := by decide +kernel
theorem dL_curtain_181 : decode cL_curtain 181 = .ok (.iconst 4, 1) := by decide +kernel
theorem dL_curtain_182 : decode cL_curtain 182 = .ok (.ishr, 1) := by decide +kernel
theorem dL_curtain_183 : decode cL_curtain 183 = .ok (.iload_n 1, 1) := by decide +kernel
theorem dL_curtain_184 : decode cL_curtain 184 = .ok (.bipush 24, 2) := by decide +kernel
theorem dL_curtain_186 : decode cL_curtain 186 = .ok (.ishr, 1) := by decide +kernel
theorem dL_curtain_187 : decode cL_curtain 187 = .ok (.iconst 5, 1) := by decide +kernel
theorem dL_curtain_188 : decode cL_curtain 188 = .ok (.invokestatic 34, 3) := by decide +kernel
theorem dL_curtain_191 : decode cL_curtain 191 = .ok (.ifCond .ne 7, 3) := by decide +kernel
theorem dL_curtain_194 : decode cL_curtain 194 = .ok (.iconst 5, 1) := by decide +kernel
theorem dL_curtain_195 : decode cL_curtain 195 = .ok (.goto 5, 3) := by decide +kernel
theorem dL_curtain_198 : decode cL_curtain 198 = .ok (.bipush 9, 2) := by decide +kernel
theorem dL_curtain_200 : decode cL_curtain 200 = .ok (.invokestatic 34, 3) := by decide +kernel
theorem dL_curtain_203 : decode cL_curtain 203 = .ok (.iadd, 1) := by decide +kernel
theorem dL_curtain_204 : decode cL_curtain 204 = .ok (.iload_n 1, 1) := by decide +kernel
theorem dL_curtain_205 : decode cL_curtain 205 = .ok (.bipush 24, 2) := by decide +kernel
theorem dL_curtain_207 : decode cL_curtain 207 = .ok (.ishr, 1) := by decide +kernel
theorem dL_curtain_208 : decode cL_curtain 208 = .ok (.iconst 5, 1) := by decide +kernel
theorem dL_curtain_209 : decode cL_curtain 209 = .ok (.invokestatic 34, 3) := by decide +kernel
theorem dL_curtain_212 : decode cL_curtain 212 = .ok (.ifCond .ne 7, 3) := by decide +kernel
theorem dL_curtain_215 : decode cL_curtain 215 = .ok (.iconst 0, 1) := by decide +kernel
theorem dL_curtain_216 : decode cL_curtain 216 = .ok (.goto 4, 3) := by decide +kernel
theorem dL_curtain_219 : decode cL_curtain 219 = .ok (.iconst 1, 1) := by decide +kernel
theorem dL_curtain_220 : decode cL_curtain 220 = .ok (.iadd, 1) := by decide +kernel
theorem dL_curtain_221 : decode cL_curtain 221 = .ok (.invokevirtual 72, 3) := by decide +kernel
theorem dL_curtain_224 : decode cL_curtain 224 = .ok (.ifCond .le 46, 3) := by decide +kernel
theorem dL_curtain_227 : decode cL_curtain 227 = .ok (.iload 5, 2) := by decide +kernel
theorem dL_curtain_229 : decode cL_curtain 229 = .ok (.bipush 6, 2) := by decide +kernel
theorem dL_curtain_231 : decode cL_curtain 231 = .ok (.ishr, 1) := by decide +kernel
theorem dL_curtain_232 : decode cL_curtain 232 = .ok (.iconst 3, 1) := by decide +kernel
theorem dL_curtain_233 : decode cL_curtain 233 = .ok (.invokestatic 34, 3) := by decide +kernel
theorem dL_curtain_236 : decode cL_curtain 236 = .ok (.ifCond .gt 30, 3) := by decide +kernel
theorem dL_curtain_239 : decode cL_curtain 239 = .ok (.aload_n 0, 1) := by decide +kernel
theorem dL_curtain_240 : decode cL_curtain 240 = .ok (.bipush 43, 2) := by decide +kernel
theorem dL_curtain_242 : decode cL_curtain 242 = .ok (.invokevirtual 72, 3) := by decide +kernel
theorem dL_curtain_245 : decode cL_curtain 245 = .ok (.ifCond .le 25, 3) := by decide +kernel
theorem dL_curtain_248 : decode cL_curtain 248 = .ok (.aload_n 0, 1) := by decide +kernel
theorem dL_curtain_249 : decode cL_curtain 249 = .ok (.bipush 48, 2) := by decide +kernel
theorem dL_curtain_251 : decode cL_curtain 251 = .ok (.iload 5, 2) := by decide +kernel
theorem dL_curtain_253 : decode cL_curtain 253 = .ok (.iconst 5, 1) := by decide +kernel
theorem dL_curtain_254 : decode cL_curtain 254 = .ok (.ishr, 1) := by decide +kernel
theorem dL_curtain_255 : decode cL_curtain 255 = .ok (.iconst 3, 1) := by decide +kernel
theorem dL_curtain_256 : decode cL_curtain 256 = .ok (.invokestatic 34, 3) := by decide +kernel
theorem dL_curtain_259 : decode cL_curtain 259 = .ok (.iadd, 1) := by decide +kernel
theorem dL_curtain_260 : decode cL_curtain 260 = .ok (.invokevirtual 72, 3) := by decide +kernel
theorem dL_curtain_263 : decode cL_curtain 263 = .ok (.ifCond .le 7, 3) := by decide +kernel
theorem dL_curtain_266 : decode cL_curtain 266 = .ok (.iconst 1, 1) := by decide +kernel
theorem dL_curtain_267 : decode cL_curtain 267 = .ok (.goto 4, 3) := by decide +kernel
theorem dL_curtain_270 : decode cL_curtain 270 = .ok (.iconst 0, 1) := by decide +kernel
theorem dL_curtain_271 : decode cL_curtain 271 = .ok (.istore_n 3, 1) := by decide +kernel
theorem dL_curtain_272 : decode cL_curtain 272 = .ok (.iinc 4 1, 3) := by decide +kernel
theorem dL_curtain_275 : decode cL_curtain 275 = .ok (.goto (-252), 3) := by decide +kernel
theorem dL_curtain_278 : decode cL_curtain 278 = .ok (.iload_n 3, 1) := by decide +kernel
theorem dL_curtain_279 : decode cL_curtain 279 = .ok (.ifCond .eq 28, 3) := by decide +kernel
theorem dL_curtain_282 : decode cL_curtain 282 = .ok (.iload_n 1, 1) := by decide +kernel
theorem dL_curtain_283 : decode cL_curtain 283 = .ok (.bipush 26, 2) := by decide +kernel
theorem dL_curtain_285 : decode cL_curtain 285 = .ok (.ishr, 1) := by decide +kernel
theorem dL_curtain_286 : decode cL_curtain 286 = .ok (.bipush 6, 2) := by decide +kernel
theorem dL_curtain_288 : decode cL_curtain 288 = .ok (.invokestatic 34, 3) := by decide +kernel
theorem dL_curtain_291 : decode cL_curtain 291 = .ok (.ifCond .gt 12, 3) := by decide +kernel
theorem dL_curtain_294 : decode cL_curtain 294 = .ok (.aload_n 0, 1) := by decide +kernel
theorem dL_curtain_295 : decode cL_curtain 295 = .ok (.bipush 59, 2) := by decide +kernel
theorem dL_curtain_297 : decode cL_curtain 297 = .ok (.invokevirtual 72, 3) := by decide +kernel
theorem dL_curtain_300 : decode cL_curtain 300 = .ok (.ifCond .le 7, 3) := by decide +kernel
theorem dL_curtain_303 : decode cL_curtain 303 = .ok (.iconst 1, 1) := by decide +kernel
theorem dL_curtain_304 : decode cL_curtain 304 = .ok (.goto 4, 3) := by decide +kernel
theorem dL_curtain_307 : decode cL_curtain 307 = .ok (.iconst 0, 1) := by decide +kernel
theorem dL_curtain_308 : decode cL_curtain 308 = .ok (.ireturn, 1) := by decide +kernel
theorem dL_steps_0 : decode cL_steps 0 = .ok (.iload_n 1, 1) := by decide +kernel
theorem dL_steps_1 : decode cL_steps 1 = .ok (.bipush 18, 2) := by decide +kernel
theorem dL_steps_3 : decode cL_steps 3 = .ok (.invokestatic 34, 3) := by decide +kernel
theorem dL_steps_6 : decode cL_steps 6 = .ok (.istore_n 2, 1) := by decide +kernel
theorem dL_steps_7 : decode cL_steps 7 = .ok (.aload_n 0, 1) := by decide +kernel
theorem dL_steps_8 : decode cL_steps 8 = .ok (.invokevirtual 69, 3) := by decide +kernel
theorem dL_steps_11 : decode cL_steps 11 = .ok (.ifCond .lt 7, 3) := by decide +kernel
theorem dL_steps_14 : decode cL_steps 14 = .ok (.iconst 1, 1) := by decide +kernel
theorem dL_steps_15 : decode cL_steps 15 = .ok (.goto 4, 3) := by decide +kernel
theorem dL_steps_18 : decode cL_steps 18 = .ok (.iconst 0, 1) := by decide +kernel
theorem dL_steps_19 : decode cL_steps 19 = .ok (.istore_n 3, 1) := by decide +kernel
theorem dL_steps_20 : decode cL_steps 20 = .ok (.iconst 0, 1) := by decide +kernel
theorem dL_steps_21 : decode cL_steps 21 = .ok (.istore 4, 2) := by decide +kernel
theorem dL_steps_23 : decode cL_steps 23 = .ok (.iload 4, 2) := by decide +kernel
theorem dL_steps_25 : decode cL_steps 25 = .ok (.iload_n 2, 1) := by decide +kernel
theorem dL_steps_26 : decode cL_steps 26 = .ok (.if_icmp .ge 76, 3) := by decide +kernel
theorem dL_steps_29 : decode cL_steps 29 = .ok (.iload_n 1, 1) := by decide +kernel
theorem dL_steps_30 : decode cL_steps 30 = .ok (.iconst 1, 1) := by decide +kernel
theorem dL_steps_31 : decode cL_steps 31 = .ok (.iload 4, 2) := by decide +kernel
theorem dL_steps_33 : decode cL_steps 33 = .ok (.iadd, 1) := by decide +kernel
theorem dL_steps_34 : decode cL_steps 34 = .ok (.ishr, 1) := by decide +kernel
theorem dL_steps_35 : decode cL_steps 35 = .ok (.bipush 12, 2) := by decide +kernel
theorem dL_steps_37 : decode cL_steps 37 = .ok (.invokestatic 34, 3) := by decide +kernel
theorem dL_steps_40 : decode cL_steps 40 = .ok (.istore 5, 2) := by decide +kernel
theorem dL_steps_42 : decode cL_steps 42 = .ok (.iload_n 3, 1) := by decide +kernel
theorem dL_steps_43 : decode cL_steps 43 = .ok (.ifCond .eq 51, 3) := by decide +kernel
theorem dL_steps_46 : decode cL_steps 46 = .ok (.aload_n 0, 1) := by decide +kernel
theorem dL_steps_47 : decode cL_steps 47 = .ok (.iload 5, 2) := by decide +kernel
theorem dL_steps_49 : decode cL_steps 49 = .ok (.iconst 4, 1) := by decide +kernel
theorem dL_steps_50 : decode cL_steps 50 = .ok (.if_icmp .ge 8, 3) := by decide +kernel
theorem dL_steps_53 : decode cL_steps 53 = .ok (.bipush 115, 2) := by decide +kernel
theorem dL_steps_55 : decode cL_steps 55 = .ok (.goto 29, 3) := by decide +kernel
theorem dL_steps_58 : decode cL_steps 58 = .ok (.iload 5, 2) := by decide +kernel
theorem dL_steps_60 : decode cL_steps 60 = .ok (.bipush 7, 2) := by decide +kernel
theorem dL_steps_62 : decode cL_steps 62 = .ok (.if_icmp .ge 8, 3) := by decide +kernel
theorem dL_steps_65 : decode cL_steps 65 = .ok (.bipush 108, 2) := by decide +kernel
theorem dL_steps_67 : decode cL_steps 67 = .ok (.goto 17, 3) := by decide +kernel
theorem dL_steps_70 : decode cL_steps 70 = .ok (.iload 5, 2) := by decide +kernel
theorem dL_steps_72 : decode cL_steps 72 = .ok (.bipush 11, 2) := by decide +kernel
theorem dL_steps_74 : decode cL_steps 74 = .ok (.if_icmp .ge 8, 3) := by decide +kernel
theorem dL_steps_77 : decode cL_steps 77 = .ok (.bipush 114, 2) := by decide +kernel
theorem dL_steps_79 : decode cL_steps 79 = .ok (.goto 5, 3) := by decide +kernel
theorem dL_steps_82 : decode cL_steps 82 = .ok (.bipush 98, 2) := by decide +kernel
theorem dL_steps_84 : decode cL_steps 84 = .ok (.invokevirtual 72, 3) := by decide +kernel
theorem dL_steps_87 : decode cL_steps 87 = .ok (.ifCond .le 7, 3) := by decide +kernel
theorem dL_steps_90 : decode cL_steps 90 = .ok (.iconst 1, 1) := by decide +kernel
theorem dL_steps_91 : decode cL_steps 91 = .ok (.goto 4, 3) := by decide +kernel
theorem dL_steps_94 : decode cL_steps 94 = .ok (.iconst 0, 1) := by decide +kernel
theorem dL_steps_95 : decode cL_steps 95 = .ok (.istore_n 3, 1) := by decide +kernel
theorem dL_steps_96 : decode cL_steps 96 = .ok (.iinc 4 1, 3) := by decide +kernel
theorem dL_steps_99 : decode cL_steps 99 = .ok (.goto (-76), 3) := by decide +kernel
theorem dL_steps_102 : decode cL_steps 102 = .ok (.iload_n 3, 1) := by decide +kernel
theorem dL_steps_103 : decode cL_steps 103 = .ok (.ifCond .eq 28, 3) := by decide +kernel
theorem dL_steps_106 : decode cL_steps 106 = .ok (.iload_n 1, 1) := by decide +kernel
theorem dL_steps_107 : decode cL_steps 107 = .ok (.bipush 26, 2) := by decide +kernel
theorem dL_steps_109 : decode cL_steps 109 = .ok (.ishr, 1) := by decide +kernel
theorem dL_steps_110 : decode cL_steps 110 = .ok (.bipush 6, 2) := by decide +kernel
theorem dL_steps_112 : decode cL_steps 112 = .ok (.invokestatic 34, 3) := by decide +kernel
theorem dL_steps_115 : decode cL_steps 115 = .ok (.ifCond .gt 12, 3) := by decide +kernel
theorem dL_steps_118 : decode cL_steps 118 = .ok (.aload_n 0, 1) := by decide +kernel
theorem dL_steps_119 : decode cL_steps 119 = .ok (.bipush 100, 2) := by decide +kernel
theorem dL_steps_121 : decode cL_steps 121 = .ok (.invokevirtual 72, 3) := by decide +kernel
theorem dL_steps_124 : decode cL_steps 124 = .ok (.ifCond .le 7, 3) := by decide +kernel
theorem dL_steps_127 : decode cL_steps 127 = .ok (.iconst 1, 1) := by decide +kernel
theorem dL_steps_128 : decode cL_steps 128 = .ok (.goto 4, 3) := by decide +kernel
theorem dL_steps_131 : decode cL_steps 131 = .ok (.iconst 0, 1) := by decide +kernel
theorem dL_steps_132 : decode cL_steps 132 = .ok (.ireturn, 1) := by decide +kernel
theorem dL_reads_0 : decode cL_reads 0 = .ok (.iload_n 1, 1) := by decide +kernel
theorem dL_reads_1 : decode cL_reads 1 = .ok (.bipush 19, 2) := by decide +kernel
theorem dL_reads_3 : decode cL_reads 3 = .ok (.ishr, 1) := by decide +kernel
theorem dL_reads_4 : decode cL_reads 4 = .ok (.iconst 3, 1) := by decide +kernel
theorem dL_reads_5 : decode cL_reads 5 = .ok (.invokestatic 34, 3) := by decide +kernel
theorem dL_reads_8 : decode cL_reads 8 = .ok (.ifCond .ne 7, 3) := by decide +kernel
theorem dL_reads_11 : decode cL_reads 11 = .ok (.iconst 1, 1) := by decide +kernel
theorem dL_reads_12 : decode cL_reads 12 = .ok (.goto 4, 3) := by decide +kernel
theorem dL_reads_15 : decode cL_reads 15 = .ok (.iconst 0, 1) := by decide +kernel
theorem dL_reads_16 : decode cL_reads 16 = .ok (.istore_n 2, 1) := by decide +kernel
theorem dL_reads_17 : decode cL_reads 17 = .ok (.iload_n 2, 1) := by decide +kernel
theorem dL_reads_18 : decode cL_reads 18 = .ok (.ifCond .eq 11, 3) := by decide +kernel
theorem dL_reads_21 : decode cL_reads 21 = .ok (.aload_n 0, 1) := by decide +kernel
theorem dL_reads_22 : decode cL_reads 22 = .ok (.iload_n 1, 1) := by decide +kernel
theorem dL_reads_23 : decode cL_reads 23 = .ok (.invokestatic 75, 3) := by decide +kernel
theorem dL_reads_26 : decode cL_reads 26 = .ok (.goto 8, 3) := by decide +kernel
theorem dL_reads_29 : decode cL_reads 29 = .ok (.aload_n 0, 1) := by decide +kernel
theorem dL_reads_30 : decode cL_reads 30 = .ok (.iload_n 1, 1) := by decide +kernel
theorem dL_reads_31 : decode cL_reads 31 = .ok (.invokestatic 79, 3) := by decide +kernel
theorem dL_reads_34 : decode cL_reads 34 = .ok (.istore_n 3, 1) := by decide +kernel
theorem dL_reads_35 : decode cL_reads 35 = .ok (.aload_n 0, 1) := by decide +kernel
theorem dL_reads_36 : decode cL_reads 36 = .ok (.invokestatic 82, 3) := by decide +kernel
theorem dL_reads_39 : decode cL_reads 39 = .ok (.lstore 4, 2) := by decide +kernel
theorem dL_reads_41 : decode cL_reads 41 = .ok (.aload_n 0, 1) := by decide +kernel
theorem dL_reads_42 : decode cL_reads 42 = .ok (.bipush 18, 2) := by decide +kernel
theorem dL_reads_44 : decode cL_reads 44 = .ok (.invokevirtual 13, 3) := by decide +kernel
theorem dL_reads_47 : decode cL_reads 47 = .ok (.istore 6, 2) := by decide +kernel
theorem dL_reads_49 : decode cL_reads 49 = .ok (.aload_n 0, 1) := by decide +kernel
theorem dL_reads_50 : decode cL_reads 50 = .ok (.iconst 5, 1) := by decide +kernel
theorem dL_reads_51 : decode cL_reads 51 = .ok (.invokevirtual 13, 3) := by decide +kernel
theorem dL_reads_54 : decode cL_reads 54 = .ok (.istore 7, 2) := by decide +kernel
theorem dL_reads_56 : decode cL_reads 56 = .ok (.aload_n 0, 1) := by decide +kernel
theorem dL_reads_57 : decode cL_reads 57 = .ok (.iconst 4, 1) := by decide +kernel
theorem dL_reads_58 : decode cL_reads 58 = .ok (.invokevirtual 13, 3) := by decide +kernel
theorem dL_reads_61 : decode cL_reads 61 = .ok (.istore 8, 2) := by decide +kernel
theorem dL_reads_63 : decode cL_reads 63 = .ok (.aload_n 0, 1) := by decide +kernel
theorem dL_reads_64 : decode cL_reads 64 = .ok (.bipush 17, 2) := by decide +kernel
theorem dL_reads_66 : decode cL_reads 66 = .ok (.invokevirtual 13, 3) := by decide +kernel
theorem dL_reads_69 : decode cL_reads 69 = .ok (.istore 9, 2) := by decide +kernel
theorem dL_reads_71 : decode cL_reads 71 = .ok (.aload_n 0, 1) := by decide +kernel
theorem dL_reads_72 : decode cL_reads 72 = .ok (.iload_n 2, 1) := by decide +kernel
theorem dL_reads_73 : decode cL_reads 73 = .ok (.ifCond .eq 7, 3) := by decide +kernel
theorem dL_reads_76 : decode cL_reads 76 = .ok (.iconst 0, 1) := by decide +kernel
theorem dL_reads_77 : decode cL_reads 77 = .ok (.goto 4, 3) := by decide +kernel
theorem dL_reads_80 : decode cL_reads 80 = .ok (.iconst 1, 1) := by decide +kernel
theorem dL_reads_81 : decode cL_reads 81 = .ok (.invokevirtual 86, 3) := by decide +kernel
theorem dL_reads_84 : decode cL_reads 84 = .ok (.istore 10, 2) := by decide +kernel
theorem dL_reads_86 : decode cL_reads 86 = .ok (.iload_n 2, 1) := by decide +kernel
theorem dL_reads_87 : decode cL_reads 87 = .ok (.ifCond .eq 10, 3) := by decide +kernel
theorem dL_reads_90 : decode cL_reads 90 = .ok (.aload_n 0, 1) := by decide +kernel
theorem dL_reads_91 : decode cL_reads 91 = .ok (.invokevirtual 89, 3) := by decide +kernel
theorem dL_reads_94 : decode cL_reads 94 = .ok (.goto 7, 3) := by decide +kernel
theorem dL_reads_97 : decode cL_reads 97 = .ok (.aload_n 0, 1) := by decide +kernel
theorem dL_reads_98 : decode cL_reads 98 = .ok (.invokevirtual 92, 3) := by decide +kernel
theorem dL_reads_101 : decode cL_reads 101 = .ok (.istore 11, 2) := by decide +kernel
theorem dL_reads_103 : decode cL_reads 103 = .ok (.aload_n 0, 1) := by decide +kernel
theorem dL_reads_104 : decode cL_reads 104 = .ok (.invokevirtual 69, 3) := by decide +kernel
theorem dL_reads_107 : decode cL_reads 107 = .ok (.istore 12, 2) := by decide +kernel
theorem dL_reads_109 : decode cL_reads 109 = .ok (.iload_n 3, 1) := by decide +kernel
theorem dL_reads_110 : decode cL_reads 110 = .ok (.ifCond .eq 34, 3) := by decide +kernel
theorem dL_reads_113 : decode cL_reads 113 = .ok (.iload 11, 2) := by decide +kernel
theorem dL_reads_115 : decode cL_reads 115 = .ok (.bipush (-2), 2) := by decide +kernel
theorem dL_reads_117 : decode cL_reads 117 = .ok (.if_icmp .ne 7, 3) := by decide +kernel
theorem dL_reads_120 : decode cL_reads 120 = .ok (.iconst 1, 1) := by decide +kernel
theorem dL_reads_121 : decode cL_reads 121 = .ok (.goto 4, 3) := by decide +kernel
theorem dL_reads_124 : decode cL_reads 124 = .ok (.iconst 0, 1) := by decide +kernel
theorem dL_reads_125 : decode cL_reads 125 = .ok (.iload 10, 2) := by decide +kernel
theorem dL_reads_127 : decode cL_reads 127 = .ok (.bipush (-4), 2) := by decide +kernel
theorem dL_reads_129 : decode cL_reads 129 = .ok (.if_icmp .eq 7, 3) := by decide +kernel
theorem dL_reads_132 : decode cL_reads 132 = .ok (.iconst 1, 1) := by decide +kernel
theorem dL_reads_133 : decode cL_reads 133 = .ok (.goto 4, 3) := by decide +kernel
theorem dL_reads_136 : decode cL_reads 136 = .ok (.iconst 0, 1) := by decide +kernel
theorem dL_reads_137 : decode cL_reads 137 = .ok (.if_icmp .ne 7, 3) := by decide +kernel
theorem dL_reads_140 : decode cL_reads 140 = .ok (.iconst 1, 1) := by decide +kernel
theorem dL_reads_141 : decode cL_reads 141 = .ok (.goto 4, 3) := by decide +kernel
theorem dL_reads_144 : decode cL_reads 144 = .ok (.iconst 0, 1) := by decide +kernel
theorem dL_reads_145 : decode cL_reads 145 = .ok (.istore 13, 2) := by decide +kernel
theorem dL_reads_147 : decode cL_reads 147 = .ok (.iload 10, 2) := by decide +kernel
theorem dL_reads_149 : decode cL_reads 149 = .ok (.bipush (-4), 2) := by decide +kernel
theorem dL_reads_151 : decode cL_reads 151 = .ok (.if_icmp .eq 54, 3) := by decide +kernel
theorem dL_reads_154 : decode cL_reads 154 = .ok (.iload 13, 2) := by decide +kernel
theorem dL_reads_156 : decode cL_reads 156 = .ok (.ifCond .eq 47, 3) := by decide +kernel
theorem dL_reads_159 : decode cL_reads 159 = .ok (.iload 10, 2) := by decide +kernel
theorem dL_reads_161 : decode cL_reads 161 = .ok (.ifCond .lt 42, 3) := by decide +kernel
theorem dL_reads_164 : decode cL_reads 164 = .ok (.iload 10, 2) := by decide +kernel
theorem dL_reads_166 : decode cL_reads 166 = .ok (.iload 9, 2) := by decide +kernel
theorem dL_reads_168 : decode cL_reads 168 = .ok (.if_icmp .gt 35, 3) := by decide +kernel
theorem dL_reads_171 : decode cL_reads 171 = .ok (.iload 12, 2) := by decide +kernel
theorem dL_reads_173 : decode cL_reads 173 = .ok (.iload 9, 2) := by decide +kernel
theorem dL_reads_175 : decode cL_reads 175 = .ok (.if_icmp .ne 28, 3) := by decide +kernel
theorem dL_reads_178 : decode cL_reads 178 = .ok (.aload_n 0, 1) := by decide +kernel
theorem dL_reads_179 : decode cL_reads 179 = .ok (.invokestatic 82, 3) := by decide +kernel
theorem dL_reads_182 : decode cL_reads 182 = .ok (.lload 4, 2) := by decide +kernel
theorem dL_reads_184 : decode cL_reads 184 = .ok (.lcmp, 1) := by decide +kernel
theorem dL_reads_185 : decode cL_reads 185 = .ok (.ifCond .ne 18, 3) := by decide +kernel
theorem dL_reads_188 : decode cL_reads 188 = .ok (.aload_n 0, 1) := by decide +kernel
theorem dL_reads_189 : decode cL_reads 189 = .ok (.bipush 18, 2) := by decide +kernel
theorem dL_reads_191 : decode cL_reads 191 = .ok (.invokevirtual 13, 3) := by decide +kernel
theorem dL_reads_194 : decode cL_reads 194 = .ok (.iload 6, 2) := by decide +kernel
theorem dL_reads_196 : decode cL_reads 196 = .ok (.if_icmp .ne 7, 3) := by decide +kernel
theorem dL_reads_199 : decode cL_reads 199 = .ok (.iconst 1, 1) := by decide +kernel
theorem dL_reads_200 : decode cL_reads 200 = .ok (.goto 4, 3) := by decide +kernel
theorem dL_reads_203 : decode cL_reads 203 = .ok (.iconst 0, 1) := by decide +kernel
theorem dL_reads_204 : decode cL_reads 204 = .ok (.ireturn, 1) := by decide +kernel
theorem dL_reads_205 : decode cL_reads 205 = .ok (.iload 13, 2) := by decide +kernel
theorem dL_reads_207 : decode cL_reads 207 = .ok (.ifCond .eq 35, 3) := by decide +kernel
theorem dL_reads_210 : decode cL_reads 210 = .ok (.iload 12, 2) := by decide +kernel
theorem dL_reads_212 : decode cL_reads 212 = .ok (.ifCond .ne 30, 3) := by decide +kernel
theorem dL_reads_215 : decode cL_reads 215 = .ok (.aload_n 0, 1) := by decide +kernel
theorem dL_reads_216 : decode cL_reads 216 = .ok (.bipush 18, 2) := by decide +kernel
theorem dL_reads_218 : decode cL_reads 218 = .ok (.invokevirtual 13, 3) := by decide +kernel
theorem dL_reads_221 : decode cL_reads 221 = .ok (.iload 6, 2) := by decide +kernel
theorem dL_reads_223 : decode cL_reads 223 = .ok (.iconst 4, 1) := by decide +kernel
theorem dL_reads_224 : decode cL_reads 224 = .ok (.if_icmp .ge 10, 3) := by decide +kernel
theorem dL_reads_227 : decode cL_reads 227 = .ok (.iload 6, 2) := by decide +kernel
theorem dL_reads_229 : decode cL_reads 229 = .ok (.iconst 1, 1) := by decide +kernel
theorem dL_reads_230 : decode cL_reads 230 = .ok (.iadd, 1) := by decide +kernel
theorem dL_reads_231 : decode cL_reads 231 = .ok (.goto 4, 3) := by decide +kernel
theorem dL_reads_234 : decode cL_reads 234 = .ok (.iconst 4, 1) := by decide +kernel
theorem dL_reads_235 : decode cL_reads 235 = .ok (.if_icmp .ne 7, 3) := by decide +kernel
theorem dL_reads_238 : decode cL_reads 238 = .ok (.iconst 1, 1) := by decide +kernel
theorem dL_reads_239 : decode cL_reads 239 = .ok (.goto 4, 3) := by decide +kernel
theorem dL_reads_242 : decode cL_reads 242 = .ok (.iconst 0, 1) := by decide +kernel
theorem dL_reads_243 : decode cL_reads 243 = .ok (.istore 13, 2) := by decide +kernel
theorem dL_reads_245 : decode cL_reads 245 = .ok (.iload 13, 2) := by decide +kernel
theorem dL_reads_247 : decode cL_reads 247 = .ok (.ifCond .eq 105, 3) := by decide +kernel
theorem dL_reads_250 : decode cL_reads 250 = .ok (.iload_n 2, 1) := by decide +kernel
theorem dL_reads_251 : decode cL_reads 251 = .ok (.ifCond .eq 38, 3) := by decide +kernel
theorem dL_reads_254 : decode cL_reads 254 = .ok (.iload 11, 2) := by decide +kernel
theorem dL_reads_256 : decode cL_reads 256 = .ok (.iconst 1, 1) := by decide +kernel
theorem dL_reads_257 : decode cL_reads 257 = .ok (.if_icmp .lt 95, 3) := by decide +kernel
theorem dL_reads_260 : decode cL_reads 260 = .ok (.iload 11, 2) := by decide +kernel
theorem dL_reads_262 : decode cL_reads 262 = .ok (.iconst 4, 1) := by decide +kernel
theorem dL_reads_263 : decode cL_reads 263 = .ok (.if_icmp .gt 89, 3) := by decide +kernel
theorem dL_reads_266 : decode cL_reads 266 = .ok (.aload_n 0, 1) := by decide +kernel
theorem dL_reads_267 : decode cL_reads 267 = .ok (.iconst 0, 1) := by decide +kernel
theorem dL_reads_268 : decode cL_reads 268 = .ok (.invokevirtual 13, 3) := by decide +kernel
theorem dL_reads_271 : decode cL_reads 271 = .ok (.iload 11, 2) := by decide +kernel
theorem dL_reads_273 : decode cL_reads 273 = .ok (.if_icmp .ne 79, 3) := by decide +kernel
theorem dL_reads_276 : decode cL_reads 276 = .ok (.aload_n 0, 1) := by decide +kernel
theorem dL_reads_277 : decode cL_reads 277 = .ok (.iconst 5, 1) := by decide +kernel
theorem dL_reads_278 : decode cL_reads 278 = .ok (.invokevirtual 13, 3) := by decide +kernel
theorem dL_reads_281 : decode cL_reads 281 = .ok (.iload 7, 2) := by decide +kernel
theorem dL_reads_283 : decode cL_reads 283 = .ok (.if_icmp .ne 69, 3) := by decide +kernel
theorem dL_reads_286 : decode cL_reads 286 = .ok (.goto 62, 3) := by decide +kernel
theorem dL_reads_289 : decode cL_reads 289 = .ok (.iload 11, 2) := by decide +kernel
theorem dL_reads_291 : decode cL_reads 291 = .ok (.ifCond .lt 61, 3) := by decide +kernel
theorem dL_reads_294 : decode cL_reads 294 = .ok (.iload 11, 2) := by decide +kernel
theorem dL_reads_296 : decode cL_reads 296 = .ok (.iload 9, 2) := by decide +kernel
theorem dL_reads_298 : decode cL_reads 298 = .ok (.if_icmp .gt 54, 3) := by decide +kernel
theorem dL_reads_301 : decode cL_reads 301 = .ok (.aload_n 0, 1) := by decide +kernel
theorem dL_reads_302 : decode cL_reads 302 = .ok (.iconst 5, 1) := by decide +kernel
theorem dL_reads_303 : decode cL_reads 303 = .ok (.invokevirtual 13, 3) := by decide +kernel
theorem dL_reads_306 : decode cL_reads 306 = .ok (.iload 7, 2) := by decide +kernel
theorem dL_reads_308 : decode cL_reads 308 = .ok (.isub, 1) := by decide +kernel
theorem dL_reads_309 : decode cL_reads 309 = .ok (.iload 8, 2) := by decide +kernel
theorem dL_reads_311 : decode cL_reads 311 = .ok (.iadd, 1) := by decide +kernel
theorem dL_reads_312 : decode cL_reads 312 = .ok (.aload_n 0, 1) := by decide +kernel
theorem dL_reads_313 : decode cL_reads 313 = .ok (.iconst 4, 1) := by decide +kernel
theorem dL_reads_314 : decode cL_reads 314 = .ok (.invokevirtual 13, 3) := by decide +kernel
theorem dL_reads_317 : decode cL_reads 317 = .ok (.isub, 1) := by decide +kernel
theorem dL_reads_318 : decode cL_reads 318 = .ok (.iload 11, 2) := by decide +kernel
theorem dL_reads_320 : decode cL_reads 320 = .ok (.if_icmp .ne 32, 3) := by decide +kernel
theorem dL_reads_323 : decode cL_reads 323 = .ok (.iload 11, 2) := by decide +kernel
theorem dL_reads_325 : decode cL_reads 325 = .ok (.iload 9, 2) := by decide +kernel
theorem dL_reads_327 : decode cL_reads 327 = .ok (.if_icmp .eq 21, 3) := by decide +kernel
theorem dL_reads_330 : decode cL_reads 330 = .ok (.aload_n 0, 1) := by decide +kernel
theorem dL_reads_331 : decode cL_reads 331 = .ok (.bipush 6, 2) := by decide +kernel
theorem dL_reads_333 : decode cL_reads 333 = .ok (.invokevirtual 13, 3) := by decide +kernel
theorem dL_reads_336 : decode cL_reads 336 = .ok (.iconst 1, 1) := by decide +kernel
theorem dL_reads_337 : decode cL_reads 337 = .ok (.if_icmp .eq 11, 3) := by decide +kernel
theorem dL_reads_340 : decode cL_reads 340 = .ok (.aload_n 0, 1) := by decide +kernel
theorem dL_reads_341 : decode cL_reads 341 = .ok (.iconst 4, 1) := by decide +kernel
theorem dL_reads_342 : decode cL_reads 342 = .ok (.invokevirtual 13, 3) := by decide +kernel
theorem dL_reads_345 : decode cL_reads 345 = .ok (.ifCond .ne 7, 3) := by decide +kernel
theorem dL_reads_348 : decode cL_reads 348 = .ok (.iconst 1, 1) := by decide +kernel
theorem dL_reads_349 : decode cL_reads 349 = .ok (.goto 4, 3) := by decide +kernel
theorem dL_reads_352 : decode cL_reads 352 = .ok (.iconst 0, 1) := by decide +kernel
theorem dL_reads_353 : decode cL_reads 353 = .ok (.ireturn, 1) := by decide +kernel
theorem dL_acts_0 : decode cL_acts 0 = .ok (.iload_n 1, 1) := by decide +kernel
theorem dL_acts_1 : decode cL_acts 1 = .ok (.bipush 24, 2) := by decide +kernel
theorem dL_acts_3 : decode cL_acts 3 = .ok (.invokestatic 34, 3) := by decide +kernel
theorem dL_acts_6 : decode cL_acts 6 = .ok (.istore_n 3, 1) := by decide +kernel
theorem dL_acts_7 : decode cL_acts 7 = .ok (.aload_n 0, 1) := by decide +kernel
theorem dL_acts_8 : decode cL_acts 8 = .ok (.iconst 0, 1) := by decide +kernel
theorem dL_acts_9 : decode cL_acts 9 = .ok (.invokevirtual 13, 3) := by decide +kernel
theorem dL_acts_12 : decode cL_acts 12 = .ok (.istore 4, 2) := by decide +kernel
theorem dL_acts_14 : decode cL_acts 14 = .ok (.aload_n 0, 1) := by decide +kernel
theorem dL_acts_15 : decode cL_acts 15 = .ok (.bipush 6, 2) := by decide +kernel
theorem dL_acts_17 : decode cL_acts 17 = .ok (.invokevirtual 13, 3) := by decide +kernel
theorem dL_acts_20 : decode cL_acts 20 = .ok (.iconst 1, 1) := by decide +kernel
theorem dL_acts_21 : decode cL_acts 21 = .ok (.if_icmp .ne 7, 3) := by decide +kernel
theorem dL_acts_24 : decode cL_acts 24 = .ok (.iconst 1, 1) := by decide +kernel
theorem dL_acts_25 : decode cL_acts 25 = .ok (.goto 4, 3) := by decide +kernel
theorem dL_acts_28 : decode cL_acts 28 = .ok (.iconst 0, 1) := by decide +kernel
theorem dL_acts_29 : decode cL_acts 29 = .ok (.istore 5, 2) := by decide +kernel
theorem dL_acts_31 : decode cL_acts 31 = .ok (.iload_n 3, 1) := by decide +kernel
theorem dL_acts_32 : decode cL_acts 32 = .ok (.iconst 4, 1) := by decide +kernel
theorem dL_acts_33 : decode cL_acts 33 = .ok (.if_icmp .ge 236, 3) := by decide +kernel
theorem dL_acts_36 : decode cL_acts 36 = .ok (.iload_n 2, 1) := by decide +kernel
theorem dL_acts_37 : decode cL_acts 37 = .ok (.bipush 11, 2) := by decide +kernel
theorem dL_acts_39 : decode cL_acts 39 = .ok (.invokestatic 34, 3) := by decide +kernel
theorem dL_acts_42 : decode cL_acts 42 = .ok (.istore 6, 2) := by decide +kernel
theorem dL_acts_44 : decode cL_acts 44 = .ok (.iload_n 2, 1) := by decide +kernel
theorem dL_acts_45 : decode cL_acts 45 = .ok (.iconst 4, 1) := by decide +kernel
theorem dL_acts_46 : decode cL_acts 46 = .ok (.ishr, 1) := by decide +kernel
theorem dL_acts_47 : decode cL_acts 47 = .ok (.bipush 10, 2) := by decide +kernel
theorem dL_acts_49 : decode cL_acts 49 = .ok (.invokestatic 34, 3) := by decide +kernel
theorem dL_acts_52 : decode cL_acts 52 = .ok (.istore 7, 2) := by decide +kernel
theorem dL_acts_54 : decode cL_acts 54 = .ok (.iload_n 2, 1) := by decide +kernel
theorem dL_acts_55 : decode cL_acts 55 = .ok (.bipush 8, 2) := by decide +kernel
theorem dL_acts_57 : decode cL_acts 57 = .ok (.ishr, 1) := by decide +kernel
theorem dL_acts_58 : decode cL_acts 58 = .ok (.iload_n 2, 1) := by decide +kernel
theorem dL_acts_59 : decode cL_acts 59 = .ok (.bipush 20, 2) := by decide +kernel
theorem dL_acts_61 : decode cL_acts 61 = .ok (.ishr, 1) := by decide +kernel
theorem dL_acts_62 : decode cL_acts 62 = .ok (.iconst 5, 1) := by decide +kernel
theorem dL_acts_63 : decode cL_acts 63 = .ok (.invokestatic 34, 3) := by decide +kernel
theorem dL_acts_66 : decode cL_acts 66 = .ok (.ifCond .ne 8, 3) := by decide +kernel
theorem dL_acts_69 : decode cL_acts 69 = .ok (.bipush 11, 2) := by decide +kernel
theorem dL_acts_71 : decode cL_acts 71 = .ok (.goto 5, 3) := by decide +kernel
theorem dL_acts_74 : decode cL_acts 74 = .ok (.bipush 10, 2) := by decide +kernel
theorem dL_acts_76 : decode cL_acts 76 = .ok (.invokestatic 34, 3) := by decide +kernel
theorem dL_acts_79 : decode cL_acts 79 = .ok (.istore 8, 2) := by decide +kernel
theorem dL_acts_81 : decode cL_acts 81 = .ok (.iload_n 2, 1) := by decide +kernel
theorem dL_acts_82 : decode cL_acts 82 = .ok (.bipush 12, 2) := by decide +kernel
theorem dL_acts_84 : decode cL_acts 84 = .ok (.ishr, 1) := by decide +kernel
theorem dL_acts_85 : decode cL_acts 85 = .ok (.iload_n 2, 1) := by decide +kernel
theorem dL_acts_86 : decode cL_acts 86 = .ok (.bipush 21, 2) := by decide +kernel
theorem dL_acts_88 : decode cL_acts 88 = .ok (.ishr, 1) := by decide +kernel
theorem dL_acts_89 : decode cL_acts 89 = .ok (.iconst 5, 1) := by decide +kernel
theorem dL_acts_90 : decode cL_acts 90 = .ok (.invokestatic 34, 3) := by decide +kernel
theorem dL_acts_93 : decode cL_acts 93 = .ok (.ifCond .ne 8, 3) := by decide +kernel
theorem dL_acts_96 : decode cL_acts 96 = .ok (.bipush 7, 2) := by decide +kernel
theorem dL_acts_98 : decode cL_acts 98 = .ok (.goto 5, 3) := by decide +kernel
theorem dL_acts_101 : decode cL_acts 101 = .ok (.bipush 6, 2) := by decide +kernel
theorem dL_acts_103 : decode cL_acts 103 = .ok (.invokestatic 34, 3) := by decide +kernel
theorem dL_acts_106 : decode cL_acts 106 = .ok (.istore 9, 2) := by decide +kernel
theorem dL_acts_108 : decode cL_acts 108 = .ok (.iload 8, 2) := by decide +kernel
theorem dL_acts_110 : decode cL_acts 110 = .ok (.bipush 10, 2) := by decide +kernel
theorem dL_acts_112 : decode cL_acts 112 = .ok (.if_icmp .eq 29, 3) := by decide +kernel
theorem dL_acts_115 : decode cL_acts 115 = .ok (.iload 9, 2) := by decide +kernel
theorem dL_acts_117 : decode cL_acts 117 = .ok (.bipush 6, 2) := by decide +kernel
theorem dL_acts_119 : decode cL_acts 119 = .ok (.if_icmp .eq 22, 3) := by decide +kernel
theorem dL_acts_122 : decode cL_acts 122 = .ok (.iload 6, 2) := by decide +kernel
theorem dL_acts_124 : decode cL_acts 124 = .ok (.ifCond .eq 17, 3) := by decide +kernel
theorem dL_acts_127 : decode cL_acts 127 = .ok (.iload 6, 2) := by decide +kernel
theorem dL_acts_129 : decode cL_acts 129 = .ok (.bipush 10, 2) := by decide +kernel
theorem dL_acts_131 : decode cL_acts 131 = .ok (.if_icmp .eq 10, 3) := by decide +kernel
theorem dL_acts_134 : decode cL_acts 134 = .ok (.iload 7, 2) := by decide +kernel
theorem dL_acts_136 : decode cL_acts 136 = .ok (.iload 6, 2) := by decide +kernel
theorem dL_acts_138 : decode cL_acts 138 = .ok (.if_icmp .lt 7, 3) := by decide +kernel
theorem dL_acts_141 : decode cL_acts 141 = .ok (.iconst 1, 1) := by decide +kernel
theorem dL_acts_142 : decode cL_acts 142 = .ok (.goto 4, 3) := by decide +kernel
theorem dL_acts_145 : decode cL_acts 145 = .ok (.iconst 0, 1) := by decide +kernel
theorem dL_acts_146 : decode cL_acts 146 = .ok (.istore 10, 2) := by decide +kernel
theorem dL_acts_148 : decode cL_acts 148 = .ok (.aload_n 0, 1) := by decide +kernel
theorem dL_acts_149 : decode cL_acts 149 = .ok (.iload 8, 2) := by decide +kernel
theorem dL_acts_151 : decode cL_acts 151 = .ok (.iload 9, 2) := by decide +kernel
theorem dL_acts_153 : decode cL_acts 153 = .ok (.iload 6, 2) := by decide +kernel
theorem dL_acts_155 : decode cL_acts 155 = .ok (.iload 7, 2) := by decide +kernel
theorem dL_acts_157 : decode cL_acts 157 = .ok (.invokevirtual 95, 3) := by decide +kernel
theorem dL_acts_160 : decode cL_acts 160 = .ok (.istore 11, 2) := by decide +kernel
theorem dL_acts_162 : decode cL_acts 162 = .ok (.iload 11, 2) := by decide +kernel
theorem dL_acts_164 : decode cL_acts 164 = .ok (.iload 10, 2) := by decide +kernel
theorem dL_acts_166 : decode cL_acts 166 = .ok (.ifCond .eq 7, 3) := by decide +kernel
theorem dL_acts_169 : decode cL_acts 169 = .ok (.iconst (-1), 1) := by decide +kernel
theorem dL_acts_170 : decode cL_acts 170 = .ok (.goto 16, 3) := by decide +kernel
theorem dL_acts_173 : decode cL_acts 173 = .ok (.iload 4, 2) := by decide +kernel
theorem dL_acts_175 : decode cL_acts 175 = .ok (.iconst 4, 1) := by decide +kernel
theorem dL_acts_176 : decode cL_acts 176 = .ok (.if_icmp .ne 8, 3) := by decide +kernel
theorem dL_acts_179 : decode cL_acts 179 = .ok (.bipush (-3), 2) := by decide +kernel
theorem dL_acts_181 : decode cL_acts 181 = .ok (.goto 5, 3) := by decide +kernel
theorem dL_acts_184 : decode cL_acts 184 = .ok (.iload 4, 2) := by decide +kernel
theorem dL_acts_186 : decode cL_acts 186 = .ok (.if_icmp .ne 81, 3) := by decide +kernel
theorem dL_acts_189 : decode cL_acts 189 = .ok (.aload_n 0, 1) := by decide +kernel
theorem dL_acts_190 : decode cL_acts 190 = .ok (.iconst 0, 1) := by decide +kernel
theorem dL_acts_191 : decode cL_acts 191 = .ok (.invokevirtual 13, 3) := by decide +kernel
theorem dL_acts_194 : decode cL_acts 194 = .ok (.iload 4, 2) := by decide +kernel
theorem dL_acts_196 : decode cL_acts 196 = .ok (.iload 11, 2) := by decide +kernel
theorem dL_acts_198 : decode cL_acts 198 = .ok (.ifCond .ge 7, 3) := by decide +kernel
theorem dL_acts_201 : decode cL_acts 201 = .ok (.iconst 0, 1) := by decide +kernel
theorem dL_acts_202 : decode cL_acts 202 = .ok (.goto 4, 3) := by decide +kernel
theorem dL_acts_205 : decode cL_acts 205 = .ok (.iconst 1, 1) := by decide +kernel
theorem dL_acts_206 : decode cL_acts 206 = .ok (.iadd, 1) := by decide +kernel
theorem dL_acts_207 : decode cL_acts 207 = .ok (.if_icmp .ne 60, 3) := by decide +kernel
theorem dL_acts_210 : decode cL_acts 210 = .ok (.iload 11, 2) := by decide +kernel
theorem dL_acts_212 : decode cL_acts 212 = .ok (.ifCond .lt 51, 3) := by decide +kernel
theorem dL_acts_215 : decode cL_acts 215 = .ok (.aload_n 0, 1) := by decide +kernel
theorem dL_acts_216 : decode cL_acts 216 = .ok (.iload 11, 2) := by decide +kernel
theorem dL_acts_218 : decode cL_acts 218 = .ok (.iconst 0, 1) := by decide +kernel
theorem dL_acts_219 : decode cL_acts 219 = .ok (.invokevirtual 19, 3) := by decide +kernel
theorem dL_acts_222 : decode cL_acts 222 = .ok (.iload 8, 2) := by decide +kernel
theorem dL_acts_224 : decode cL_acts 224 = .ok (.if_icmp .ne 43, 3) := by decide +kernel
theorem dL_acts_227 : decode cL_acts 227 = .ok (.aload_n 0, 1) := by decide +kernel
theorem dL_acts_228 : decode cL_acts 228 = .ok (.iload 11, 2) := by decide +kernel
theorem dL_acts_230 : decode cL_acts 230 = .ok (.iconst 1, 1) := by decide +kernel
theorem dL_acts_231 : decode cL_acts 231 = .ok (.invokevirtual 19, 3) := by decide +kernel
theorem dL_acts_234 : decode cL_acts 234 = .ok (.iload 9, 2) := by decide +kernel
theorem dL_acts_236 : decode cL_acts 236 = .ok (.if_icmp .ne 31, 3) := by decide +kernel
theorem dL_acts_239 : decode cL_acts 239 = .ok (.aload_n 0, 1) := by decide +kernel
theorem dL_acts_240 : decode cL_acts 240 = .ok (.iload 11, 2) := by decide +kernel
theorem dL_acts_242 : decode cL_acts 242 = .ok (.iconst 2, 1) := by decide +kernel
theorem dL_acts_243 : decode cL_acts 243 = .ok (.invokevirtual 19, 3) := by decide +kernel
theorem dL_acts_246 : decode cL_acts 246 = .ok (.iload 6, 2) := by decide +kernel
theorem dL_acts_248 : decode cL_acts 248 = .ok (.if_icmp .ne 19, 3) := by decide +kernel
theorem dL_acts_251 : decode cL_acts 251 = .ok (.aload_n 0, 1) := by decide +kernel
theorem dL_acts_252 : decode cL_acts 252 = .ok (.iload 11, 2) := by decide +kernel
theorem dL_acts_254 : decode cL_acts 254 = .ok (.iconst 3, 1) := by decide +kernel
theorem dL_acts_255 : decode cL_acts 255 = .ok (.invokevirtual 19, 3) := by decide +kernel
theorem dL_acts_258 : decode cL_acts 258 = .ok (.iload 7, 2) := by decide +kernel
theorem dL_acts_260 : decode cL_acts 260 = .ok (.if_icmp .ne 7, 3) := by decide +kernel
theorem dL_acts_263 : decode cL_acts 263 = .ok (.iconst 1, 1) := by decide +kernel
theorem dL_acts_264 : decode cL_acts 264 = .ok (.goto 4, 3) := by decide +kernel
theorem dL_acts_267 : decode cL_acts 267 = .ok (.iconst 0, 1) := by decide +kernel
theorem dL_acts_268 : decode cL_acts 268 = .ok (.ireturn, 1) := by decide +kernel
theorem dL_acts_269 : decode cL_acts 269 = .ok (.iload_n 3, 1) := by decide +kernel
theorem dL_acts_270 : decode cL_acts 270 = .ok (.iconst 4, 1) := by decide +kernel
theorem dL_acts_271 : decode cL_acts 271 = .ok (.if_icmp .ne 84, 3) := by decide +kernel
theorem dL_acts_274 : decode cL_acts 274 = .ok (.iload_n 2, 1) := by decide +kernel
theorem dL_acts_275 : decode cL_acts 275 = .ok (.iload 4, 2) := by decide +kernel
theorem dL_acts_277 : decode cL_acts 277 = .ok (.iconst 1, 1) := by decide +kernel
theorem dL_acts_278 : decode cL_acts 278 = .ok (.iadd, 1) := by decide +kernel
theorem dL_acts_279 : decode cL_acts 279 = .ok (.invokestatic 34, 3) := by decide +kernel
theorem dL_acts_282 : decode cL_acts 282 = .ok (.istore 6, 2) := by decide +kernel
theorem dL_acts_284 : decode cL_acts 284 = .ok (.aload_n 0, 1) := by decide +kernel
theorem dL_acts_285 : decode cL_acts 285 = .ok (.iconst 1, 1) := by decide +kernel
theorem dL_acts_286 : decode cL_acts 286 = .ok (.invokevirtual 13, 3) := by decide +kernel
theorem dL_acts_289 : decode cL_acts 289 = .ok (.istore 7, 2) := by decide +kernel
theorem dL_acts_291 : decode cL_acts 291 = .ok (.aload_n 0, 1) := by decide +kernel
theorem dL_acts_292 : decode cL_acts 292 = .ok (.iload 6, 2) := by decide +kernel
theorem dL_acts_294 : decode cL_acts 294 = .ok (.invokevirtual 99, 3) := by decide +kernel
theorem dL_acts_297 : decode cL_acts 297 = .ok (.iload 6, 2) := by decide +kernel
theorem dL_acts_299 : decode cL_acts 299 = .ok (.iload 4, 2) := by decide +kernel
theorem dL_acts_301 : decode cL_acts 301 = .ok (.if_icmp .ne 7, 3) := by decide +kernel
theorem dL_acts_304 : decode cL_acts 304 = .ok (.iconst (-1), 1) := by decide +kernel
theorem dL_acts_305 : decode cL_acts 305 = .ok (.goto 7, 3) := by decide +kernel
theorem dL_acts_308 : decode cL_acts 308 = .ok (.iload 4, 2) := by decide +kernel
theorem dL_acts_310 : decode cL_acts 310 = .ok (.iconst 1, 1) := by decide +kernel
theorem dL_acts_311 : decode cL_acts 311 = .ok (.isub, 1) := by decide +kernel
theorem dL_acts_312 : decode cL_acts 312 = .ok (.if_icmp .ne 41, 3) := by decide +kernel
theorem dL_acts_315 : decode cL_acts 315 = .ok (.aload_n 0, 1) := by decide +kernel
theorem dL_acts_316 : decode cL_acts 316 = .ok (.iconst 0, 1) := by decide +kernel
theorem dL_acts_317 : decode cL_acts 317 = .ok (.invokevirtual 13, 3) := by decide +kernel
theorem dL_acts_320 : decode cL_acts 320 = .ok (.iload 6, 2) := by decide +kernel
theorem dL_acts_322 : decode cL_acts 322 = .ok (.iload 4, 2) := by decide +kernel
theorem dL_acts_324 : decode cL_acts 324 = .ok (.if_icmp .ne 8, 3) := by decide +kernel
theorem dL_acts_327 : decode cL_acts 327 = .ok (.iload 4, 2) := by decide +kernel
theorem dL_acts_329 : decode cL_acts 329 = .ok (.goto 7, 3) := by decide +kernel
theorem dL_acts_332 : decode cL_acts 332 = .ok (.iload 4, 2) := by decide +kernel
theorem dL_acts_334 : decode cL_acts 334 = .ok (.iconst 1, 1) := by decide +kernel
theorem dL_acts_335 : decode cL_acts 335 = .ok (.isub, 1) := by decide +kernel
theorem dL_acts_336 : decode cL_acts 336 = .ok (.if_icmp .ne 17, 3) := by decide +kernel
theorem dL_acts_339 : decode cL_acts 339 = .ok (.aload_n 0, 1) := by decide +kernel
theorem dL_acts_340 : decode cL_acts 340 = .ok (.iconst 1, 1) := by decide +kernel
theorem dL_acts_341 : decode cL_acts 341 = .ok (.invokevirtual 13, 3) := by decide +kernel
theorem dL_acts_344 : decode cL_acts 344 = .ok (.iload 7, 2) := by decide +kernel
theorem dL_acts_346 : decode cL_acts 346 = .ok (.if_icmp .ne 7, 3) := by decide +kernel
theorem dL_acts_349 : decode cL_acts 349 = .ok (.iconst 1, 1) := by decide +kernel
theorem dL_acts_350 : decode cL_acts 350 = .ok (.goto 4, 3) := by decide +kernel
theorem dL_acts_353 : decode cL_acts 353 = .ok (.iconst 0, 1) := by decide +kernel
theorem dL_acts_354 : decode cL_acts 354 = .ok (.ireturn, 1) := by decide +kernel
theorem dL_acts_355 : decode cL_acts 355 = .ok (.iload_n 3, 1) := by decide +kernel
theorem dL_acts_356 : decode cL_acts 356 = .ok (.bipush 14, 2) := by decide +kernel
theorem dL_acts_358 : decode cL_acts 358 = .ok (.if_icmp .ge 303, 3) := by decide +kernel
theorem dL_acts_361 : decode cL_acts 361 = .ok (.iload_n 2, 1) := by decide +kernel
theorem dL_acts_362 : decode cL_acts 362 = .ok (.bipush 8, 2) := by decide +kernel
theorem dL_acts_364 : decode cL_acts 364 = .ok (.invokestatic 34, 3) := by decide +kernel
theorem dL_acts_367 : decode cL_acts 367 = .ok (.iconst 2, 1) := by decide +kernel
theorem dL_acts_368 : decode cL_acts 368 = .ok (.idiv, 1) := by decide +kernel
theorem dL_acts_369 : decode cL_acts 369 = .ok (.iconst 1, 1) := by decide +kernel
theorem dL_acts_370 : decode cL_acts 370 = .ok (.isub, 1) := by decide +kernel
theorem dL_acts_371 : decode cL_acts 371 = .ok (.istore 6, 2) := by decide +kernel
theorem dL_acts_373 : decode cL_acts 373 = .ok (.aload_n 0, 1) := by decide +kernel
theorem dL_acts_374 : decode cL_acts 374 = .ok (.bipush 14, 2) := by decide +kernel
theorem dL_acts_376 : decode cL_acts 376 = .ok (.invokevirtual 13, 3) := by decide +kernel
theorem dL_acts_379 : decode cL_acts 379 = .ok (.istore 7, 2) := by decide +kernel
theorem dL_acts_381 : decode cL_acts 381 = .ok (.aload_n 0, 1) := by decide +kernel
theorem dL_acts_382 : decode cL_acts 382 = .ok (.bipush 13, 2) := by decide +kernel
theorem dL_acts_384 : decode cL_acts 384 = .ok (.invokevirtual 13, 3) := by decide +kernel
theorem dL_acts_387 : decode cL_acts 387 = .ok (.istore 8, 2) := by decide +kernel
theorem dL_acts_389 : decode cL_acts 389 = .ok (.aload_n 0, 1) := by decide +kernel
theorem dL_acts_390 : decode cL_acts 390 = .ok (.iconst 5, 1) := by decide +kernel
theorem dL_acts_391 : decode cL_acts 391 = .ok (.invokevirtual 13, 3) := by decide +kernel
theorem dL_acts_394 : decode cL_acts 394 = .ok (.istore 9, 2) := by decide +kernel
theorem dL_acts_396 : decode cL_acts 396 = .ok (.aload_n 0, 1) := by decide +kernel
theorem dL_acts_397 : decode cL_acts 397 = .ok (.iconst 3, 1) := by decide +kernel
theorem dL_acts_398 : decode cL_acts 398 = .ok (.invokevirtual 13, 3) := by decide +kernel
theorem dL_acts_401 : decode cL_acts 401 = .ok (.istore 10, 2) := by decide +kernel
theorem dL_acts_403 : decode cL_acts 403 = .ok (.aload_n 0, 1) := by decide +kernel
theorem dL_acts_404 : decode cL_acts 404 = .ok (.iconst 2, 1) := by decide +kernel
theorem dL_acts_405 : decode cL_acts 405 = .ok (.invokevirtual 13, 3) := by decide +kernel
theorem dL_acts_408 : decode cL_acts 408 = .ok (.istore 11, 2) := by decide +kernel
theorem dL_acts_410 : decode cL_acts 410 = .ok (.iload 6, 2) := by decide +kernel
theorem dL_acts_412 : decode cL_acts 412 = .ok (.iconst 2, 1) := by decide +kernel
theorem dL_acts_413 : decode cL_acts 413 = .ok (.if_icmp .eq 8, 3) := by decide +kernel
theorem dL_acts_416 : decode cL_acts 416 = .ok (.iload 5, 2) := by decide +kernel
theorem dL_acts_418 : decode cL_acts 418 = .ok (.ifCond .eq 7, 3) := by decide +kernel
theorem dL_acts_421 : decode cL_acts 421 = .ok (.iconst 0, 1) := by decide +kernel
theorem dL_acts_422 : decode cL_acts 422 = .ok (.goto 11, 3) := by decide +kernel
theorem dL_acts_425 : decode cL_acts 425 = .ok (.aload_n 0, 1) := by decide +kernel
theorem dL_acts_426 : decode cL_acts 426 = .ok (.iload 6, 2) := by decide +kernel
theorem dL_acts_428 : decode cL_acts 428 = .ok (.iconst 1, 1) := by decide +kernel
theorem dL_acts_429 : decode cL_acts 429 = .ok (.iconst 0, 1) := by decide +kernel
theorem dL_acts_430 : decode cL_acts 430 = .ok (.invokevirtual 60, 3) := by decide +kernel
theorem dL_acts_433 : decode cL_acts 433 = .ok (.istore 12, 2) := by decide +kernel
theorem dL_acts_435 : decode cL_acts 435 = .ok (.iload 6, 2) := by decide +kernel
theorem dL_acts_437 : decode cL_acts 437 = .ok (.iconst 2, 1) := by decide +kernel
theorem dL_acts_438 : decode cL_acts 438 = .ok (.if_icmp .eq 8, 3) := by decide +kernel
theorem dL_acts_441 : decode cL_acts 441 = .ok (.iload 5, 2) := by decide +kernel
theorem dL_acts_443 : decode cL_acts 443 = .ok (.ifCond .eq 7, 3) := by decide +kernel
theorem dL_acts_446 : decode cL_acts 446 = .ok (.iconst 0, 1) := by decide +kernel
theorem dL_acts_447 : decode cL_acts 447 = .ok (.goto 11, 3) := by decide +kernel
theorem dL_acts_450 : decode cL_acts 450 = .ok (.aload_n 0, 1) := by decide +kernel
theorem dL_acts_451 : decode cL_acts 451 = .ok (.iload 6, 2) := by decide +kernel
theorem dL_acts_453 : decode cL_acts 453 = .ok (.iconst 1, 1) := by decide +kernel
theorem dL_acts_454 : decode cL_acts 454 = .ok (.iconst 1, 1) := by decide +kernel
theorem dL_acts_455 : decode cL_acts 455 = .ok (.invokevirtual 60, 3) := by decide +kernel
theorem dL_acts_458 : decode cL_acts 458 = .ok (.istore 13, 2) := by decide +kernel
theorem dL_acts_460 : decode cL_acts 460 = .ok (.aload_n 0, 1) := by decide +kernel
theorem dL_acts_461 : decode cL_acts 461 = .ok (.iload 6, 2) := by decide +kernel
theorem dL_acts_463 : decode cL_acts 463 = .ok (.invokevirtual 102, 3) := by decide +kernel
theorem dL_acts_466 : decode cL_acts 466 = .ok (.istore 14, 2) := by decide +kernel
theorem dL_acts_468 : decode cL_acts 468 = .ok (.iload 6, 2) := by decide +kernel
theorem dL_acts_470 : decode cL_acts 470 = .ok (.iconst 2, 1) := by decide +kernel
theorem dL_acts_471 : decode cL_acts 471 = .ok (.if_icmp .eq 8, 3) := by decide +kernel
theorem dL_acts_474 : decode cL_acts 474 = .ok (.iload 5, 2) := by decide +kernel
theorem dL_acts_476 : decode cL_acts 476 = .ok (.ifCond .eq 36, 3) := by decide +kernel
theorem dL_acts_479 : decode cL_acts 479 = .ok (.iload 14, 2) := by decide +kernel
theorem dL_acts_481 : decode cL_acts 481 = .ok (.iload 6, 2) := by decide +kernel
theorem dL_acts_483 : decode cL_acts 483 = .ok (.iconst 2, 1) := by decide +kernel
theorem dL_acts_484 : decode cL_acts 484 = .ok (.if_icmp .ne 7, 3) := by decide +kernel
theorem dL_acts_487 : decode cL_acts 487 = .ok (.iconst (-1), 1) := by decide +kernel
theorem dL_acts_488 : decode cL_acts 488 = .ok (.goto 5, 3) := by decide +kernel
theorem dL_acts_491 : decode cL_acts 491 = .ok (.bipush (-2), 2) := by decide +kernel
theorem dL_acts_493 : decode cL_acts 493 = .ok (.if_icmp .ne 17, 3) := by decide +kernel
theorem dL_acts_496 : decode cL_acts 496 = .ok (.aload_n 0, 1) := by decide +kernel
theorem dL_acts_497 : decode cL_acts 497 = .ok (.iconst 5, 1) := by decide +kernel
theorem dL_acts_498 : decode cL_acts 498 = .ok (.invokevirtual 13, 3) := by decide +kernel
theorem dL_acts_501 : decode cL_acts 501 = .ok (.iload 9, 2) := by decide +kernel
theorem dL_acts_503 : decode cL_acts 503 = .ok (.if_icmp .ne 7, 3) := by decide +kernel
theorem dL_acts_506 : decode cL_acts 506 = .ok (.iconst 1, 1) := by decide +kernel
theorem dL_acts_507 : decode cL_acts 507 = .ok (.goto 4, 3) := by decide +kernel
theorem dL_acts_510 : decode cL_acts 510 = .ok (.iconst 0, 1) := by decide +kernel
theorem dL_acts_511 : decode cL_acts 511 = .ok (.ireturn, 1) := by decide +kernel
theorem dL_acts_512 : decode cL_acts 512 = .ok (.iload 14, 2) := by decide +kernel
theorem dL_acts_514 : decode cL_acts 514 = .ok (.iload 12, 2) := by decide +kernel
theorem dL_acts_516 : decode cL_acts 516 = .ok (.ifCond .ne 7, 3) := by decide +kernel
theorem dL_acts_519 : decode cL_acts 519 = .ok (.iconst 0, 1) := by decide +kernel
theorem dL_acts_520 : decode cL_acts 520 = .ok (.goto 13, 3) := by decide +kernel
theorem dL_acts_523 : decode cL_acts 523 = .ok (.iload 10, 2) := by decide +kernel
theorem dL_acts_525 : decode cL_acts 525 = .ok (.ifCond .le 7, 3) := by decide +kernel
theorem dL_acts_528 : decode cL_acts 528 = .ok (.iconst 1, 1) := by decide +kernel
theorem dL_acts_529 : decode cL_acts 529 = .ok (.goto 4, 3) := by decide +kernel
theorem dL_acts_532 : decode cL_acts 532 = .ok (.iconst 2, 1) := by decide +kernel
theorem dL_acts_533 : decode cL_acts 533 = .ok (.if_icmp .ne 126, 3) := by decide +kernel
theorem dL_acts_536 : decode cL_acts 536 = .ok (.aload_n 0, 1) := by decide +kernel
theorem dL_acts_537 : decode cL_acts 537 = .ok (.bipush 14, 2) := by decide +kernel
theorem dL_acts_539 : decode cL_acts 539 = .ok (.invokevirtual 13, 3) := by decide +kernel
theorem dL_acts_542 : decode cL_acts 542 = .ok (.iload 7, 2) := by decide +kernel
theorem dL_acts_544 : decode cL_acts 544 = .ok (.iload 12, 2) := by decide +kernel
theorem dL_acts_546 : decode cL_acts 546 = .ok (.iadd, 1) := by decide +kernel
theorem dL_acts_547 : decode cL_acts 547 = .ok (.if_icmp .ne 112, 3) := by decide +kernel
theorem dL_acts_550 : decode cL_acts 550 = .ok (.aload_n 0, 1) := by decide +kernel
theorem dL_acts_551 : decode cL_acts 551 = .ok (.bipush 13, 2) := by decide +kernel
theorem dL_acts_553 : decode cL_acts 553 = .ok (.invokevirtual 13, 3) := by decide +kernel
theorem dL_acts_556 : decode cL_acts 556 = .ok (.iload 8, 2) := by decide +kernel
theorem dL_acts_558 : decode cL_acts 558 = .ok (.iload 13, 2) := by decide +kernel
theorem dL_acts_560 : decode cL_acts 560 = .ok (.iadd, 1) := by decide +kernel
theorem dL_acts_561 : decode cL_acts 561 = .ok (.if_icmp .ne 98, 3) := by decide +kernel
theorem dL_acts_564 : decode cL_acts 564 = .ok (.aload_n 0, 1) := by decide +kernel
theorem dL_acts_565 : decode cL_acts 565 = .ok (.iconst 5, 1) := by decide +kernel
theorem dL_acts_566 : decode cL_acts 566 = .ok (.invokevirtual 13, 3) := by decide +kernel
theorem dL_acts_569 : decode cL_acts 569 = .ok (.iload 9, 2) := by decide +kernel
theorem dL_acts_571 : decode cL_acts 571 = .ok (.iconst 1, 1) := by decide +kernel
theorem dL_acts_572 : decode cL_acts 572 = .ok (.iadd, 1) := by decide +kernel
theorem dL_acts_573 : decode cL_acts 573 = .ok (.if_icmp .ne 86, 3) := by decide +kernel
theorem dL_acts_576 : decode cL_acts 576 = .ok (.aload_n 0, 1) := by decide +kernel
theorem dL_acts_577 : decode cL_acts 577 = .ok (.iconst 3, 1) := by decide +kernel
theorem dL_acts_578 : decode cL_acts 578 = .ok (.invokevirtual 13, 3) := by decide +kernel
theorem dL_acts_581 : decode cL_acts 581 = .ok (.iload 14, 2) := by decide +kernel
theorem dL_acts_583 : decode cL_acts 583 = .ok (.iconst 1, 1) := by decide +kernel
theorem dL_acts_584 : decode cL_acts 584 = .ok (.if_icmp .ne 10, 3) := by decide +kernel
theorem dL_acts_587 : decode cL_acts 587 = .ok (.iload 10, 2) := by decide +kernel
theorem dL_acts_589 : decode cL_acts 589 = .ok (.iconst 1, 1) := by decide +kernel
theorem dL_acts_590 : decode cL_acts 590 = .ok (.isub, 1) := by decide +kernel
theorem dL_acts_591 : decode cL_acts 591 = .ok (.goto 5, 3) := by decide +kernel
theorem dL_acts_594 : decode cL_acts 594 = .ok (.iload 10, 2) := by decide +kernel
theorem dL_acts_596 : decode cL_acts 596 = .ok (.if_icmp .ne 63, 3) := by decide +kernel
theorem dL_acts_599 : decode cL_acts 599 = .ok (.aload_n 0, 1) := by decide +kernel
theorem dL_acts_600 : decode cL_acts 600 = .ok (.bipush 6, 2) := by decide +kernel
theorem dL_acts_602 : decode cL_acts 602 = .ok (.invokevirtual 13, 3) := by decide +kernel
theorem dL_acts_605 : decode cL_acts 605 = .ok (.iload 14, 2) := by decide +kernel
theorem dL_acts_607 : decode cL_acts 607 = .ok (.iconst 2, 1) := by decide +kernel
theorem dL_acts_608 : decode cL_acts 608 = .ok (.if_icmp .ne 7, 3) := by decide +kernel
theorem dL_acts_611 : decode cL_acts 611 = .ok (.iconst 1, 1) := by decide +kernel
theorem dL_acts_612 : decode cL_acts 612 = .ok (.goto 4, 3) := by decide +kernel
theorem dL_acts_615 : decode cL_acts 615 = .ok (.iconst 0, 1) := by decide +kernel
theorem dL_acts_616 : decode cL_acts 616 = .ok (.if_icmp .ne 43, 3) := by decide +kernel
theorem dL_acts_619 : decode cL_acts 619 = .ok (.aload_n 0, 1) := by decide +kernel
theorem dL_acts_620 : decode cL_acts 620 = .ok (.iconst 2, 1) := by decide +kernel
theorem dL_acts_621 : decode cL_acts 621 = .ok (.invokevirtual 13, 3) := by decide +kernel
theorem dL_acts_624 : decode cL_acts 624 = .ok (.iload 11, 2) := by decide +kernel
theorem dL_acts_626 : decode cL_acts 626 = .ok (.iload 6, 2) := by decide +kernel
theorem dL_acts_628 : decode cL_acts 628 = .ok (.iadd, 1) := by decide +kernel
theorem dL_acts_629 : decode cL_acts 629 = .ok (.ifCond .lt 13, 3) := by decide +kernel
theorem dL_acts_632 : decode cL_acts 632 = .ok (.iload 11, 2) := by decide +kernel
theorem dL_acts_634 : decode cL_acts 634 = .ok (.iload 6, 2) := by decide +kernel
theorem dL_acts_636 : decode cL_acts 636 = .ok (.iadd, 1) := by decide +kernel
theorem dL_acts_637 : decode cL_acts 637 = .ok (.bipush 9, 2) := by decide +kernel
theorem dL_acts_639 : decode cL_acts 639 = .ok (.if_icmp .le 8, 3) := by decide +kernel
theorem dL_acts_642 : decode cL_acts 642 = .ok (.iload 11, 2) := by decide +kernel
theorem dL_acts_644 : decode cL_acts 644 = .ok (.goto 8, 3) := by decide +kernel
theorem dL_acts_647 : decode cL_acts 647 = .ok (.iload 11, 2) := by decide +kernel
theorem dL_acts_649 : decode cL_acts 649 = .ok (.iload 6, 2) := by decide +kernel
theorem dL_acts_651 : decode cL_acts 651 = .ok (.iadd, 1) := by decide +kernel
theorem dL_acts_652 : decode cL_acts 652 = .ok (.if_icmp .ne 7, 3) := by decide +kernel
theorem dL_acts_655 : decode cL_acts 655 = .ok (.iconst 1, 1) := by decide +kernel
theorem dL_acts_656 : decode cL_acts 656 = .ok (.goto 4, 3) := by decide +kernel
theorem dL_acts_659 : decode cL_acts 659 = .ok (.iconst 0, 1) := by decide +kernel
theorem dL_acts_660 : decode cL_acts 660 = .ok (.ireturn, 1) := by decide +kernel
theorem dL_acts_661 : decode cL_acts 661 = .ok (.iload_n 3, 1) := by decide +kernel
theorem dL_acts_662 : decode cL_acts 662 = .ok (.bipush 14, 2) := by decide +kernel
theorem dL_acts_664 : decode cL_acts 664 = .ok (.if_icmp .ne 120, 3) := by decide +kernel
theorem dL_acts_667 : decode cL_acts 667 = .ok (.aload_n 0, 1) := by decide +kernel
theorem dL_acts_668 : decode cL_acts 668 = .ok (.iconst 4, 1) := by decide +kernel
theorem dL_acts_669 : decode cL_acts 669 = .ok (.invokevirtual 13, 3) := by decide +kernel
theorem dL_acts_672 : decode cL_acts 672 = .ok (.istore 6, 2) := by decide +kernel
theorem dL_acts_674 : decode cL_acts 674 = .ok (.aload_n 0, 1) := by decide +kernel
theorem dL_acts_675 : decode cL_acts 675 = .ok (.iconst 1, 1) := by decide +kernel
theorem dL_acts_676 : decode cL_acts 676 = .ok (.invokevirtual 13, 3) := by decide +kernel
theorem dL_acts_679 : decode cL_acts 679 = .ok (.istore 7, 2) := by decide +kernel
theorem dL_acts_681 : decode cL_acts 681 = .ok (.aload_n 0, 1) := by decide +kernel
theorem dL_acts_682 : decode cL_acts 682 = .ok (.bipush 11, 2) := by decide +kernel
theorem dL_acts_684 : decode cL_acts 684 = .ok (.invokevirtual 13, 3) := by decide +kernel
theorem dL_acts_687 : decode cL_acts 687 = .ok (.istore 8, 2) := by decide +kernel
theorem dL_acts_689 : decode cL_acts 689 = .ok (.aload_n 0, 1) := by decide +kernel
theorem dL_acts_690 : decode cL_acts 690 = .ok (.invokevirtual 105, 3) := by decide +kernel
theorem dL_acts_693 : decode cL_acts 693 = .ok (.istore 9, 2) := by decide +kernel
theorem dL_acts_695 : decode cL_acts 695 = .ok (.iload 5, 2) := by decide +kernel
theorem dL_acts_697 : decode cL_acts 697 = .ok (.ifCond .ne 8, 3) := by decide +kernel
theorem dL_acts_700 : decode cL_acts 700 = .ok (.iload 6, 2) := by decide +kernel
theorem dL_acts_702 : decode cL_acts 702 = .ok (.ifCond .ne 18, 3) := by decide +kernel
theorem dL_acts_705 : decode cL_acts 705 = .ok (.iload 9, 2) := by decide +kernel
theorem dL_acts_707 : decode cL_acts 707 = .ok (.bipush (-2), 2) := by decide +kernel
theorem dL_acts_709 : decode cL_acts 709 = .ok (.if_icmp .ne 7, 3) := by decide +kernel
theorem dL_acts_712 : decode cL_acts 712 = .ok (.iconst 1, 1) := by decide +kernel
theorem dL_acts_713 : decode cL_acts 713 = .ok (.goto 70, 3) := by decide +kernel
theorem dL_acts_716 : decode cL_acts 716 = .ok (.iconst 0, 1) := by decide +kernel
theorem dL_acts_717 : decode cL_acts 717 = .ok (.goto 66, 3) := by decide +kernel
theorem dL_acts_720 : decode cL_acts 720 = .ok (.iload 9, 2) := by decide +kernel
theorem dL_acts_722 : decode cL_acts 722 = .ok (.ifCond .lt 60, 3) := by decide +kernel
theorem dL_acts_725 : decode cL_acts 725 = .ok (.aload_n 0, 1) := by decide +kernel
theorem dL_acts_726 : decode cL_acts 726 = .ok (.iconst 1, 1) := by decide +kernel
theorem dL_acts_727 : decode cL_acts 727 = .ok (.invokevirtual 13, 3) := by decide +kernel
theorem dL_acts_730 : decode cL_acts 730 = .ok (.iload 7, 2) := by decide +kernel
theorem dL_acts_732 : decode cL_acts 732 = .ok (.iload 9, 2) := by decide +kernel
theorem dL_acts_734 : decode cL_acts 734 = .ok (.isub, 1) := by decide +kernel
theorem dL_acts_735 : decode cL_acts 735 = .ok (.if_icmp .ne 47, 3) := by decide +kernel
theorem dL_acts_738 : decode cL_acts 738 = .ok (.aload_n 0, 1) := by decide +kernel
theorem dL_acts_739 : decode cL_acts 739 = .ok (.bipush 11, 2) := by decide +kernel
theorem dL_acts_741 : decode cL_acts 741 = .ok (.invokevirtual 13, 3) := by decide +kernel
theorem dL_acts_744 : decode cL_acts 744 = .ok (.iload 8, 2) := by decide +kernel
theorem dL_acts_746 : decode cL_acts 746 = .ok (.iload 9, 2) := by decide +kernel
theorem dL_acts_748 : decode cL_acts 748 = .ok (.iadd, 1) := by decide +kernel
theorem dL_acts_749 : decode cL_acts 749 = .ok (.if_icmp .ne 33, 3) := by decide +kernel
theorem dL_acts_752 : decode cL_acts 752 = .ok (.aload_n 0, 1) := by decide +kernel
theorem dL_acts_753 : decode cL_acts 753 = .ok (.iconst 4, 1) := by decide +kernel
theorem dL_acts_754 : decode cL_acts 754 = .ok (.invokevirtual 13, 3) := by decide +kernel
theorem dL_acts_757 : decode cL_acts 757 = .ok (.iload 6, 2) := by decide +kernel
theorem dL_acts_759 : decode cL_acts 759 = .ok (.iconst 1, 1) := by decide +kernel
theorem dL_acts_760 : decode cL_acts 760 = .ok (.isub, 1) := by decide +kernel
theorem dL_acts_761 : decode cL_acts 761 = .ok (.if_icmp .ne 21, 3) := by decide +kernel
theorem dL_acts_764 : decode cL_acts 764 = .ok (.aload_n 0, 1) := by decide +kernel
theorem dL_acts_765 : decode cL_acts 765 = .ok (.bipush 11, 2) := by decide +kernel
theorem dL_acts_767 : decode cL_acts 767 = .ok (.aload_n 0, 1) := by decide +kernel
theorem dL_acts_768 : decode cL_acts 768 = .ok (.iconst 2, 1) := by decide +kernel
theorem dL_acts_769 : decode cL_acts 769 = .ok (.invokevirtual 13, 3) := by decide +kernel
theorem dL_acts_772 : decode cL_acts 772 = .ok (.invokevirtual 28, 3) := by decide +kernel
theorem dL_acts_775 : decode cL_acts 775 = .ok (.ifCond .ne 7, 3) := by decide +kernel
theorem dL_acts_778 : decode cL_acts 778 = .ok (.iconst 1, 1) := by decide +kernel
theorem dL_acts_779 : decode cL_acts 779 = .ok (.goto 4, 3) := by decide +kernel
theorem dL_acts_782 : decode cL_acts 782 = .ok (.iconst 0, 1) := by decide +kernel
theorem dL_acts_783 : decode cL_acts 783 = .ok (.ireturn, 1) := by decide +kernel
theorem dL_acts_784 : decode cL_acts 784 = .ok (.iload_n 3, 1) := by decide +kernel
theorem dL_acts_785 : decode cL_acts 785 = .ok (.bipush 15, 2) := by decide +kernel
theorem dL_acts_787 : decode cL_acts 787 = .ok (.if_icmp .ne 87, 3) := by decide +kernel
theorem dL_acts_790 : decode cL_acts 790 = .ok (.aload_n 0, 1) := by decide +kernel
theorem dL_acts_791 : decode cL_acts 791 = .ok (.iconst 1, 1) := by decide +kernel
theorem dL_acts_792 : decode cL_acts 792 = .ok (.invokevirtual 13, 3) := by decide +kernel
theorem dL_acts_795 : decode cL_acts 795 = .ok (.istore 6, 2) := by decide +kernel
theorem dL_acts_797 : decode cL_acts 797 = .ok (.iload 5, 2) := by decide +kernel
theorem dL_acts_799 : decode cL_acts 799 = .ok (.ifCond .ne 11, 3) := by decide +kernel
theorem dL_acts_802 : decode cL_acts 802 = .ok (.iload_n 2, 1) := by decide +kernel
theorem dL_acts_803 : decode cL_acts 803 = .ok (.iconst 4, 1) := by decide +kernel
theorem dL_acts_804 : decode cL_acts 804 = .ok (.invokestatic 34, 3) := by decide +kernel
theorem dL_acts_807 : decode cL_acts 807 = .ok (.ifCond .ne 10, 3) := by decide +kernel
theorem dL_acts_810 : decode cL_acts 810 = .ok (.aload_n 0, 1) := by decide +kernel
theorem dL_acts_811 : decode cL_acts 811 = .ok (.invokevirtual 108, 3) := by decide +kernel
theorem dL_acts_814 : decode cL_acts 814 = .ok (.goto 5, 3) := by decide +kernel
theorem dL_acts_817 : decode cL_acts 817 = .ok (.bipush (-9), 2) := by decide +kernel
theorem dL_acts_819 : decode cL_acts 819 = .ok (.istore 7, 2) := by decide +kernel
theorem dL_acts_821 : decode cL_acts 821 = .ok (.iload 7, 2) := by decide +kernel
theorem dL_acts_823 : decode cL_acts 823 = .ok (.bipush (-9), 2) := by decide +kernel
theorem dL_acts_825 : decode cL_acts 825 = .ok (.if_icmp .eq 43, 3) := by decide +kernel
theorem dL_acts_828 : decode cL_acts 828 = .ok (.iload 7, 2) := by decide +kernel
theorem dL_acts_830 : decode cL_acts 830 = .ok (.iload 6, 2) := by decide +kernel
theorem dL_acts_832 : decode cL_acts 832 = .ok (.if_icmp .ne 40, 3) := by decide +kernel
theorem dL_acts_835 : decode cL_acts 835 = .ok (.aload_n 0, 1) := by decide +kernel
theorem dL_acts_836 : decode cL_acts 836 = .ok (.iconst 1, 1) := by decide +kernel
theorem dL_acts_837 : decode cL_acts 837 = .ok (.invokevirtual 13, 3) := by decide +kernel
theorem dL_acts_840 : decode cL_acts 840 = .ok (.aload_n 0, 1) := by decide +kernel
theorem dL_acts_841 : decode cL_acts 841 = .ok (.bipush 6, 2) := by decide +kernel
theorem dL_acts_843 : decode cL_acts 843 = .ok (.invokevirtual 13, 3) := by decide +kernel
theorem dL_acts_846 : decode cL_acts 846 = .ok (.iadd, 1) := by decide +kernel
theorem dL_acts_847 : decode cL_acts 847 = .ok (.ifCond .ne 25, 3) := by decide +kernel
theorem dL_acts_850 : decode cL_acts 850 = .ok (.aload_n 0, 1) := by decide +kernel
theorem dL_acts_851 : decode cL_acts 851 = .ok (.iconst 3, 1) := by decide +kernel
theorem dL_acts_852 : decode cL_acts 852 = .ok (.invokevirtual 13, 3) := by decide +kernel
theorem dL_acts_855 : decode cL_acts 855 = .ok (.iconst 3, 1) := by decide +kernel
theorem dL_acts_856 : decode cL_acts 856 = .ok (.if_icmp .ne 16, 3) := by decide +kernel
theorem dL_acts_859 : decode cL_acts 859 = .ok (.aload_n 0, 1) := by decide +kernel
theorem dL_acts_860 : decode cL_acts 860 = .ok (.iconst 4, 1) := by decide +kernel
theorem dL_acts_861 : decode cL_acts 861 = .ok (.invokevirtual 13, 3) := by decide +kernel
theorem dL_acts_864 : decode cL_acts 864 = .ok (.iconst 2, 1) := by decide +kernel
theorem dL_acts_865 : decode cL_acts 865 = .ok (.if_icmp .ne 7, 3) := by decide +kernel
theorem dL_acts_868 : decode cL_acts 868 = .ok (.iconst 1, 1) := by decide +kernel
theorem dL_acts_869 : decode cL_acts 869 = .ok (.goto 4, 3) := by decide +kernel
theorem dL_acts_872 : decode cL_acts 872 = .ok (.iconst 0, 1) := by decide +kernel
theorem dL_acts_873 : decode cL_acts 873 = .ok (.ireturn, 1) := by decide +kernel
theorem dL_acts_874 : decode cL_acts 874 = .ok (.iload_n 3, 1) := by decide +kernel
theorem dL_acts_875 : decode cL_acts 875 = .ok (.bipush 18, 2) := by decide +kernel
theorem dL_acts_877 : decode cL_acts 877 = .ok (.if_icmp .ge 144, 3) := by decide +kernel
theorem dL_acts_880 : decode cL_acts 880 = .ok (.iload_n 2, 1) := by decide +kernel
theorem dL_acts_881 : decode cL_acts 881 = .ok (.iconst 3, 1) := by decide +kernel
theorem dL_acts_882 : decode cL_acts 882 = .ok (.invokestatic 34, 3) := by decide +kernel
theorem dL_acts_885 : decode cL_acts 885 = .ok (.istore 6, 2) := by decide +kernel
theorem dL_acts_887 : decode cL_acts 887 = .ok (.iload_n 2, 1) := by decide +kernel
theorem dL_acts_888 : decode cL_acts 888 = .ok (.iconst 2, 1) := by decide +kernel
theorem dL_acts_889 : decode cL_acts 889 = .ok (.ishr, 1) := by decide +kernel
theorem dL_acts_890 : decode cL_acts 890 = .ok (.bipush 8, 2) := by decide +kernel
theorem dL_acts_892 : decode cL_acts 892 = .ok (.invokestatic 34, 3) := by decide +kernel
theorem dL_acts_895 : decode cL_acts 895 = .ok (.iconst 1, 1) := by decide +kernel
theorem dL_acts_896 : decode cL_acts 896 = .ok (.isub, 1) := by decide +kernel
theorem dL_acts_897 : decode cL_acts 897 = .ok (.istore 7, 2) := by decide +kernel
theorem dL_acts_899 : decode cL_acts 899 = .ok (.iload 6, 2) := by decide +kernel
theorem dL_acts_901 : decode cL_acts 901 = .ok (.iconst 2, 1) := by decide +kernel
theorem dL_acts_902 : decode cL_acts 902 = .ok (.if_icmp .eq 33, 3) := by decide +kernel
theorem dL_acts_905 : decode cL_acts 905 = .ok (.iload 7, 2) := by decide +kernel
theorem dL_acts_907 : decode cL_acts 907 = .ok (.iload 6, 2) := by decide +kernel
theorem dL_acts_909 : decode cL_acts 909 = .ok (.ifCond .ne 7, 3) := by decide +kernel
theorem dL_acts_912 : decode cL_acts 912 = .ok (.iconst 0, 1) := by decide +kernel
theorem dL_acts_913 : decode cL_acts 913 = .ok (.goto 4, 3) := by decide +kernel
theorem dL_acts_916 : decode cL_acts 916 = .ok (.iconst 1, 1) := by decide +kernel
theorem dL_acts_917 : decode cL_acts 917 = .ok (.if_icmp .lt 18, 3) := by decide +kernel
theorem dL_acts_920 : decode cL_acts 920 = .ok (.iload 7, 2) := by decide +kernel
theorem dL_acts_922 : decode cL_acts 922 = .ok (.iload 6, 2) := by decide +kernel
theorem dL_acts_924 : decode cL_acts 924 = .ok (.ifCond .ne 7, 3) := by decide +kernel
theorem dL_acts_927 : decode cL_acts 927 = .ok (.iconst 1, 1) := by decide +kernel
theorem dL_acts_928 : decode cL_acts 928 = .ok (.goto 4, 3) := by decide +kernel
theorem dL_acts_931 : decode cL_acts 931 = .ok (.iconst 5, 1) := by decide +kernel
theorem dL_acts_932 : decode cL_acts 932 = .ok (.if_icmp .le 7, 3) := by decide +kernel
theorem dL_acts_935 : decode cL_acts 935 = .ok (.iconst 1, 1) := by decide +kernel
theorem dL_acts_936 : decode cL_acts 936 = .ok (.goto 4, 3) := by decide +kernel
theorem dL_acts_939 : decode cL_acts 939 = .ok (.iconst 0, 1) := by decide +kernel
theorem dL_acts_940 : decode cL_acts 940 = .ok (.istore 8, 2) := by decide +kernel
theorem dL_acts_942 : decode cL_acts 942 = .ok (.iload 6, 2) := by decide +kernel
theorem dL_acts_944 : decode cL_acts 944 = .ok (.iconst 2, 1) := by decide +kernel
theorem dL_acts_945 : decode cL_acts 945 = .ok (.if_icmp .ne 7, 3) := by decide +kernel
theorem dL_acts_948 : decode cL_acts 948 = .ok (.iconst 0, 1) := by decide +kernel
theorem dL_acts_949 : decode cL_acts 949 = .ok (.goto 12, 3) := by decide +kernel
theorem dL_acts_952 : decode cL_acts 952 = .ok (.aload_n 0, 1) := by decide +kernel
theorem dL_acts_953 : decode cL_acts 953 = .ok (.bipush 15, 2) := by decide +kernel
theorem dL_acts_955 : decode cL_acts 955 = .ok (.iload 6, 2) := by decide +kernel
theorem dL_acts_957 : decode cL_acts 957 = .ok (.iadd, 1) := by decide +kernel
theorem dL_acts_958 : decode cL_acts 958 = .ok (.invokevirtual 13, 3) := by decide +kernel
theorem dL_acts_961 : decode cL_acts 961 = .ok (.istore 9, 2) := by decide +kernel
theorem dL_acts_963 : decode cL_acts 963 = .ok (.aload_n 0, 1) := by decide +kernel
theorem dL_acts_964 : decode cL_acts 964 = .ok (.iload 6, 2) := by decide +kernel
theorem dL_acts_966 : decode cL_acts 966 = .ok (.iload 7, 2) := by decide +kernel
theorem dL_acts_968 : decode cL_acts 968 = .ok (.invokevirtual 111, 3) := by decide +kernel
theorem dL_acts_971 : decode cL_acts 971 = .ok (.iload 8, 2) := by decide +kernel
theorem dL_acts_973 : decode cL_acts 973 = .ok (.ifCond .eq 7, 3) := by decide +kernel
theorem dL_acts_976 : decode cL_acts 976 = .ok (.iconst (-1), 1) := by decide +kernel
theorem dL_acts_977 : decode cL_acts 977 = .ok (.goto 5, 3) := by decide +kernel
theorem dL_acts_980 : decode cL_acts 980 = .ok (.iload 9, 2) := by decide +kernel
theorem dL_acts_982 : decode cL_acts 982 = .ok (.if_icmp .ne 37, 3) := by decide +kernel
theorem dL_acts_985 : decode cL_acts 985 = .ok (.iload 6, 2) := by decide +kernel
theorem dL_acts_987 : decode cL_acts 987 = .ok (.iconst 2, 1) := by decide +kernel
theorem dL_acts_988 : decode cL_acts 988 = .ok (.if_icmp .eq 27, 3) := by decide +kernel
theorem dL_acts_991 : decode cL_acts 991 = .ok (.aload_n 0, 1) := by decide +kernel
theorem dL_acts_992 : decode cL_acts 992 = .ok (.bipush 15, 2) := by decide +kernel
theorem dL_acts_994 : decode cL_acts 994 = .ok (.iload 6, 2) := by decide +kernel
theorem dL_acts_996 : decode cL_acts 996 = .ok (.iadd, 1) := by decide +kernel
theorem dL_acts_997 : decode cL_acts 997 = .ok (.invokevirtual 13, 3) := by decide +kernel
theorem dL_acts_1000 : decode cL_acts 1000 = .ok (.iload 8, 2) := by decide +kernel
theorem dL_acts_1002 : decode cL_acts 1002 = .ok (.ifCond .eq 8, 3) := by decide +kernel
theorem dL_acts_1005 : decode cL_acts 1005 = .ok (.iload 9, 2) := by decide +kernel
theorem dL_acts_1007 : decode cL_acts 1007 = .ok (.goto 5, 3) := by decide +kernel
theorem dL_acts_1010 : decode cL_acts 1010 = .ok (.iload 7, 2) := by decide +kernel
theorem dL_acts_1012 : decode cL_acts 1012 = .ok (.if_icmp .ne 7, 3) := by decide +kernel
theorem dL_acts_1015 : decode cL_acts 1015 = .ok (.iconst 1, 1) := by decide +kernel
theorem dL_acts_1016 : decode cL_acts 1016 = .ok (.goto 4, 3) := by decide +kernel
theorem dL_acts_1019 : decode cL_acts 1019 = .ok (.iconst 0, 1) := by decide +kernel
theorem dL_acts_1020 : decode cL_acts 1020 = .ok (.ireturn, 1) := by decide +kernel
theorem dL_acts_1021 : decode cL_acts 1021 = .ok (.aload_n 0, 1) := by decide +kernel
theorem dL_acts_1022 : decode cL_acts 1022 = .ok (.iload_n 2, 1) := by decide +kernel
theorem dL_acts_1023 : decode cL_acts 1023 = .ok (.invokestatic 114, 3) := by decide +kernel
theorem dL_acts_1026 : decode cL_acts 1026 = .ok (.ireturn, 1) := by decide +kernel
theorem dL_law_0 : decode cL_law 0 = .ok (.new 14, 3) := by decide +kernel
theorem dL_law_3 : decode cL_law 3 = .ok (.dup, 1) := by decide +kernel
theorem dL_law_4 : decode cL_law 4 = .ok (.invokespecial 117, 3) := by decide +kernel
theorem dL_law_7 : decode cL_law 7 = .ok (.astore_n 1, 1) := by decide +kernel
theorem dL_law_8 : decode cL_law 8 = .ok (.aload_n 1, 1) := by decide +kernel
theorem dL_law_9 : decode cL_law 9 = .ok (.invokestatic 118, 3) := by decide +kernel
theorem dL_law_12 : decode cL_law 12 = .ok (.ifCond .eq 40, 3) := by decide +kernel
theorem dL_law_15 : decode cL_law 15 = .ok (.aload_n 1, 1) := by decide +kernel
theorem dL_law_16 : decode cL_law 16 = .ok (.iconst 0, 1) := by decide +kernel
theorem dL_law_17 : decode cL_law 17 = .ok (.invokestatic 122, 3) := by decide +kernel
theorem dL_law_20 : decode cL_law 20 = .ok (.ifCond .eq 32, 3) := by decide +kernel
theorem dL_law_23 : decode cL_law 23 = .ok (.aload_n 1, 1) := by decide +kernel
theorem dL_law_24 : decode cL_law 24 = .ok (.invokevirtual 125, 3) := by decide +kernel
theorem dL_law_27 : decode cL_law 27 = .ok (.bipush (-2), 2) := by decide +kernel
theorem dL_law_29 : decode cL_law 29 = .ok (.if_icmp .ne 23, 3) := by decide +kernel
theorem dL_law_32 : decode cL_law 32 = .ok (.aload_n 1, 1) := by decide +kernel
theorem dL_law_33 : decode cL_law 33 = .ok (.invokevirtual 128, 3) := by decide +kernel
theorem dL_law_36 : decode cL_law 36 = .ok (.bipush (-2), 2) := by decide +kernel
theorem dL_law_38 : decode cL_law 38 = .ok (.if_icmp .ne 14, 3) := by decide +kernel
theorem dL_law_41 : decode cL_law 41 = .ok (.aload_n 1, 1) := by decide +kernel
theorem dL_law_42 : decode cL_law 42 = .ok (.invokevirtual 131, 3) := by decide +kernel
theorem dL_law_45 : decode cL_law 45 = .ok (.ifCond .ne 7, 3) := by decide +kernel
theorem dL_law_48 : decode cL_law 48 = .ok (.iconst 1, 1) := by decide +kernel
theorem dL_law_49 : decode cL_law 49 = .ok (.goto 4, 3) := by decide +kernel
theorem dL_law_52 : decode cL_law 52 = .ok (.iconst 0, 1) := by decide +kernel
theorem dL_law_53 : decode cL_law 53 = .ok (.istore_n 2, 1) := by decide +kernel
theorem dL_law_54 : decode cL_law 54 = .ok (.aload_n 1, 1) := by decide +kernel
theorem dL_law_55 : decode cL_law 55 = .ok (.invokestatic 82, 3) := by decide +kernel
theorem dL_law_58 : decode cL_law 58 = .ok (.lstore_n 3, 1) := by decide +kernel
theorem dL_law_59 : decode cL_law 59 = .ok (.iconst 0, 1) := by decide +kernel
theorem dL_law_60 : decode cL_law 60 = .ok (.istore 5, 2) := by decide +kernel
theorem dL_law_62 : decode cL_law 62 = .ok (.iload 5, 2) := by decide +kernel
theorem dL_law_64 : decode cL_law 64 = .ok (.bipush 52, 2) := by decide +kernel
theorem dL_law_66 : decode cL_law 66 = .ok (.if_icmp .ge 315, 3) := by decide +kernel
theorem dL_law_69 : decode cL_law 69 = .ok (.iload_n 2, 1) := by decide +kernel
theorem dL_law_70 : decode cL_law 70 = .ok (.ifCond .eq 311, 3) := by decide +kernel
theorem dL_law_73 : decode cL_law 73 = .ok (.aload_n 0, 1) := by decide +kernel
theorem dL_law_74 : decode cL_law 74 = .ok (.iconst 2, 1) := by decide +kernel
theorem dL_law_75 : decode cL_law 75 = .ok (.iload 5, 2) := by decide +kernel
theorem dL_law_77 : decode cL_law 77 = .ok (.imul, 1) := by decide +kernel
theorem dL_law_78 : decode cL_law 78 = .ok (.invokestatic 134, 3) := by decide +kernel
theorem dL_law_81 : decode cL_law 81 = .ok (.istore 6, 2) := by decide +kernel
theorem dL_law_83 : decode cL_law 83 = .ok (.aload_n 0, 1) := by decide +kernel
theorem dL_law_84 : decode cL_law 84 = .ok (.iconst 2, 1) := by decide +kernel
theorem dL_law_85 : decode cL_law 85 = .ok (.iload 5, 2) := by decide +kernel
theorem dL_law_87 : decode cL_law 87 = .ok (.imul, 1) := by decide +kernel
theorem dL_law_88 : decode cL_law 88 = .ok (.iconst 1, 1) := by decide +kernel
theorem dL_law_89 : decode cL_law 89 = .ok (.iadd, 1) := by decide +kernel
theorem dL_law_90 : decode cL_law 90 = .ok (.invokestatic 134, 3) := by decide +kernel
theorem dL_law_93 : decode cL_law 93 = .ok (.istore 7, 2) := by decide +kernel
theorem dL_law_95 : decode cL_law 95 = .ok (.aload_n 1, 1) := by decide +kernel
theorem dL_law_96 : decode cL_law 96 = .ok (.invokestatic 82, 3) := by decide +kernel
theorem dL_law_99 : decode cL_law 99 = .ok (.lstore 8, 2) := by decide +kernel
theorem dL_law_101 : decode cL_law 101 = .ok (.aload_n 1, 1) := by decide +kernel
theorem dL_law_102 : decode cL_law 102 = .ok (.bipush 18, 2) := by decide +kernel
theorem dL_law_104 : decode cL_law 104 = .ok (.invokevirtual 13, 3) := by decide +kernel
theorem dL_law_107 : decode cL_law 107 = .ok (.istore 10, 2) := by decide +kernel
theorem dL_law_109 : decode cL_law 109 = .ok (.aload_n 1, 1) := by decide +kernel
theorem dL_law_110 : decode cL_law 110 = .ok (.iload 6, 2) := by decide +kernel
theorem dL_law_112 : decode cL_law 112 = .ok (.iload 7, 2) := by decide +kernel
theorem dL_law_114 : decode cL_law 114 = .ok (.invokestatic 138, 3) := by decide +kernel
theorem dL_law_117 : decode cL_law 117 = .ok (.ifCond .eq 38, 3) := by decide +kernel
theorem dL_law_120 : decode cL_law 120 = .ok (.iload 5, 2) := by decide +kernel
theorem dL_law_122 : decode cL_law 122 = .ok (.iconst 3, 1) := by decide +kernel
theorem dL_law_123 : decode cL_law 123 = .ok (.irem, 1) := by decide +kernel
theorem dL_law_124 : decode cL_law 124 = .ok (.ifCond .gt 10, 3) := by decide +kernel
theorem dL_law_127 : decode cL_law 127 = .ok (.aload_n 1, 1) := by decide +kernel
theorem dL_law_128 : decode cL_law 128 = .ok (.invokestatic 118, 3) := by decide +kernel
theorem dL_law_131 : decode cL_law 131 = .ok (.ifCond .eq 24, 3) := by decide +kernel
theorem dL_law_134 : decode cL_law 134 = .ok (.iload 5, 2) := by decide +kernel
theorem dL_law_136 : decode cL_law 136 = .ok (.iconst 4, 1) := by decide +kernel
theorem dL_law_137 : decode cL_law 137 = .ok (.irem, 1) := by decide +kernel
theorem dL_law_138 : decode cL_law 138 = .ok (.iconst 2, 1) := by decide +kernel
theorem dL_law_139 : decode cL_law 139 = .ok (.if_icmp .ne 12, 3) := by decide +kernel
theorem dL_law_142 : decode cL_law 142 = .ok (.aload_n 1, 1) := by decide +kernel
theorem dL_law_143 : decode cL_law 143 = .ok (.iload 7, 2) := by decide +kernel
theorem dL_law_145 : decode cL_law 145 = .ok (.invokestatic 122, 3) := by decide +kernel
theorem dL_law_148 : decode cL_law 148 = .ok (.ifCond .eq 7, 3) := by decide +kernel
theorem dL_law_151 : decode cL_law 151 = .ok (.iconst 1, 1) := by decide +kernel
theorem dL_law_152 : decode cL_law 152 = .ok (.goto 4, 3) := by decide +kernel
theorem dL_law_155 : decode cL_law 155 = .ok (.iconst 0, 1) := by decide +kernel
theorem dL_law_156 : decode cL_law 156 = .ok (.istore_n 2, 1) := by decide +kernel
theorem dL_law_157 : decode cL_law 157 = .ok (.aload_n 1, 1) := by decide +kernel
theorem dL_law_158 : decode cL_law 158 = .ok (.bipush 18, 2) := by decide +kernel
theorem dL_law_160 : decode cL_law 160 = .ok (.invokevirtual 13, 3) := by decide +kernel
theorem dL_law_163 : decode cL_law 163 = .ok (.istore 11, 2) := by decide +kernel
theorem dL_law_165 : decode cL_law 165 = .ok (.iload_n 2, 1) := by decide +kernel
theorem dL_law_166 : decode cL_law 166 = .ok (.ifCond .eq 39, 3) := by decide +kernel
theorem dL_law_169 : decode cL_law 169 = .ok (.iload 11, 2) := by decide +kernel
theorem dL_law_171 : decode cL_law 171 = .ok (.iload 10, 2) := by decide +kernel
theorem dL_law_173 : decode cL_law 173 = .ok (.if_icmp .ne 19, 3) := by decide +kernel
theorem dL_law_176 : decode cL_law 176 = .ok (.iload 10, 2) := by decide +kernel
theorem dL_law_178 : decode cL_law 178 = .ok (.iconst 4, 1) := by decide +kernel
theorem dL_law_179 : decode cL_law 179 = .ok (.if_icmp .eq 22, 3) := by decide +kernel
theorem dL_law_182 : decode cL_law 182 = .ok (.aload_n 1, 1) := by decide +kernel
theorem dL_law_183 : decode cL_law 183 = .ok (.invokestatic 82, 3) := by decide +kernel
theorem dL_law_186 : decode cL_law 186 = .ok (.lload 8, 2) := by decide +kernel
theorem dL_law_188 : decode cL_law 188 = .ok (.lcmp, 1) := by decide +kernel
theorem dL_law_189 : decode cL_law 189 = .ok (.ifCond .eq 12, 3) := by decide +kernel
theorem dL_law_192 : decode cL_law 192 = .ok (.iload 11, 2) := by decide +kernel
theorem dL_law_194 : decode cL_law 194 = .ok (.iload 10, 2) := by decide +kernel
theorem dL_law_196 : decode cL_law 196 = .ok (.iconst 1, 1) := by decide +kernel
theorem dL_law_197 : decode cL_law 197 = .ok (.iadd, 1) := by decide +kernel
theorem dL_law_198 : decode cL_law 198 = .ok (.if_icmp .ne 7, 3) := by decide +kernel
theorem dL_law_201 : decode cL_law 201 = .ok (.iconst 1, 1) := by decide +kernel
theorem dL_law_202 : decode cL_law 202 = .ok (.goto 4, 3) := by decide +kernel
theorem dL_law_205 : decode cL_law 205 = .ok (.iconst 0, 1) := by decide +kernel
theorem dL_law_206 : decode cL_law 206 = .ok (.istore_n 2, 1) := by decide +kernel
theorem dL_law_207 : decode cL_law 207 = .ok (.iload_n 2, 1) := by decide +kernel
theorem dL_law_208 : decode cL_law 208 = .ok (.ifCond .eq 49, 3) := by decide +kernel
theorem dL_law_211 : decode cL_law 211 = .ok (.iload 11, 2) := by decide +kernel
theorem dL_law_213 : decode cL_law 213 = .ok (.iload 10, 2) := by decide +kernel
theorem dL_law_215 : decode cL_law 215 = .ok (.iconst 1, 1) := by decide +kernel
theorem dL_law_216 : decode cL_law 216 = .ok (.iadd, 1) := by decide +kernel
theorem dL_law_217 : decode cL_law 217 = .ok (.if_icmp .ne 40, 3) := by decide +kernel
theorem dL_law_220 : decode cL_law 220 = .ok (.iload 7, 2) := by decide +kernel
theorem dL_law_222 : decode cL_law 222 = .ok (.bipush 8, 2) := by decide +kernel
theorem dL_law_224 : decode cL_law 224 = .ok (.ishr, 1) := by decide +kernel
theorem dL_law_225 : decode cL_law 225 = .ok (.iconst 3, 1) := by decide +kernel
theorem dL_law_226 : decode cL_law 226 = .ok (.invokestatic 34, 3) := by decide +kernel
theorem dL_law_229 : decode cL_law 229 = .ok (.ifCond .ne 28, 3) := by decide +kernel
theorem dL_law_232 : decode cL_law 232 = .ok (.aload_n 1, 1) := by decide +kernel
theorem dL_law_233 : decode cL_law 233 = .ok (.invokevirtual 125, 3) := by decide +kernel
theorem dL_law_236 : decode cL_law 236 = .ok (.iload 10, 2) := by decide +kernel
theorem dL_law_238 : decode cL_law 238 = .ok (.if_icmp .ne 17, 3) := by decide +kernel
theorem dL_law_241 : decode cL_law 241 = .ok (.aload_n 1, 1) := by decide +kernel
theorem dL_law_242 : decode cL_law 242 = .ok (.invokestatic 82, 3) := by decide +kernel
theorem dL_law_245 : decode cL_law 245 = .ok (.lload 8, 2) := by decide +kernel
theorem dL_law_247 : decode cL_law 247 = .ok (.lcmp, 1) := by decide +kernel
theorem dL_law_248 : decode cL_law 248 = .ok (.ifCond .ne 7, 3) := by decide +kernel
theorem dL_law_251 : decode cL_law 251 = .ok (.iconst 1, 1) := by decide +kernel
theorem dL_law_252 : decode cL_law 252 = .ok (.goto 4, 3) := by decide +kernel
theorem dL_law_255 : decode cL_law 255 = .ok (.iconst 0, 1) := by decide +kernel
theorem dL_law_256 : decode cL_law 256 = .ok (.istore_n 2, 1) := by decide +kernel
theorem dL_law_257 : decode cL_law 257 = .ok (.iload_n 2, 1) := by decide +kernel
theorem dL_law_258 : decode cL_law 258 = .ok (.ifCond .eq 68, 3) := by decide +kernel
theorem dL_law_261 : decode cL_law 261 = .ok (.iload 5, 2) := by decide +kernel
theorem dL_law_263 : decode cL_law 263 = .ok (.bipush 15, 2) := by decide +kernel
theorem dL_law_265 : decode cL_law 265 = .ok (.irem, 1) := by decide +kernel
theorem dL_law_266 : decode cL_law 266 = .ok (.bipush 14, 2) := by decide +kernel
theorem dL_law_268 : decode cL_law 268 = .ok (.if_icmp .ne 58, 3) := by decide +kernel
theorem dL_law_271 : decode cL_law 271 = .ok (.aload_n 1, 1) := by decide +kernel
theorem dL_law_272 : decode cL_law 272 = .ok (.invokevirtual 128, 3) := by decide +kernel
theorem dL_law_275 : decode cL_law 275 = .ok (.istore 12, 2) := by decide +kernel
theorem dL_law_277 : decode cL_law 277 = .ok (.iload 12, 2) := by decide +kernel
theorem dL_law_279 : decode cL_law 279 = .ok (.aload_n 1, 1) := by decide +kernel
theorem dL_law_280 : decode cL_law 280 = .ok (.iconst 5, 1) := by decide +kernel
theorem dL_law_281 : decode cL_law 281 = .ok (.invokevirtual 13, 3) := by decide +kernel
theorem dL_law_284 : decode cL_law 284 = .ok (.if_icmp .ne 35, 3) := by decide +kernel
theorem dL_law_287 : decode cL_law 287 = .ok (.aload_n 1, 1) := by decide +kernel
theorem dL_law_288 : decode cL_law 288 = .ok (.invokestatic 82, 3) := by decide +kernel
theorem dL_law_291 : decode cL_law 291 = .ok (.lload_n 3, 1) := by decide +kernel
theorem dL_law_292 : decode cL_law 292 = .ok (.lcmp, 1) := by decide +kernel
theorem dL_law_293 : decode cL_law 293 = .ok (.ifCond .ne 26, 3) := by decide +kernel
theorem dL_law_296 : decode cL_law 296 = .ok (.aload_n 1, 1) := by decide +kernel
theorem dL_law_297 : decode cL_law 297 = .ok (.invokevirtual 125, 3) := by decide +kernel
theorem dL_law_300 : decode cL_law 300 = .ok (.ifCond .lt 19, 3) := by decide +kernel
theorem dL_law_303 : decode cL_law 303 = .ok (.aload_n 1, 1) := by decide +kernel
theorem dL_law_304 : decode cL_law 304 = .ok (.invokevirtual 131, 3) := by decide +kernel
theorem dL_law_307 : decode cL_law 307 = .ok (.aload_n 1, 1) := by decide +kernel
theorem dL_law_308 : decode cL_law 308 = .ok (.iconst 5, 1) := by decide +kernel
theorem dL_law_309 : decode cL_law 309 = .ok (.invokevirtual 13, 3) := by decide +kernel
theorem dL_law_312 : decode cL_law 312 = .ok (.if_icmp .ne 7, 3) := by decide +kernel
theorem dL_law_315 : decode cL_law 315 = .ok (.iconst 1, 1) := by decide +kernel
theorem dL_law_316 : decode cL_law 316 = .ok (.goto 4, 3) := by decide +kernel
theorem dL_law_319 : decode cL_law 319 = .ok (.iconst 0, 1) := by decide +kernel
theorem dL_law_320 : decode cL_law 320 = .ok (.istore_n 2, 1) := by decide +kernel
theorem dL_law_321 : decode cL_law 321 = .ok (.aload_n 1, 1) := by decide +kernel
theorem dL_law_322 : decode cL_law 322 = .ok (.invokestatic 82, 3) := by decide +kernel
theorem dL_law_325 : decode cL_law 325 = .ok (.lstore_n 3, 1) := by decide +kernel
theorem dL_law_326 : decode cL_law 326 = .ok (.iload_n 2, 1) := by decide +kernel
theorem dL_law_327 : decode cL_law 327 = .ok (.ifCond .eq 48, 3) := by decide +kernel
theorem dL_law_330 : decode cL_law 330 = .ok (.iload 5, 2) := by decide +kernel
theorem dL_law_332 : decode cL_law 332 = .ok (.bipush 11, 2) := by decide +kernel
theorem dL_law_334 : decode cL_law 334 = .ok (.irem, 1) := by decide +kernel
theorem dL_law_335 : decode cL_law 335 = .ok (.bipush 10, 2) := by decide +kernel
theorem dL_law_337 : decode cL_law 337 = .ok (.if_icmp .ne 38, 3) := by decide +kernel
theorem dL_law_340 : decode cL_law 340 = .ok (.aload_n 1, 1) := by decide +kernel
theorem dL_law_341 : decode cL_law 341 = .ok (.bipush 18, 2) := by decide +kernel
theorem dL_law_343 : decode cL_law 343 = .ok (.invokevirtual 13, 3) := by decide +kernel
theorem dL_law_346 : decode cL_law 346 = .ok (.istore 12, 2) := by decide +kernel
theorem dL_law_348 : decode cL_law 348 = .ok (.aload_n 1, 1) := by decide +kernel
theorem dL_law_349 : decode cL_law 349 = .ok (.invokevirtual 125, 3) := by decide +kernel
theorem dL_law_352 : decode cL_law 352 = .ok (.iload 12, 2) := by decide +kernel
theorem dL_law_354 : decode cL_law 354 = .ok (.ifCond .ne 8, 3) := by decide +kernel
theorem dL_law_357 : decode cL_law 357 = .ok (.bipush (-2), 2) := by decide +kernel
theorem dL_law_359 : decode cL_law 359 = .ok (.goto 7, 3) := by decide +kernel
theorem dL_law_362 : decode cL_law 362 = .ok (.iload 12, 2) := by decide +kernel
theorem dL_law_364 : decode cL_law 364 = .ok (.iconst 1, 1) := by decide +kernel
theorem dL_law_365 : decode cL_law 365 = .ok (.isub, 1) := by decide +kernel
theorem dL_law_366 : decode cL_law 366 = .ok (.if_icmp .ne 7, 3) := by decide +kernel
theorem dL_law_369 : decode cL_law 369 = .ok (.iconst 1, 1) := by decide +kernel
theorem dL_law_370 : decode cL_law 370 = .ok (.goto 4, 3) := by decide +kernel
theorem dL_law_373 : decode cL_law 373 = .ok (.iconst 0, 1) := by decide +kernel
theorem dL_law_374 : decode cL_law 374 = .ok (.istore_n 2, 1) := by decide +kernel
theorem dL_law_375 : decode cL_law 375 = .ok (.iinc 5 1, 3) := by decide +kernel
theorem dL_law_378 : decode cL_law 378 = .ok (.goto (-316), 3) := by decide +kernel
theorem dL_law_381 : decode cL_law 381 = .ok (.iload_n 2, 1) := by decide +kernel
theorem dL_law_382 : decode cL_law 382 = .ok (.ifCond .eq 14, 3) := by decide +kernel
theorem dL_law_385 : decode cL_law 385 = .ok (.aload_n 1, 1) := by decide +kernel
theorem dL_law_386 : decode cL_law 386 = .ok (.invokestatic 118, 3) := by decide +kernel
theorem dL_law_389 : decode cL_law 389 = .ok (.ifCond .eq 7, 3) := by decide +kernel
theorem dL_law_392 : decode cL_law 392 = .ok (.iconst 1, 1) := by decide +kernel
theorem dL_law_393 : decode cL_law 393 = .ok (.goto 4, 3) := by decide +kernel
theorem dL_law_396 : decode cL_law 396 = .ok (.iconst 0, 1) := by decide +kernel
theorem dL_law_397 : decode cL_law 397 = .ok (.ireturn, 1) := by decide +kernel

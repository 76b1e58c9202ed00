theorem dX8_init_0 : decode cX8_init 0 = .ok (.aload_n 0, 1) := by decide +kernel
theorem dX8_init_1 : decode cX8_init 1 = .ok (.invokespecial 1, 3) := by decide +kernel
theorem dX8_init_4 : decode cX8_init 4 = .ok (.aload_n 0, 1) := by decide +kernel
theorem dX8_init_5 : decode cX8_init 5 = .ok (.sipush 333, 3) := by decide +kernel
theorem dX8_init_8 : decode cX8_init 8 = .ok (.newarray .int, 2) := by decide +kernel
theorem dX8_init_10 : decode cX8_init 10 = .ok (.putfield 7, 3) := by decide +kernel
theorem dX8_init_13 : decode cX8_init 13 = .ok (.aload_n 0, 1) := by decide +kernel
theorem dX8_init_14 : decode cX8_init 14 = .ok (.sipush 333, 3) := by decide +kernel
theorem dX8_init_17 : decode cX8_init 17 = .ok (.newarray .int, 2) := by decide +kernel
theorem dX8_init_19 : decode cX8_init 19 = .ok (.putfield 13, 3) := by decide +kernel
theorem dX8_init_22 : decode cX8_init 22 = .ok (.aload_n 0, 1) := by decide +kernel
theorem dX8_init_23 : decode cX8_init 23 = .ok (.sipush 1332, 3) := by decide +kernel
theorem dX8_init_26 : decode cX8_init 26 = .ok (.newarray .int, 2) := by decide +kernel
theorem dX8_init_28 : decode cX8_init 28 = .ok (.putfield 16, 3) := by decide +kernel
theorem dX8_init_31 : decode cX8_init 31 = .ok (.aload_n 0, 1) := by decide +kernel
theorem dX8_init_32 : decode cX8_init 32 = .ok (.sipush 333, 3) := by decide +kernel
theorem dX8_init_35 : decode cX8_init 35 = .ok (.newarray .int, 2) := by decide +kernel
theorem dX8_init_37 : decode cX8_init 37 = .ok (.putfield 19, 3) := by decide +kernel
theorem dX8_init_40 : decode cX8_init 40 = .ok (.aload_n 0, 1) := by decide +kernel
theorem dX8_init_41 : decode cX8_init 41 = .ok (.bipush 60, 2) := by decide +kernel
theorem dX8_init_43 : decode cX8_init 43 = .ok (.newarray .int, 2) := by decide +kernel
theorem dX8_init_45 : decode cX8_init 45 = .ok (.putfield 22, 3) := by decide +kernel
theorem dX8_init_48 : decode cX8_init 48 = .ok (.aload_n 0, 1) := by decide +kernel
theorem dX8_init_49 : decode cX8_init 49 = .ok (.bipush 60, 2) := by decide +kernel
theorem dX8_init_51 : decode cX8_init 51 = .ok (.newarray .boolean, 2) := by decide +kernel
theorem dX8_init_53 : decode cX8_init 53 = .ok (.putfield 25, 3) := by decide +kernel
theorem dX8_init_56 : decode cX8_init 56 = .ok (.aload_n 0, 1) := by decide +kernel
theorem dX8_init_57 : decode cX8_init 57 = .ok (.bipush 16, 2) := by decide +kernel
theorem dX8_init_59 : decode cX8_init 59 = .ok (.newarray .int, 2) := by decide +kernel
theorem dX8_init_61 : decode cX8_init 61 = .ok (.putfield 29, 3) := by decide +kernel
theorem dX8_init_64 : decode cX8_init 64 = .ok (.aload_n 0, 1) := by decide +kernel
theorem dX8_init_65 : decode cX8_init 65 = .ok (.bipush 31, 2) := by decide +kernel
theorem dX8_init_67 : decode cX8_init 67 = .ok (.newarray .int, 2) := by decide +kernel
theorem dX8_init_69 : decode cX8_init 69 = .ok (.putfield 32, 3) := by decide +kernel
theorem dX8_init_72 : decode cX8_init 72 = .ok (.aload_n 0, 1) := by decide +kernel
theorem dX8_init_73 : decode cX8_init 73 = .ok (.sipush 310, 3) := by decide +kernel
theorem dX8_init_76 : decode cX8_init 76 = .ok (.newarray .int, 2) := by decide +kernel
theorem dX8_init_78 : decode cX8_init 78 = .ok (.putfield 35, 3) := by decide +kernel
theorem dX8_init_81 : decode cX8_init 81 = .ok (.aload_n 0, 1) := by decide +kernel
theorem dX8_init_82 : decode cX8_init 82 = .ok (.bipush 31, 2) := by decide +kernel
theorem dX8_init_84 : decode cX8_init 84 = .ok (.newarray .int, 2) := by decide +kernel
theorem dX8_init_86 : decode cX8_init 86 = .ok (.putfield 38, 3) := by decide +kernel
theorem dX8_init_89 : decode cX8_init 89 = .ok (.aload_n 0, 1) := by decide +kernel
theorem dX8_init_90 : decode cX8_init 90 = .ok (.getfield 7, 3) := by decide +kernel
theorem dX8_init_93 : decode cX8_init 93 = .ok (.iconst 2, 1) := by decide +kernel
theorem dX8_init_94 : decode cX8_init 94 = .ok (.iconst 5, 1) := by decide +kernel
theorem dX8_init_95 : decode cX8_init 95 = .ok (.iastore, 1) := by decide +kernel
theorem dX8_init_96 : decode cX8_init 96 = .ok (.aload_n 0, 1) := by decide +kernel
theorem dX8_init_97 : decode cX8_init 97 = .ok (.getfield 7, 3) := by decide +kernel
theorem dX8_init_100 : decode cX8_init 100 = .ok (.iconst 3, 1) := by decide +kernel
theorem dX8_init_101 : decode cX8_init 101 = .ok (.iconst 3, 1) := by decide +kernel
theorem dX8_init_102 : decode cX8_init 102 = .ok (.iastore, 1) := by decide +kernel
theorem dX8_init_103 : decode cX8_init 103 = .ok (.aload_n 0, 1) := by decide +kernel
theorem dX8_init_104 : decode cX8_init 104 = .ok (.getfield 7, 3) := by decide +kernel
theorem dX8_init_107 : decode cX8_init 107 = .ok (.iconst 4, 1) := by decide +kernel
theorem dX8_init_108 : decode cX8_init 108 = .ok (.iconst 2, 1) := by decide +kernel
theorem dX8_init_109 : decode cX8_init 109 = .ok (.iastore, 1) := by decide +kernel
theorem dX8_init_110 : decode cX8_init 110 = .ok (.aload_n 0, 1) := by decide +kernel
theorem dX8_init_111 : decode cX8_init 111 = .ok (.getfield 7, 3) := by decide +kernel
theorem dX8_init_114 : decode cX8_init 114 = .ok (.bipush 16, 2) := by decide +kernel
theorem dX8_init_116 : decode cX8_init 116 = .ok (.iconst 2, 1) := by decide +kernel
theorem dX8_init_117 : decode cX8_init 117 = .ok (.iastore, 1) := by decide +kernel
theorem dX8_init_118 : decode cX8_init 118 = .ok (.return_, 1) := by decide +kernel
theorem dX8_in_0 : decode cX8_in 0 = .ok (.iload_n 0, 1) := by decide +kernel
theorem dX8_in_1 : decode cX8_in 1 = .ok (.iload_n 1, 1) := by decide +kernel
theorem dX8_in_2 : decode cX8_in 2 = .ok (.if_icmp .lt 12, 3) := by decide +kernel
theorem dX8_in_5 : decode cX8_in 5 = .ok (.iload_n 0, 1) := by decide +kernel
theorem dX8_in_6 : decode cX8_in 6 = .ok (.iload_n 2, 1) := by decide +kernel
theorem dX8_in_7 : decode cX8_in 7 = .ok (.if_icmp .gt 7, 3) := by decide +kernel
theorem dX8_in_10 : decode cX8_in 10 = .ok (.iconst 1, 1) := by decide +kernel
theorem dX8_in_11 : decode cX8_in 11 = .ok (.goto 4, 3) := by decide +kernel
theorem dX8_in_14 : decode cX8_in 14 = .ok (.iconst 0, 1) := by decide +kernel
theorem dX8_in_15 : decode cX8_in 15 = .ok (.ireturn, 1) := by decide +kernel
theorem dX8_copies_0 : decode cX8_copies 0 = .ok (.iconst 0, 1) := by decide +kernel
theorem dX8_copies_1 : decode cX8_copies 1 = .ok (.istore 4, 2) := by decide +kernel
theorem dX8_copies_3 : decode cX8_copies 3 = .ok (.iload 4, 2) := by decide +kernel
theorem dX8_copies_5 : decode cX8_copies 5 = .ok (.sipush 333, 3) := by decide +kernel
theorem dX8_copies_8 : decode cX8_copies 8 = .ok (.if_icmp .ge 21, 3) := by decide +kernel
theorem dX8_copies_11 : decode cX8_copies 11 = .ok (.aload_n 2, 1) := by decide +kernel
theorem dX8_copies_12 : decode cX8_copies 12 = .ok (.iload_n 3, 1) := by decide +kernel
theorem dX8_copies_13 : decode cX8_copies 13 = .ok (.iload 4, 2) := by decide +kernel
theorem dX8_copies_15 : decode cX8_copies 15 = .ok (.iadd, 1) := by decide +kernel
theorem dX8_copies_16 : decode cX8_copies 16 = .ok (.aload_n 0, 1) := by decide +kernel
theorem dX8_copies_17 : decode cX8_copies 17 = .ok (.iload_n 1, 1) := by decide +kernel
theorem dX8_copies_18 : decode cX8_copies 18 = .ok (.iload 4, 2) := by decide +kernel
theorem dX8_copies_20 : decode cX8_copies 20 = .ok (.iadd, 1) := by decide +kernel
theorem dX8_copies_21 : decode cX8_copies 21 = .ok (.iaload, 1) := by decide +kernel
theorem dX8_copies_22 : decode cX8_copies 22 = .ok (.iastore, 1) := by decide +kernel
theorem dX8_copies_23 : decode cX8_copies 23 = .ok (.iinc 4 1, 3) := by decide +kernel
theorem dX8_copies_26 : decode cX8_copies 26 = .ok (.goto (-23), 3) := by decide +kernel
theorem dX8_copies_29 : decode cX8_copies 29 = .ok (.return_, 1) := by decide +kernel
theorem dX8_records_0 : decode cX8_records 0 = .ok (.aload_n 0, 1) := by decide +kernel
theorem dX8_records_1 : decode cX8_records 1 = .ok (.getfield 41, 3) := by decide +kernel
theorem dX8_records_4 : decode cX8_records 4 = .ok (.iconst 4, 1) := by decide +kernel
theorem dX8_records_5 : decode cX8_records 5 = .ok (.if_icmp .ne 44, 3) := by decide +kernel
theorem dX8_records_8 : decode cX8_records 8 = .ok (.iconst 0, 1) := by decide +kernel
theorem dX8_records_9 : decode cX8_records 9 = .ok (.istore_n 1, 1) := by decide +kernel
theorem dX8_records_10 : decode cX8_records 10 = .ok (.iload_n 1, 1) := by decide +kernel
theorem dX8_records_11 : decode cX8_records 11 = .ok (.sipush 999, 3) := by decide +kernel
theorem dX8_records_14 : decode cX8_records 14 = .ok (.if_icmp .ge 25, 3) := by decide +kernel
theorem dX8_records_17 : decode cX8_records 17 = .ok (.aload_n 0, 1) := by decide +kernel
theorem dX8_records_18 : decode cX8_records 18 = .ok (.getfield 16, 3) := by decide +kernel
theorem dX8_records_21 : decode cX8_records 21 = .ok (.iload_n 1, 1) := by decide +kernel
theorem dX8_records_22 : decode cX8_records 22 = .ok (.aload_n 0, 1) := by decide +kernel
theorem dX8_records_23 : decode cX8_records 23 = .ok (.getfield 16, 3) := by decide +kernel
theorem dX8_records_26 : decode cX8_records 26 = .ok (.iload_n 1, 1) := by decide +kernel
theorem dX8_records_27 : decode cX8_records 27 = .ok (.sipush 333, 3) := by decide +kernel
theorem dX8_records_30 : decode cX8_records 30 = .ok (.iadd, 1) := by decide +kernel
theorem dX8_records_31 : decode cX8_records 31 = .ok (.iaload, 1) := by decide +kernel
theorem dX8_records_32 : decode cX8_records 32 = .ok (.iastore, 1) := by decide +kernel
theorem dX8_records_33 : decode cX8_records 33 = .ok (.iinc 1 1, 3) := by decide +kernel
theorem dX8_records_36 : decode cX8_records 36 = .ok (.goto (-26), 3) := by decide +kernel
theorem dX8_records_39 : decode cX8_records 39 = .ok (.aload_n 0, 1) := by decide +kernel
theorem dX8_records_40 : decode cX8_records 40 = .ok (.dup, 1) := by decide +kernel
theorem dX8_records_41 : decode cX8_records 41 = .ok (.getfield 41, 3) := by decide +kernel
theorem dX8_records_44 : decode cX8_records 44 = .ok (.iconst 1, 1) := by decide +kernel
theorem dX8_records_45 : decode cX8_records 45 = .ok (.isub, 1) := by decide +kernel
theorem dX8_records_46 : decode cX8_records 46 = .ok (.putfield 41, 3) := by decide +kernel
theorem dX8_records_49 : decode cX8_records 49 = .ok (.aload_n 0, 1) := by decide +kernel
theorem dX8_records_50 : decode cX8_records 50 = .ok (.getfield 7, 3) := by decide +kernel
theorem dX8_records_53 : decode cX8_records 53 = .ok (.iconst 0, 1) := by decide +kernel
theorem dX8_records_54 : decode cX8_records 54 = .ok (.aload_n 0, 1) := by decide +kernel
theorem dX8_records_55 : decode cX8_records 55 = .ok (.getfield 16, 3) := by decide +kernel
theorem dX8_records_58 : decode cX8_records 58 = .ok (.sipush 333, 3) := by decide +kernel
theorem dX8_records_61 : decode cX8_records 61 = .ok (.aload_n 0, 1) := by decide +kernel
theorem dX8_records_62 : decode cX8_records 62 = .ok (.getfield 41, 3) := by decide +kernel
theorem dX8_records_65 : decode cX8_records 65 = .ok (.imul, 1) := by decide +kernel
theorem dX8_records_66 : decode cX8_records 66 = .ok (.invokestatic 45, 3) := by decide +kernel
theorem dX8_records_69 : decode cX8_records 69 = .ok (.aload_n 0, 1) := by decide +kernel
theorem dX8_records_70 : decode cX8_records 70 = .ok (.dup, 1) := by decide +kernel
theorem dX8_records_71 : decode cX8_records 71 = .ok (.getfield 41, 3) := by decide +kernel
theorem dX8_records_74 : decode cX8_records 74 = .ok (.iconst 1, 1) := by decide +kernel
theorem dX8_records_75 : decode cX8_records 75 = .ok (.iadd, 1) := by decide +kernel
theorem dX8_records_76 : decode cX8_records 76 = .ok (.putfield 41, 3) := by decide +kernel
theorem dX8_records_79 : decode cX8_records 79 = .ok (.return_, 1) := by decide +kernel
theorem dX8_isEmitter_0 : decode cX8_isEmitter 0 = .ok (.iload_n 1, 1) := by decide +kernel
theorem dX8_isEmitter_1 : decode cX8_isEmitter 1 = .ok (.iconst 0, 1) := by decide +kernel
theorem dX8_isEmitter_2 : decode cX8_isEmitter 2 = .ok (.aload_n 0, 1) := by decide +kernel
theorem dX8_isEmitter_3 : decode cX8_isEmitter 3 = .ok (.getfield 7, 3) := by decide +kernel
theorem dX8_isEmitter_6 : decode cX8_isEmitter 6 = .ok (.iconst 0, 1) := by decide +kernel
theorem dX8_isEmitter_7 : decode cX8_isEmitter 7 = .ok (.iaload, 1) := by decide +kernel
theorem dX8_isEmitter_8 : decode cX8_isEmitter 8 = .ok (.iconst 1, 1) := by decide +kernel
theorem dX8_isEmitter_9 : decode cX8_isEmitter 9 = .ok (.isub, 1) := by decide +kernel
theorem dX8_isEmitter_10 : decode cX8_isEmitter 10 = .ok (.invokestatic 49, 3) := by decide +kernel
theorem dX8_isEmitter_13 : decode cX8_isEmitter 13 = .ok (.ireturn, 1) := by decide +kernel
theorem dX8_ofEmitter_0 : decode cX8_ofEmitter 0 = .ok (.aload_n 0, 1) := by decide +kernel
theorem dX8_ofEmitter_1 : decode cX8_ofEmitter 1 = .ok (.getfield 7, 3) := by decide +kernel
theorem dX8_ofEmitter_4 : decode cX8_ofEmitter 4 = .ok (.bipush 17, 2) := by decide +kernel
theorem dX8_ofEmitter_6 : decode cX8_ofEmitter 6 = .ok (.iconst 4, 1) := by decide +kernel
theorem dX8_ofEmitter_7 : decode cX8_ofEmitter 7 = .ok (.iload_n 1, 1) := by decide +kernel
theorem dX8_ofEmitter_8 : decode cX8_ofEmitter 8 = .ok (.imul, 1) := by decide +kernel
theorem dX8_ofEmitter_9 : decode cX8_ofEmitter 9 = .ok (.iadd, 1) := by decide +kernel
theorem dX8_ofEmitter_10 : decode cX8_ofEmitter 10 = .ok (.iload_n 2, 1) := by decide +kernel
theorem dX8_ofEmitter_11 : decode cX8_ofEmitter 11 = .ok (.iadd, 1) := by decide +kernel
theorem dX8_ofEmitter_12 : decode cX8_ofEmitter 12 = .ok (.iaload, 1) := by decide +kernel
theorem dX8_ofEmitter_13 : decode cX8_ofEmitter 13 = .ok (.ireturn, 1) := by decide +kernel
theorem dX8_of_0 : decode cX8_of 0 = .ok (.aload_n 0, 1) := by decide +kernel
theorem dX8_of_1 : decode cX8_of 1 = .ok (.getfield 7, 3) := by decide +kernel
theorem dX8_of_4 : decode cX8_of 4 = .ok (.bipush 33, 2) := by decide +kernel
theorem dX8_of_6 : decode cX8_of 6 = .ok (.iconst 5, 1) := by decide +kernel
theorem dX8_of_7 : decode cX8_of 7 = .ok (.iload_n 1, 1) := by decide +kernel
theorem dX8_of_8 : decode cX8_of 8 = .ok (.imul, 1) := by decide +kernel
theorem dX8_of_9 : decode cX8_of 9 = .ok (.iadd, 1) := by decide +kernel
theorem dX8_of_10 : decode cX8_of 10 = .ok (.iload_n 2, 1) := by decide +kernel
theorem dX8_of_11 : decode cX8_of 11 = .ok (.iadd, 1) := by decide +kernel
theorem dX8_of_12 : decode cX8_of 12 = .ok (.iaload, 1) := by decide +kernel
theorem dX8_of_13 : decode cX8_of 13 = .ok (.ireturn, 1) := by decide +kernel
theorem dX8_lays_0 : decode cX8_lays 0 = .ok (.aload_n 0, 1) := by decide +kernel
theorem dX8_lays_1 : decode cX8_lays 1 = .ok (.getfield 7, 3) := by decide +kernel
theorem dX8_lays_4 : decode cX8_lays 4 = .ok (.bipush 33, 2) := by decide +kernel
theorem dX8_lays_6 : decode cX8_lays 6 = .ok (.iconst 5, 1) := by decide +kernel
theorem dX8_lays_7 : decode cX8_lays 7 = .ok (.iload_n 1, 1) := by decide +kernel
theorem dX8_lays_8 : decode cX8_lays 8 = .ok (.imul, 1) := by decide +kernel
theorem dX8_lays_9 : decode cX8_lays 9 = .ok (.iadd, 1) := by decide +kernel
theorem dX8_lays_10 : decode cX8_lays 10 = .ok (.iload_n 2, 1) := by decide +kernel
theorem dX8_lays_11 : decode cX8_lays 11 = .ok (.iadd, 1) := by decide +kernel
theorem dX8_lays_12 : decode cX8_lays 12 = .ok (.iload_n 3, 1) := by decide +kernel
theorem dX8_lays_13 : decode cX8_lays 13 = .ok (.iastore, 1) := by decide +kernel
theorem dX8_lays_14 : decode cX8_lays 14 = .ok (.return_, 1) := by decide +kernel
theorem dX8_addsEmitter_0 : decode cX8_addsEmitter 0 = .ok (.bipush 17, 2) := by decide +kernel
theorem dX8_addsEmitter_2 : decode cX8_addsEmitter 2 = .ok (.iconst 4, 1) := by decide +kernel
theorem dX8_addsEmitter_3 : decode cX8_addsEmitter 3 = .ok (.aload_n 0, 1) := by decide +kernel
theorem dX8_addsEmitter_4 : decode cX8_addsEmitter 4 = .ok (.getfield 7, 3) := by decide +kernel
theorem dX8_addsEmitter_7 : decode cX8_addsEmitter 7 = .ok (.iconst 0, 1) := by decide +kernel
theorem dX8_addsEmitter_8 : decode cX8_addsEmitter 8 = .ok (.iaload, 1) := by decide +kernel
theorem dX8_addsEmitter_9 : decode cX8_addsEmitter 9 = .ok (.imul, 1) := by decide +kernel
theorem dX8_addsEmitter_10 : decode cX8_addsEmitter 10 = .ok (.iadd, 1) := by decide +kernel
theorem dX8_addsEmitter_11 : decode cX8_addsEmitter 11 = .ok (.istore 5, 2) := by decide +kernel
theorem dX8_addsEmitter_13 : decode cX8_addsEmitter 13 = .ok (.aload_n 0, 1) := by decide +kernel
theorem dX8_addsEmitter_14 : decode cX8_addsEmitter 14 = .ok (.getfield 7, 3) := by decide +kernel
theorem dX8_addsEmitter_17 : decode cX8_addsEmitter 17 = .ok (.iload 5, 2) := by decide +kernel
theorem dX8_addsEmitter_19 : decode cX8_addsEmitter 19 = .ok (.iconst 0, 1) := by decide +kernel
theorem dX8_addsEmitter_20 : decode cX8_addsEmitter 20 = .ok (.iadd, 1) := by decide +kernel
theorem dX8_addsEmitter_21 : decode cX8_addsEmitter 21 = .ok (.iload_n 1, 1) := by decide +kernel
theorem dX8_addsEmitter_22 : decode cX8_addsEmitter 22 = .ok (.iastore, 1) := by decide +kernel
theorem dX8_addsEmitter_23 : decode cX8_addsEmitter 23 = .ok (.aload_n 0, 1) := by decide +kernel
theorem dX8_addsEmitter_24 : decode cX8_addsEmitter 24 = .ok (.getfield 7, 3) := by decide +kernel
theorem dX8_addsEmitter_27 : decode cX8_addsEmitter 27 = .ok (.iload 5, 2) := by decide +kernel
theorem dX8_addsEmitter_29 : decode cX8_addsEmitter 29 = .ok (.iconst 1, 1) := by decide +kernel
theorem dX8_addsEmitter_30 : decode cX8_addsEmitter 30 = .ok (.iadd, 1) := by decide +kernel
theorem dX8_addsEmitter_31 : decode cX8_addsEmitter 31 = .ok (.iload_n 2, 1) := by decide +kernel
theorem dX8_addsEmitter_32 : decode cX8_addsEmitter 32 = .ok (.iastore, 1) := by decide +kernel
theorem dX8_addsEmitter_33 : decode cX8_addsEmitter 33 = .ok (.aload_n 0, 1) := by decide +kernel
theorem dX8_addsEmitter_34 : decode cX8_addsEmitter 34 = .ok (.getfield 7, 3) := by decide +kernel
theorem dX8_addsEmitter_37 : decode cX8_addsEmitter 37 = .ok (.iload 5, 2) := by decide +kernel
theorem dX8_addsEmitter_39 : decode cX8_addsEmitter 39 = .ok (.iconst 2, 1) := by decide +kernel
theorem dX8_addsEmitter_40 : decode cX8_addsEmitter 40 = .ok (.iadd, 1) := by decide +kernel
theorem dX8_addsEmitter_41 : decode cX8_addsEmitter 41 = .ok (.iload_n 3, 1) := by decide +kernel
theorem dX8_addsEmitter_42 : decode cX8_addsEmitter 42 = .ok (.iastore, 1) := by decide +kernel
theorem dX8_addsEmitter_43 : decode cX8_addsEmitter 43 = .ok (.aload_n 0, 1) := by decide +kernel
theorem dX8_addsEmitter_44 : decode cX8_addsEmitter 44 = .ok (.getfield 7, 3) := by decide +kernel
theorem dX8_addsEmitter_47 : decode cX8_addsEmitter 47 = .ok (.iload 5, 2) := by decide +kernel
theorem dX8_addsEmitter_49 : decode cX8_addsEmitter 49 = .ok (.iconst 3, 1) := by decide +kernel
theorem dX8_addsEmitter_50 : decode cX8_addsEmitter 50 = .ok (.iadd, 1) := by decide +kernel
theorem dX8_addsEmitter_51 : decode cX8_addsEmitter 51 = .ok (.iload 4, 2) := by decide +kernel
theorem dX8_addsEmitter_53 : decode cX8_addsEmitter 53 = .ok (.iastore, 1) := by decide +kernel
theorem dX8_addsEmitter_54 : decode cX8_addsEmitter 54 = .ok (.aload_n 0, 1) := by decide +kernel
theorem dX8_addsEmitter_55 : decode cX8_addsEmitter 55 = .ok (.getfield 7, 3) := by decide +kernel
theorem dX8_addsEmitter_58 : decode cX8_addsEmitter 58 = .ok (.iconst 0, 1) := by decide +kernel
theorem dX8_addsEmitter_59 : decode cX8_addsEmitter 59 = .ok (.dup2, 1) := by decide +kernel
theorem dX8_addsEmitter_60 : decode cX8_addsEmitter 60 = .ok (.iaload, 1) := by decide +kernel
theorem dX8_addsEmitter_61 : decode cX8_addsEmitter 61 = .ok (.iconst 1, 1) := by decide +kernel
theorem dX8_addsEmitter_62 : decode cX8_addsEmitter 62 = .ok (.iadd, 1) := by decide +kernel
theorem dX8_addsEmitter_63 : decode cX8_addsEmitter 63 = .ok (.iastore, 1) := by decide +kernel
theorem dX8_addsEmitter_64 : decode cX8_addsEmitter 64 = .ok (.return_, 1) := by decide +kernel
theorem dX8_dropsEmitter_0 : decode cX8_dropsEmitter 0 = .ok (.aload_n 0, 1) := by decide +kernel
theorem dX8_dropsEmitter_1 : decode cX8_dropsEmitter 1 = .ok (.getfield 7, 3) := by decide +kernel
theorem dX8_dropsEmitter_4 : decode cX8_dropsEmitter 4 = .ok (.iconst 0, 1) := by decide +kernel
theorem dX8_dropsEmitter_5 : decode cX8_dropsEmitter 5 = .ok (.dup2, 1) := by decide +kernel
theorem dX8_dropsEmitter_6 : decode cX8_dropsEmitter 6 = .ok (.iaload, 1) := by decide +kernel
theorem dX8_dropsEmitter_7 : decode cX8_dropsEmitter 7 = .ok (.iconst 1, 1) := by decide +kernel
theorem dX8_dropsEmitter_8 : decode cX8_dropsEmitter 8 = .ok (.isub, 1) := by decide +kernel
theorem dX8_dropsEmitter_9 : decode cX8_dropsEmitter 9 = .ok (.iastore, 1) := by decide +kernel
theorem dX8_dropsEmitter_10 : decode cX8_dropsEmitter 10 = .ok (.bipush 17, 2) := by decide +kernel
theorem dX8_dropsEmitter_12 : decode cX8_dropsEmitter 12 = .ok (.iconst 4, 1) := by decide +kernel
theorem dX8_dropsEmitter_13 : decode cX8_dropsEmitter 13 = .ok (.iload_n 1, 1) := by decide +kernel
theorem dX8_dropsEmitter_14 : decode cX8_dropsEmitter 14 = .ok (.imul, 1) := by decide +kernel
theorem dX8_dropsEmitter_15 : decode cX8_dropsEmitter 15 = .ok (.iadd, 1) := by decide +kernel
theorem dX8_dropsEmitter_16 : decode cX8_dropsEmitter 16 = .ok (.istore_n 2, 1) := by decide +kernel
theorem dX8_dropsEmitter_17 : decode cX8_dropsEmitter 17 = .ok (.iload_n 2, 1) := by decide +kernel
theorem dX8_dropsEmitter_18 : decode cX8_dropsEmitter 18 = .ok (.bipush 33, 2) := by decide +kernel
theorem dX8_dropsEmitter_20 : decode cX8_dropsEmitter 20 = .ok (.if_icmp .ge 35, 3) := by decide +kernel
theorem dX8_dropsEmitter_23 : decode cX8_dropsEmitter 23 = .ok (.aload_n 0, 1) := by decide +kernel
theorem dX8_dropsEmitter_24 : decode cX8_dropsEmitter 24 = .ok (.getfield 7, 3) := by decide +kernel
theorem dX8_dropsEmitter_27 : decode cX8_dropsEmitter 27 = .ok (.iload_n 2, 1) := by decide +kernel
theorem dX8_dropsEmitter_28 : decode cX8_dropsEmitter 28 = .ok (.iload_n 2, 1) := by decide +kernel
theorem dX8_dropsEmitter_29 : decode cX8_dropsEmitter 29 = .ok (.iconst 4, 1) := by decide +kernel
theorem dX8_dropsEmitter_30 : decode cX8_dropsEmitter 30 = .ok (.iadd, 1) := by decide +kernel
theorem dX8_dropsEmitter_31 : decode cX8_dropsEmitter 31 = .ok (.bipush 33, 2) := by decide +kernel
theorem dX8_dropsEmitter_33 : decode cX8_dropsEmitter 33 = .ok (.if_icmp .ge 14, 3) := by decide +kernel
theorem dX8_dropsEmitter_36 : decode cX8_dropsEmitter 36 = .ok (.aload_n 0, 1) := by decide +kernel
theorem dX8_dropsEmitter_37 : decode cX8_dropsEmitter 37 = .ok (.getfield 7, 3) := by decide +kernel
theorem dX8_dropsEmitter_40 : decode cX8_dropsEmitter 40 = .ok (.iload_n 2, 1) := by decide +kernel
theorem dX8_dropsEmitter_41 : decode cX8_dropsEmitter 41 = .ok (.iconst 4, 1) := by decide +kernel
theorem dX8_dropsEmitter_42 : decode cX8_dropsEmitter 42 = .ok (.iadd, 1) := by decide +kernel
theorem dX8_dropsEmitter_43 : decode cX8_dropsEmitter 43 = .ok (.iaload, 1) := by decide +kernel
theorem dX8_dropsEmitter_44 : decode cX8_dropsEmitter 44 = .ok (.goto 4, 3) := by decide +kernel
theorem dX8_dropsEmitter_47 : decode cX8_dropsEmitter 47 = .ok (.iconst 0, 1) := by decide +kernel
theorem dX8_dropsEmitter_48 : decode cX8_dropsEmitter 48 = .ok (.iastore, 1) := by decide +kernel
theorem dX8_dropsEmitter_49 : decode cX8_dropsEmitter 49 = .ok (.iinc 2 1, 3) := by decide +kernel
theorem dX8_dropsEmitter_52 : decode cX8_dropsEmitter 52 = .ok (.goto (-35), 3) := by decide +kernel
theorem dX8_dropsEmitter_55 : decode cX8_dropsEmitter 55 = .ok (.return_, 1) := by decide +kernel
theorem dX8_takesAway_0 : decode cX8_takesAway 0 = .ok (.iconst 0, 1) := by decide +kernel
theorem dX8_takesAway_1 : decode cX8_takesAway 1 = .ok (.istore_n 1, 1) := by decide +kernel
theorem dX8_takesAway_2 : decode cX8_takesAway 2 = .ok (.aload_n 0, 1) := by decide +kernel
theorem dX8_takesAway_3 : decode cX8_takesAway 3 = .ok (.getfield 7, 3) := by decide +kernel
theorem dX8_takesAway_6 : decode cX8_takesAway 6 = .ok (.iconst 1, 1) := by decide +kernel
theorem dX8_takesAway_7 : decode cX8_takesAway 7 = .ok (.iaload, 1) := by decide +kernel
theorem dX8_takesAway_8 : decode cX8_takesAway 8 = .ok (.istore_n 2, 1) := by decide +kernel
theorem dX8_takesAway_9 : decode cX8_takesAway 9 = .ok (.iconst 0, 1) := by decide +kernel
theorem dX8_takesAway_10 : decode cX8_takesAway 10 = .ok (.istore_n 3, 1) := by decide +kernel
theorem dX8_takesAway_11 : decode cX8_takesAway 11 = .ok (.iload_n 3, 1) := by decide +kernel
theorem dX8_takesAway_12 : decode cX8_takesAway 12 = .ok (.iload_n 2, 1) := by decide +kernel
theorem dX8_takesAway_13 : decode cX8_takesAway 13 = .ok (.if_icmp .ge 64, 3) := by decide +kernel
theorem dX8_takesAway_16 : decode cX8_takesAway 16 = .ok (.iconst 0, 1) := by decide +kernel
theorem dX8_takesAway_17 : decode cX8_takesAway 17 = .ok (.istore 4, 2) := by decide +kernel
theorem dX8_takesAway_19 : decode cX8_takesAway 19 = .ok (.iload 4, 2) := by decide +kernel
theorem dX8_takesAway_21 : decode cX8_takesAway 21 = .ok (.iconst 5, 1) := by decide +kernel
theorem dX8_takesAway_22 : decode cX8_takesAway 22 = .ok (.if_icmp .ge 32, 3) := by decide +kernel
theorem dX8_takesAway_25 : decode cX8_takesAway 25 = .ok (.aload_n 0, 1) := by decide +kernel
theorem dX8_takesAway_26 : decode cX8_takesAway 26 = .ok (.getfield 25, 3) := by decide +kernel
theorem dX8_takesAway_29 : decode cX8_takesAway 29 = .ok (.iload_n 3, 1) := by decide +kernel
theorem dX8_takesAway_30 : decode cX8_takesAway 30 = .ok (.baload, 1) := by decide +kernel
theorem dX8_takesAway_31 : decode cX8_takesAway 31 = .ok (.ifCond .ne 23, 3) := by decide +kernel
theorem dX8_takesAway_34 : decode cX8_takesAway 34 = .ok (.aload_n 0, 1) := by decide +kernel
theorem dX8_takesAway_35 : decode cX8_takesAway 35 = .ok (.iload_n 1, 1) := by decide +kernel
theorem dX8_takesAway_36 : decode cX8_takesAway 36 = .ok (.iload 4, 2) := by decide +kernel
theorem dX8_takesAway_38 : decode cX8_takesAway 38 = .ok (.aload_n 0, 1) := by decide +kernel
theorem dX8_takesAway_39 : decode cX8_takesAway 39 = .ok (.iload_n 3, 1) := by decide +kernel
theorem dX8_takesAway_40 : decode cX8_takesAway 40 = .ok (.iload 4, 2) := by decide +kernel
theorem dX8_takesAway_42 : decode cX8_takesAway 42 = .ok (.invokevirtual 53, 3) := by decide +kernel
theorem dX8_takesAway_45 : decode cX8_takesAway 45 = .ok (.invokevirtual 57, 3) := by decide +kernel
theorem dX8_takesAway_48 : decode cX8_takesAway 48 = .ok (.iinc 4 1, 3) := by decide +kernel
theorem dX8_takesAway_51 : decode cX8_takesAway 51 = .ok (.goto (-32), 3) := by decide +kernel
theorem dX8_takesAway_54 : decode cX8_takesAway 54 = .ok (.iload_n 1, 1) := by decide +kernel
theorem dX8_takesAway_55 : decode cX8_takesAway 55 = .ok (.aload_n 0, 1) := by decide +kernel
theorem dX8_takesAway_56 : decode cX8_takesAway 56 = .ok (.getfield 25, 3) := by decide +kernel
theorem dX8_takesAway_59 : decode cX8_takesAway 59 = .ok (.iload_n 3, 1) := by decide +kernel
theorem dX8_takesAway_60 : decode cX8_takesAway 60 = .ok (.baload, 1) := by decide +kernel
theorem dX8_takesAway_61 : decode cX8_takesAway 61 = .ok (.ifCond .eq 7, 3) := by decide +kernel
theorem dX8_takesAway_64 : decode cX8_takesAway 64 = .ok (.iconst 0, 1) := by decide +kernel
theorem dX8_takesAway_65 : decode cX8_takesAway 65 = .ok (.goto 4, 3) := by decide +kernel
theorem dX8_takesAway_68 : decode cX8_takesAway 68 = .ok (.iconst 1, 1) := by decide +kernel
theorem dX8_takesAway_69 : decode cX8_takesAway 69 = .ok (.iadd, 1) := by decide +kernel
theorem dX8_takesAway_70 : decode cX8_takesAway 70 = .ok (.istore_n 1, 1) := by decide +kernel
theorem dX8_takesAway_71 : decode cX8_takesAway 71 = .ok (.iinc 3 1, 3) := by decide +kernel
theorem dX8_takesAway_74 : decode cX8_takesAway 74 = .ok (.goto (-63), 3) := by decide +kernel
theorem dX8_takesAway_77 : decode cX8_takesAway 77 = .ok (.aload_n 0, 1) := by decide +kernel
theorem dX8_takesAway_78 : decode cX8_takesAway 78 = .ok (.getfield 7, 3) := by decide +kernel
theorem dX8_takesAway_81 : decode cX8_takesAway 81 = .ok (.iconst 1, 1) := by decide +kernel
theorem dX8_takesAway_82 : decode cX8_takesAway 82 = .ok (.iload_n 1, 1) := by decide +kernel
theorem dX8_takesAway_83 : decode cX8_takesAway 83 = .ok (.iastore, 1) := by decide +kernel
theorem dX8_takesAway_84 : decode cX8_takesAway 84 = .ok (.bipush 33, 2) := by decide +kernel
theorem dX8_takesAway_86 : decode cX8_takesAway 86 = .ok (.iconst 5, 1) := by decide +kernel
theorem dX8_takesAway_87 : decode cX8_takesAway 87 = .ok (.iload_n 1, 1) := by decide +kernel
theorem dX8_takesAway_88 : decode cX8_takesAway 88 = .ok (.imul, 1) := by decide +kernel
theorem dX8_takesAway_89 : decode cX8_takesAway 89 = .ok (.iadd, 1) := by decide +kernel
theorem dX8_takesAway_90 : decode cX8_takesAway 90 = .ok (.istore_n 3, 1) := by decide +kernel
theorem dX8_takesAway_91 : decode cX8_takesAway 91 = .ok (.iload_n 3, 1) := by decide +kernel
theorem dX8_takesAway_92 : decode cX8_takesAway 92 = .ok (.sipush 333, 3) := by decide +kernel
theorem dX8_takesAway_95 : decode cX8_takesAway 95 = .ok (.if_icmp .ge 16, 3) := by decide +kernel
theorem dX8_takesAway_98 : decode cX8_takesAway 98 = .ok (.aload_n 0, 1) := by decide +kernel
theorem dX8_takesAway_99 : decode cX8_takesAway 99 = .ok (.getfield 7, 3) := by decide +kernel
theorem dX8_takesAway_102 : decode cX8_takesAway 102 = .ok (.iload_n 3, 1) := by decide +kernel
theorem dX8_takesAway_103 : decode cX8_takesAway 103 = .ok (.iconst 0, 1) := by decide +kernel
theorem dX8_takesAway_104 : decode cX8_takesAway 104 = .ok (.iastore, 1) := by decide +kernel
theorem dX8_takesAway_105 : decode cX8_takesAway 105 = .ok (.iinc 3 1, 3) := by decide +kernel
theorem dX8_takesAway_108 : decode cX8_takesAway 108 = .ok (.goto (-17), 3) := by decide +kernel
theorem dX8_takesAway_111 : decode cX8_takesAway 111 = .ok (.iload_n 2, 1) := by decide +kernel
theorem dX8_takesAway_112 : decode cX8_takesAway 112 = .ok (.iload_n 1, 1) := by decide +kernel
theorem dX8_takesAway_113 : decode cX8_takesAway 113 = .ok (.isub, 1) := by decide +kernel
theorem dX8_takesAway_114 : decode cX8_takesAway 114 = .ok (.ireturn, 1) := by decide +kernel
theorem dX8_isAt_0 : decode cX8_isAt 0 = .ok (.aload_n 0, 1) := by decide +kernel
theorem dX8_isAt_1 : decode cX8_isAt 1 = .ok (.iload_n 1, 1) := by decide +kernel
theorem dX8_isAt_2 : decode cX8_isAt 2 = .ok (.iconst 0, 1) := by decide +kernel
theorem dX8_isAt_3 : decode cX8_isAt 3 = .ok (.invokevirtual 53, 3) := by decide +kernel
theorem dX8_isAt_6 : decode cX8_isAt 6 = .ok (.iload_n 2, 1) := by decide +kernel
theorem dX8_isAt_7 : decode cX8_isAt 7 = .ok (.if_icmp .ne 17, 3) := by decide +kernel
theorem dX8_isAt_10 : decode cX8_isAt 10 = .ok (.aload_n 0, 1) := by decide +kernel
theorem dX8_isAt_11 : decode cX8_isAt 11 = .ok (.iload_n 1, 1) := by decide +kernel
theorem dX8_isAt_12 : decode cX8_isAt 12 = .ok (.iconst 1, 1) := by decide +kernel
theorem dX8_isAt_13 : decode cX8_isAt 13 = .ok (.invokevirtual 53, 3) := by decide +kernel
theorem dX8_isAt_16 : decode cX8_isAt 16 = .ok (.iload_n 3, 1) := by decide +kernel
theorem dX8_isAt_17 : decode cX8_isAt 17 = .ok (.if_icmp .ne 7, 3) := by decide +kernel
theorem dX8_isAt_20 : decode cX8_isAt 20 = .ok (.iconst 1, 1) := by decide +kernel
theorem dX8_isAt_21 : decode cX8_isAt 21 = .ok (.goto 4, 3) := by decide +kernel
theorem dX8_isAt_24 : decode cX8_isAt 24 = .ok (.iconst 0, 1) := by decide +kernel
theorem dX8_isAt_25 : decode cX8_isAt 25 = .ok (.ireturn, 1) := by decide +kernel
theorem dX8_falls_0 : decode cX8_falls 0 = .ok (.iconst 0, 1) := by decide +kernel
theorem dX8_falls_1 : decode cX8_falls 1 = .ok (.istore_n 1, 1) := by decide +kernel
theorem dX8_falls_2 : decode cX8_falls 2 = .ok (.iload_n 1, 1) := by decide +kernel
theorem dX8_falls_3 : decode cX8_falls 3 = .ok (.aload_n 0, 1) := by decide +kernel
theorem dX8_falls_4 : decode cX8_falls 4 = .ok (.getfield 7, 3) := by decide +kernel
theorem dX8_falls_7 : decode cX8_falls 7 = .ok (.iconst 1, 1) := by decide +kernel
theorem dX8_falls_8 : decode cX8_falls 8 = .ok (.iaload, 1) := by decide +kernel
theorem dX8_falls_9 : decode cX8_falls 9 = .ok (.if_icmp .ge 151, 3) := by decide +kernel
theorem dX8_falls_12 : decode cX8_falls 12 = .ok (.aload_n 0, 1) := by decide +kernel
theorem dX8_falls_13 : decode cX8_falls 13 = .ok (.iload_n 1, 1) := by decide +kernel
theorem dX8_falls_14 : decode cX8_falls 14 = .ok (.iconst 2, 1) := by decide +kernel
theorem dX8_falls_15 : decode cX8_falls 15 = .ok (.invokevirtual 53, 3) := by decide +kernel
theorem dX8_falls_18 : decode cX8_falls 18 = .ok (.iconst 1, 1) := by decide +kernel
theorem dX8_falls_19 : decode cX8_falls 19 = .ok (.isub, 1) := by decide +kernel
theorem dX8_falls_20 : decode cX8_falls 20 = .ok (.istore_n 2, 1) := by decide +kernel
theorem dX8_falls_21 : decode cX8_falls 21 = .ok (.aload_n 0, 1) := by decide +kernel
theorem dX8_falls_22 : decode cX8_falls 22 = .ok (.iload_n 1, 1) := by decide +kernel
theorem dX8_falls_23 : decode cX8_falls 23 = .ok (.iconst 1, 1) := by decide +kernel
theorem dX8_falls_24 : decode cX8_falls 24 = .ok (.invokevirtual 53, 3) := by decide +kernel
theorem dX8_falls_27 : decode cX8_falls 27 = .ok (.iload_n 2, 1) := by decide +kernel
theorem dX8_falls_28 : decode cX8_falls 28 = .ok (.iadd, 1) := by decide +kernel
theorem dX8_falls_29 : decode cX8_falls 29 = .ok (.iconst 0, 1) := by decide +kernel
theorem dX8_falls_30 : decode cX8_falls 30 = .ok (.bipush 9, 2) := by decide +kernel
theorem dX8_falls_32 : decode cX8_falls 32 = .ok (.invokestatic 49, 3) := by decide +kernel
theorem dX8_falls_35 : decode cX8_falls 35 = .ok (.ifCond .ne 7, 3) := by decide +kernel
theorem dX8_falls_38 : decode cX8_falls 38 = .ok (.iconst 1, 1) := by decide +kernel
theorem dX8_falls_39 : decode cX8_falls 39 = .ok (.goto 4, 3) := by decide +kernel
theorem dX8_falls_42 : decode cX8_falls 42 = .ok (.iconst 0, 1) := by decide +kernel
theorem dX8_falls_43 : decode cX8_falls 43 = .ok (.istore_n 3, 1) := by decide +kernel
theorem dX8_falls_44 : decode cX8_falls 44 = .ok (.iload_n 3, 1) := by decide +kernel
theorem dX8_falls_45 : decode cX8_falls 45 = .ok (.ifCond .eq 19, 3) := by decide +kernel
theorem dX8_falls_48 : decode cX8_falls 48 = .ok (.aload_n 0, 1) := by decide +kernel
theorem dX8_falls_49 : decode cX8_falls 49 = .ok (.getfield 7, 3) := by decide +kernel
theorem dX8_falls_52 : decode cX8_falls 52 = .ok (.bipush 15, 2) := by decide +kernel
theorem dX8_falls_54 : decode cX8_falls 54 = .ok (.iaload, 1) := by decide +kernel
theorem dX8_falls_55 : decode cX8_falls 55 = .ok (.iconst 1, 1) := by decide +kernel
theorem dX8_falls_56 : decode cX8_falls 56 = .ok (.if_icmp .ne 8, 3) := by decide +kernel
theorem dX8_falls_59 : decode cX8_falls 59 = .ok (.iload_n 2, 1) := by decide +kernel
theorem dX8_falls_60 : decode cX8_falls 60 = .ok (.ineg, 1) := by decide +kernel
theorem dX8_falls_61 : decode cX8_falls 61 = .ok (.goto 4, 3) := by decide +kernel
theorem dX8_falls_64 : decode cX8_falls 64 = .ok (.iload_n 2, 1) := by decide +kernel
theorem dX8_falls_65 : decode cX8_falls 65 = .ok (.istore_n 2, 1) := by decide +kernel
theorem dX8_falls_66 : decode cX8_falls 66 = .ok (.aload_n 0, 1) := by decide +kernel
theorem dX8_falls_67 : decode cX8_falls 67 = .ok (.getfield 25, 3) := by decide +kernel
theorem dX8_falls_70 : decode cX8_falls 70 = .ok (.iload_n 1, 1) := by decide +kernel
theorem dX8_falls_71 : decode cX8_falls 71 = .ok (.aload_n 0, 1) := by decide +kernel
theorem dX8_falls_72 : decode cX8_falls 72 = .ok (.iload_n 1, 1) := by decide +kernel
theorem dX8_falls_73 : decode cX8_falls 73 = .ok (.iconst 0, 1) := by decide +kernel
theorem dX8_falls_74 : decode cX8_falls 74 = .ok (.invokevirtual 53, 3) := by decide +kernel
theorem dX8_falls_77 : decode cX8_falls 77 = .ok (.bipush 11, 2) := by decide +kernel
theorem dX8_falls_79 : decode cX8_falls 79 = .ok (.if_icmp .eq 17, 3) := by decide +kernel
theorem dX8_falls_82 : decode cX8_falls 82 = .ok (.iload_n 3, 1) := by decide +kernel
theorem dX8_falls_83 : decode cX8_falls 83 = .ok (.ifCond .eq 17, 3) := by decide +kernel
theorem dX8_falls_86 : decode cX8_falls 86 = .ok (.aload_n 0, 1) := by decide +kernel
theorem dX8_falls_87 : decode cX8_falls 87 = .ok (.getfield 7, 3) := by decide +kernel
theorem dX8_falls_90 : decode cX8_falls 90 = .ok (.bipush 15, 2) := by decide +kernel
theorem dX8_falls_92 : decode cX8_falls 92 = .ok (.iaload, 1) := by decide +kernel
theorem dX8_falls_93 : decode cX8_falls 93 = .ok (.ifCond .ne 7, 3) := by decide +kernel
theorem dX8_falls_96 : decode cX8_falls 96 = .ok (.iconst 1, 1) := by decide +kernel
theorem dX8_falls_97 : decode cX8_falls 97 = .ok (.goto 4, 3) := by decide +kernel
theorem dX8_falls_100 : decode cX8_falls 100 = .ok (.iconst 0, 1) := by decide +kernel
theorem dX8_falls_101 : decode cX8_falls 101 = .ok (.bastore, 1) := by decide +kernel
theorem dX8_falls_102 : decode cX8_falls 102 = .ok (.aload_n 0, 1) := by decide +kernel
theorem dX8_falls_103 : decode cX8_falls 103 = .ok (.iload_n 1, 1) := by decide +kernel
theorem dX8_falls_104 : decode cX8_falls 104 = .ok (.iconst 0, 1) := by decide +kernel
theorem dX8_falls_105 : decode cX8_falls 105 = .ok (.aload_n 0, 1) := by decide +kernel
theorem dX8_falls_106 : decode cX8_falls 106 = .ok (.iload_n 1, 1) := by decide +kernel
theorem dX8_falls_107 : decode cX8_falls 107 = .ok (.iconst 0, 1) := by decide +kernel
theorem dX8_falls_108 : decode cX8_falls 108 = .ok (.invokevirtual 53, 3) := by decide +kernel
theorem dX8_falls_111 : decode cX8_falls 111 = .ok (.iconst 1, 1) := by decide +kernel
theorem dX8_falls_112 : decode cX8_falls 112 = .ok (.iadd, 1) := by decide +kernel
theorem dX8_falls_113 : decode cX8_falls 113 = .ok (.invokevirtual 57, 3) := by decide +kernel
theorem dX8_falls_116 : decode cX8_falls 116 = .ok (.aload_n 0, 1) := by decide +kernel
theorem dX8_falls_117 : decode cX8_falls 117 = .ok (.iload_n 1, 1) := by decide +kernel
theorem dX8_falls_118 : decode cX8_falls 118 = .ok (.iconst 1, 1) := by decide +kernel
theorem dX8_falls_119 : decode cX8_falls 119 = .ok (.aload_n 0, 1) := by decide +kernel
theorem dX8_falls_120 : decode cX8_falls 120 = .ok (.iload_n 1, 1) := by decide +kernel
theorem dX8_falls_121 : decode cX8_falls 121 = .ok (.iconst 1, 1) := by decide +kernel
theorem dX8_falls_122 : decode cX8_falls 122 = .ok (.invokevirtual 53, 3) := by decide +kernel
theorem dX8_falls_125 : decode cX8_falls 125 = .ok (.iload_n 2, 1) := by decide +kernel
theorem dX8_falls_126 : decode cX8_falls 126 = .ok (.iadd, 1) := by decide +kernel
theorem dX8_falls_127 : decode cX8_falls 127 = .ok (.invokevirtual 57, 3) := by decide +kernel
theorem dX8_falls_130 : decode cX8_falls 130 = .ok (.aload_n 0, 1) := by decide +kernel
theorem dX8_falls_131 : decode cX8_falls 131 = .ok (.iload_n 1, 1) := by decide +kernel
theorem dX8_falls_132 : decode cX8_falls 132 = .ok (.iconst 2, 1) := by decide +kernel
theorem dX8_falls_133 : decode cX8_falls 133 = .ok (.iconst 1, 1) := by decide +kernel
theorem dX8_falls_134 : decode cX8_falls 134 = .ok (.aload_n 0, 1) := by decide +kernel
theorem dX8_falls_135 : decode cX8_falls 135 = .ok (.iload_n 1, 1) := by decide +kernel
theorem dX8_falls_136 : decode cX8_falls 136 = .ok (.iconst 3, 1) := by decide +kernel
theorem dX8_falls_137 : decode cX8_falls 137 = .ok (.invokevirtual 53, 3) := by decide +kernel
theorem dX8_falls_140 : decode cX8_falls 140 = .ok (.iconst 1, 1) := by decide +kernel
theorem dX8_falls_141 : decode cX8_falls 141 = .ok (.if_icmp .ne 8, 3) := by decide +kernel
theorem dX8_falls_144 : decode cX8_falls 144 = .ok (.iload_n 2, 1) := by decide +kernel
theorem dX8_falls_145 : decode cX8_falls 145 = .ok (.ineg, 1) := by decide +kernel
theorem dX8_falls_146 : decode cX8_falls 146 = .ok (.goto 4, 3) := by decide +kernel
theorem dX8_falls_149 : decode cX8_falls 149 = .ok (.iload_n 2, 1) := by decide +kernel
theorem dX8_falls_150 : decode cX8_falls 150 = .ok (.iadd, 1) := by decide +kernel
theorem dX8_falls_151 : decode cX8_falls 151 = .ok (.invokevirtual 57, 3) := by decide +kernel
theorem dX8_falls_154 : decode cX8_falls 154 = .ok (.iinc 1 1, 3) := by decide +kernel
theorem dX8_falls_157 : decode cX8_falls 157 = .ok (.goto (-155), 3) := by decide +kernel
theorem dX8_falls_160 : decode cX8_falls 160 = .ok (.aload_n 0, 1) := by decide +kernel
theorem dX8_falls_161 : decode cX8_falls 161 = .ok (.getfield 7, 3) := by decide +kernel
theorem dX8_falls_164 : decode cX8_falls 164 = .ok (.bipush 9, 2) := by decide +kernel
theorem dX8_falls_166 : decode cX8_falls 166 = .ok (.dup2, 1) := by decide +kernel
theorem dX8_falls_167 : decode cX8_falls 167 = .ok (.iaload, 1) := by decide +kernel
theorem dX8_falls_168 : decode cX8_falls 168 = .ok (.aload_n 0, 1) := by decide +kernel
theorem dX8_falls_169 : decode cX8_falls 169 = .ok (.invokevirtual 61, 3) := by decide +kernel
theorem dX8_falls_172 : decode cX8_falls 172 = .ok (.iadd, 1) := by decide +kernel
theorem dX8_falls_173 : decode cX8_falls 173 = .ok (.iastore, 1) := by decide +kernel
theorem dX8_falls_174 : decode cX8_falls 174 = .ok (.return_, 1) := by decide +kernel
theorem dX8_fires_0 : decode cX8_fires 0 = .ok (.aload_n 0, 1) := by decide +kernel
theorem dX8_fires_1 : decode cX8_fires 1 = .ok (.getfield 7, 3) := by decide +kernel
theorem dX8_fires_4 : decode cX8_fires 4 = .ok (.iconst 1, 1) := by decide +kernel
theorem dX8_fires_5 : decode cX8_fires 5 = .ok (.iaload, 1) := by decide +kernel
theorem dX8_fires_6 : decode cX8_fires 6 = .ok (.bipush 60, 2) := by decide +kernel
theorem dX8_fires_8 : decode cX8_fires 8 = .ok (.if_icmp .ne 15, 3) := by decide +kernel
theorem dX8_fires_11 : decode cX8_fires 11 = .ok (.aload_n 0, 1) := by decide +kernel
theorem dX8_fires_12 : decode cX8_fires 12 = .ok (.getfield 7, 3) := by decide +kernel
theorem dX8_fires_15 : decode cX8_fires 15 = .ok (.bipush 8, 2) := by decide +kernel
theorem dX8_fires_17 : decode cX8_fires 17 = .ok (.dup2, 1) := by decide +kernel
theorem dX8_fires_18 : decode cX8_fires 18 = .ok (.iaload, 1) := by decide +kernel
theorem dX8_fires_19 : decode cX8_fires 19 = .ok (.iconst 1, 1) := by decide +kernel
theorem dX8_fires_20 : decode cX8_fires 20 = .ok (.iadd, 1) := by decide +kernel
theorem dX8_fires_21 : decode cX8_fires 21 = .ok (.iastore, 1) := by decide +kernel
theorem dX8_fires_22 : decode cX8_fires 22 = .ok (.return_, 1) := by decide +kernel
theorem dX8_fires_23 : decode cX8_fires 23 = .ok (.aload_n 0, 1) := by decide +kernel
theorem dX8_fires_24 : decode cX8_fires 24 = .ok (.getfield 7, 3) := by decide +kernel
theorem dX8_fires_27 : decode cX8_fires 27 = .ok (.iconst 1, 1) := by decide +kernel
theorem dX8_fires_28 : decode cX8_fires 28 = .ok (.iaload, 1) := by decide +kernel
theorem dX8_fires_29 : decode cX8_fires 29 = .ok (.istore 4, 2) := by decide +kernel
theorem dX8_fires_31 : decode cX8_fires 31 = .ok (.aload_n 0, 1) := by decide +kernel
theorem dX8_fires_32 : decode cX8_fires 32 = .ok (.iload 4, 2) := by decide +kernel
theorem dX8_fires_34 : decode cX8_fires 34 = .ok (.iconst 0, 1) := by decide +kernel
theorem dX8_fires_35 : decode cX8_fires 35 = .ok (.iconst 0, 1) := by decide +kernel
theorem dX8_fires_36 : decode cX8_fires 36 = .ok (.invokevirtual 57, 3) := by decide +kernel
theorem dX8_fires_39 : decode cX8_fires 39 = .ok (.aload_n 0, 1) := by decide +kernel
theorem dX8_fires_40 : decode cX8_fires 40 = .ok (.iload 4, 2) := by decide +kernel
theorem dX8_fires_42 : decode cX8_fires 42 = .ok (.iconst 1, 1) := by decide +kernel
theorem dX8_fires_43 : decode cX8_fires 43 = .ok (.iload_n 1, 1) := by decide +kernel
theorem dX8_fires_44 : decode cX8_fires 44 = .ok (.invokevirtual 57, 3) := by decide +kernel
theorem dX8_fires_47 : decode cX8_fires 47 = .ok (.aload_n 0, 1) := by decide +kernel
theorem dX8_fires_48 : decode cX8_fires 48 = .ok (.iload 4, 2) := by decide +kernel
theorem dX8_fires_50 : decode cX8_fires 50 = .ok (.iconst 2, 1) := by decide +kernel
theorem dX8_fires_51 : decode cX8_fires 51 = .ok (.iconst 1, 1) := by decide +kernel
theorem dX8_fires_52 : decode cX8_fires 52 = .ok (.iload_n 2, 1) := by decide +kernel
theorem dX8_fires_53 : decode cX8_fires 53 = .ok (.iadd, 1) := by decide +kernel
theorem dX8_fires_54 : decode cX8_fires 54 = .ok (.invokevirtual 57, 3) := by decide +kernel
theorem dX8_fires_57 : decode cX8_fires 57 = .ok (.aload_n 0, 1) := by decide +kernel
theorem dX8_fires_58 : decode cX8_fires 58 = .ok (.iload 4, 2) := by decide +kernel
theorem dX8_fires_60 : decode cX8_fires 60 = .ok (.iconst 3, 1) := by decide +kernel
theorem dX8_fires_61 : decode cX8_fires 61 = .ok (.iload_n 3, 1) := by decide +kernel
theorem dX8_fires_62 : decode cX8_fires 62 = .ok (.invokevirtual 57, 3) := by decide +kernel
theorem dX8_fires_65 : decode cX8_fires 65 = .ok (.aload_n 0, 1) := by decide +kernel
theorem dX8_fires_66 : decode cX8_fires 66 = .ok (.iload 4, 2) := by decide +kernel
theorem dX8_fires_68 : decode cX8_fires 68 = .ok (.iconst 4, 1) := by decide +kernel
theorem dX8_fires_69 : decode cX8_fires 69 = .ok (.iconst 0, 1) := by decide +kernel
theorem dX8_fires_70 : decode cX8_fires 70 = .ok (.invokevirtual 57, 3) := by decide +kernel
theorem dX8_fires_73 : decode cX8_fires 73 = .ok (.aload_n 0, 1) := by decide +kernel
theorem dX8_fires_74 : decode cX8_fires 74 = .ok (.getfield 7, 3) := by decide +kernel
theorem dX8_fires_77 : decode cX8_fires 77 = .ok (.iconst 1, 1) := by decide +kernel
theorem dX8_fires_78 : decode cX8_fires 78 = .ok (.dup2, 1) := by decide +kernel
theorem dX8_fires_79 : decode cX8_fires 79 = .ok (.iaload, 1) := by decide +kernel
theorem dX8_fires_80 : decode cX8_fires 80 = .ok (.iconst 1, 1) := by decide +kernel
theorem dX8_fires_81 : decode cX8_fires 81 = .ok (.iadd, 1) := by decide +kernel
theorem dX8_fires_82 : decode cX8_fires 82 = .ok (.iastore, 1) := by decide +kernel
theorem dX8_fires_83 : decode cX8_fires 83 = .ok (.aload_n 0, 1) := by decide +kernel
theorem dX8_fires_84 : decode cX8_fires 84 = .ok (.getfield 7, 3) := by decide +kernel
theorem dX8_fires_87 : decode cX8_fires 87 = .ok (.bipush 7, 2) := by decide +kernel
theorem dX8_fires_89 : decode cX8_fires 89 = .ok (.dup2, 1) := by decide +kernel
theorem dX8_fires_90 : decode cX8_fires 90 = .ok (.iaload, 1) := by decide +kernel
theorem dX8_fires_91 : decode cX8_fires 91 = .ok (.iconst 1, 1) := by decide +kernel
theorem dX8_fires_92 : decode cX8_fires 92 = .ok (.iadd, 1) := by decide +kernel
theorem dX8_fires_93 : decode cX8_fires 93 = .ok (.iastore, 1) := by decide +kernel
theorem dX8_fires_94 : decode cX8_fires 94 = .ok (.return_, 1) := by decide +kernel
theorem dX8_firesPattern_0 : decode cX8_firesPattern 0 = .ok (.iload_n 2, 1) := by decide +kernel
theorem dX8_firesPattern_1 : decode cX8_firesPattern 1 = .ok (.tableswitch 113 0 4 #[35, 45, 55, 65, 75], 35) := by decide +kernel
theorem dX8_firesPattern_36 : decode cX8_firesPattern 36 = .ok (.aload_n 0, 1) := by decide +kernel
theorem dX8_firesPattern_37 : decode cX8_firesPattern 37 = .ok (.iload_n 1, 1) := by decide +kernel
theorem dX8_firesPattern_38 : decode cX8_firesPattern 38 = .ok (.iconst 0, 1) := by decide +kernel
theorem dX8_firesPattern_39 : decode cX8_firesPattern 39 = .ok (.iconst 0, 1) := by decide +kernel
theorem dX8_firesPattern_40 : decode cX8_firesPattern 40 = .ok (.invokevirtual 65, 3) := by decide +kernel
theorem dX8_firesPattern_43 : decode cX8_firesPattern 43 = .ok (.goto 92, 3) := by decide +kernel
theorem dX8_firesPattern_46 : decode cX8_firesPattern 46 = .ok (.aload_n 0, 1) := by decide +kernel
theorem dX8_firesPattern_47 : decode cX8_firesPattern 47 = .ok (.iload_n 1, 1) := by decide +kernel
theorem dX8_firesPattern_48 : decode cX8_firesPattern 48 = .ok (.iconst (-1), 1) := by decide +kernel
theorem dX8_firesPattern_49 : decode cX8_firesPattern 49 = .ok (.iconst 0, 1) := by decide +kernel
theorem dX8_firesPattern_50 : decode cX8_firesPattern 50 = .ok (.invokevirtual 65, 3) := by decide +kernel
theorem dX8_firesPattern_53 : decode cX8_firesPattern 53 = .ok (.goto 82, 3) := by decide +kernel
theorem dX8_firesPattern_56 : decode cX8_firesPattern 56 = .ok (.aload_n 0, 1) := by decide +kernel
theorem dX8_firesPattern_57 : decode cX8_firesPattern 57 = .ok (.iload_n 1, 1) := by decide +kernel
theorem dX8_firesPattern_58 : decode cX8_firesPattern 58 = .ok (.iconst 1, 1) := by decide +kernel
theorem dX8_firesPattern_59 : decode cX8_firesPattern 59 = .ok (.iconst 0, 1) := by decide +kernel
theorem dX8_firesPattern_60 : decode cX8_firesPattern 60 = .ok (.invokevirtual 65, 3) := by decide +kernel
theorem dX8_firesPattern_63 : decode cX8_firesPattern 63 = .ok (.goto 72, 3) := by decide +kernel
theorem dX8_firesPattern_66 : decode cX8_firesPattern 66 = .ok (.aload_n 0, 1) := by decide +kernel
theorem dX8_firesPattern_67 : decode cX8_firesPattern 67 = .ok (.iload_n 1, 1) := by decide +kernel
theorem dX8_firesPattern_68 : decode cX8_firesPattern 68 = .ok (.iconst 1, 1) := by decide +kernel
theorem dX8_firesPattern_69 : decode cX8_firesPattern 69 = .ok (.iconst 1, 1) := by decide +kernel
theorem dX8_firesPattern_70 : decode cX8_firesPattern 70 = .ok (.invokevirtual 65, 3) := by decide +kernel
theorem dX8_firesPattern_73 : decode cX8_firesPattern 73 = .ok (.goto 62, 3) := by decide +kernel
theorem dX8_firesPattern_76 : decode cX8_firesPattern 76 = .ok (.aload_n 0, 1) := by decide +kernel
theorem dX8_firesPattern_77 : decode cX8_firesPattern 77 = .ok (.iload_n 1, 1) := by decide +kernel
theorem dX8_firesPattern_78 : decode cX8_firesPattern 78 = .ok (.aload_n 0, 1) := by decide +kernel
theorem dX8_firesPattern_79 : decode cX8_firesPattern 79 = .ok (.getfield 7, 3) := by decide +kernel
theorem dX8_firesPattern_82 : decode cX8_firesPattern 82 = .ok (.iconst 2, 1) := by decide +kernel
theorem dX8_firesPattern_83 : decode cX8_firesPattern 83 = .ok (.iaload, 1) := by decide +kernel
theorem dX8_firesPattern_84 : decode cX8_firesPattern 84 = .ok (.iload_n 1, 1) := by decide +kernel
theorem dX8_firesPattern_85 : decode cX8_firesPattern 85 = .ok (.if_icmp .ge 7, 3) := by decide +kernel
theorem dX8_firesPattern_88 : decode cX8_firesPattern 88 = .ok (.iconst (-1), 1) := by decide +kernel
theorem dX8_firesPattern_89 : decode cX8_firesPattern 89 = .ok (.goto 18, 3) := by decide +kernel
theorem dX8_firesPattern_92 : decode cX8_firesPattern 92 = .ok (.aload_n 0, 1) := by decide +kernel
theorem dX8_firesPattern_93 : decode cX8_firesPattern 93 = .ok (.getfield 7, 3) := by decide +kernel
theorem dX8_firesPattern_96 : decode cX8_firesPattern 96 = .ok (.iconst 2, 1) := by decide +kernel
theorem dX8_firesPattern_97 : decode cX8_firesPattern 97 = .ok (.iaload, 1) := by decide +kernel
theorem dX8_firesPattern_98 : decode cX8_firesPattern 98 = .ok (.iload_n 1, 1) := by decide +kernel
theorem dX8_firesPattern_99 : decode cX8_firesPattern 99 = .ok (.if_icmp .le 7, 3) := by decide +kernel
theorem dX8_firesPattern_102 : decode cX8_firesPattern 102 = .ok (.iconst 1, 1) := by decide +kernel
theorem dX8_firesPattern_103 : decode cX8_firesPattern 103 = .ok (.goto 4, 3) := by decide +kernel
theorem dX8_firesPattern_106 : decode cX8_firesPattern 106 = .ok (.iconst 0, 1) := by decide +kernel
theorem dX8_firesPattern_107 : decode cX8_firesPattern 107 = .ok (.iconst 0, 1) := by decide +kernel
theorem dX8_firesPattern_108 : decode cX8_firesPattern 108 = .ok (.invokevirtual 65, 3) := by decide +kernel
theorem dX8_firesPattern_111 : decode cX8_firesPattern 111 = .ok (.goto 24, 3) := by decide +kernel
theorem dX8_firesPattern_114 : decode cX8_firesPattern 114 = .ok (.aload_n 0, 1) := by decide +kernel
theorem dX8_firesPattern_115 : decode cX8_firesPattern 115 = .ok (.iload_n 1, 1) := by decide +kernel
theorem dX8_firesPattern_116 : decode cX8_firesPattern 116 = .ok (.iconst (-1), 1) := by decide +kernel
theorem dX8_firesPattern_117 : decode cX8_firesPattern 117 = .ok (.iconst 0, 1) := by decide +kernel
theorem dX8_firesPattern_118 : decode cX8_firesPattern 118 = .ok (.invokevirtual 65, 3) := by decide +kernel
theorem dX8_firesPattern_121 : decode cX8_firesPattern 121 = .ok (.aload_n 0, 1) := by decide +kernel
theorem dX8_firesPattern_122 : decode cX8_firesPattern 122 = .ok (.iload_n 1, 1) := by decide +kernel
theorem dX8_firesPattern_123 : decode cX8_firesPattern 123 = .ok (.iconst 0, 1) := by decide +kernel
theorem dX8_firesPattern_124 : decode cX8_firesPattern 124 = .ok (.iconst 0, 1) := by decide +kernel
theorem dX8_firesPattern_125 : decode cX8_firesPattern 125 = .ok (.invokevirtual 65, 3) := by decide +kernel
theorem dX8_firesPattern_128 : decode cX8_firesPattern 128 = .ok (.aload_n 0, 1) := by decide +kernel
theorem dX8_firesPattern_129 : decode cX8_firesPattern 129 = .ok (.iload_n 1, 1) := by decide +kernel
theorem dX8_firesPattern_130 : decode cX8_firesPattern 130 = .ok (.iconst 1, 1) := by decide +kernel
theorem dX8_firesPattern_131 : decode cX8_firesPattern 131 = .ok (.iconst 0, 1) := by decide +kernel
theorem dX8_firesPattern_132 : decode cX8_firesPattern 132 = .ok (.invokevirtual 65, 3) := by decide +kernel
theorem dX8_firesPattern_135 : decode cX8_firesPattern 135 = .ok (.return_, 1) := by decide +kernel
theorem dX8_moves_0 : decode cX8_moves 0 = .ok (.aload_n 0, 1) := by decide +kernel
theorem dX8_moves_1 : decode cX8_moves 1 = .ok (.getfield 7, 3) := by decide +kernel
theorem dX8_moves_4 : decode cX8_moves 4 = .ok (.iconst 5, 1) := by decide +kernel
theorem dX8_moves_5 : decode cX8_moves 5 = .ok (.dup2, 1) := by decide +kernel
theorem dX8_moves_6 : decode cX8_moves 6 = .ok (.iaload, 1) := by decide +kernel
theorem dX8_moves_7 : decode cX8_moves 7 = .ok (.iconst 1, 1) := by decide +kernel
theorem dX8_moves_8 : decode cX8_moves 8 = .ok (.iadd, 1) := by decide +kernel
theorem dX8_moves_9 : decode cX8_moves 9 = .ok (.iastore, 1) := by decide +kernel
theorem dX8_moves_10 : decode cX8_moves 10 = .ok (.aload_n 0, 1) := by decide +kernel
theorem dX8_moves_11 : decode cX8_moves 11 = .ok (.invokevirtual 68, 3) := by decide +kernel
theorem dX8_moves_14 : decode cX8_moves 14 = .ok (.iconst 0, 1) := by decide +kernel
theorem dX8_moves_15 : decode cX8_moves 15 = .ok (.istore_n 1, 1) := by decide +kernel
theorem dX8_moves_16 : decode cX8_moves 16 = .ok (.iload_n 1, 1) := by decide +kernel
theorem dX8_moves_17 : decode cX8_moves 17 = .ok (.aload_n 0, 1) := by decide +kernel
theorem dX8_moves_18 : decode cX8_moves 18 = .ok (.getfield 7, 3) := by decide +kernel
theorem dX8_moves_21 : decode cX8_moves 21 = .ok (.iconst 0, 1) := by decide +kernel
theorem dX8_moves_22 : decode cX8_moves 22 = .ok (.iaload, 1) := by decide +kernel
theorem dX8_moves_23 : decode cX8_moves 23 = .ok (.if_icmp .ge 47, 3) := by decide +kernel
theorem dX8_moves_26 : decode cX8_moves 26 = .ok (.aload_n 0, 1) := by decide +kernel
theorem dX8_moves_27 : decode cX8_moves 27 = .ok (.getfield 7, 3) := by decide +kernel
theorem dX8_moves_30 : decode cX8_moves 30 = .ok (.iconst 5, 1) := by decide +kernel
theorem dX8_moves_31 : decode cX8_moves 31 = .ok (.iaload, 1) := by decide +kernel
theorem dX8_moves_32 : decode cX8_moves 32 = .ok (.aload_n 0, 1) := by decide +kernel
theorem dX8_moves_33 : decode cX8_moves 33 = .ok (.iload_n 1, 1) := by decide +kernel
theorem dX8_moves_34 : decode cX8_moves 34 = .ok (.iconst 2, 1) := by decide +kernel
theorem dX8_moves_35 : decode cX8_moves 35 = .ok (.invokevirtual 71, 3) := by decide +kernel
theorem dX8_moves_38 : decode cX8_moves 38 = .ok (.irem, 1) := by decide +kernel
theorem dX8_moves_39 : decode cX8_moves 39 = .ok (.aload_n 0, 1) := by decide +kernel
theorem dX8_moves_40 : decode cX8_moves 40 = .ok (.iload_n 1, 1) := by decide +kernel
theorem dX8_moves_41 : decode cX8_moves 41 = .ok (.iconst 3, 1) := by decide +kernel
theorem dX8_moves_42 : decode cX8_moves 42 = .ok (.invokevirtual 71, 3) := by decide +kernel
theorem dX8_moves_45 : decode cX8_moves 45 = .ok (.if_icmp .ne 19, 3) := by decide +kernel
theorem dX8_moves_48 : decode cX8_moves 48 = .ok (.aload_n 0, 1) := by decide +kernel
theorem dX8_moves_49 : decode cX8_moves 49 = .ok (.aload_n 0, 1) := by decide +kernel
theorem dX8_moves_50 : decode cX8_moves 50 = .ok (.iload_n 1, 1) := by decide +kernel
theorem dX8_moves_51 : decode cX8_moves 51 = .ok (.iconst 0, 1) := by decide +kernel
theorem dX8_moves_52 : decode cX8_moves 52 = .ok (.invokevirtual 71, 3) := by decide +kernel
theorem dX8_moves_55 : decode cX8_moves 55 = .ok (.aload_n 0, 1) := by decide +kernel
theorem dX8_moves_56 : decode cX8_moves 56 = .ok (.iload_n 1, 1) := by decide +kernel
theorem dX8_moves_57 : decode cX8_moves 57 = .ok (.iconst 1, 1) := by decide +kernel
theorem dX8_moves_58 : decode cX8_moves 58 = .ok (.invokevirtual 71, 3) := by decide +kernel
theorem dX8_moves_61 : decode cX8_moves 61 = .ok (.invokevirtual 74, 3) := by decide +kernel
theorem dX8_moves_64 : decode cX8_moves 64 = .ok (.iinc 1 1, 3) := by decide +kernel
theorem dX8_moves_67 : decode cX8_moves 67 = .ok (.goto (-51), 3) := by decide +kernel
theorem dX8_moves_70 : decode cX8_moves 70 = .ok (.return_, 1) := by decide +kernel
theorem dX8_hits_0 : decode cX8_hits 0 = .ok (.iconst 0, 1) := by decide +kernel
theorem dX8_hits_1 : decode cX8_hits 1 = .ok (.istore_n 1, 1) := by decide +kernel
theorem dX8_hits_2 : decode cX8_hits 2 = .ok (.iload_n 1, 1) := by decide +kernel
theorem dX8_hits_3 : decode cX8_hits 3 = .ok (.aload_n 0, 1) := by decide +kernel
theorem dX8_hits_4 : decode cX8_hits 4 = .ok (.getfield 7, 3) := by decide +kernel
theorem dX8_hits_7 : decode cX8_hits 7 = .ok (.iconst 1, 1) := by decide +kernel
theorem dX8_hits_8 : decode cX8_hits 8 = .ok (.iaload, 1) := by decide +kernel
theorem dX8_hits_9 : decode cX8_hits 9 = .ok (.if_icmp .ge 28, 3) := by decide +kernel
theorem dX8_hits_12 : decode cX8_hits 12 = .ok (.aload_n 0, 1) := by decide +kernel
theorem dX8_hits_13 : decode cX8_hits 13 = .ok (.getfield 25, 3) := by decide +kernel
theorem dX8_hits_16 : decode cX8_hits 16 = .ok (.iload_n 1, 1) := by decide +kernel
theorem dX8_hits_17 : decode cX8_hits 17 = .ok (.aload_n 0, 1) := by decide +kernel
theorem dX8_hits_18 : decode cX8_hits 18 = .ok (.iload_n 1, 1) := by decide +kernel
theorem dX8_hits_19 : decode cX8_hits 19 = .ok (.bipush 11, 2) := by decide +kernel
theorem dX8_hits_21 : decode cX8_hits 21 = .ok (.aload_n 0, 1) := by decide +kernel
theorem dX8_hits_22 : decode cX8_hits 22 = .ok (.getfield 7, 3) := by decide +kernel
theorem dX8_hits_25 : decode cX8_hits 25 = .ok (.iconst 2, 1) := by decide +kernel
theorem dX8_hits_26 : decode cX8_hits 26 = .ok (.iaload, 1) := by decide +kernel
theorem dX8_hits_27 : decode cX8_hits 27 = .ok (.invokevirtual 78, 3) := by decide +kernel
theorem dX8_hits_30 : decode cX8_hits 30 = .ok (.bastore, 1) := by decide +kernel
theorem dX8_hits_31 : decode cX8_hits 31 = .ok (.iinc 1 1, 3) := by decide +kernel
theorem dX8_hits_34 : decode cX8_hits 34 = .ok (.goto (-32), 3) := by decide +kernel
theorem dX8_hits_37 : decode cX8_hits 37 = .ok (.aload_n 0, 1) := by decide +kernel
theorem dX8_hits_38 : decode cX8_hits 38 = .ok (.invokevirtual 61, 3) := by decide +kernel
theorem dX8_hits_41 : decode cX8_hits 41 = .ok (.istore_n 1, 1) := by decide +kernel
theorem dX8_hits_42 : decode cX8_hits 42 = .ok (.iload_n 1, 1) := by decide +kernel
theorem dX8_hits_43 : decode cX8_hits 43 = .ok (.ifCond .ne 5, 3) := by decide +kernel
theorem dX8_hits_46 : decode cX8_hits 46 = .ok (.iconst 0, 1) := by decide +kernel
theorem dX8_hits_47 : decode cX8_hits 47 = .ok (.ireturn, 1) := by decide +kernel
theorem dX8_hits_48 : decode cX8_hits 48 = .ok (.aload_n 0, 1) := by decide +kernel
theorem dX8_hits_49 : decode cX8_hits 49 = .ok (.getfield 7, 3) := by decide +kernel
theorem dX8_hits_52 : decode cX8_hits 52 = .ok (.bipush 10, 2) := by decide +kernel
theorem dX8_hits_54 : decode cX8_hits 54 = .ok (.dup2, 1) := by decide +kernel
theorem dX8_hits_55 : decode cX8_hits 55 = .ok (.iaload, 1) := by decide +kernel
theorem dX8_hits_56 : decode cX8_hits 56 = .ok (.iload_n 1, 1) := by decide +kernel
theorem dX8_hits_57 : decode cX8_hits 57 = .ok (.iadd, 1) := by decide +kernel
theorem dX8_hits_58 : decode cX8_hits 58 = .ok (.iastore, 1) := by decide +kernel
theorem dX8_hits_59 : decode cX8_hits 59 = .ok (.aload_n 0, 1) := by decide +kernel
theorem dX8_hits_60 : decode cX8_hits 60 = .ok (.getfield 7, 3) := by decide +kernel
theorem dX8_hits_63 : decode cX8_hits 63 = .ok (.bipush 14, 2) := by decide +kernel
theorem dX8_hits_65 : decode cX8_hits 65 = .ok (.dup2, 1) := by decide +kernel
theorem dX8_hits_66 : decode cX8_hits 66 = .ok (.iaload, 1) := by decide +kernel
theorem dX8_hits_67 : decode cX8_hits 67 = .ok (.iconst 1, 1) := by decide +kernel
theorem dX8_hits_68 : decode cX8_hits 68 = .ok (.iadd, 1) := by decide +kernel
theorem dX8_hits_69 : decode cX8_hits 69 = .ok (.iastore, 1) := by decide +kernel
theorem dX8_hits_70 : decode cX8_hits 70 = .ok (.aload_n 0, 1) := by decide +kernel
theorem dX8_hits_71 : decode cX8_hits 71 = .ok (.getfield 7, 3) := by decide +kernel
theorem dX8_hits_74 : decode cX8_hits 74 = .ok (.bipush 6, 2) := by decide +kernel
theorem dX8_hits_76 : decode cX8_hits 76 = .ok (.aload_n 0, 1) := by decide +kernel
theorem dX8_hits_77 : decode cX8_hits 77 = .ok (.getfield 7, 3) := by decide +kernel
theorem dX8_hits_80 : decode cX8_hits 80 = .ok (.iconst 3, 1) := by decide +kernel
theorem dX8_hits_81 : decode cX8_hits 81 = .ok (.iaload, 1) := by decide +kernel
theorem dX8_hits_82 : decode cX8_hits 82 = .ok (.ifCond .ne 7, 3) := by decide +kernel
theorem dX8_hits_85 : decode cX8_hits 85 = .ok (.iconst 1, 1) := by decide +kernel
theorem dX8_hits_86 : decode cX8_hits 86 = .ok (.goto 4, 3) := by decide +kernel
theorem dX8_hits_89 : decode cX8_hits 89 = .ok (.iconst 0, 1) := by decide +kernel
theorem dX8_hits_90 : decode cX8_hits 90 = .ok (.iastore, 1) := by decide +kernel
theorem dX8_hits_91 : decode cX8_hits 91 = .ok (.aload_n 0, 1) := by decide +kernel
theorem dX8_hits_92 : decode cX8_hits 92 = .ok (.getfield 7, 3) := by decide +kernel
theorem dX8_hits_95 : decode cX8_hits 95 = .ok (.iconst 3, 1) := by decide +kernel
theorem dX8_hits_96 : decode cX8_hits 96 = .ok (.dup2, 1) := by decide +kernel
theorem dX8_hits_97 : decode cX8_hits 97 = .ok (.iaload, 1) := by decide +kernel
theorem dX8_hits_98 : decode cX8_hits 98 = .ok (.aload_n 0, 1) := by decide +kernel
theorem dX8_hits_99 : decode cX8_hits 99 = .ok (.getfield 7, 3) := by decide +kernel
theorem dX8_hits_102 : decode cX8_hits 102 = .ok (.iconst 3, 1) := by decide +kernel
theorem dX8_hits_103 : decode cX8_hits 103 = .ok (.iaload, 1) := by decide +kernel
theorem dX8_hits_104 : decode cX8_hits 104 = .ok (.ifCond .ne 7, 3) := by decide +kernel
theorem dX8_hits_107 : decode cX8_hits 107 = .ok (.iconst 0, 1) := by decide +kernel
theorem dX8_hits_108 : decode cX8_hits 108 = .ok (.goto 4, 3) := by decide +kernel
theorem dX8_hits_111 : decode cX8_hits 111 = .ok (.iconst 1, 1) := by decide +kernel
theorem dX8_hits_112 : decode cX8_hits 112 = .ok (.isub, 1) := by decide +kernel
theorem dX8_hits_113 : decode cX8_hits 113 = .ok (.iastore, 1) := by decide +kernel
theorem dX8_hits_114 : decode cX8_hits 114 = .ok (.iconst 1, 1) := by decide +kernel
theorem dX8_hits_115 : decode cX8_hits 115 = .ok (.aload_n 0, 1) := by decide +kernel
theorem dX8_hits_116 : decode cX8_hits 116 = .ok (.getfield 7, 3) := by decide +kernel
theorem dX8_hits_119 : decode cX8_hits 119 = .ok (.bipush 6, 2) := by decide +kernel
theorem dX8_hits_121 : decode cX8_hits 121 = .ok (.iaload, 1) := by decide +kernel
theorem dX8_hits_122 : decode cX8_hits 122 = .ok (.iadd, 1) := by decide +kernel
theorem dX8_hits_123 : decode cX8_hits 123 = .ok (.ireturn, 1) := by decide +kernel
theorem dX8_grazes_0 : decode cX8_grazes 0 = .ok (.iconst 0, 1) := by decide +kernel
theorem dX8_grazes_1 : decode cX8_grazes 1 = .ok (.istore_n 1, 1) := by decide +kernel
theorem dX8_grazes_2 : decode cX8_grazes 2 = .ok (.iload_n 1, 1) := by decide +kernel
theorem dX8_grazes_3 : decode cX8_grazes 3 = .ok (.aload_n 0, 1) := by decide +kernel
theorem dX8_grazes_4 : decode cX8_grazes 4 = .ok (.getfield 7, 3) := by decide +kernel
theorem dX8_grazes_7 : decode cX8_grazes 7 = .ok (.iconst 1, 1) := by decide +kernel
theorem dX8_grazes_8 : decode cX8_grazes 8 = .ok (.iaload, 1) := by decide +kernel
theorem dX8_grazes_9 : decode cX8_grazes 9 = .ok (.if_icmp .ge 95, 3) := by decide +kernel
theorem dX8_grazes_12 : decode cX8_grazes 12 = .ok (.aload_n 0, 1) := by decide +kernel
theorem dX8_grazes_13 : decode cX8_grazes 13 = .ok (.iload_n 1, 1) := by decide +kernel
theorem dX8_grazes_14 : decode cX8_grazes 14 = .ok (.iconst 1, 1) := by decide +kernel
theorem dX8_grazes_15 : decode cX8_grazes 15 = .ok (.invokevirtual 53, 3) := by decide +kernel
theorem dX8_grazes_18 : decode cX8_grazes 18 = .ok (.aload_n 0, 1) := by decide +kernel
theorem dX8_grazes_19 : decode cX8_grazes 19 = .ok (.getfield 7, 3) := by decide +kernel
theorem dX8_grazes_22 : decode cX8_grazes 22 = .ok (.iconst 2, 1) := by decide +kernel
theorem dX8_grazes_23 : decode cX8_grazes 23 = .ok (.iaload, 1) := by decide +kernel
theorem dX8_grazes_24 : decode cX8_grazes 24 = .ok (.isub, 1) := by decide +kernel
theorem dX8_grazes_25 : decode cX8_grazes 25 = .ok (.istore_n 2, 1) := by decide +kernel
theorem dX8_grazes_26 : decode cX8_grazes 26 = .ok (.iload_n 2, 1) := by decide +kernel
theorem dX8_grazes_27 : decode cX8_grazes 27 = .ok (.iconst (-1), 1) := by decide +kernel
theorem dX8_grazes_28 : decode cX8_grazes 28 = .ok (.iconst 1, 1) := by decide +kernel
theorem dX8_grazes_29 : decode cX8_grazes 29 = .ok (.invokestatic 49, 3) := by decide +kernel
theorem dX8_grazes_32 : decode cX8_grazes 32 = .ok (.ifCond .eq 33, 3) := by decide +kernel
theorem dX8_grazes_35 : decode cX8_grazes 35 = .ok (.aload_n 0, 1) := by decide +kernel
theorem dX8_grazes_36 : decode cX8_grazes 36 = .ok (.iload_n 1, 1) := by decide +kernel
theorem dX8_grazes_37 : decode cX8_grazes 37 = .ok (.iconst 0, 1) := by decide +kernel
theorem dX8_grazes_38 : decode cX8_grazes 38 = .ok (.invokevirtual 53, 3) := by decide +kernel
theorem dX8_grazes_41 : decode cX8_grazes 41 = .ok (.bipush 10, 2) := by decide +kernel
theorem dX8_grazes_43 : decode cX8_grazes 43 = .ok (.if_icmp .eq 18, 3) := by decide +kernel
theorem dX8_grazes_46 : decode cX8_grazes 46 = .ok (.aload_n 0, 1) := by decide +kernel
theorem dX8_grazes_47 : decode cX8_grazes 47 = .ok (.iload_n 1, 1) := by decide +kernel
theorem dX8_grazes_48 : decode cX8_grazes 48 = .ok (.iconst 0, 1) := by decide +kernel
theorem dX8_grazes_49 : decode cX8_grazes 49 = .ok (.invokevirtual 53, 3) := by decide +kernel
theorem dX8_grazes_52 : decode cX8_grazes 52 = .ok (.bipush 11, 2) := by decide +kernel
theorem dX8_grazes_54 : decode cX8_grazes 54 = .ok (.if_icmp .ne 11, 3) := by decide +kernel
theorem dX8_grazes_57 : decode cX8_grazes 57 = .ok (.iload_n 2, 1) := by decide +kernel
theorem dX8_grazes_58 : decode cX8_grazes 58 = .ok (.ifCond .eq 7, 3) := by decide +kernel
theorem dX8_grazes_61 : decode cX8_grazes 61 = .ok (.iconst 1, 1) := by decide +kernel
theorem dX8_grazes_62 : decode cX8_grazes 62 = .ok (.goto 4, 3) := by decide +kernel
theorem dX8_grazes_65 : decode cX8_grazes 65 = .ok (.iconst 0, 1) := by decide +kernel
theorem dX8_grazes_66 : decode cX8_grazes 66 = .ok (.istore_n 3, 1) := by decide +kernel
theorem dX8_grazes_67 : decode cX8_grazes 67 = .ok (.iload_n 3, 1) := by decide +kernel
theorem dX8_grazes_68 : decode cX8_grazes 68 = .ok (.ifCond .eq 30, 3) := by decide +kernel
theorem dX8_grazes_71 : decode cX8_grazes 71 = .ok (.aload_n 0, 1) := by decide +kernel
theorem dX8_grazes_72 : decode cX8_grazes 72 = .ok (.iload_n 1, 1) := by decide +kernel
theorem dX8_grazes_73 : decode cX8_grazes 73 = .ok (.iconst 4, 1) := by decide +kernel
theorem dX8_grazes_74 : decode cX8_grazes 74 = .ok (.invokevirtual 53, 3) := by decide +kernel
theorem dX8_grazes_77 : decode cX8_grazes 77 = .ok (.ifCond .ne 21, 3) := by decide +kernel
theorem dX8_grazes_80 : decode cX8_grazes 80 = .ok (.aload_n 0, 1) := by decide +kernel
theorem dX8_grazes_81 : decode cX8_grazes 81 = .ok (.iload_n 1, 1) := by decide +kernel
theorem dX8_grazes_82 : decode cX8_grazes 82 = .ok (.iconst 4, 1) := by decide +kernel
theorem dX8_grazes_83 : decode cX8_grazes 83 = .ok (.iconst 1, 1) := by decide +kernel
theorem dX8_grazes_84 : decode cX8_grazes 84 = .ok (.invokevirtual 57, 3) := by decide +kernel
theorem dX8_grazes_87 : decode cX8_grazes 87 = .ok (.aload_n 0, 1) := by decide +kernel
theorem dX8_grazes_88 : decode cX8_grazes 88 = .ok (.getfield 7, 3) := by decide +kernel
theorem dX8_grazes_91 : decode cX8_grazes 91 = .ok (.bipush 13, 2) := by decide +kernel
theorem dX8_grazes_93 : decode cX8_grazes 93 = .ok (.dup2, 1) := by decide +kernel
theorem dX8_grazes_94 : decode cX8_grazes 94 = .ok (.iaload, 1) := by decide +kernel
theorem dX8_grazes_95 : decode cX8_grazes 95 = .ok (.iconst 1, 1) := by decide +kernel
theorem dX8_grazes_96 : decode cX8_grazes 96 = .ok (.iadd, 1) := by decide +kernel
theorem dX8_grazes_97 : decode cX8_grazes 97 = .ok (.iastore, 1) := by decide +kernel
theorem dX8_grazes_98 : decode cX8_grazes 98 = .ok (.iinc 1 1, 3) := by decide +kernel
theorem dX8_grazes_101 : decode cX8_grazes 101 = .ok (.goto (-99), 3) := by decide +kernel
theorem dX8_grazes_104 : decode cX8_grazes 104 = .ok (.return_, 1) := by decide +kernel
theorem dX8_goTick_0 : decode cX8_goTick 0 = .ok (.aload_n 0, 1) := by decide +kernel
theorem dX8_goTick_1 : decode cX8_goTick 1 = .ok (.getfield 7, 3) := by decide +kernel
theorem dX8_goTick_4 : decode cX8_goTick 4 = .ok (.iconst 2, 1) := by decide +kernel
theorem dX8_goTick_5 : decode cX8_goTick 5 = .ok (.dup2, 1) := by decide +kernel
theorem dX8_goTick_6 : decode cX8_goTick 6 = .ok (.iaload, 1) := by decide +kernel
theorem dX8_goTick_7 : decode cX8_goTick 7 = .ok (.aload_n 0, 1) := by decide +kernel
theorem dX8_goTick_8 : decode cX8_goTick 8 = .ok (.getfield 7, 3) := by decide +kernel
theorem dX8_goTick_11 : decode cX8_goTick 11 = .ok (.iconst 2, 1) := by decide +kernel
theorem dX8_goTick_12 : decode cX8_goTick 12 = .ok (.iaload, 1) := by decide +kernel
theorem dX8_goTick_13 : decode cX8_goTick 13 = .ok (.iload_n 1, 1) := by decide +kernel
theorem dX8_goTick_14 : decode cX8_goTick 14 = .ok (.iadd, 1) := by decide +kernel
theorem dX8_goTick_15 : decode cX8_goTick 15 = .ok (.iconst 0, 1) := by decide +kernel
theorem dX8_goTick_16 : decode cX8_goTick 16 = .ok (.bipush 9, 2) := by decide +kernel
theorem dX8_goTick_18 : decode cX8_goTick 18 = .ok (.invokestatic 49, 3) := by decide +kernel
theorem dX8_goTick_21 : decode cX8_goTick 21 = .ok (.ifCond .eq 7, 3) := by decide +kernel
theorem dX8_goTick_24 : decode cX8_goTick 24 = .ok (.iload_n 1, 1) := by decide +kernel
theorem dX8_goTick_25 : decode cX8_goTick 25 = .ok (.goto 4, 3) := by decide +kernel
theorem dX8_goTick_28 : decode cX8_goTick 28 = .ok (.iconst 0, 1) := by decide +kernel
theorem dX8_goTick_29 : decode cX8_goTick 29 = .ok (.iadd, 1) := by decide +kernel
theorem dX8_goTick_30 : decode cX8_goTick 30 = .ok (.iastore, 1) := by decide +kernel
theorem dX8_goTick_31 : decode cX8_goTick 31 = .ok (.aload_n 0, 1) := by decide +kernel
theorem dX8_goTick_32 : decode cX8_goTick 32 = .ok (.invokevirtual 81, 3) := by decide +kernel
theorem dX8_goTick_35 : decode cX8_goTick 35 = .ok (.aload_n 0, 1) := by decide +kernel
theorem dX8_goTick_36 : decode cX8_goTick 36 = .ok (.invokevirtual 84, 3) := by decide +kernel
theorem dX8_goTick_39 : decode cX8_goTick 39 = .ok (.istore_n 2, 1) := by decide +kernel
theorem dX8_goTick_40 : decode cX8_goTick 40 = .ok (.aload_n 0, 1) := by decide +kernel
theorem dX8_goTick_41 : decode cX8_goTick 41 = .ok (.getfield 7, 3) := by decide +kernel
theorem dX8_goTick_44 : decode cX8_goTick 44 = .ok (.bipush 6, 2) := by decide +kernel
theorem dX8_goTick_46 : decode cX8_goTick 46 = .ok (.iaload, 1) := by decide +kernel
theorem dX8_goTick_47 : decode cX8_goTick 47 = .ok (.ifCond .ne 7, 3) := by decide +kernel
theorem dX8_goTick_50 : decode cX8_goTick 50 = .ok (.aload_n 0, 1) := by decide +kernel
theorem dX8_goTick_51 : decode cX8_goTick 51 = .ok (.invokevirtual 87, 3) := by decide +kernel
theorem dX8_goTick_54 : decode cX8_goTick 54 = .ok (.iload_n 2, 1) := by decide +kernel
theorem dX8_goTick_55 : decode cX8_goTick 55 = .ok (.ireturn, 1) := by decide +kernel
theorem dX8_goBomb_0 : decode cX8_goBomb 0 = .ok (.aload_n 0, 1) := by decide +kernel
theorem dX8_goBomb_1 : decode cX8_goBomb 1 = .ok (.getfield 7, 3) := by decide +kernel
theorem dX8_goBomb_4 : decode cX8_goBomb 4 = .ok (.bipush 16, 2) := by decide +kernel
theorem dX8_goBomb_6 : decode cX8_goBomb 6 = .ok (.iaload, 1) := by decide +kernel
theorem dX8_goBomb_7 : decode cX8_goBomb 7 = .ok (.istore_n 1, 1) := by decide +kernel
theorem dX8_goBomb_8 : decode cX8_goBomb 8 = .ok (.iconst 0, 1) := by decide +kernel
theorem dX8_goBomb_9 : decode cX8_goBomb 9 = .ok (.istore_n 2, 1) := by decide +kernel
theorem dX8_goBomb_10 : decode cX8_goBomb 10 = .ok (.iload_n 2, 1) := by decide +kernel
theorem dX8_goBomb_11 : decode cX8_goBomb 11 = .ok (.aload_n 0, 1) := by decide +kernel
theorem dX8_goBomb_12 : decode cX8_goBomb 12 = .ok (.getfield 7, 3) := by decide +kernel
theorem dX8_goBomb_15 : decode cX8_goBomb 15 = .ok (.iconst 1, 1) := by decide +kernel
theorem dX8_goBomb_16 : decode cX8_goBomb 16 = .ok (.iaload, 1) := by decide +kernel
theorem dX8_goBomb_17 : decode cX8_goBomb 17 = .ok (.if_icmp .ge 55, 3) := by decide +kernel
theorem dX8_goBomb_20 : decode cX8_goBomb 20 = .ok (.aload_n 0, 1) := by decide +kernel
theorem dX8_goBomb_21 : decode cX8_goBomb 21 = .ok (.getfield 25, 3) := by decide +kernel
theorem dX8_goBomb_24 : decode cX8_goBomb 24 = .ok (.iload_n 2, 1) := by decide +kernel
theorem dX8_goBomb_25 : decode cX8_goBomb 25 = .ok (.aload_n 0, 1) := by decide +kernel
theorem dX8_goBomb_26 : decode cX8_goBomb 26 = .ok (.iload_n 2, 1) := by decide +kernel
theorem dX8_goBomb_27 : decode cX8_goBomb 27 = .ok (.iconst 0, 1) := by decide +kernel
theorem dX8_goBomb_28 : decode cX8_goBomb 28 = .ok (.invokevirtual 53, 3) := by decide +kernel
theorem dX8_goBomb_31 : decode cX8_goBomb 31 = .ok (.bipush 11, 2) := by decide +kernel
theorem dX8_goBomb_33 : decode cX8_goBomb 33 = .ok (.iload_n 1, 1) := by decide +kernel
theorem dX8_goBomb_34 : decode cX8_goBomb 34 = .ok (.isub, 1) := by decide +kernel
theorem dX8_goBomb_35 : decode cX8_goBomb 35 = .ok (.if_icmp .lt 29, 3) := by decide +kernel
theorem dX8_goBomb_38 : decode cX8_goBomb 38 = .ok (.aload_n 0, 1) := by decide +kernel
theorem dX8_goBomb_39 : decode cX8_goBomb 39 = .ok (.iload_n 2, 1) := by decide +kernel
theorem dX8_goBomb_40 : decode cX8_goBomb 40 = .ok (.iconst 1, 1) := by decide +kernel
theorem dX8_goBomb_41 : decode cX8_goBomb 41 = .ok (.invokevirtual 53, 3) := by decide +kernel
theorem dX8_goBomb_44 : decode cX8_goBomb 44 = .ok (.aload_n 0, 1) := by decide +kernel
theorem dX8_goBomb_45 : decode cX8_goBomb 45 = .ok (.getfield 7, 3) := by decide +kernel
theorem dX8_goBomb_48 : decode cX8_goBomb 48 = .ok (.iconst 2, 1) := by decide +kernel
theorem dX8_goBomb_49 : decode cX8_goBomb 49 = .ok (.iaload, 1) := by decide +kernel
theorem dX8_goBomb_50 : decode cX8_goBomb 50 = .ok (.isub, 1) := by decide +kernel
theorem dX8_goBomb_51 : decode cX8_goBomb 51 = .ok (.iload_n 1, 1) := by decide +kernel
theorem dX8_goBomb_52 : decode cX8_goBomb 52 = .ok (.ineg, 1) := by decide +kernel
theorem dX8_goBomb_53 : decode cX8_goBomb 53 = .ok (.iload_n 1, 1) := by decide +kernel
theorem dX8_goBomb_54 : decode cX8_goBomb 54 = .ok (.invokestatic 49, 3) := by decide +kernel
theorem dX8_goBomb_57 : decode cX8_goBomb 57 = .ok (.ifCond .eq 7, 3) := by decide +kernel
theorem dX8_goBomb_60 : decode cX8_goBomb 60 = .ok (.iconst 1, 1) := by decide +kernel
theorem dX8_goBomb_61 : decode cX8_goBomb 61 = .ok (.goto 4, 3) := by decide +kernel
theorem dX8_goBomb_64 : decode cX8_goBomb 64 = .ok (.iconst 0, 1) := by decide +kernel
theorem dX8_goBomb_65 : decode cX8_goBomb 65 = .ok (.bastore, 1) := by decide +kernel
theorem dX8_goBomb_66 : decode cX8_goBomb 66 = .ok (.iinc 2 1, 3) := by decide +kernel
theorem dX8_goBomb_69 : decode cX8_goBomb 69 = .ok (.goto (-59), 3) := by decide +kernel
theorem dX8_goBomb_72 : decode cX8_goBomb 72 = .ok (.aload_n 0, 1) := by decide +kernel
theorem dX8_goBomb_73 : decode cX8_goBomb 73 = .ok (.invokevirtual 61, 3) := by decide +kernel
theorem dX8_goBomb_76 : decode cX8_goBomb 76 = .ok (.istore_n 2, 1) := by decide +kernel
theorem dX8_goBomb_77 : decode cX8_goBomb 77 = .ok (.aload_n 0, 1) := by decide +kernel
theorem dX8_goBomb_78 : decode cX8_goBomb 78 = .ok (.getfield 7, 3) := by decide +kernel
theorem dX8_goBomb_81 : decode cX8_goBomb 81 = .ok (.bipush 11, 2) := by decide +kernel
theorem dX8_goBomb_83 : decode cX8_goBomb 83 = .ok (.dup2, 1) := by decide +kernel
theorem dX8_goBomb_84 : decode cX8_goBomb 84 = .ok (.iaload, 1) := by decide +kernel
theorem dX8_goBomb_85 : decode cX8_goBomb 85 = .ok (.iload_n 2, 1) := by decide +kernel
theorem dX8_goBomb_86 : decode cX8_goBomb 86 = .ok (.iadd, 1) := by decide +kernel
theorem dX8_goBomb_87 : decode cX8_goBomb 87 = .ok (.iastore, 1) := by decide +kernel
theorem dX8_goBomb_88 : decode cX8_goBomb 88 = .ok (.aload_n 0, 1) := by decide +kernel
theorem dX8_goBomb_89 : decode cX8_goBomb 89 = .ok (.getfield 7, 3) := by decide +kernel
theorem dX8_goBomb_92 : decode cX8_goBomb 92 = .ok (.iconst 4, 1) := by decide +kernel
theorem dX8_goBomb_93 : decode cX8_goBomb 93 = .ok (.dup2, 1) := by decide +kernel
theorem dX8_goBomb_94 : decode cX8_goBomb 94 = .ok (.iaload, 1) := by decide +kernel
theorem dX8_goBomb_95 : decode cX8_goBomb 95 = .ok (.iconst 1, 1) := by decide +kernel
theorem dX8_goBomb_96 : decode cX8_goBomb 96 = .ok (.isub, 1) := by decide +kernel
theorem dX8_goBomb_97 : decode cX8_goBomb 97 = .ok (.iastore, 1) := by decide +kernel
theorem dX8_goBomb_98 : decode cX8_goBomb 98 = .ok (.iload_n 2, 1) := by decide +kernel
theorem dX8_goBomb_99 : decode cX8_goBomb 99 = .ok (.ireturn, 1) := by decide +kernel
theorem dX8_canBomb_0 : decode cX8_canBomb 0 = .ok (.aload_n 0, 1) := by decide +kernel
theorem dX8_canBomb_1 : decode cX8_canBomb 1 = .ok (.getfield 7, 3) := by decide +kernel
theorem dX8_canBomb_4 : decode cX8_canBomb 4 = .ok (.bipush 6, 2) := by decide +kernel
theorem dX8_canBomb_6 : decode cX8_canBomb 6 = .ok (.iaload, 1) := by decide +kernel
theorem dX8_canBomb_7 : decode cX8_canBomb 7 = .ok (.ifCond .ne 16, 3) := by decide +kernel
theorem dX8_canBomb_10 : decode cX8_canBomb 10 = .ok (.aload_n 0, 1) := by decide +kernel
theorem dX8_canBomb_11 : decode cX8_canBomb 11 = .ok (.getfield 7, 3) := by decide +kernel
theorem dX8_canBomb_14 : decode cX8_canBomb 14 = .ok (.iconst 4, 1) := by decide +kernel
theorem dX8_canBomb_15 : decode cX8_canBomb 15 = .ok (.iaload, 1) := by decide +kernel
theorem dX8_canBomb_16 : decode cX8_canBomb 16 = .ok (.ifCond .le 7, 3) := by decide +kernel
theorem dX8_canBomb_19 : decode cX8_canBomb 19 = .ok (.iconst 1, 1) := by decide +kernel
theorem dX8_canBomb_20 : decode cX8_canBomb 20 = .ok (.goto 4, 3) := by decide +kernel
theorem dX8_canBomb_23 : decode cX8_canBomb 23 = .ok (.iconst 0, 1) := by decide +kernel
theorem dX8_canBomb_24 : decode cX8_canBomb 24 = .ok (.ireturn, 1) := by decide +kernel
theorem dX8_emitter_0 : decode cX8_emitter 0 = .ok (.iload_n 1, 1) := by decide +kernel
theorem dX8_emitter_1 : decode cX8_emitter 1 = .ok (.iconst 0, 1) := by decide +kernel
theorem dX8_emitter_2 : decode cX8_emitter 2 = .ok (.bipush 9, 2) := by decide +kernel
theorem dX8_emitter_4 : decode cX8_emitter 4 = .ok (.invokestatic 49, 3) := by decide +kernel
theorem dX8_emitter_7 : decode cX8_emitter 7 = .ok (.ifCond .eq 34, 3) := by decide +kernel
theorem dX8_emitter_10 : decode cX8_emitter 10 = .ok (.iload_n 2, 1) := by decide +kernel
theorem dX8_emitter_11 : decode cX8_emitter 11 = .ok (.iconst 0, 1) := by decide +kernel
theorem dX8_emitter_12 : decode cX8_emitter 12 = .ok (.iconst 5, 1) := by decide +kernel
theorem dX8_emitter_13 : decode cX8_emitter 13 = .ok (.invokestatic 49, 3) := by decide +kernel
theorem dX8_emitter_16 : decode cX8_emitter 16 = .ok (.ifCond .eq 25, 3) := by decide +kernel
theorem dX8_emitter_19 : decode cX8_emitter 19 = .ok (.iload_n 3, 1) := by decide +kernel
theorem dX8_emitter_20 : decode cX8_emitter 20 = .ok (.iconst 1, 1) := by decide +kernel
theorem dX8_emitter_21 : decode cX8_emitter 21 = .ok (.bipush 9, 2) := by decide +kernel
theorem dX8_emitter_23 : decode cX8_emitter 23 = .ok (.invokestatic 49, 3) := by decide +kernel
theorem dX8_emitter_26 : decode cX8_emitter 26 = .ok (.ifCond .eq 15, 3) := by decide +kernel
theorem dX8_emitter_29 : decode cX8_emitter 29 = .ok (.iload 4, 2) := by decide +kernel
theorem dX8_emitter_31 : decode cX8_emitter 31 = .ok (.iconst 0, 1) := by decide +kernel
theorem dX8_emitter_32 : decode cX8_emitter 32 = .ok (.iload_n 3, 1) := by decide +kernel
theorem dX8_emitter_33 : decode cX8_emitter 33 = .ok (.iconst 1, 1) := by decide +kernel
theorem dX8_emitter_34 : decode cX8_emitter 34 = .ok (.isub, 1) := by decide +kernel
theorem dX8_emitter_35 : decode cX8_emitter 35 = .ok (.invokestatic 49, 3) := by decide +kernel
theorem dX8_emitter_38 : decode cX8_emitter 38 = .ok (.ifCond .ne 5, 3) := by decide +kernel
theorem dX8_emitter_41 : decode cX8_emitter 41 = .ok (.iconst (-1), 1) := by decide +kernel
theorem dX8_emitter_42 : decode cX8_emitter 42 = .ok (.ireturn, 1) := by decide +kernel
theorem dX8_emitter_43 : decode cX8_emitter 43 = .ok (.aload_n 0, 1) := by decide +kernel
theorem dX8_emitter_44 : decode cX8_emitter 44 = .ok (.getfield 7, 3) := by decide +kernel
theorem dX8_emitter_47 : decode cX8_emitter 47 = .ok (.iconst 0, 1) := by decide +kernel
theorem dX8_emitter_48 : decode cX8_emitter 48 = .ok (.iaload, 1) := by decide +kernel
theorem dX8_emitter_49 : decode cX8_emitter 49 = .ok (.iconst 4, 1) := by decide +kernel
theorem dX8_emitter_50 : decode cX8_emitter 50 = .ok (.if_icmp .ne 6, 3) := by decide +kernel
theorem dX8_emitter_53 : decode cX8_emitter 53 = .ok (.bipush (-3), 2) := by decide +kernel
theorem dX8_emitter_55 : decode cX8_emitter 55 = .ok (.ireturn, 1) := by decide +kernel
theorem dX8_emitter_56 : decode cX8_emitter 56 = .ok (.aload_n 0, 1) := by decide +kernel
theorem dX8_emitter_57 : decode cX8_emitter 57 = .ok (.invokevirtual 90, 3) := by decide +kernel
theorem dX8_emitter_60 : decode cX8_emitter 60 = .ok (.aload_n 0, 1) := by decide +kernel
theorem dX8_emitter_61 : decode cX8_emitter 61 = .ok (.iload_n 1, 1) := by decide +kernel
theorem dX8_emitter_62 : decode cX8_emitter 62 = .ok (.iload_n 2, 1) := by decide +kernel
theorem dX8_emitter_63 : decode cX8_emitter 63 = .ok (.iload_n 3, 1) := by decide +kernel
theorem dX8_emitter_64 : decode cX8_emitter 64 = .ok (.iload 4, 2) := by decide +kernel
theorem dX8_emitter_66 : decode cX8_emitter 66 = .ok (.invokevirtual 93, 3) := by decide +kernel
theorem dX8_emitter_69 : decode cX8_emitter 69 = .ok (.aload_n 0, 1) := by decide +kernel
theorem dX8_emitter_70 : decode cX8_emitter 70 = .ok (.getfield 7, 3) := by decide +kernel
theorem dX8_emitter_73 : decode cX8_emitter 73 = .ok (.iconst 0, 1) := by decide +kernel
theorem dX8_emitter_74 : decode cX8_emitter 74 = .ok (.iaload, 1) := by decide +kernel
theorem dX8_emitter_75 : decode cX8_emitter 75 = .ok (.iconst 1, 1) := by decide +kernel
theorem dX8_emitter_76 : decode cX8_emitter 76 = .ok (.isub, 1) := by decide +kernel
theorem dX8_emitter_77 : decode cX8_emitter 77 = .ok (.ireturn, 1) := by decide +kernel
theorem dX8_takeAway_0 : decode cX8_takeAway 0 = .ok (.aload_n 0, 1) := by decide +kernel
theorem dX8_takeAway_1 : decode cX8_takeAway 1 = .ok (.iload_n 1, 1) := by decide +kernel
theorem dX8_takeAway_2 : decode cX8_takeAway 2 = .ok (.invokevirtual 97, 3) := by decide +kernel
theorem dX8_takeAway_5 : decode cX8_takeAway 5 = .ok (.ifCond .ne 5, 3) := by decide +kernel
theorem dX8_takeAway_8 : decode cX8_takeAway 8 = .ok (.iconst (-1), 1) := by decide +kernel
theorem dX8_takeAway_9 : decode cX8_takeAway 9 = .ok (.ireturn, 1) := by decide +kernel
theorem dX8_takeAway_10 : decode cX8_takeAway 10 = .ok (.aload_n 0, 1) := by decide +kernel
theorem dX8_takeAway_11 : decode cX8_takeAway 11 = .ok (.invokevirtual 90, 3) := by decide +kernel
theorem dX8_takeAway_14 : decode cX8_takeAway 14 = .ok (.aload_n 0, 1) := by decide +kernel
theorem dX8_takeAway_15 : decode cX8_takeAway 15 = .ok (.iload_n 1, 1) := by decide +kernel
theorem dX8_takeAway_16 : decode cX8_takeAway 16 = .ok (.invokevirtual 101, 3) := by decide +kernel
theorem dX8_takeAway_19 : decode cX8_takeAway 19 = .ok (.aload_n 0, 1) := by decide +kernel
theorem dX8_takeAway_20 : decode cX8_takeAway 20 = .ok (.getfield 7, 3) := by decide +kernel
theorem dX8_takeAway_23 : decode cX8_takeAway 23 = .ok (.iconst 0, 1) := by decide +kernel
theorem dX8_takeAway_24 : decode cX8_takeAway 24 = .ok (.iaload, 1) := by decide +kernel
theorem dX8_takeAway_25 : decode cX8_takeAway 25 = .ok (.ireturn, 1) := by decide +kernel
theorem dX8_tick_0 : decode cX8_tick 0 = .ok (.iload_n 1, 1) := by decide +kernel
theorem dX8_tick_1 : decode cX8_tick 1 = .ok (.iconst (-1), 1) := by decide +kernel
theorem dX8_tick_2 : decode cX8_tick 2 = .ok (.iconst 1, 1) := by decide +kernel
theorem dX8_tick_3 : decode cX8_tick 3 = .ok (.invokestatic 49, 3) := by decide +kernel
theorem dX8_tick_6 : decode cX8_tick 6 = .ok (.ifCond .ne 5, 3) := by decide +kernel
theorem dX8_tick_9 : decode cX8_tick 9 = .ok (.iconst (-1), 1) := by decide +kernel
theorem dX8_tick_10 : decode cX8_tick 10 = .ok (.ireturn, 1) := by decide +kernel
theorem dX8_tick_11 : decode cX8_tick 11 = .ok (.aload_n 0, 1) := by decide +kernel
theorem dX8_tick_12 : decode cX8_tick 12 = .ok (.getfield 7, 3) := by decide +kernel
theorem dX8_tick_15 : decode cX8_tick 15 = .ok (.bipush 6, 2) := by decide +kernel
theorem dX8_tick_17 : decode cX8_tick 17 = .ok (.iaload, 1) := by decide +kernel
theorem dX8_tick_18 : decode cX8_tick 18 = .ok (.iconst 1, 1) := by decide +kernel
theorem dX8_tick_19 : decode cX8_tick 19 = .ok (.if_icmp .ne 6, 3) := by decide +kernel
theorem dX8_tick_22 : decode cX8_tick 22 = .ok (.bipush (-2), 2) := by decide +kernel
theorem dX8_tick_24 : decode cX8_tick 24 = .ok (.ireturn, 1) := by decide +kernel
theorem dX8_tick_25 : decode cX8_tick 25 = .ok (.aload_n 0, 1) := by decide +kernel
theorem dX8_tick_26 : decode cX8_tick 26 = .ok (.invokevirtual 90, 3) := by decide +kernel
theorem dX8_tick_29 : decode cX8_tick 29 = .ok (.aload_n 0, 1) := by decide +kernel
theorem dX8_tick_30 : decode cX8_tick 30 = .ok (.iload_n 1, 1) := by decide +kernel
theorem dX8_tick_31 : decode cX8_tick 31 = .ok (.invokevirtual 105, 3) := by decide +kernel
theorem dX8_tick_34 : decode cX8_tick 34 = .ok (.ireturn, 1) := by decide +kernel
theorem dX8_bomb_0 : decode cX8_bomb 0 = .ok (.aload_n 0, 1) := by decide +kernel
theorem dX8_bomb_1 : decode cX8_bomb 1 = .ok (.invokevirtual 109, 3) := by decide +kernel
theorem dX8_bomb_4 : decode cX8_bomb 4 = .ok (.ifCond .ne 6, 3) := by decide +kernel
theorem dX8_bomb_7 : decode cX8_bomb 7 = .ok (.bipush (-2), 2) := by decide +kernel
theorem dX8_bomb_9 : decode cX8_bomb 9 = .ok (.ireturn, 1) := by decide +kernel
theorem dX8_bomb_10 : decode cX8_bomb 10 = .ok (.aload_n 0, 1) := by decide +kernel
theorem dX8_bomb_11 : decode cX8_bomb 11 = .ok (.invokevirtual 90, 3) := by decide +kernel
theorem dX8_bomb_14 : decode cX8_bomb 14 = .ok (.aload_n 0, 1) := by decide +kernel
theorem dX8_bomb_15 : decode cX8_bomb 15 = .ok (.invokevirtual 113, 3) := by decide +kernel
theorem dX8_bomb_18 : decode cX8_bomb 18 = .ok (.ireturn, 1) := by decide +kernel
theorem dX8_clearField_0 : decode cX8_clearField 0 = .ok (.aload_n 0, 1) := by decide +kernel
theorem dX8_clearField_1 : decode cX8_clearField 1 = .ok (.invokevirtual 90, 3) := by decide +kernel
theorem dX8_clearField_4 : decode cX8_clearField 4 = .ok (.aload_n 0, 1) := by decide +kernel
theorem dX8_clearField_5 : decode cX8_clearField 5 = .ok (.getfield 7, 3) := by decide +kernel
theorem dX8_clearField_8 : decode cX8_clearField 8 = .ok (.iconst 1, 1) := by decide +kernel
theorem dX8_clearField_9 : decode cX8_clearField 9 = .ok (.iaload, 1) := by decide +kernel
theorem dX8_clearField_10 : decode cX8_clearField 10 = .ok (.istore_n 1, 1) := by decide +kernel
theorem dX8_clearField_11 : decode cX8_clearField 11 = .ok (.bipush 33, 2) := by decide +kernel
theorem dX8_clearField_13 : decode cX8_clearField 13 = .ok (.istore_n 2, 1) := by decide +kernel
theorem dX8_clearField_14 : decode cX8_clearField 14 = .ok (.iload_n 2, 1) := by decide +kernel
theorem dX8_clearField_15 : decode cX8_clearField 15 = .ok (.sipush 333, 3) := by decide +kernel
theorem dX8_clearField_18 : decode cX8_clearField 18 = .ok (.if_icmp .ge 16, 3) := by decide +kernel
theorem dX8_clearField_21 : decode cX8_clearField 21 = .ok (.aload_n 0, 1) := by decide +kernel
theorem dX8_clearField_22 : decode cX8_clearField 22 = .ok (.getfield 7, 3) := by decide +kernel
theorem dX8_clearField_25 : decode cX8_clearField 25 = .ok (.iload_n 2, 1) := by decide +kernel
theorem dX8_clearField_26 : decode cX8_clearField 26 = .ok (.iconst 0, 1) := by decide +kernel
theorem dX8_clearField_27 : decode cX8_clearField 27 = .ok (.iastore, 1) := by decide +kernel
theorem dX8_clearField_28 : decode cX8_clearField 28 = .ok (.iinc 2 1, 3) := by decide +kernel
theorem dX8_clearField_31 : decode cX8_clearField 31 = .ok (.goto (-17), 3) := by decide +kernel
theorem dX8_clearField_34 : decode cX8_clearField 34 = .ok (.aload_n 0, 1) := by decide +kernel
theorem dX8_clearField_35 : decode cX8_clearField 35 = .ok (.getfield 7, 3) := by decide +kernel
theorem dX8_clearField_38 : decode cX8_clearField 38 = .ok (.iconst 1, 1) := by decide +kernel
theorem dX8_clearField_39 : decode cX8_clearField 39 = .ok (.iconst 0, 1) := by decide +kernel
theorem dX8_clearField_40 : decode cX8_clearField 40 = .ok (.iastore, 1) := by decide +kernel
theorem dX8_clearField_41 : decode cX8_clearField 41 = .ok (.aload_n 0, 1) := by decide +kernel
theorem dX8_clearField_42 : decode cX8_clearField 42 = .ok (.getfield 7, 3) := by decide +kernel
theorem dX8_clearField_45 : decode cX8_clearField 45 = .ok (.bipush 12, 2) := by decide +kernel
theorem dX8_clearField_47 : decode cX8_clearField 47 = .ok (.dup2, 1) := by decide +kernel
theorem dX8_clearField_48 : decode cX8_clearField 48 = .ok (.iaload, 1) := by decide +kernel
theorem dX8_clearField_49 : decode cX8_clearField 49 = .ok (.iload_n 1, 1) := by decide +kernel
theorem dX8_clearField_50 : decode cX8_clearField 50 = .ok (.iadd, 1) := by decide +kernel
theorem dX8_clearField_51 : decode cX8_clearField 51 = .ok (.iastore, 1) := by decide +kernel
theorem dX8_clearField_52 : decode cX8_clearField 52 = .ok (.aload_n 0, 1) := by decide +kernel
theorem dX8_clearField_53 : decode cX8_clearField 53 = .ok (.getfield 7, 3) := by decide +kernel
theorem dX8_clearField_56 : decode cX8_clearField 56 = .ok (.bipush 6, 2) := by decide +kernel
theorem dX8_clearField_58 : decode cX8_clearField 58 = .ok (.iconst 0, 1) := by decide +kernel
theorem dX8_clearField_59 : decode cX8_clearField 59 = .ok (.iastore, 1) := by decide +kernel
theorem dX8_clearField_60 : decode cX8_clearField 60 = .ok (.aload_n 0, 1) := by decide +kernel
theorem dX8_clearField_61 : decode cX8_clearField 61 = .ok (.getfield 7, 3) := by decide +kernel
theorem dX8_clearField_64 : decode cX8_clearField 64 = .ok (.iconst 3, 1) := by decide +kernel
theorem dX8_clearField_65 : decode cX8_clearField 65 = .ok (.iconst 3, 1) := by decide +kernel
theorem dX8_clearField_66 : decode cX8_clearField 66 = .ok (.iastore, 1) := by decide +kernel
theorem dX8_clearField_67 : decode cX8_clearField 67 = .ok (.aload_n 0, 1) := by decide +kernel
theorem dX8_clearField_68 : decode cX8_clearField 68 = .ok (.getfield 7, 3) := by decide +kernel
theorem dX8_clearField_71 : decode cX8_clearField 71 = .ok (.iconst 4, 1) := by decide +kernel
theorem dX8_clearField_72 : decode cX8_clearField 72 = .ok (.iconst 2, 1) := by decide +kernel
theorem dX8_clearField_73 : decode cX8_clearField 73 = .ok (.iastore, 1) := by decide +kernel
theorem dX8_clearField_74 : decode cX8_clearField 74 = .ok (.iload_n 1, 1) := by decide +kernel
theorem dX8_clearField_75 : decode cX8_clearField 75 = .ok (.ireturn, 1) := by decide +kernel
theorem dX8_set_0 : decode cX8_set 0 = .ok (.iload_n 1, 1) := by decide +kernel
theorem dX8_set_1 : decode cX8_set 1 = .ok (.iconst 0, 1) := by decide +kernel
theorem dX8_set_2 : decode cX8_set 2 = .ok (.iconst 1, 1) := by decide +kernel
theorem dX8_set_3 : decode cX8_set 3 = .ok (.invokestatic 49, 3) := by decide +kernel
theorem dX8_set_6 : decode cX8_set 6 = .ok (.ifCond .eq 28, 3) := by decide +kernel
theorem dX8_set_9 : decode cX8_set 9 = .ok (.iload_n 2, 1) := by decide +kernel
theorem dX8_set_10 : decode cX8_set 10 = .ok (.iload_n 1, 1) := by decide +kernel
theorem dX8_set_11 : decode cX8_set 11 = .ok (.ifCond .ne 7, 3) := by decide +kernel
theorem dX8_set_14 : decode cX8_set 14 = .ok (.iconst 0, 1) := by decide +kernel
theorem dX8_set_15 : decode cX8_set 15 = .ok (.goto 4, 3) := by decide +kernel
theorem dX8_set_18 : decode cX8_set 18 = .ok (.iconst 1, 1) := by decide +kernel
theorem dX8_set_19 : decode cX8_set 19 = .ok (.iload_n 1, 1) := by decide +kernel
theorem dX8_set_20 : decode cX8_set 20 = .ok (.ifCond .ne 7, 3) := by decide +kernel
theorem dX8_set_23 : decode cX8_set 23 = .ok (.iconst 1, 1) := by decide +kernel
theorem dX8_set_24 : decode cX8_set 24 = .ok (.goto 4, 3) := by decide +kernel
theorem dX8_set_27 : decode cX8_set 27 = .ok (.iconst 5, 1) := by decide +kernel
theorem dX8_set_28 : decode cX8_set 28 = .ok (.invokestatic 49, 3) := by decide +kernel
theorem dX8_set_31 : decode cX8_set 31 = .ok (.ifCond .ne 5, 3) := by decide +kernel
theorem dX8_set_34 : decode cX8_set 34 = .ok (.iconst (-1), 1) := by decide +kernel
theorem dX8_set_35 : decode cX8_set 35 = .ok (.ireturn, 1) := by decide +kernel
theorem dX8_set_36 : decode cX8_set 36 = .ok (.aload_n 0, 1) := by decide +kernel
theorem dX8_set_37 : decode cX8_set 37 = .ok (.invokevirtual 90, 3) := by decide +kernel
theorem dX8_set_40 : decode cX8_set 40 = .ok (.aload_n 0, 1) := by decide +kernel
theorem dX8_set_41 : decode cX8_set 41 = .ok (.getfield 7, 3) := by decide +kernel
theorem dX8_set_44 : decode cX8_set 44 = .ok (.bipush 15, 2) := by decide +kernel
theorem dX8_set_46 : decode cX8_set 46 = .ok (.iload_n 1, 1) := by decide +kernel
theorem dX8_set_47 : decode cX8_set 47 = .ok (.iadd, 1) := by decide +kernel
theorem dX8_set_48 : decode cX8_set 48 = .ok (.iaload, 1) := by decide +kernel
theorem dX8_set_49 : decode cX8_set 49 = .ok (.istore_n 3, 1) := by decide +kernel
theorem dX8_set_50 : decode cX8_set 50 = .ok (.aload_n 0, 1) := by decide +kernel
theorem dX8_set_51 : decode cX8_set 51 = .ok (.getfield 7, 3) := by decide +kernel
theorem dX8_set_54 : decode cX8_set 54 = .ok (.bipush 15, 2) := by decide +kernel
theorem dX8_set_56 : decode cX8_set 56 = .ok (.iload_n 1, 1) := by decide +kernel
theorem dX8_set_57 : decode cX8_set 57 = .ok (.iadd, 1) := by decide +kernel
theorem dX8_set_58 : decode cX8_set 58 = .ok (.iload_n 2, 1) := by decide +kernel
theorem dX8_set_59 : decode cX8_set 59 = .ok (.iastore, 1) := by decide +kernel
theorem dX8_set_60 : decode cX8_set 60 = .ok (.iload_n 3, 1) := by decide +kernel
theorem dX8_set_61 : decode cX8_set 61 = .ok (.ireturn, 1) := by decide +kernel
theorem dX8_append_0 : decode cX8_append 0 = .ok (.iload_n 1, 1) := by decide +kernel
theorem dX8_append_1 : decode cX8_append 1 = .ok (.bipush 33, 2) := by decide +kernel
theorem dX8_append_3 : decode cX8_append 3 = .ok (.bipush 126, 2) := by decide +kernel
theorem dX8_append_5 : decode cX8_append 5 = .ok (.invokestatic 49, 3) := by decide +kernel
theorem dX8_append_8 : decode cX8_append 8 = .ok (.ifCond .ne 5, 3) := by decide +kernel
theorem dX8_append_11 : decode cX8_append 11 = .ok (.iconst (-1), 1) := by decide +kernel
theorem dX8_append_12 : decode cX8_append 12 = .ok (.ireturn, 1) := by decide +kernel
theorem dX8_append_13 : decode cX8_append 13 = .ok (.aload_n 0, 1) := by decide +kernel
theorem dX8_append_14 : decode cX8_append 14 = .ok (.getfield 116, 3) := by decide +kernel
theorem dX8_append_17 : decode cX8_append 17 = .ok (.bipush 60, 2) := by decide +kernel
theorem dX8_append_19 : decode cX8_append 19 = .ok (.if_icmp .ne 6, 3) := by decide +kernel
theorem dX8_append_22 : decode cX8_append 22 = .ok (.bipush (-3), 2) := by decide +kernel
theorem dX8_append_24 : decode cX8_append 24 = .ok (.ireturn, 1) := by decide +kernel
theorem dX8_append_25 : decode cX8_append 25 = .ok (.aload_n 0, 1) := by decide +kernel
theorem dX8_append_26 : decode cX8_append 26 = .ok (.getfield 22, 3) := by decide +kernel
theorem dX8_append_29 : decode cX8_append 29 = .ok (.aload_n 0, 1) := by decide +kernel
theorem dX8_append_30 : decode cX8_append 30 = .ok (.getfield 116, 3) := by decide +kernel
theorem dX8_append_33 : decode cX8_append 33 = .ok (.iload_n 1, 1) := by decide +kernel
theorem dX8_append_34 : decode cX8_append 34 = .ok (.iastore, 1) := by decide +kernel
theorem dX8_append_35 : decode cX8_append 35 = .ok (.aload_n 0, 1) := by decide +kernel
theorem dX8_append_36 : decode cX8_append 36 = .ok (.dup, 1) := by decide +kernel
theorem dX8_append_37 : decode cX8_append 37 = .ok (.getfield 116, 3) := by decide +kernel
theorem dX8_append_40 : decode cX8_append 40 = .ok (.iconst 1, 1) := by decide +kernel
theorem dX8_append_41 : decode cX8_append 41 = .ok (.iadd, 1) := by decide +kernel
theorem dX8_append_42 : decode cX8_append 42 = .ok (.putfield 116, 3) := by decide +kernel
theorem dX8_append_45 : decode cX8_append 45 = .ok (.aload_n 0, 1) := by decide +kernel
theorem dX8_append_46 : decode cX8_append 46 = .ok (.getfield 116, 3) := by decide +kernel
theorem dX8_append_49 : decode cX8_append 49 = .ok (.ireturn, 1) := by decide +kernel
theorem dX8_clear_0 : decode cX8_clear 0 = .ok (.aload_n 0, 1) := by decide +kernel
theorem dX8_clear_1 : decode cX8_clear 1 = .ok (.getfield 116, 3) := by decide +kernel
theorem dX8_clear_4 : decode cX8_clear 4 = .ok (.istore_n 1, 1) := by decide +kernel
theorem dX8_clear_5 : decode cX8_clear 5 = .ok (.aload_n 0, 1) := by decide +kernel
theorem dX8_clear_6 : decode cX8_clear 6 = .ok (.iconst 0, 1) := by decide +kernel
theorem dX8_clear_7 : decode cX8_clear 7 = .ok (.putfield 116, 3) := by decide +kernel
theorem dX8_clear_10 : decode cX8_clear 10 = .ok (.iload_n 1, 1) := by decide +kernel
theorem dX8_clear_11 : decode cX8_clear 11 = .ok (.ireturn, 1) := by decide +kernel
theorem dX8_here_0 : decode cX8_here 0 = .ok (.aload_n 0, 1) := by decide +kernel
theorem dX8_here_1 : decode cX8_here 1 = .ok (.getfield 119, 3) := by decide +kernel
theorem dX8_here_4 : decode cX8_here 4 = .ok (.aload_n 0, 1) := by decide +kernel
theorem dX8_here_5 : decode cX8_here 5 = .ok (.getfield 116, 3) := by decide +kernel
theorem dX8_here_8 : decode cX8_here 8 = .ok (.if_icmp .ge 15, 3) := by decide +kernel
theorem dX8_here_11 : decode cX8_here 11 = .ok (.aload_n 0, 1) := by decide +kernel
theorem dX8_here_12 : decode cX8_here 12 = .ok (.getfield 22, 3) := by decide +kernel
theorem dX8_here_15 : decode cX8_here 15 = .ok (.aload_n 0, 1) := by decide +kernel
theorem dX8_here_16 : decode cX8_here 16 = .ok (.getfield 119, 3) := by decide +kernel
theorem dX8_here_19 : decode cX8_here 19 = .ok (.iaload, 1) := by decide +kernel
theorem dX8_here_20 : decode cX8_here 20 = .ok (.goto 4, 3) := by decide +kernel
theorem dX8_here_23 : decode cX8_here 23 = .ok (.iconst 0, 1) := by decide +kernel
theorem dX8_here_24 : decode cX8_here 24 = .ok (.ireturn, 1) := by decide +kernel
theorem dX8_takes_0 : decode cX8_takes 0 = .ok (.aload_n 0, 1) := by decide +kernel
theorem dX8_takes_1 : decode cX8_takes 1 = .ok (.aload_n 0, 1) := by decide +kernel
theorem dX8_takes_2 : decode cX8_takes 2 = .ok (.getfield 122, 3) := by decide +kernel
theorem dX8_takes_5 : decode cX8_takes 5 = .ok (.ifCond .eq 11, 3) := by decide +kernel
theorem dX8_takes_8 : decode cX8_takes 8 = .ok (.iload_n 1, 1) := by decide +kernel
theorem dX8_takes_9 : decode cX8_takes 9 = .ok (.ifCond .eq 7, 3) := by decide +kernel
theorem dX8_takes_12 : decode cX8_takes 12 = .ok (.iconst 1, 1) := by decide +kernel
theorem dX8_takes_13 : decode cX8_takes 13 = .ok (.goto 4, 3) := by decide +kernel
theorem dX8_takes_16 : decode cX8_takes 16 = .ok (.iconst 0, 1) := by decide +kernel
theorem dX8_takes_17 : decode cX8_takes 17 = .ok (.putfield 122, 3) := by decide +kernel
theorem dX8_takes_20 : decode cX8_takes 20 = .ok (.aload_n 0, 1) := by decide +kernel
theorem dX8_takes_21 : decode cX8_takes 21 = .ok (.dup, 1) := by decide +kernel
theorem dX8_takes_22 : decode cX8_takes 22 = .ok (.getfield 119, 3) := by decide +kernel
theorem dX8_takes_25 : decode cX8_takes 25 = .ok (.aload_n 0, 1) := by decide +kernel
theorem dX8_takes_26 : decode cX8_takes 26 = .ok (.getfield 122, 3) := by decide +kernel
theorem dX8_takes_29 : decode cX8_takes 29 = .ok (.ifCond .eq 7, 3) := by decide +kernel
theorem dX8_takes_32 : decode cX8_takes 32 = .ok (.iconst 1, 1) := by decide +kernel
theorem dX8_takes_33 : decode cX8_takes 33 = .ok (.goto 4, 3) := by decide +kernel
theorem dX8_takes_36 : decode cX8_takes 36 = .ok (.iconst 0, 1) := by decide +kernel
theorem dX8_takes_37 : decode cX8_takes 37 = .ok (.iadd, 1) := by decide +kernel
theorem dX8_takes_38 : decode cX8_takes 38 = .ok (.putfield 119, 3) := by decide +kernel
theorem dX8_takes_41 : decode cX8_takes 41 = .ok (.return_, 1) := by decide +kernel
theorem dX8_takesDigit_0 : decode cX8_takesDigit 0 = .ok (.aload_n 0, 1) := by decide +kernel
theorem dX8_takesDigit_1 : decode cX8_takesDigit 1 = .ok (.invokevirtual 126, 3) := by decide +kernel
theorem dX8_takesDigit_4 : decode cX8_takesDigit 4 = .ok (.bipush 48, 2) := by decide +kernel
theorem dX8_takesDigit_6 : decode cX8_takesDigit 6 = .ok (.isub, 1) := by decide +kernel
theorem dX8_takesDigit_7 : decode cX8_takesDigit 7 = .ok (.istore_n 3, 1) := by decide +kernel
theorem dX8_takesDigit_8 : decode cX8_takesDigit 8 = .ok (.aload_n 0, 1) := by decide +kernel
theorem dX8_takesDigit_9 : decode cX8_takesDigit 9 = .ok (.iload_n 3, 1) := by decide +kernel
theorem dX8_takesDigit_10 : decode cX8_takesDigit 10 = .ok (.iload_n 1, 1) := by decide +kernel
theorem dX8_takesDigit_11 : decode cX8_takesDigit 11 = .ok (.iload_n 2, 1) := by decide +kernel
theorem dX8_takesDigit_12 : decode cX8_takesDigit 12 = .ok (.invokestatic 49, 3) := by decide +kernel
theorem dX8_takesDigit_15 : decode cX8_takesDigit 15 = .ok (.invokevirtual 129, 3) := by decide +kernel
theorem dX8_takesDigit_18 : decode cX8_takesDigit 18 = .ok (.iload_n 3, 1) := by decide +kernel
theorem dX8_takesDigit_19 : decode cX8_takesDigit 19 = .ok (.ireturn, 1) := by decide +kernel
theorem dX8_patternOf_0 : decode cX8_patternOf 0 = .ok (.iload_n 0, 1) := by decide +kernel
theorem dX8_patternOf_1 : decode cX8_patternOf 1 = .ok (.bipush 100, 2) := by decide +kernel
theorem dX8_patternOf_3 : decode cX8_patternOf 3 = .ok (.if_icmp .ne 7, 3) := by decide +kernel
theorem dX8_patternOf_6 : decode cX8_patternOf 6 = .ok (.iconst 0, 1) := by decide +kernel
theorem dX8_patternOf_7 : decode cX8_patternOf 7 = .ok (.goto 55, 3) := by decide +kernel
theorem dX8_patternOf_10 : decode cX8_patternOf 10 = .ok (.iload_n 0, 1) := by decide +kernel
theorem dX8_patternOf_11 : decode cX8_patternOf 11 = .ok (.bipush 108, 2) := by decide +kernel
theorem dX8_patternOf_13 : decode cX8_patternOf 13 = .ok (.if_icmp .ne 7, 3) := by decide +kernel
theorem dX8_patternOf_16 : decode cX8_patternOf 16 = .ok (.iconst 1, 1) := by decide +kernel
theorem dX8_patternOf_17 : decode cX8_patternOf 17 = .ok (.goto 45, 3) := by decide +kernel
theorem dX8_patternOf_20 : decode cX8_patternOf 20 = .ok (.iload_n 0, 1) := by decide +kernel
theorem dX8_patternOf_21 : decode cX8_patternOf 21 = .ok (.bipush 114, 2) := by decide +kernel
theorem dX8_patternOf_23 : decode cX8_patternOf 23 = .ok (.if_icmp .ne 7, 3) := by decide +kernel
theorem dX8_patternOf_26 : decode cX8_patternOf 26 = .ok (.iconst 2, 1) := by decide +kernel
theorem dX8_patternOf_27 : decode cX8_patternOf 27 = .ok (.goto 35, 3) := by decide +kernel
theorem dX8_patternOf_30 : decode cX8_patternOf 30 = .ok (.iload_n 0, 1) := by decide +kernel
theorem dX8_patternOf_31 : decode cX8_patternOf 31 = .ok (.bipush 119, 2) := by decide +kernel
theorem dX8_patternOf_33 : decode cX8_patternOf 33 = .ok (.if_icmp .ne 7, 3) := by decide +kernel
theorem dX8_patternOf_36 : decode cX8_patternOf 36 = .ok (.iconst 3, 1) := by decide +kernel
theorem dX8_patternOf_37 : decode cX8_patternOf 37 = .ok (.goto 25, 3) := by decide +kernel
theorem dX8_patternOf_40 : decode cX8_patternOf 40 = .ok (.iload_n 0, 1) := by decide +kernel
theorem dX8_patternOf_41 : decode cX8_patternOf 41 = .ok (.bipush 97, 2) := by decide +kernel
theorem dX8_patternOf_43 : decode cX8_patternOf 43 = .ok (.if_icmp .ne 7, 3) := by decide +kernel
theorem dX8_patternOf_46 : decode cX8_patternOf 46 = .ok (.iconst 4, 1) := by decide +kernel
theorem dX8_patternOf_47 : decode cX8_patternOf 47 = .ok (.goto 15, 3) := by decide +kernel
theorem dX8_patternOf_50 : decode cX8_patternOf 50 = .ok (.iload_n 0, 1) := by decide +kernel
theorem dX8_patternOf_51 : decode cX8_patternOf 51 = .ok (.bipush 102, 2) := by decide +kernel
theorem dX8_patternOf_53 : decode cX8_patternOf 53 = .ok (.if_icmp .ne 7, 3) := by decide +kernel
theorem dX8_patternOf_56 : decode cX8_patternOf 56 = .ok (.iconst 5, 1) := by decide +kernel
theorem dX8_patternOf_57 : decode cX8_patternOf 57 = .ok (.goto 5, 3) := by decide +kernel
theorem dX8_patternOf_60 : decode cX8_patternOf 60 = .ok (.bipush (-4), 2) := by decide +kernel
theorem dX8_patternOf_62 : decode cX8_patternOf 62 = .ok (.ireturn, 1) := by decide +kernel
theorem dX8_takesEmitter_0 : decode cX8_takesEmitter 0 = .ok (.iconst 4, 1) := by decide +kernel
theorem dX8_takesEmitter_1 : decode cX8_takesEmitter 1 = .ok (.aload_n 0, 1) := by decide +kernel
theorem dX8_takesEmitter_2 : decode cX8_takesEmitter 2 = .ok (.getfield 133, 3) := by decide +kernel
theorem dX8_takesEmitter_5 : decode cX8_takesEmitter 5 = .ok (.imul, 1) := by decide +kernel
theorem dX8_takesEmitter_6 : decode cX8_takesEmitter 6 = .ok (.istore_n 1, 1) := by decide +kernel
theorem dX8_takesEmitter_7 : decode cX8_takesEmitter 7 = .ok (.aload_n 0, 1) := by decide +kernel
theorem dX8_takesEmitter_8 : decode cX8_takesEmitter 8 = .ok (.getfield 29, 3) := by decide +kernel
theorem dX8_takesEmitter_11 : decode cX8_takesEmitter 11 = .ok (.iload_n 1, 1) := by decide +kernel
theorem dX8_takesEmitter_12 : decode cX8_takesEmitter 12 = .ok (.iconst 0, 1) := by decide +kernel
theorem dX8_takesEmitter_13 : decode cX8_takesEmitter 13 = .ok (.iadd, 1) := by decide +kernel
theorem dX8_takesEmitter_14 : decode cX8_takesEmitter 14 = .ok (.aload_n 0, 1) := by decide +kernel
theorem dX8_takesEmitter_15 : decode cX8_takesEmitter 15 = .ok (.iconst 0, 1) := by decide +kernel
theorem dX8_takesEmitter_16 : decode cX8_takesEmitter 16 = .ok (.bipush 9, 2) := by decide +kernel
theorem dX8_takesEmitter_18 : decode cX8_takesEmitter 18 = .ok (.invokevirtual 136, 3) := by decide +kernel
theorem dX8_takesEmitter_21 : decode cX8_takesEmitter 21 = .ok (.iastore, 1) := by decide +kernel
theorem dX8_takesEmitter_22 : decode cX8_takesEmitter 22 = .ok (.aload_n 0, 1) := by decide +kernel
theorem dX8_takesEmitter_23 : decode cX8_takesEmitter 23 = .ok (.getfield 29, 3) := by decide +kernel
theorem dX8_takesEmitter_26 : decode cX8_takesEmitter 26 = .ok (.iload_n 1, 1) := by decide +kernel
theorem dX8_takesEmitter_27 : decode cX8_takesEmitter 27 = .ok (.iconst 1, 1) := by decide +kernel
theorem dX8_takesEmitter_28 : decode cX8_takesEmitter 28 = .ok (.iadd, 1) := by decide +kernel
theorem dX8_takesEmitter_29 : decode cX8_takesEmitter 29 = .ok (.aload_n 0, 1) := by decide +kernel
theorem dX8_takesEmitter_30 : decode cX8_takesEmitter 30 = .ok (.invokevirtual 126, 3) := by decide +kernel
theorem dX8_takesEmitter_33 : decode cX8_takesEmitter 33 = .ok (.invokestatic 139, 3) := by decide +kernel
theorem dX8_takesEmitter_36 : decode cX8_takesEmitter 36 = .ok (.iastore, 1) := by decide +kernel
theorem dX8_takesEmitter_37 : decode cX8_takesEmitter 37 = .ok (.aload_n 0, 1) := by decide +kernel
theorem dX8_takesEmitter_38 : decode cX8_takesEmitter 38 = .ok (.aload_n 0, 1) := by decide +kernel
theorem dX8_takesEmitter_39 : decode cX8_takesEmitter 39 = .ok (.getfield 29, 3) := by decide +kernel
theorem dX8_takesEmitter_42 : decode cX8_takesEmitter 42 = .ok (.iload_n 1, 1) := by decide +kernel
theorem dX8_takesEmitter_43 : decode cX8_takesEmitter 43 = .ok (.iconst 1, 1) := by decide +kernel
theorem dX8_takesEmitter_44 : decode cX8_takesEmitter 44 = .ok (.iadd, 1) := by decide +kernel
theorem dX8_takesEmitter_45 : decode cX8_takesEmitter 45 = .ok (.iaload, 1) := by decide +kernel
theorem dX8_takesEmitter_46 : decode cX8_takesEmitter 46 = .ok (.ifCond .lt 7, 3) := by decide +kernel
theorem dX8_takesEmitter_49 : decode cX8_takesEmitter 49 = .ok (.iconst 1, 1) := by decide +kernel
theorem dX8_takesEmitter_50 : decode cX8_takesEmitter 50 = .ok (.goto 4, 3) := by decide +kernel
theorem dX8_takesEmitter_53 : decode cX8_takesEmitter 53 = .ok (.iconst 0, 1) := by decide +kernel
theorem dX8_takesEmitter_54 : decode cX8_takesEmitter 54 = .ok (.invokevirtual 129, 3) := by decide +kernel
theorem dX8_takesEmitter_57 : decode cX8_takesEmitter 57 = .ok (.aload_n 0, 1) := by decide +kernel
theorem dX8_takesEmitter_58 : decode cX8_takesEmitter 58 = .ok (.getfield 29, 3) := by decide +kernel
theorem dX8_takesEmitter_61 : decode cX8_takesEmitter 61 = .ok (.iload_n 1, 1) := by decide +kernel
theorem dX8_takesEmitter_62 : decode cX8_takesEmitter 62 = .ok (.iconst 2, 1) := by decide +kernel
theorem dX8_takesEmitter_63 : decode cX8_takesEmitter 63 = .ok (.iadd, 1) := by decide +kernel
theorem dX8_takesEmitter_64 : decode cX8_takesEmitter 64 = .ok (.aload_n 0, 1) := by decide +kernel
theorem dX8_takesEmitter_65 : decode cX8_takesEmitter 65 = .ok (.iconst 1, 1) := by decide +kernel
theorem dX8_takesEmitter_66 : decode cX8_takesEmitter 66 = .ok (.bipush 9, 2) := by decide +kernel
theorem dX8_takesEmitter_68 : decode cX8_takesEmitter 68 = .ok (.invokevirtual 136, 3) := by decide +kernel
theorem dX8_takesEmitter_71 : decode cX8_takesEmitter 71 = .ok (.iastore, 1) := by decide +kernel
theorem dX8_takesEmitter_72 : decode cX8_takesEmitter 72 = .ok (.aload_n 0, 1) := by decide +kernel
theorem dX8_takesEmitter_73 : decode cX8_takesEmitter 73 = .ok (.getfield 29, 3) := by decide +kernel
theorem dX8_takesEmitter_76 : decode cX8_takesEmitter 76 = .ok (.iload_n 1, 1) := by decide +kernel
theorem dX8_takesEmitter_77 : decode cX8_takesEmitter 77 = .ok (.iconst 3, 1) := by decide +kernel
theorem dX8_takesEmitter_78 : decode cX8_takesEmitter 78 = .ok (.iadd, 1) := by decide +kernel
theorem dX8_takesEmitter_79 : decode cX8_takesEmitter 79 = .ok (.iconst 0, 1) := by decide +kernel
theorem dX8_takesEmitter_80 : decode cX8_takesEmitter 80 = .ok (.iastore, 1) := by decide +kernel
theorem dX8_takesEmitter_81 : decode cX8_takesEmitter 81 = .ok (.aload_n 0, 1) := by decide +kernel
theorem dX8_takesEmitter_82 : decode cX8_takesEmitter 82 = .ok (.getfield 122, 3) := by decide +kernel
theorem dX8_takesEmitter_85 : decode cX8_takesEmitter 85 = .ok (.ifCond .eq 45, 3) := by decide +kernel
theorem dX8_takesEmitter_88 : decode cX8_takesEmitter 88 = .ok (.aload_n 0, 1) := by decide +kernel
theorem dX8_takesEmitter_89 : decode cX8_takesEmitter 89 = .ok (.invokevirtual 126, 3) := by decide +kernel
theorem dX8_takesEmitter_92 : decode cX8_takesEmitter 92 = .ok (.bipush 43, 2) := by decide +kernel
theorem dX8_takesEmitter_94 : decode cX8_takesEmitter 94 = .ok (.if_icmp .ne 36, 3) := by decide +kernel
theorem dX8_takesEmitter_97 : decode cX8_takesEmitter 97 = .ok (.aload_n 0, 1) := by decide +kernel
theorem dX8_takesEmitter_98 : decode cX8_takesEmitter 98 = .ok (.dup, 1) := by decide +kernel
theorem dX8_takesEmitter_99 : decode cX8_takesEmitter 99 = .ok (.getfield 119, 3) := by decide +kernel
theorem dX8_takesEmitter_102 : decode cX8_takesEmitter 102 = .ok (.iconst 1, 1) := by decide +kernel
theorem dX8_takesEmitter_103 : decode cX8_takesEmitter 103 = .ok (.iadd, 1) := by decide +kernel
theorem dX8_takesEmitter_104 : decode cX8_takesEmitter 104 = .ok (.putfield 119, 3) := by decide +kernel
theorem dX8_takesEmitter_107 : decode cX8_takesEmitter 107 = .ok (.aload_n 0, 1) := by decide +kernel
theorem dX8_takesEmitter_108 : decode cX8_takesEmitter 108 = .ok (.getfield 29, 3) := by decide +kernel
theorem dX8_takesEmitter_111 : decode cX8_takesEmitter 111 = .ok (.iload_n 1, 1) := by decide +kernel
theorem dX8_takesEmitter_112 : decode cX8_takesEmitter 112 = .ok (.iconst 3, 1) := by decide +kernel
theorem dX8_takesEmitter_113 : decode cX8_takesEmitter 113 = .ok (.iadd, 1) := by decide +kernel
theorem dX8_takesEmitter_114 : decode cX8_takesEmitter 114 = .ok (.aload_n 0, 1) := by decide +kernel
theorem dX8_takesEmitter_115 : decode cX8_takesEmitter 115 = .ok (.iconst 0, 1) := by decide +kernel
theorem dX8_takesEmitter_116 : decode cX8_takesEmitter 116 = .ok (.aload_n 0, 1) := by decide +kernel
theorem dX8_takesEmitter_117 : decode cX8_takesEmitter 117 = .ok (.getfield 29, 3) := by decide +kernel
theorem dX8_takesEmitter_120 : decode cX8_takesEmitter 120 = .ok (.iload_n 1, 1) := by decide +kernel
theorem dX8_takesEmitter_121 : decode cX8_takesEmitter 121 = .ok (.iconst 2, 1) := by decide +kernel
theorem dX8_takesEmitter_122 : decode cX8_takesEmitter 122 = .ok (.iadd, 1) := by decide +kernel
theorem dX8_takesEmitter_123 : decode cX8_takesEmitter 123 = .ok (.iaload, 1) := by decide +kernel
theorem dX8_takesEmitter_124 : decode cX8_takesEmitter 124 = .ok (.iconst 1, 1) := by decide +kernel
theorem dX8_takesEmitter_125 : decode cX8_takesEmitter 125 = .ok (.isub, 1) := by decide +kernel
theorem dX8_takesEmitter_126 : decode cX8_takesEmitter 126 = .ok (.invokevirtual 136, 3) := by decide +kernel
theorem dX8_takesEmitter_129 : decode cX8_takesEmitter 129 = .ok (.iastore, 1) := by decide +kernel
theorem dX8_takesEmitter_130 : decode cX8_takesEmitter 130 = .ok (.aload_n 0, 1) := by decide +kernel
theorem dX8_takesEmitter_131 : decode cX8_takesEmitter 131 = .ok (.dup, 1) := by decide +kernel
theorem dX8_takesEmitter_132 : decode cX8_takesEmitter 132 = .ok (.getfield 133, 3) := by decide +kernel
theorem dX8_takesEmitter_135 : decode cX8_takesEmitter 135 = .ok (.iconst 1, 1) := by decide +kernel
theorem dX8_takesEmitter_136 : decode cX8_takesEmitter 136 = .ok (.iadd, 1) := by decide +kernel
theorem dX8_takesEmitter_137 : decode cX8_takesEmitter 137 = .ok (.putfield 133, 3) := by decide +kernel
theorem dX8_takesEmitter_140 : decode cX8_takesEmitter 140 = .ok (.return_, 1) := by decide +kernel
theorem dX8_isCurtain_0 : decode cX8_isCurtain 0 = .ok (.aload_n 0, 1) := by decide +kernel
theorem dX8_isCurtain_1 : decode cX8_isCurtain 1 = .ok (.iconst 0, 1) := by decide +kernel
theorem dX8_isCurtain_2 : decode cX8_isCurtain 2 = .ok (.putfield 119, 3) := by decide +kernel
theorem dX8_isCurtain_5 : decode cX8_isCurtain 5 = .ok (.aload_n 0, 1) := by decide +kernel
theorem dX8_isCurtain_6 : decode cX8_isCurtain 6 = .ok (.iconst 1, 1) := by decide +kernel
theorem dX8_isCurtain_7 : decode cX8_isCurtain 7 = .ok (.putfield 122, 3) := by decide +kernel
theorem dX8_isCurtain_10 : decode cX8_isCurtain 10 = .ok (.aload_n 0, 1) := by decide +kernel
theorem dX8_isCurtain_11 : decode cX8_isCurtain 11 = .ok (.iconst 0, 1) := by decide +kernel
theorem dX8_isCurtain_12 : decode cX8_isCurtain 12 = .ok (.putfield 133, 3) := by decide +kernel
theorem dX8_isCurtain_15 : decode cX8_isCurtain 15 = .ok (.aload_n 0, 1) := by decide +kernel
theorem dX8_isCurtain_16 : decode cX8_isCurtain 16 = .ok (.invokevirtual 142, 3) := by decide +kernel
theorem dX8_isCurtain_19 : decode cX8_isCurtain 19 = .ok (.aload_n 0, 1) := by decide +kernel
theorem dX8_isCurtain_20 : decode cX8_isCurtain 20 = .ok (.getfield 122, 3) := by decide +kernel
theorem dX8_isCurtain_23 : decode cX8_isCurtain 23 = .ok (.ifCond .eq 54, 3) := by decide +kernel
theorem dX8_isCurtain_26 : decode cX8_isCurtain 26 = .ok (.aload_n 0, 1) := by decide +kernel
theorem dX8_isCurtain_27 : decode cX8_isCurtain 27 = .ok (.getfield 119, 3) := by decide +kernel
theorem dX8_isCurtain_30 : decode cX8_isCurtain 30 = .ok (.aload_n 0, 1) := by decide +kernel
theorem dX8_isCurtain_31 : decode cX8_isCurtain 31 = .ok (.getfield 116, 3) := by decide +kernel
theorem dX8_isCurtain_34 : decode cX8_isCurtain 34 = .ok (.if_icmp .ge 43, 3) := by decide +kernel
theorem dX8_isCurtain_37 : decode cX8_isCurtain 37 = .ok (.aload_n 0, 1) := by decide +kernel
theorem dX8_isCurtain_38 : decode cX8_isCurtain 38 = .ok (.aload_n 0, 1) := by decide +kernel
theorem dX8_isCurtain_39 : decode cX8_isCurtain 39 = .ok (.invokevirtual 126, 3) := by decide +kernel
theorem dX8_isCurtain_42 : decode cX8_isCurtain 42 = .ok (.bipush 59, 2) := by decide +kernel
theorem dX8_isCurtain_44 : decode cX8_isCurtain 44 = .ok (.if_icmp .ne 15, 3) := by decide +kernel
theorem dX8_isCurtain_47 : decode cX8_isCurtain 47 = .ok (.aload_n 0, 1) := by decide +kernel
theorem dX8_isCurtain_48 : decode cX8_isCurtain 48 = .ok (.getfield 133, 3) := by decide +kernel
theorem dX8_isCurtain_51 : decode cX8_isCurtain 51 = .ok (.iconst 4, 1) := by decide +kernel
theorem dX8_isCurtain_52 : decode cX8_isCurtain 52 = .ok (.if_icmp .ge 7, 3) := by decide +kernel
theorem dX8_isCurtain_55 : decode cX8_isCurtain 55 = .ok (.iconst 1, 1) := by decide +kernel
theorem dX8_isCurtain_56 : decode cX8_isCurtain 56 = .ok (.goto 4, 3) := by decide +kernel
theorem dX8_isCurtain_59 : decode cX8_isCurtain 59 = .ok (.iconst 0, 1) := by decide +kernel
theorem dX8_isCurtain_60 : decode cX8_isCurtain 60 = .ok (.invokevirtual 129, 3) := by decide +kernel
theorem dX8_isCurtain_63 : decode cX8_isCurtain 63 = .ok (.aload_n 0, 1) := by decide +kernel
theorem dX8_isCurtain_64 : decode cX8_isCurtain 64 = .ok (.getfield 122, 3) := by decide +kernel
theorem dX8_isCurtain_67 : decode cX8_isCurtain 67 = .ok (.ifCond .eq (-48), 3) := by decide +kernel
theorem dX8_isCurtain_70 : decode cX8_isCurtain 70 = .ok (.aload_n 0, 1) := by decide +kernel
theorem dX8_isCurtain_71 : decode cX8_isCurtain 71 = .ok (.invokevirtual 142, 3) := by decide +kernel
theorem dX8_isCurtain_74 : decode cX8_isCurtain 74 = .ok (.goto (-55), 3) := by decide +kernel
theorem dX8_isCurtain_77 : decode cX8_isCurtain 77 = .ok (.aload_n 0, 1) := by decide +kernel
theorem dX8_isCurtain_78 : decode cX8_isCurtain 78 = .ok (.getfield 122, 3) := by decide +kernel
theorem dX8_isCurtain_81 : decode cX8_isCurtain 81 = .ok (.ireturn, 1) := by decide +kernel
theorem dX8_areSteps_0 : decode cX8_areSteps 0 = .ok (.aload_n 0, 1) := by decide +kernel
theorem dX8_areSteps_1 : decode cX8_areSteps 1 = .ok (.iconst 0, 1) := by decide +kernel
theorem dX8_areSteps_2 : decode cX8_areSteps 2 = .ok (.putfield 119, 3) := by decide +kernel
theorem dX8_areSteps_5 : decode cX8_areSteps 5 = .ok (.aload_n 0, 1) := by decide +kernel
theorem dX8_areSteps_6 : decode cX8_areSteps 6 = .ok (.iconst 1, 1) := by decide +kernel
theorem dX8_areSteps_7 : decode cX8_areSteps 7 = .ok (.putfield 122, 3) := by decide +kernel
theorem dX8_areSteps_10 : decode cX8_areSteps 10 = .ok (.aload_n 0, 1) := by decide +kernel
theorem dX8_areSteps_11 : decode cX8_areSteps 11 = .ok (.getfield 122, 3) := by decide +kernel
theorem dX8_areSteps_14 : decode cX8_areSteps 14 = .ok (.ifCond .eq 69, 3) := by decide +kernel
theorem dX8_areSteps_17 : decode cX8_areSteps 17 = .ok (.aload_n 0, 1) := by decide +kernel
theorem dX8_areSteps_18 : decode cX8_areSteps 18 = .ok (.getfield 119, 3) := by decide +kernel
theorem dX8_areSteps_21 : decode cX8_areSteps 21 = .ok (.ifCond .eq 14, 3) := by decide +kernel
theorem dX8_areSteps_24 : decode cX8_areSteps 24 = .ok (.aload_n 0, 1) := by decide +kernel
theorem dX8_areSteps_25 : decode cX8_areSteps 25 = .ok (.getfield 119, 3) := by decide +kernel
theorem dX8_areSteps_28 : decode cX8_areSteps 28 = .ok (.aload_n 0, 1) := by decide +kernel
theorem dX8_areSteps_29 : decode cX8_areSteps 29 = .ok (.getfield 116, 3) := by decide +kernel
theorem dX8_areSteps_32 : decode cX8_areSteps 32 = .ok (.if_icmp .ge 51, 3) := by decide +kernel
theorem dX8_areSteps_35 : decode cX8_areSteps 35 = .ok (.aload_n 0, 1) := by decide +kernel
theorem dX8_areSteps_36 : decode cX8_areSteps 36 = .ok (.aload_n 0, 1) := by decide +kernel
theorem dX8_areSteps_37 : decode cX8_areSteps 37 = .ok (.invokevirtual 126, 3) := by decide +kernel
theorem dX8_areSteps_40 : decode cX8_areSteps 40 = .ok (.bipush 108, 2) := by decide +kernel
theorem dX8_areSteps_42 : decode cX8_areSteps 42 = .ok (.if_icmp .eq 30, 3) := by decide +kernel
theorem dX8_areSteps_45 : decode cX8_areSteps 45 = .ok (.aload_n 0, 1) := by decide +kernel
theorem dX8_areSteps_46 : decode cX8_areSteps 46 = .ok (.invokevirtual 126, 3) := by decide +kernel
theorem dX8_areSteps_49 : decode cX8_areSteps 49 = .ok (.bipush 115, 2) := by decide +kernel
theorem dX8_areSteps_51 : decode cX8_areSteps 51 = .ok (.if_icmp .eq 21, 3) := by decide +kernel
theorem dX8_areSteps_54 : decode cX8_areSteps 54 = .ok (.aload_n 0, 1) := by decide +kernel
theorem dX8_areSteps_55 : decode cX8_areSteps 55 = .ok (.invokevirtual 126, 3) := by decide +kernel
theorem dX8_areSteps_58 : decode cX8_areSteps 58 = .ok (.bipush 114, 2) := by decide +kernel
theorem dX8_areSteps_60 : decode cX8_areSteps 60 = .ok (.if_icmp .eq 12, 3) := by decide +kernel
theorem dX8_areSteps_63 : decode cX8_areSteps 63 = .ok (.aload_n 0, 1) := by decide +kernel
theorem dX8_areSteps_64 : decode cX8_areSteps 64 = .ok (.invokevirtual 126, 3) := by decide +kernel
theorem dX8_areSteps_67 : decode cX8_areSteps 67 = .ok (.bipush 98, 2) := by decide +kernel
theorem dX8_areSteps_69 : decode cX8_areSteps 69 = .ok (.if_icmp .ne 7, 3) := by decide +kernel
theorem dX8_areSteps_72 : decode cX8_areSteps 72 = .ok (.iconst 1, 1) := by decide +kernel
theorem dX8_areSteps_73 : decode cX8_areSteps 73 = .ok (.goto 4, 3) := by decide +kernel
theorem dX8_areSteps_76 : decode cX8_areSteps 76 = .ok (.iconst 0, 1) := by decide +kernel
theorem dX8_areSteps_77 : decode cX8_areSteps 77 = .ok (.invokevirtual 129, 3) := by decide +kernel
theorem dX8_areSteps_80 : decode cX8_areSteps 80 = .ok (.goto (-70), 3) := by decide +kernel
theorem dX8_areSteps_83 : decode cX8_areSteps 83 = .ok (.aload_n 0, 1) := by decide +kernel
theorem dX8_areSteps_84 : decode cX8_areSteps 84 = .ok (.getfield 122, 3) := by decide +kernel
theorem dX8_areSteps_87 : decode cX8_areSteps 87 = .ok (.ireturn, 1) := by decide +kernel
theorem dX8_fault_0 : decode cX8_fault 0 = .ok (.iload_n 1, 1) := by decide +kernel
theorem dX8_fault_1 : decode cX8_fault 1 = .ok (.iconst 0, 1) := by decide +kernel
theorem dX8_fault_2 : decode cX8_fault 2 = .ok (.iconst 1, 1) := by decide +kernel
theorem dX8_fault_3 : decode cX8_fault 3 = .ok (.invokestatic 49, 3) := by decide +kernel
theorem dX8_fault_6 : decode cX8_fault 6 = .ok (.ifCond .ne 5, 3) := by decide +kernel
theorem dX8_fault_9 : decode cX8_fault 9 = .ok (.iconst (-1), 1) := by decide +kernel
theorem dX8_fault_10 : decode cX8_fault 10 = .ok (.ireturn, 1) := by decide +kernel
theorem dX8_fault_11 : decode cX8_fault 11 = .ok (.iload_n 1, 1) := by decide +kernel
theorem dX8_fault_12 : decode cX8_fault 12 = .ok (.ifCond .ne 13, 3) := by decide +kernel
theorem dX8_fault_15 : decode cX8_fault 15 = .ok (.aload_n 0, 1) := by decide +kernel
theorem dX8_fault_16 : decode cX8_fault 16 = .ok (.invokevirtual 145, 3) := by decide +kernel
theorem dX8_fault_19 : decode cX8_fault 19 = .ok (.ifCond .eq 18, 3) := by decide +kernel
theorem dX8_fault_22 : decode cX8_fault 22 = .ok (.goto 10, 3) := by decide +kernel
theorem dX8_fault_25 : decode cX8_fault 25 = .ok (.aload_n 0, 1) := by decide +kernel
theorem dX8_fault_26 : decode cX8_fault 26 = .ok (.invokevirtual 148, 3) := by decide +kernel
theorem dX8_fault_29 : decode cX8_fault 29 = .ok (.ifCond .eq 8, 3) := by decide +kernel
theorem dX8_fault_32 : decode cX8_fault 32 = .ok (.bipush (-4), 2) := by decide +kernel
theorem dX8_fault_34 : decode cX8_fault 34 = .ok (.goto 7, 3) := by decide +kernel
theorem dX8_fault_37 : decode cX8_fault 37 = .ok (.aload_n 0, 1) := by decide +kernel
theorem dX8_fault_38 : decode cX8_fault 38 = .ok (.getfield 119, 3) := by decide +kernel
theorem dX8_fault_41 : decode cX8_fault 41 = .ok (.ireturn, 1) := by decide +kernel
theorem dX8_hang_0 : decode cX8_hang 0 = .ok (.aload_n 0, 1) := by decide +kernel
theorem dX8_hang_1 : decode cX8_hang 1 = .ok (.invokevirtual 145, 3) := by decide +kernel
theorem dX8_hang_4 : decode cX8_hang 4 = .ok (.ifCond .ne 6, 3) := by decide +kernel
theorem dX8_hang_7 : decode cX8_hang 7 = .ok (.bipush (-2), 2) := by decide +kernel
theorem dX8_hang_9 : decode cX8_hang 9 = .ok (.ireturn, 1) := by decide +kernel
theorem dX8_hang_10 : decode cX8_hang 10 = .ok (.aload_n 0, 1) := by decide +kernel
theorem dX8_hang_11 : decode cX8_hang 11 = .ok (.invokevirtual 90, 3) := by decide +kernel
theorem dX8_hang_14 : decode cX8_hang 14 = .ok (.bipush 17, 2) := by decide +kernel
theorem dX8_hang_16 : decode cX8_hang 16 = .ok (.istore_n 1, 1) := by decide +kernel
theorem dX8_hang_17 : decode cX8_hang 17 = .ok (.iload_n 1, 1) := by decide +kernel
theorem dX8_hang_18 : decode cX8_hang 18 = .ok (.bipush 33, 2) := by decide +kernel
theorem dX8_hang_20 : decode cX8_hang 20 = .ok (.if_icmp .ge 16, 3) := by decide +kernel
theorem dX8_hang_23 : decode cX8_hang 23 = .ok (.aload_n 0, 1) := by decide +kernel
theorem dX8_hang_24 : decode cX8_hang 24 = .ok (.getfield 7, 3) := by decide +kernel
theorem dX8_hang_27 : decode cX8_hang 27 = .ok (.iload_n 1, 1) := by decide +kernel
theorem dX8_hang_28 : decode cX8_hang 28 = .ok (.iconst 0, 1) := by decide +kernel
theorem dX8_hang_29 : decode cX8_hang 29 = .ok (.iastore, 1) := by decide +kernel
theorem dX8_hang_30 : decode cX8_hang 30 = .ok (.iinc 1 1, 3) := by decide +kernel
theorem dX8_hang_33 : decode cX8_hang 33 = .ok (.goto (-16), 3) := by decide +kernel
theorem dX8_hang_36 : decode cX8_hang 36 = .ok (.aload_n 0, 1) := by decide +kernel
theorem dX8_hang_37 : decode cX8_hang 37 = .ok (.getfield 7, 3) := by decide +kernel
theorem dX8_hang_40 : decode cX8_hang 40 = .ok (.iconst 0, 1) := by decide +kernel
theorem dX8_hang_41 : decode cX8_hang 41 = .ok (.iconst 0, 1) := by decide +kernel
theorem dX8_hang_42 : decode cX8_hang 42 = .ok (.iastore, 1) := by decide +kernel
theorem dX8_hang_43 : decode cX8_hang 43 = .ok (.iconst 0, 1) := by decide +kernel
theorem dX8_hang_44 : decode cX8_hang 44 = .ok (.istore_n 1, 1) := by decide +kernel
theorem dX8_hang_45 : decode cX8_hang 45 = .ok (.iload_n 1, 1) := by decide +kernel
theorem dX8_hang_46 : decode cX8_hang 46 = .ok (.aload_n 0, 1) := by decide +kernel
theorem dX8_hang_47 : decode cX8_hang 47 = .ok (.getfield 133, 3) := by decide +kernel
theorem dX8_hang_50 : decode cX8_hang 50 = .ok (.if_icmp .ge 51, 3) := by decide +kernel
theorem dX8_hang_53 : decode cX8_hang 53 = .ok (.aload_n 0, 1) := by decide +kernel
theorem dX8_hang_54 : decode cX8_hang 54 = .ok (.aload_n 0, 1) := by decide +kernel
theorem dX8_hang_55 : decode cX8_hang 55 = .ok (.getfield 29, 3) := by decide +kernel
theorem dX8_hang_58 : decode cX8_hang 58 = .ok (.iconst 4, 1) := by decide +kernel
theorem dX8_hang_59 : decode cX8_hang 59 = .ok (.iload_n 1, 1) := by decide +kernel
theorem dX8_hang_60 : decode cX8_hang 60 = .ok (.imul, 1) := by decide +kernel
theorem dX8_hang_61 : decode cX8_hang 61 = .ok (.iaload, 1) := by decide +kernel
theorem dX8_hang_62 : decode cX8_hang 62 = .ok (.aload_n 0, 1) := by decide +kernel
theorem dX8_hang_63 : decode cX8_hang 63 = .ok (.getfield 29, 3) := by decide +kernel
theorem dX8_hang_66 : decode cX8_hang 66 = .ok (.iconst 4, 1) := by decide +kernel
theorem dX8_hang_67 : decode cX8_hang 67 = .ok (.iload_n 1, 1) := by decide +kernel
theorem dX8_hang_68 : decode cX8_hang 68 = .ok (.imul, 1) := by decide +kernel
theorem dX8_hang_69 : decode cX8_hang 69 = .ok (.iconst 1, 1) := by decide +kernel
theorem dX8_hang_70 : decode cX8_hang 70 = .ok (.iadd, 1) := by decide +kernel
theorem dX8_hang_71 : decode cX8_hang 71 = .ok (.iaload, 1) := by decide +kernel
theorem dX8_hang_72 : decode cX8_hang 72 = .ok (.aload_n 0, 1) := by decide +kernel
theorem dX8_hang_73 : decode cX8_hang 73 = .ok (.getfield 29, 3) := by decide +kernel
theorem dX8_hang_76 : decode cX8_hang 76 = .ok (.iconst 4, 1) := by decide +kernel
theorem dX8_hang_77 : decode cX8_hang 77 = .ok (.iload_n 1, 1) := by decide +kernel
theorem dX8_hang_78 : decode cX8_hang 78 = .ok (.imul, 1) := by decide +kernel
theorem dX8_hang_79 : decode cX8_hang 79 = .ok (.iconst 2, 1) := by decide +kernel
theorem dX8_hang_80 : decode cX8_hang 80 = .ok (.iadd, 1) := by decide +kernel
theorem dX8_hang_81 : decode cX8_hang 81 = .ok (.iaload, 1) := by decide +kernel
theorem dX8_hang_82 : decode cX8_hang 82 = .ok (.aload_n 0, 1) := by decide +kernel
theorem dX8_hang_83 : decode cX8_hang 83 = .ok (.getfield 29, 3) := by decide +kernel
theorem dX8_hang_86 : decode cX8_hang 86 = .ok (.iconst 4, 1) := by decide +kernel
theorem dX8_hang_87 : decode cX8_hang 87 = .ok (.iload_n 1, 1) := by decide +kernel
theorem dX8_hang_88 : decode cX8_hang 88 = .ok (.imul, 1) := by decide +kernel
theorem dX8_hang_89 : decode cX8_hang 89 = .ok (.iconst 3, 1) := by decide +kernel
theorem dX8_hang_90 : decode cX8_hang 90 = .ok (.iadd, 1) := by decide +kernel
theorem dX8_hang_91 : decode cX8_hang 91 = .ok (.iaload, 1) := by decide +kernel
theorem dX8_hang_92 : decode cX8_hang 92 = .ok (.invokevirtual 93, 3) := by decide +kernel
theorem dX8_hang_95 : decode cX8_hang 95 = .ok (.iinc 1 1, 3) := by decide +kernel
theorem dX8_hang_98 : decode cX8_hang 98 = .ok (.goto (-53), 3) := by decide +kernel
theorem dX8_hang_101 : decode cX8_hang 101 = .ok (.aload_n 0, 1) := by decide +kernel
theorem dX8_hang_102 : decode cX8_hang 102 = .ok (.iconst 0, 1) := by decide +kernel
theorem dX8_hang_103 : decode cX8_hang 103 = .ok (.putfield 116, 3) := by decide +kernel
theorem dX8_hang_106 : decode cX8_hang 106 = .ok (.aload_n 0, 1) := by decide +kernel
theorem dX8_hang_107 : decode cX8_hang 107 = .ok (.getfield 7, 3) := by decide +kernel
theorem dX8_hang_110 : decode cX8_hang 110 = .ok (.iconst 0, 1) := by decide +kernel
theorem dX8_hang_111 : decode cX8_hang 111 = .ok (.iaload, 1) := by decide +kernel
theorem dX8_hang_112 : decode cX8_hang 112 = .ok (.ireturn, 1) := by decide +kernel
theorem dX8_play_0 : decode cX8_play 0 = .ok (.aload_n 0, 1) := by decide +kernel
theorem dX8_play_1 : decode cX8_play 1 = .ok (.invokevirtual 148, 3) := by decide +kernel
theorem dX8_play_4 : decode cX8_play 4 = .ok (.ifCond .ne 6, 3) := by decide +kernel
theorem dX8_play_7 : decode cX8_play 7 = .ok (.bipush (-2), 2) := by decide +kernel
theorem dX8_play_9 : decode cX8_play 9 = .ok (.ireturn, 1) := by decide +kernel
theorem dX8_play_10 : decode cX8_play 10 = .ok (.aload_n 0, 1) := by decide +kernel
theorem dX8_play_11 : decode cX8_play 11 = .ok (.invokevirtual 90, 3) := by decide +kernel
theorem dX8_play_14 : decode cX8_play 14 = .ok (.iconst 0, 1) := by decide +kernel
theorem dX8_play_15 : decode cX8_play 15 = .ok (.istore_n 1, 1) := by decide +kernel
theorem dX8_play_16 : decode cX8_play 16 = .ok (.iconst 1, 1) := by decide +kernel
theorem dX8_play_17 : decode cX8_play 17 = .ok (.istore_n 2, 1) := by decide +kernel
theorem dX8_play_18 : decode cX8_play 18 = .ok (.iconst 0, 1) := by decide +kernel
theorem dX8_play_19 : decode cX8_play 19 = .ok (.istore_n 3, 1) := by decide +kernel
theorem dX8_play_20 : decode cX8_play 20 = .ok (.iload_n 3, 1) := by decide +kernel
theorem dX8_play_21 : decode cX8_play 21 = .ok (.aload_n 0, 1) := by decide +kernel
theorem dX8_play_22 : decode cX8_play 22 = .ok (.getfield 116, 3) := by decide +kernel
theorem dX8_play_25 : decode cX8_play 25 = .ok (.if_icmp .ge 109, 3) := by decide +kernel
theorem dX8_play_28 : decode cX8_play 28 = .ok (.iload_n 2, 1) := by decide +kernel
theorem dX8_play_29 : decode cX8_play 29 = .ok (.ifCond .eq 105, 3) := by decide +kernel
theorem dX8_play_32 : decode cX8_play 32 = .ok (.aload_n 0, 1) := by decide +kernel
theorem dX8_play_33 : decode cX8_play 33 = .ok (.getfield 22, 3) := by decide +kernel
theorem dX8_play_36 : decode cX8_play 36 = .ok (.iload_n 3, 1) := by decide +kernel
theorem dX8_play_37 : decode cX8_play 37 = .ok (.iaload, 1) := by decide +kernel
theorem dX8_play_38 : decode cX8_play 38 = .ok (.bipush 98, 2) := by decide +kernel
theorem dX8_play_40 : decode cX8_play 40 = .ok (.if_icmp .ne 10, 3) := by decide +kernel
theorem dX8_play_43 : decode cX8_play 43 = .ok (.aload_n 0, 1) := by decide +kernel
theorem dX8_play_44 : decode cX8_play 44 = .ok (.invokevirtual 109, 3) := by decide +kernel
theorem dX8_play_47 : decode cX8_play 47 = .ok (.goto 18, 3) := by decide +kernel
theorem dX8_play_50 : decode cX8_play 50 = .ok (.aload_n 0, 1) := by decide +kernel
theorem dX8_play_51 : decode cX8_play 51 = .ok (.getfield 7, 3) := by decide +kernel
theorem dX8_play_54 : decode cX8_play 54 = .ok (.bipush 6, 2) := by decide +kernel
theorem dX8_play_56 : decode cX8_play 56 = .ok (.iaload, 1) := by decide +kernel
theorem dX8_play_57 : decode cX8_play 57 = .ok (.ifCond .ne 7, 3) := by decide +kernel
theorem dX8_play_60 : decode cX8_play 60 = .ok (.iconst 1, 1) := by decide +kernel
theorem dX8_play_61 : decode cX8_play 61 = .ok (.goto 4, 3) := by decide +kernel
theorem dX8_play_64 : decode cX8_play 64 = .ok (.iconst 0, 1) := by decide +kernel
theorem dX8_play_65 : decode cX8_play 65 = .ok (.istore_n 2, 1) := by decide +kernel
theorem dX8_play_66 : decode cX8_play 66 = .ok (.iload_n 2, 1) := by decide +kernel
theorem dX8_play_67 : decode cX8_play 67 = .ok (.ifCond .eq 61, 3) := by decide +kernel
theorem dX8_play_70 : decode cX8_play 70 = .ok (.aload_n 0, 1) := by decide +kernel
theorem dX8_play_71 : decode cX8_play 71 = .ok (.getfield 22, 3) := by decide +kernel
theorem dX8_play_74 : decode cX8_play 74 = .ok (.iload_n 3, 1) := by decide +kernel
theorem dX8_play_75 : decode cX8_play 75 = .ok (.iaload, 1) := by decide +kernel
theorem dX8_play_76 : decode cX8_play 76 = .ok (.bipush 98, 2) := by decide +kernel
theorem dX8_play_78 : decode cX8_play 78 = .ok (.if_icmp .ne 10, 3) := by decide +kernel
theorem dX8_play_81 : decode cX8_play 81 = .ok (.aload_n 0, 1) := by decide +kernel
theorem dX8_play_82 : decode cX8_play 82 = .ok (.invokevirtual 113, 3) := by decide +kernel
theorem dX8_play_85 : decode cX8_play 85 = .ok (.goto 38, 3) := by decide +kernel
theorem dX8_play_88 : decode cX8_play 88 = .ok (.aload_n 0, 1) := by decide +kernel
theorem dX8_play_89 : decode cX8_play 89 = .ok (.aload_n 0, 1) := by decide +kernel
theorem dX8_play_90 : decode cX8_play 90 = .ok (.getfield 22, 3) := by decide +kernel
theorem dX8_play_93 : decode cX8_play 93 = .ok (.iload_n 3, 1) := by decide +kernel
theorem dX8_play_94 : decode cX8_play 94 = .ok (.iaload, 1) := by decide +kernel
theorem dX8_play_95 : decode cX8_play 95 = .ok (.bipush 108, 2) := by decide +kernel
theorem dX8_play_97 : decode cX8_play 97 = .ok (.if_icmp .ne 7, 3) := by decide +kernel
theorem dX8_play_100 : decode cX8_play 100 = .ok (.iconst (-1), 1) := by decide +kernel
theorem dX8_play_101 : decode cX8_play 101 = .ok (.goto 19, 3) := by decide +kernel
theorem dX8_play_104 : decode cX8_play 104 = .ok (.aload_n 0, 1) := by decide +kernel
theorem dX8_play_105 : decode cX8_play 105 = .ok (.getfield 22, 3) := by decide +kernel
theorem dX8_play_108 : decode cX8_play 108 = .ok (.iload_n 3, 1) := by decide +kernel
theorem dX8_play_109 : decode cX8_play 109 = .ok (.iaload, 1) := by decide +kernel
theorem dX8_play_110 : decode cX8_play 110 = .ok (.bipush 114, 2) := by decide +kernel
theorem dX8_play_112 : decode cX8_play 112 = .ok (.if_icmp .ne 7, 3) := by decide +kernel
theorem dX8_play_115 : decode cX8_play 115 = .ok (.iconst 1, 1) := by decide +kernel
theorem dX8_play_116 : decode cX8_play 116 = .ok (.goto 4, 3) := by decide +kernel
theorem dX8_play_119 : decode cX8_play 119 = .ok (.iconst 0, 1) := by decide +kernel
theorem dX8_play_120 : decode cX8_play 120 = .ok (.invokevirtual 105, 3) := by decide +kernel
theorem dX8_play_123 : decode cX8_play 123 = .ok (.istore 4, 2) := by decide +kernel
theorem dX8_play_125 : decode cX8_play 125 = .ok (.iinc 1 1, 3) := by decide +kernel
theorem dX8_play_128 : decode cX8_play 128 = .ok (.iinc 3 1, 3) := by decide +kernel
theorem dX8_play_131 : decode cX8_play 131 = .ok (.goto (-111), 3) := by decide +kernel
theorem dX8_play_134 : decode cX8_play 134 = .ok (.aload_n 0, 1) := by decide +kernel
theorem dX8_play_135 : decode cX8_play 135 = .ok (.iconst 0, 1) := by decide +kernel
theorem dX8_play_136 : decode cX8_play 136 = .ok (.putfield 116, 3) := by decide +kernel
theorem dX8_play_139 : decode cX8_play 139 = .ok (.iload_n 1, 1) := by decide +kernel
theorem dX8_play_140 : decode cX8_play 140 = .ok (.ireturn, 1) := by decide +kernel
theorem dX8_emitterOf_0 : decode cX8_emitterOf 0 = .ok (.aload_n 0, 1) := by decide +kernel
theorem dX8_emitterOf_1 : decode cX8_emitterOf 1 = .ok (.iload_n 1, 1) := by decide +kernel
theorem dX8_emitterOf_2 : decode cX8_emitterOf 2 = .ok (.invokevirtual 97, 3) := by decide +kernel
theorem dX8_emitterOf_5 : decode cX8_emitterOf 5 = .ok (.ifCond .eq 12, 3) := by decide +kernel
theorem dX8_emitterOf_8 : decode cX8_emitterOf 8 = .ok (.iload_n 2, 1) := by decide +kernel
theorem dX8_emitterOf_9 : decode cX8_emitterOf 9 = .ok (.iconst 0, 1) := by decide +kernel
theorem dX8_emitterOf_10 : decode cX8_emitterOf 10 = .ok (.iconst 4, 1) := by decide +kernel
theorem dX8_emitterOf_11 : decode cX8_emitterOf 11 = .ok (.invokestatic 49, 3) := by decide +kernel
theorem dX8_emitterOf_14 : decode cX8_emitterOf 14 = .ok (.ifCond .ne 5, 3) := by decide +kernel
theorem dX8_emitterOf_17 : decode cX8_emitterOf 17 = .ok (.iconst (-1), 1) := by decide +kernel
theorem dX8_emitterOf_18 : decode cX8_emitterOf 18 = .ok (.ireturn, 1) := by decide +kernel
theorem dX8_emitterOf_19 : decode cX8_emitterOf 19 = .ok (.iload_n 2, 1) := by decide +kernel
theorem dX8_emitterOf_20 : decode cX8_emitterOf 20 = .ok (.iconst 4, 1) := by decide +kernel
theorem dX8_emitterOf_21 : decode cX8_emitterOf 21 = .ok (.if_icmp .ge 10, 3) := by decide +kernel
theorem dX8_emitterOf_24 : decode cX8_emitterOf 24 = .ok (.aload_n 0, 1) := by decide +kernel
theorem dX8_emitterOf_25 : decode cX8_emitterOf 25 = .ok (.iload_n 1, 1) := by decide +kernel
theorem dX8_emitterOf_26 : decode cX8_emitterOf 26 = .ok (.iload_n 2, 1) := by decide +kernel
theorem dX8_emitterOf_27 : decode cX8_emitterOf 27 = .ok (.invokevirtual 71, 3) := by decide +kernel
theorem dX8_emitterOf_30 : decode cX8_emitterOf 30 = .ok (.ireturn, 1) := by decide +kernel
theorem dX8_emitterOf_31 : decode cX8_emitterOf 31 = .ok (.iconst 1, 1) := by decide +kernel
theorem dX8_emitterOf_32 : decode cX8_emitterOf 32 = .ok (.istore_n 3, 1) := by decide +kernel
theorem dX8_emitterOf_33 : decode cX8_emitterOf 33 = .ok (.aload_n 0, 1) := by decide +kernel
theorem dX8_emitterOf_34 : decode cX8_emitterOf 34 = .ok (.getfield 7, 3) := by decide +kernel
theorem dX8_emitterOf_37 : decode cX8_emitterOf 37 = .ok (.iconst 5, 1) := by decide +kernel
theorem dX8_emitterOf_38 : decode cX8_emitterOf 38 = .ok (.iaload, 1) := by decide +kernel
theorem dX8_emitterOf_39 : decode cX8_emitterOf 39 = .ok (.iload_n 3, 1) := by decide +kernel
theorem dX8_emitterOf_40 : decode cX8_emitterOf 40 = .ok (.iadd, 1) := by decide +kernel
theorem dX8_emitterOf_41 : decode cX8_emitterOf 41 = .ok (.aload_n 0, 1) := by decide +kernel
theorem dX8_emitterOf_42 : decode cX8_emitterOf 42 = .ok (.iload_n 1, 1) := by decide +kernel
theorem dX8_emitterOf_43 : decode cX8_emitterOf 43 = .ok (.iconst 2, 1) := by decide +kernel
theorem dX8_emitterOf_44 : decode cX8_emitterOf 44 = .ok (.invokevirtual 71, 3) := by decide +kernel
theorem dX8_emitterOf_47 : decode cX8_emitterOf 47 = .ok (.irem, 1) := by decide +kernel
theorem dX8_emitterOf_48 : decode cX8_emitterOf 48 = .ok (.aload_n 0, 1) := by decide +kernel
theorem dX8_emitterOf_49 : decode cX8_emitterOf 49 = .ok (.iload_n 1, 1) := by decide +kernel
theorem dX8_emitterOf_50 : decode cX8_emitterOf 50 = .ok (.iconst 3, 1) := by decide +kernel
theorem dX8_emitterOf_51 : decode cX8_emitterOf 51 = .ok (.invokevirtual 71, 3) := by decide +kernel
theorem dX8_emitterOf_54 : decode cX8_emitterOf 54 = .ok (.if_icmp .eq 9, 3) := by decide +kernel
theorem dX8_emitterOf_57 : decode cX8_emitterOf 57 = .ok (.iinc 3 1, 3) := by decide +kernel
theorem dX8_emitterOf_60 : decode cX8_emitterOf 60 = .ok (.goto (-27), 3) := by decide +kernel
theorem dX8_emitterOf_63 : decode cX8_emitterOf 63 = .ok (.iload_n 3, 1) := by decide +kernel
theorem dX8_emitterOf_64 : decode cX8_emitterOf 64 = .ok (.ireturn, 1) := by decide +kernel
theorem dX8_bullet_0 : decode cX8_bullet 0 = .ok (.iload_n 1, 1) := by decide +kernel
theorem dX8_bullet_1 : decode cX8_bullet 1 = .ok (.iconst 0, 1) := by decide +kernel
theorem dX8_bullet_2 : decode cX8_bullet 2 = .ok (.aload_n 0, 1) := by decide +kernel
theorem dX8_bullet_3 : decode cX8_bullet 3 = .ok (.getfield 7, 3) := by decide +kernel
theorem dX8_bullet_6 : decode cX8_bullet 6 = .ok (.iconst 1, 1) := by decide +kernel
theorem dX8_bullet_7 : decode cX8_bullet 7 = .ok (.iaload, 1) := by decide +kernel
theorem dX8_bullet_8 : decode cX8_bullet 8 = .ok (.iconst 1, 1) := by decide +kernel
theorem dX8_bullet_9 : decode cX8_bullet 9 = .ok (.isub, 1) := by decide +kernel
theorem dX8_bullet_10 : decode cX8_bullet 10 = .ok (.invokestatic 49, 3) := by decide +kernel
theorem dX8_bullet_13 : decode cX8_bullet 13 = .ok (.ifCond .eq 21, 3) := by decide +kernel
theorem dX8_bullet_16 : decode cX8_bullet 16 = .ok (.iload_n 2, 1) := by decide +kernel
theorem dX8_bullet_17 : decode cX8_bullet 17 = .ok (.iconst 0, 1) := by decide +kernel
theorem dX8_bullet_18 : decode cX8_bullet 18 = .ok (.iconst 4, 1) := by decide +kernel
theorem dX8_bullet_19 : decode cX8_bullet 19 = .ok (.invokestatic 49, 3) := by decide +kernel
theorem dX8_bullet_22 : decode cX8_bullet 22 = .ok (.ifCond .eq 12, 3) := by decide +kernel
theorem dX8_bullet_25 : decode cX8_bullet 25 = .ok (.aload_n 0, 1) := by decide +kernel
theorem dX8_bullet_26 : decode cX8_bullet 26 = .ok (.iload_n 1, 1) := by decide +kernel
theorem dX8_bullet_27 : decode cX8_bullet 27 = .ok (.iload_n 2, 1) := by decide +kernel
theorem dX8_bullet_28 : decode cX8_bullet 28 = .ok (.invokevirtual 53, 3) := by decide +kernel
theorem dX8_bullet_31 : decode cX8_bullet 31 = .ok (.goto 4, 3) := by decide +kernel
theorem dX8_bullet_34 : decode cX8_bullet 34 = .ok (.iconst (-1), 1) := by decide +kernel
theorem dX8_bullet_35 : decode cX8_bullet 35 = .ok (.ireturn, 1) := by decide +kernel
theorem dX8_bulletsAt_0 : decode cX8_bulletsAt 0 = .ok (.iconst 0, 1) := by decide +kernel
theorem dX8_bulletsAt_1 : decode cX8_bulletsAt 1 = .ok (.istore_n 3, 1) := by decide +kernel
theorem dX8_bulletsAt_2 : decode cX8_bulletsAt 2 = .ok (.iconst 0, 1) := by decide +kernel
theorem dX8_bulletsAt_3 : decode cX8_bulletsAt 3 = .ok (.istore 4, 2) := by decide +kernel
theorem dX8_bulletsAt_5 : decode cX8_bulletsAt 5 = .ok (.iload 4, 2) := by decide +kernel
theorem dX8_bulletsAt_7 : decode cX8_bulletsAt 7 = .ok (.aload_n 0, 1) := by decide +kernel
theorem dX8_bulletsAt_8 : decode cX8_bulletsAt 8 = .ok (.getfield 7, 3) := by decide +kernel
theorem dX8_bulletsAt_11 : decode cX8_bulletsAt 11 = .ok (.iconst 1, 1) := by decide +kernel
theorem dX8_bulletsAt_12 : decode cX8_bulletsAt 12 = .ok (.iaload, 1) := by decide +kernel
theorem dX8_bulletsAt_13 : decode cX8_bulletsAt 13 = .ok (.if_icmp .ge 28, 3) := by decide +kernel
theorem dX8_bulletsAt_16 : decode cX8_bulletsAt 16 = .ok (.iload_n 3, 1) := by decide +kernel
theorem dX8_bulletsAt_17 : decode cX8_bulletsAt 17 = .ok (.aload_n 0, 1) := by decide +kernel
theorem dX8_bulletsAt_18 : decode cX8_bulletsAt 18 = .ok (.iload 4, 2) := by decide +kernel
theorem dX8_bulletsAt_20 : decode cX8_bulletsAt 20 = .ok (.iload_n 1, 1) := by decide +kernel
theorem dX8_bulletsAt_21 : decode cX8_bulletsAt 21 = .ok (.iload_n 2, 1) := by decide +kernel
theorem dX8_bulletsAt_22 : decode cX8_bulletsAt 22 = .ok (.invokevirtual 78, 3) := by decide +kernel
theorem dX8_bulletsAt_25 : decode cX8_bulletsAt 25 = .ok (.ifCond .eq 7, 3) := by decide +kernel
theorem dX8_bulletsAt_28 : decode cX8_bulletsAt 28 = .ok (.iconst 1, 1) := by decide +kernel
theorem dX8_bulletsAt_29 : decode cX8_bulletsAt 29 = .ok (.goto 4, 3) := by decide +kernel
theorem dX8_bulletsAt_32 : decode cX8_bulletsAt 32 = .ok (.iconst 0, 1) := by decide +kernel
theorem dX8_bulletsAt_33 : decode cX8_bulletsAt 33 = .ok (.iadd, 1) := by decide +kernel
theorem dX8_bulletsAt_34 : decode cX8_bulletsAt 34 = .ok (.istore_n 3, 1) := by decide +kernel
theorem dX8_bulletsAt_35 : decode cX8_bulletsAt 35 = .ok (.iinc 4 1, 3) := by decide +kernel
theorem dX8_bulletsAt_38 : decode cX8_bulletsAt 38 = .ok (.goto (-33), 3) := by decide +kernel
theorem dX8_bulletsAt_41 : decode cX8_bulletsAt 41 = .ok (.iload_n 3, 1) := by decide +kernel
theorem dX8_bulletsAt_42 : decode cX8_bulletsAt 42 = .ok (.ireturn, 1) := by decide +kernel
theorem dX8_at_0 : decode cX8_at 0 = .ok (.iload_n 1, 1) := by decide +kernel
theorem dX8_at_1 : decode cX8_at 1 = .ok (.iconst 0, 1) := by decide +kernel
theorem dX8_at_2 : decode cX8_at 2 = .ok (.bipush 11, 2) := by decide +kernel
theorem dX8_at_4 : decode cX8_at 4 = .ok (.invokestatic 49, 3) := by decide +kernel
theorem dX8_at_7 : decode cX8_at 7 = .ok (.ifCond .eq 22, 3) := by decide +kernel
theorem dX8_at_10 : decode cX8_at 10 = .ok (.iload_n 2, 1) := by decide +kernel
theorem dX8_at_11 : decode cX8_at 11 = .ok (.iconst 0, 1) := by decide +kernel
theorem dX8_at_12 : decode cX8_at 12 = .ok (.bipush 9, 2) := by decide +kernel
theorem dX8_at_14 : decode cX8_at 14 = .ok (.invokestatic 49, 3) := by decide +kernel
theorem dX8_at_17 : decode cX8_at 17 = .ok (.ifCond .eq 12, 3) := by decide +kernel
theorem dX8_at_20 : decode cX8_at 20 = .ok (.aload_n 0, 1) := by decide +kernel
theorem dX8_at_21 : decode cX8_at 21 = .ok (.iload_n 1, 1) := by decide +kernel
theorem dX8_at_22 : decode cX8_at 22 = .ok (.iload_n 2, 1) := by decide +kernel
theorem dX8_at_23 : decode cX8_at 23 = .ok (.invokevirtual 151, 3) := by decide +kernel
theorem dX8_at_26 : decode cX8_at 26 = .ok (.goto 4, 3) := by decide +kernel
theorem dX8_at_29 : decode cX8_at 29 = .ok (.iconst (-1), 1) := by decide +kernel
theorem dX8_at_30 : decode cX8_at 30 = .ok (.ireturn, 1) := by decide +kernel
theorem dX8_count_0 : decode cX8_count 0 = .ok (.iload_n 1, 1) := by decide +kernel
theorem dX8_count_1 : decode cX8_count 1 = .ok (.iconst 0, 1) := by decide +kernel
theorem dX8_count_2 : decode cX8_count 2 = .ok (.bipush 16, 2) := by decide +kernel
theorem dX8_count_4 : decode cX8_count 4 = .ok (.invokestatic 49, 3) := by decide +kernel
theorem dX8_count_7 : decode cX8_count 7 = .ok (.ifCond .eq 12, 3) := by decide +kernel
theorem dX8_count_10 : decode cX8_count 10 = .ok (.aload_n 0, 1) := by decide +kernel
theorem dX8_count_11 : decode cX8_count 11 = .ok (.getfield 7, 3) := by decide +kernel
theorem dX8_count_14 : decode cX8_count 14 = .ok (.iload_n 1, 1) := by decide +kernel
theorem dX8_count_15 : decode cX8_count 15 = .ok (.iaload, 1) := by decide +kernel
theorem dX8_count_16 : decode cX8_count 16 = .ok (.goto 30, 3) := by decide +kernel
theorem dX8_count_19 : decode cX8_count 19 = .ok (.iload_n 1, 1) := by decide +kernel
theorem dX8_count_20 : decode cX8_count 20 = .ok (.bipush 17, 2) := by decide +kernel
theorem dX8_count_22 : decode cX8_count 22 = .ok (.if_icmp .ne 10, 3) := by decide +kernel
theorem dX8_count_25 : decode cX8_count 25 = .ok (.aload_n 0, 1) := by decide +kernel
theorem dX8_count_26 : decode cX8_count 26 = .ok (.getfield 116, 3) := by decide +kernel
theorem dX8_count_29 : decode cX8_count 29 = .ok (.goto 17, 3) := by decide +kernel
theorem dX8_count_32 : decode cX8_count 32 = .ok (.iload_n 1, 1) := by decide +kernel
theorem dX8_count_33 : decode cX8_count 33 = .ok (.bipush 18, 2) := by decide +kernel
theorem dX8_count_35 : decode cX8_count 35 = .ok (.if_icmp .ne 10, 3) := by decide +kernel
theorem dX8_count_38 : decode cX8_count 38 = .ok (.aload_n 0, 1) := by decide +kernel
theorem dX8_count_39 : decode cX8_count 39 = .ok (.getfield 41, 3) := by decide +kernel
theorem dX8_count_42 : decode cX8_count 42 = .ok (.goto 4, 3) := by decide +kernel
theorem dX8_count_45 : decode cX8_count 45 = .ok (.iconst (-1), 1) := by decide +kernel
theorem dX8_count_46 : decode cX8_count 46 = .ok (.ireturn, 1) := by decide +kernel
theorem dX8_freeNow_0 : decode cX8_freeNow 0 = .ok (.iconst 0, 1) := by decide +kernel
theorem dX8_freeNow_1 : decode cX8_freeNow 1 = .ok (.istore_n 1, 1) := by decide +kernel
theorem dX8_freeNow_2 : decode cX8_freeNow 2 = .ok (.iconst 0, 1) := by decide +kernel
theorem dX8_freeNow_3 : decode cX8_freeNow 3 = .ok (.istore_n 2, 1) := by decide +kernel
theorem dX8_freeNow_4 : decode cX8_freeNow 4 = .ok (.iload_n 2, 1) := by decide +kernel
theorem dX8_freeNow_5 : decode cX8_freeNow 5 = .ok (.bipush 10, 2) := by decide +kernel
theorem dX8_freeNow_7 : decode cX8_freeNow 7 = .ok (.if_icmp .ge 29, 3) := by decide +kernel
theorem dX8_freeNow_10 : decode cX8_freeNow 10 = .ok (.iload_n 1, 1) := by decide +kernel
theorem dX8_freeNow_11 : decode cX8_freeNow 11 = .ok (.aload_n 0, 1) := by decide +kernel
theorem dX8_freeNow_12 : decode cX8_freeNow 12 = .ok (.bipush 11, 2) := by decide +kernel
theorem dX8_freeNow_14 : decode cX8_freeNow 14 = .ok (.iload_n 2, 1) := by decide +kernel
theorem dX8_freeNow_15 : decode cX8_freeNow 15 = .ok (.invokevirtual 151, 3) := by decide +kernel
theorem dX8_freeNow_18 : decode cX8_freeNow 18 = .ok (.ifCond .ne 9, 3) := by decide +kernel
theorem dX8_freeNow_21 : decode cX8_freeNow 21 = .ok (.iconst 1, 1) := by decide +kernel
theorem dX8_freeNow_22 : decode cX8_freeNow 22 = .ok (.iload_n 2, 1) := by decide +kernel
theorem dX8_freeNow_23 : decode cX8_freeNow 23 = .ok (.ishl, 1) := by decide +kernel
theorem dX8_freeNow_24 : decode cX8_freeNow 24 = .ok (.goto 4, 3) := by decide +kernel
theorem dX8_freeNow_27 : decode cX8_freeNow 27 = .ok (.iconst 0, 1) := by decide +kernel
theorem dX8_freeNow_28 : decode cX8_freeNow 28 = .ok (.ior, 1) := by decide +kernel
theorem dX8_freeNow_29 : decode cX8_freeNow 29 = .ok (.istore_n 1, 1) := by decide +kernel
theorem dX8_freeNow_30 : decode cX8_freeNow 30 = .ok (.iinc 2 1, 3) := by decide +kernel
theorem dX8_freeNow_33 : decode cX8_freeNow 33 = .ok (.goto (-29), 3) := by decide +kernel
theorem dX8_freeNow_36 : decode cX8_freeNow 36 = .ok (.iload_n 1, 1) := by decide +kernel
theorem dX8_freeNow_37 : decode cX8_freeNow 37 = .ok (.ireturn, 1) := by decide +kernel
theorem dX8_forecasts_0 : decode cX8_forecasts 0 = .ok (.aload_n 0, 1) := by decide +kernel
theorem dX8_forecasts_1 : decode cX8_forecasts 1 = .ok (.getfield 7, 3) := by decide +kernel
theorem dX8_forecasts_4 : decode cX8_forecasts 4 = .ok (.iconst 0, 1) := by decide +kernel
theorem dX8_forecasts_5 : decode cX8_forecasts 5 = .ok (.aload_n 0, 1) := by decide +kernel
theorem dX8_forecasts_6 : decode cX8_forecasts 6 = .ok (.getfield 13, 3) := by decide +kernel
theorem dX8_forecasts_9 : decode cX8_forecasts 9 = .ok (.iconst 0, 1) := by decide +kernel
theorem dX8_forecasts_10 : decode cX8_forecasts 10 = .ok (.invokestatic 45, 3) := by decide +kernel
theorem dX8_forecasts_13 : decode cX8_forecasts 13 = .ok (.iload_n 2, 1) := by decide +kernel
theorem dX8_forecasts_14 : decode cX8_forecasts 14 = .ok (.ifCond .lt 8, 3) := by decide +kernel
theorem dX8_forecasts_17 : decode cX8_forecasts 17 = .ok (.aload_n 0, 1) := by decide +kernel
theorem dX8_forecasts_18 : decode cX8_forecasts 18 = .ok (.iload_n 2, 1) := by decide +kernel
theorem dX8_forecasts_19 : decode cX8_forecasts 19 = .ok (.invokevirtual 101, 3) := by decide +kernel
theorem dX8_forecasts_22 : decode cX8_forecasts 22 = .ok (.aload_n 0, 1) := by decide +kernel
theorem dX8_forecasts_23 : decode cX8_forecasts 23 = .ok (.getfield 32, 3) := by decide +kernel
theorem dX8_forecasts_26 : decode cX8_forecasts 26 = .ok (.iconst 0, 1) := by decide +kernel
theorem dX8_forecasts_27 : decode cX8_forecasts 27 = .ok (.aload_n 0, 1) := by decide +kernel
theorem dX8_forecasts_28 : decode cX8_forecasts 28 = .ok (.invokevirtual 154, 3) := by decide +kernel
theorem dX8_forecasts_31 : decode cX8_forecasts 31 = .ok (.iastore, 1) := by decide +kernel
theorem dX8_forecasts_32 : decode cX8_forecasts 32 = .ok (.iconst 1, 1) := by decide +kernel
theorem dX8_forecasts_33 : decode cX8_forecasts 33 = .ok (.istore_n 3, 1) := by decide +kernel
theorem dX8_forecasts_34 : decode cX8_forecasts 34 = .ok (.iload_n 3, 1) := by decide +kernel
theorem dX8_forecasts_35 : decode cX8_forecasts 35 = .ok (.iload_n 1, 1) := by decide +kernel
theorem dX8_forecasts_36 : decode cX8_forecasts 36 = .ok (.if_icmp .gt 23, 3) := by decide +kernel
theorem dX8_forecasts_39 : decode cX8_forecasts 39 = .ok (.aload_n 0, 1) := by decide +kernel
theorem dX8_forecasts_40 : decode cX8_forecasts 40 = .ok (.invokevirtual 81, 3) := by decide +kernel
theorem dX8_forecasts_43 : decode cX8_forecasts 43 = .ok (.aload_n 0, 1) := by decide +kernel
theorem dX8_forecasts_44 : decode cX8_forecasts 44 = .ok (.getfield 32, 3) := by decide +kernel
theorem dX8_forecasts_47 : decode cX8_forecasts 47 = .ok (.iload_n 3, 1) := by decide +kernel
theorem dX8_forecasts_48 : decode cX8_forecasts 48 = .ok (.aload_n 0, 1) := by decide +kernel
theorem dX8_forecasts_49 : decode cX8_forecasts 49 = .ok (.invokevirtual 154, 3) := by decide +kernel
theorem dX8_forecasts_52 : decode cX8_forecasts 52 = .ok (.iastore, 1) := by decide +kernel
theorem dX8_forecasts_53 : decode cX8_forecasts 53 = .ok (.iinc 3 1, 3) := by decide +kernel
theorem dX8_forecasts_56 : decode cX8_forecasts 56 = .ok (.goto (-22), 3) := by decide +kernel
theorem dX8_forecasts_59 : decode cX8_forecasts 59 = .ok (.aload_n 0, 1) := by decide +kernel
theorem dX8_forecasts_60 : decode cX8_forecasts 60 = .ok (.getfield 13, 3) := by decide +kernel
theorem dX8_forecasts_63 : decode cX8_forecasts 63 = .ok (.iconst 0, 1) := by decide +kernel
theorem dX8_forecasts_64 : decode cX8_forecasts 64 = .ok (.aload_n 0, 1) := by decide +kernel
theorem dX8_forecasts_65 : decode cX8_forecasts 65 = .ok (.getfield 7, 3) := by decide +kernel
theorem dX8_forecasts_68 : decode cX8_forecasts 68 = .ok (.iconst 0, 1) := by decide +kernel
theorem dX8_forecasts_69 : decode cX8_forecasts 69 = .ok (.invokestatic 45, 3) := by decide +kernel
theorem dX8_forecasts_72 : decode cX8_forecasts 72 = .ok (.return_, 1) := by decide +kernel
theorem dX8_free_0 : decode cX8_free 0 = .ok (.iload_n 1, 1) := by decide +kernel
theorem dX8_free_1 : decode cX8_free 1 = .ok (.iconst 0, 1) := by decide +kernel
theorem dX8_free_2 : decode cX8_free 2 = .ok (.bipush 30, 2) := by decide +kernel
theorem dX8_free_4 : decode cX8_free 4 = .ok (.invokestatic 49, 3) := by decide +kernel
theorem dX8_free_7 : decode cX8_free 7 = .ok (.ifCond .ne 5, 3) := by decide +kernel
theorem dX8_free_10 : decode cX8_free 10 = .ok (.iconst (-1), 1) := by decide +kernel
theorem dX8_free_11 : decode cX8_free 11 = .ok (.ireturn, 1) := by decide +kernel
theorem dX8_free_12 : decode cX8_free 12 = .ok (.aload_n 0, 1) := by decide +kernel
theorem dX8_free_13 : decode cX8_free 13 = .ok (.iload_n 1, 1) := by decide +kernel
theorem dX8_free_14 : decode cX8_free 14 = .ok (.bipush (-4), 2) := by decide +kernel
theorem dX8_free_16 : decode cX8_free 16 = .ok (.invokevirtual 157, 3) := by decide +kernel
theorem dX8_free_19 : decode cX8_free 19 = .ok (.aload_n 0, 1) := by decide +kernel
theorem dX8_free_20 : decode cX8_free 20 = .ok (.getfield 32, 3) := by decide +kernel
theorem dX8_free_23 : decode cX8_free 23 = .ok (.iload_n 1, 1) := by decide +kernel
theorem dX8_free_24 : decode cX8_free 24 = .ok (.iaload, 1) := by decide +kernel
theorem dX8_free_25 : decode cX8_free 25 = .ok (.ireturn, 1) := by decide +kernel
theorem dX8_ones_0 : decode cX8_ones 0 = .ok (.iconst 0, 1) := by decide +kernel
theorem dX8_ones_1 : decode cX8_ones 1 = .ok (.istore_n 1, 1) := by decide +kernel
theorem dX8_ones_2 : decode cX8_ones 2 = .ok (.iconst 0, 1) := by decide +kernel
theorem dX8_ones_3 : decode cX8_ones 3 = .ok (.istore_n 2, 1) := by decide +kernel
theorem dX8_ones_4 : decode cX8_ones 4 = .ok (.iload_n 2, 1) := by decide +kernel
theorem dX8_ones_5 : decode cX8_ones 5 = .ok (.bipush 10, 2) := by decide +kernel
theorem dX8_ones_7 : decode cX8_ones 7 = .ok (.if_icmp .ge 17, 3) := by decide +kernel
theorem dX8_ones_10 : decode cX8_ones 10 = .ok (.iload_n 1, 1) := by decide +kernel
theorem dX8_ones_11 : decode cX8_ones 11 = .ok (.iload_n 0, 1) := by decide +kernel
theorem dX8_ones_12 : decode cX8_ones 12 = .ok (.iload_n 2, 1) := by decide +kernel
theorem dX8_ones_13 : decode cX8_ones 13 = .ok (.ishr, 1) := by decide +kernel
theorem dX8_ones_14 : decode cX8_ones 14 = .ok (.iconst 1, 1) := by decide +kernel
theorem dX8_ones_15 : decode cX8_ones 15 = .ok (.iand, 1) := by decide +kernel
theorem dX8_ones_16 : decode cX8_ones 16 = .ok (.iadd, 1) := by decide +kernel
theorem dX8_ones_17 : decode cX8_ones 17 = .ok (.istore_n 1, 1) := by decide +kernel
theorem dX8_ones_18 : decode cX8_ones 18 = .ok (.iinc 2 1, 3) := by decide +kernel
theorem dX8_ones_21 : decode cX8_ones 21 = .ok (.goto (-17), 3) := by decide +kernel
theorem dX8_ones_24 : decode cX8_ones 24 = .ok (.iload_n 1, 1) := by decide +kernel
theorem dX8_ones_25 : decode cX8_ones 25 = .ok (.ireturn, 1) := by decide +kernel
theorem dX8_lane_0 : decode cX8_lane 0 = .ok (.iload_n 1, 1) := by decide +kernel
theorem dX8_lane_1 : decode cX8_lane 1 = .ok (.iconst 0, 1) := by decide +kernel
theorem dX8_lane_2 : decode cX8_lane 2 = .ok (.bipush 30, 2) := by decide +kernel
theorem dX8_lane_4 : decode cX8_lane 4 = .ok (.invokestatic 49, 3) := by decide +kernel
theorem dX8_lane_7 : decode cX8_lane 7 = .ok (.ifCond .eq 12, 3) := by decide +kernel
theorem dX8_lane_10 : decode cX8_lane 10 = .ok (.iload_n 2, 1) := by decide +kernel
theorem dX8_lane_11 : decode cX8_lane 11 = .ok (.iconst 0, 1) := by decide +kernel
theorem dX8_lane_12 : decode cX8_lane 12 = .ok (.iconst 2, 1) := by decide +kernel
theorem dX8_lane_13 : decode cX8_lane 13 = .ok (.invokestatic 49, 3) := by decide +kernel
theorem dX8_lane_16 : decode cX8_lane 16 = .ok (.ifCond .ne 5, 3) := by decide +kernel
theorem dX8_lane_19 : decode cX8_lane 19 = .ok (.iconst (-1), 1) := by decide +kernel
theorem dX8_lane_20 : decode cX8_lane 20 = .ok (.ireturn, 1) := by decide +kernel
theorem dX8_lane_21 : decode cX8_lane 21 = .ok (.aload_n 0, 1) := by decide +kernel
theorem dX8_lane_22 : decode cX8_lane 22 = .ok (.iload_n 1, 1) := by decide +kernel
theorem dX8_lane_23 : decode cX8_lane 23 = .ok (.bipush (-4), 2) := by decide +kernel
theorem dX8_lane_25 : decode cX8_lane 25 = .ok (.invokevirtual 157, 3) := by decide +kernel
theorem dX8_lane_28 : decode cX8_lane 28 = .ok (.iconst 0, 1) := by decide +kernel
theorem dX8_lane_29 : decode cX8_lane 29 = .ok (.istore_n 3, 1) := by decide +kernel
theorem dX8_lane_30 : decode cX8_lane 30 = .ok (.iconst 0, 1) := by decide +kernel
theorem dX8_lane_31 : decode cX8_lane 31 = .ok (.istore 4, 2) := by decide +kernel
theorem dX8_lane_33 : decode cX8_lane 33 = .ok (.bipush (-4), 2) := by decide +kernel
theorem dX8_lane_35 : decode cX8_lane 35 = .ok (.istore 5, 2) := by decide +kernel
theorem dX8_lane_37 : decode cX8_lane 37 = .ok (.iconst 0, 1) := by decide +kernel
theorem dX8_lane_38 : decode cX8_lane 38 = .ok (.istore 6, 2) := by decide +kernel
theorem dX8_lane_40 : decode cX8_lane 40 = .ok (.iconst 0, 1) := by decide +kernel
theorem dX8_lane_41 : decode cX8_lane 41 = .ok (.istore 7, 2) := by decide +kernel
theorem dX8_lane_43 : decode cX8_lane 43 = .ok (.iload 7, 2) := by decide +kernel
theorem dX8_lane_45 : decode cX8_lane 45 = .ok (.bipush 10, 2) := by decide +kernel
theorem dX8_lane_47 : decode cX8_lane 47 = .ok (.if_icmp .ge 85, 3) := by decide +kernel
theorem dX8_lane_50 : decode cX8_lane 50 = .ok (.aload_n 0, 1) := by decide +kernel
theorem dX8_lane_51 : decode cX8_lane 51 = .ok (.getfield 32, 3) := by decide +kernel
theorem dX8_lane_54 : decode cX8_lane 54 = .ok (.iload_n 1, 1) := by decide +kernel
theorem dX8_lane_55 : decode cX8_lane 55 = .ok (.iaload, 1) := by decide +kernel
theorem dX8_lane_56 : decode cX8_lane 56 = .ok (.iload 7, 2) := by decide +kernel
theorem dX8_lane_58 : decode cX8_lane 58 = .ok (.ishr, 1) := by decide +kernel
theorem dX8_lane_59 : decode cX8_lane 59 = .ok (.iconst 1, 1) := by decide +kernel
theorem dX8_lane_60 : decode cX8_lane 60 = .ok (.iand, 1) := by decide +kernel
theorem dX8_lane_61 : decode cX8_lane 61 = .ok (.iconst 1, 1) := by decide +kernel
theorem dX8_lane_62 : decode cX8_lane 62 = .ok (.if_icmp .ne 10, 3) := by decide +kernel
theorem dX8_lane_65 : decode cX8_lane 65 = .ok (.iload 6, 2) := by decide +kernel
theorem dX8_lane_67 : decode cX8_lane 67 = .ok (.iconst 1, 1) := by decide +kernel
theorem dX8_lane_68 : decode cX8_lane 68 = .ok (.iadd, 1) := by decide +kernel
theorem dX8_lane_69 : decode cX8_lane 69 = .ok (.goto 4, 3) := by decide +kernel
theorem dX8_lane_72 : decode cX8_lane 72 = .ok (.iconst 0, 1) := by decide +kernel
theorem dX8_lane_73 : decode cX8_lane 73 = .ok (.istore 6, 2) := by decide +kernel
theorem dX8_lane_75 : decode cX8_lane 75 = .ok (.iload_n 3, 1) := by decide +kernel
theorem dX8_lane_76 : decode cX8_lane 76 = .ok (.iload 6, 2) := by decide +kernel
theorem dX8_lane_78 : decode cX8_lane 78 = .ok (.iconst 1, 1) := by decide +kernel
theorem dX8_lane_79 : decode cX8_lane 79 = .ok (.if_icmp .ne 7, 3) := by decide +kernel
theorem dX8_lane_82 : decode cX8_lane 82 = .ok (.iconst 1, 1) := by decide +kernel
theorem dX8_lane_83 : decode cX8_lane 83 = .ok (.goto 4, 3) := by decide +kernel
theorem dX8_lane_86 : decode cX8_lane 86 = .ok (.iconst 0, 1) := by decide +kernel
theorem dX8_lane_87 : decode cX8_lane 87 = .ok (.iadd, 1) := by decide +kernel
theorem dX8_lane_88 : decode cX8_lane 88 = .ok (.istore_n 3, 1) := by decide +kernel
theorem dX8_lane_89 : decode cX8_lane 89 = .ok (.iload 6, 2) := by decide +kernel
theorem dX8_lane_91 : decode cX8_lane 91 = .ok (.iload 4, 2) := by decide +kernel
theorem dX8_lane_93 : decode cX8_lane 93 = .ok (.if_icmp .le 13, 3) := by decide +kernel
theorem dX8_lane_96 : decode cX8_lane 96 = .ok (.iload 7, 2) := by decide +kernel
theorem dX8_lane_98 : decode cX8_lane 98 = .ok (.iload 6, 2) := by decide +kernel
theorem dX8_lane_100 : decode cX8_lane 100 = .ok (.isub, 1) := by decide +kernel
theorem dX8_lane_101 : decode cX8_lane 101 = .ok (.iconst 1, 1) := by decide +kernel
theorem dX8_lane_102 : decode cX8_lane 102 = .ok (.iadd, 1) := by decide +kernel
theorem dX8_lane_103 : decode cX8_lane 103 = .ok (.goto 5, 3) := by decide +kernel
theorem dX8_lane_106 : decode cX8_lane 106 = .ok (.iload 5, 2) := by decide +kernel
theorem dX8_lane_108 : decode cX8_lane 108 = .ok (.istore 5, 2) := by decide +kernel
theorem dX8_lane_110 : decode cX8_lane 110 = .ok (.iload 6, 2) := by decide +kernel
theorem dX8_lane_112 : decode cX8_lane 112 = .ok (.iload 4, 2) := by decide +kernel
theorem dX8_lane_114 : decode cX8_lane 114 = .ok (.if_icmp .le 8, 3) := by decide +kernel
theorem dX8_lane_117 : decode cX8_lane 117 = .ok (.iload 6, 2) := by decide +kernel
theorem dX8_lane_119 : decode cX8_lane 119 = .ok (.goto 5, 3) := by decide +kernel
theorem dX8_lane_122 : decode cX8_lane 122 = .ok (.iload 4, 2) := by decide +kernel
theorem dX8_lane_124 : decode cX8_lane 124 = .ok (.istore 4, 2) := by decide +kernel
theorem dX8_lane_126 : decode cX8_lane 126 = .ok (.iinc 7 1, 3) := by decide +kernel
theorem dX8_lane_129 : decode cX8_lane 129 = .ok (.goto (-86), 3) := by decide +kernel
theorem dX8_lane_132 : decode cX8_lane 132 = .ok (.iload_n 2, 1) := by decide +kernel
theorem dX8_lane_133 : decode cX8_lane 133 = .ok (.ifCond .ne 7, 3) := by decide +kernel
theorem dX8_lane_136 : decode cX8_lane 136 = .ok (.iload_n 3, 1) := by decide +kernel
theorem dX8_lane_137 : decode cX8_lane 137 = .ok (.goto 15, 3) := by decide +kernel
theorem dX8_lane_140 : decode cX8_lane 140 = .ok (.iload_n 2, 1) := by decide +kernel
theorem dX8_lane_141 : decode cX8_lane 141 = .ok (.iconst 1, 1) := by decide +kernel
theorem dX8_lane_142 : decode cX8_lane 142 = .ok (.if_icmp .ne 8, 3) := by decide +kernel
theorem dX8_lane_145 : decode cX8_lane 145 = .ok (.iload 4, 2) := by decide +kernel
theorem dX8_lane_147 : decode cX8_lane 147 = .ok (.goto 5, 3) := by decide +kernel
theorem dX8_lane_150 : decode cX8_lane 150 = .ok (.iload 5, 2) := by decide +kernel
theorem dX8_lane_152 : decode cX8_lane 152 = .ok (.ireturn, 1) := by decide +kernel
theorem dX8_endsOf_0 : decode cX8_endsOf 0 = .ok (.iconst 1, 1) := by decide +kernel
theorem dX8_endsOf_1 : decode cX8_endsOf 1 = .ok (.aload_n 0, 1) := by decide +kernel
theorem dX8_endsOf_2 : decode cX8_endsOf 2 = .ok (.getfield 7, 3) := by decide +kernel
theorem dX8_endsOf_5 : decode cX8_endsOf 5 = .ok (.iconst 2, 1) := by decide +kernel
theorem dX8_endsOf_6 : decode cX8_endsOf 6 = .ok (.iaload, 1) := by decide +kernel
theorem dX8_endsOf_7 : decode cX8_endsOf 7 = .ok (.ishl, 1) := by decide +kernel
theorem dX8_endsOf_8 : decode cX8_endsOf 8 = .ok (.istore_n 2, 1) := by decide +kernel
theorem dX8_endsOf_9 : decode cX8_endsOf 9 = .ok (.iconst 1, 1) := by decide +kernel
theorem dX8_endsOf_10 : decode cX8_endsOf 10 = .ok (.istore_n 3, 1) := by decide +kernel
theorem dX8_endsOf_11 : decode cX8_endsOf 11 = .ok (.iload_n 3, 1) := by decide +kernel
theorem dX8_endsOf_12 : decode cX8_endsOf 12 = .ok (.iload_n 1, 1) := by decide +kernel
theorem dX8_endsOf_13 : decode cX8_endsOf 13 = .ok (.if_icmp .gt 26, 3) := by decide +kernel
theorem dX8_endsOf_16 : decode cX8_endsOf 16 = .ok (.iload_n 2, 1) := by decide +kernel
theorem dX8_endsOf_17 : decode cX8_endsOf 17 = .ok (.iload_n 2, 1) := by decide +kernel
theorem dX8_endsOf_18 : decode cX8_endsOf 18 = .ok (.iconst 1, 1) := by decide +kernel
theorem dX8_endsOf_19 : decode cX8_endsOf 19 = .ok (.ishl, 1) := by decide +kernel
theorem dX8_endsOf_20 : decode cX8_endsOf 20 = .ok (.ior, 1) := by decide +kernel
theorem dX8_endsOf_21 : decode cX8_endsOf 21 = .ok (.iload_n 2, 1) := by decide +kernel
theorem dX8_endsOf_22 : decode cX8_endsOf 22 = .ok (.iconst 1, 1) := by decide +kernel
theorem dX8_endsOf_23 : decode cX8_endsOf 23 = .ok (.ishr, 1) := by decide +kernel
theorem dX8_endsOf_24 : decode cX8_endsOf 24 = .ok (.ior, 1) := by decide +kernel
theorem dX8_endsOf_25 : decode cX8_endsOf 25 = .ok (.aload_n 0, 1) := by decide +kernel
theorem dX8_endsOf_26 : decode cX8_endsOf 26 = .ok (.getfield 32, 3) := by decide +kernel
theorem dX8_endsOf_29 : decode cX8_endsOf 29 = .ok (.iload_n 3, 1) := by decide +kernel
theorem dX8_endsOf_30 : decode cX8_endsOf 30 = .ok (.iaload, 1) := by decide +kernel
theorem dX8_endsOf_31 : decode cX8_endsOf 31 = .ok (.iand, 1) := by decide +kernel
theorem dX8_endsOf_32 : decode cX8_endsOf 32 = .ok (.istore_n 2, 1) := by decide +kernel
theorem dX8_endsOf_33 : decode cX8_endsOf 33 = .ok (.iinc 3 1, 3) := by decide +kernel
theorem dX8_endsOf_36 : decode cX8_endsOf 36 = .ok (.goto (-25), 3) := by decide +kernel
theorem dX8_endsOf_39 : decode cX8_endsOf 39 = .ok (.iload_n 2, 1) := by decide +kernel
theorem dX8_endsOf_40 : decode cX8_endsOf 40 = .ok (.ireturn, 1) := by decide +kernel
theorem dX8_ends_0 : decode cX8_ends 0 = .ok (.iload_n 1, 1) := by decide +kernel
theorem dX8_ends_1 : decode cX8_ends 1 = .ok (.iconst 1, 1) := by decide +kernel
theorem dX8_ends_2 : decode cX8_ends 2 = .ok (.bipush 30, 2) := by decide +kernel
theorem dX8_ends_4 : decode cX8_ends 4 = .ok (.invokestatic 49, 3) := by decide +kernel
theorem dX8_ends_7 : decode cX8_ends 7 = .ok (.ifCond .eq 12, 3) := by decide +kernel
theorem dX8_ends_10 : decode cX8_ends 10 = .ok (.iload_n 2, 1) := by decide +kernel
theorem dX8_ends_11 : decode cX8_ends 11 = .ok (.iconst 0, 1) := by decide +kernel
theorem dX8_ends_12 : decode cX8_ends 12 = .ok (.iconst 1, 1) := by decide +kernel
theorem dX8_ends_13 : decode cX8_ends 13 = .ok (.invokestatic 49, 3) := by decide +kernel
theorem dX8_ends_16 : decode cX8_ends 16 = .ok (.ifCond .ne 5, 3) := by decide +kernel
theorem dX8_ends_19 : decode cX8_ends 19 = .ok (.iconst (-1), 1) := by decide +kernel
theorem dX8_ends_20 : decode cX8_ends 20 = .ok (.ireturn, 1) := by decide +kernel
theorem dX8_ends_21 : decode cX8_ends 21 = .ok (.aload_n 0, 1) := by decide +kernel
theorem dX8_ends_22 : decode cX8_ends 22 = .ok (.iload_n 1, 1) := by decide +kernel
theorem dX8_ends_23 : decode cX8_ends 23 = .ok (.bipush (-4), 2) := by decide +kernel
theorem dX8_ends_25 : decode cX8_ends 25 = .ok (.invokevirtual 157, 3) := by decide +kernel
theorem dX8_ends_28 : decode cX8_ends 28 = .ok (.aload_n 0, 1) := by decide +kernel
theorem dX8_ends_29 : decode cX8_ends 29 = .ok (.iload_n 1, 1) := by decide +kernel
theorem dX8_ends_30 : decode cX8_ends 30 = .ok (.invokevirtual 160, 3) := by decide +kernel
theorem dX8_ends_33 : decode cX8_ends 33 = .ok (.invokestatic 163, 3) := by decide +kernel
theorem dX8_ends_36 : decode cX8_ends 36 = .ok (.ireturn, 1) := by decide +kernel
theorem dX8_fewestAt_0 : decode cX8_fewestAt 0 = .ok (.iload_n 2, 1) := by decide +kernel
theorem dX8_fewestAt_1 : decode cX8_fewestAt 1 = .ok (.iconst 0, 1) := by decide +kernel
theorem dX8_fewestAt_2 : decode cX8_fewestAt 2 = .ok (.bipush 9, 2) := by decide +kernel
theorem dX8_fewestAt_4 : decode cX8_fewestAt 4 = .ok (.invokestatic 49, 3) := by decide +kernel
theorem dX8_fewestAt_7 : decode cX8_fewestAt 7 = .ok (.ifCond .eq 17, 3) := by decide +kernel
theorem dX8_fewestAt_10 : decode cX8_fewestAt 10 = .ok (.aload_n 0, 1) := by decide +kernel
theorem dX8_fewestAt_11 : decode cX8_fewestAt 11 = .ok (.getfield 35, 3) := by decide +kernel
theorem dX8_fewestAt_14 : decode cX8_fewestAt 14 = .ok (.bipush 10, 2) := by decide +kernel
theorem dX8_fewestAt_16 : decode cX8_fewestAt 16 = .ok (.iload_n 1, 1) := by decide +kernel
theorem dX8_fewestAt_17 : decode cX8_fewestAt 17 = .ok (.imul, 1) := by decide +kernel
theorem dX8_fewestAt_18 : decode cX8_fewestAt 18 = .ok (.iload_n 2, 1) := by decide +kernel
theorem dX8_fewestAt_19 : decode cX8_fewestAt 19 = .ok (.iadd, 1) := by decide +kernel
theorem dX8_fewestAt_20 : decode cX8_fewestAt 20 = .ok (.iaload, 1) := by decide +kernel
theorem dX8_fewestAt_21 : decode cX8_fewestAt 21 = .ok (.goto 5, 3) := by decide +kernel
theorem dX8_fewestAt_24 : decode cX8_fewestAt 24 = .ok (.bipush 100, 2) := by decide +kernel
theorem dX8_fewestAt_26 : decode cX8_fewestAt 26 = .ok (.ireturn, 1) := by decide +kernel
theorem dX8_findsWay_0 : decode cX8_findsWay 0 = .ok (.aload_n 0, 1) := by decide +kernel
theorem dX8_findsWay_1 : decode cX8_findsWay 1 = .ok (.iload_n 1, 1) := by decide +kernel
theorem dX8_findsWay_2 : decode cX8_findsWay 2 = .ok (.bipush (-4), 2) := by decide +kernel
theorem dX8_findsWay_4 : decode cX8_findsWay 4 = .ok (.invokevirtual 157, 3) := by decide +kernel
theorem dX8_findsWay_7 : decode cX8_findsWay 7 = .ok (.iload_n 1, 1) := by decide +kernel
theorem dX8_findsWay_8 : decode cX8_findsWay 8 = .ok (.istore_n 2, 1) := by decide +kernel
theorem dX8_findsWay_9 : decode cX8_findsWay 9 = .ok (.iload_n 2, 1) := by decide +kernel
theorem dX8_findsWay_10 : decode cX8_findsWay 10 = .ok (.ifCond .lt 164, 3) := by decide +kernel
theorem dX8_findsWay_13 : decode cX8_findsWay 13 = .ok (.iconst 0, 1) := by decide +kernel
theorem dX8_findsWay_14 : decode cX8_findsWay 14 = .ok (.istore_n 3, 1) := by decide +kernel
theorem dX8_findsWay_15 : decode cX8_findsWay 15 = .ok (.iload_n 3, 1) := by decide +kernel
theorem dX8_findsWay_16 : decode cX8_findsWay 16 = .ok (.bipush 10, 2) := by decide +kernel
theorem dX8_findsWay_18 : decode cX8_findsWay 18 = .ok (.if_icmp .ge 150, 3) := by decide +kernel
theorem dX8_findsWay_21 : decode cX8_findsWay 21 = .ok (.iload_n 2, 1) := by decide +kernel
theorem dX8_findsWay_22 : decode cX8_findsWay 22 = .ok (.iload_n 1, 1) := by decide +kernel
theorem dX8_findsWay_23 : decode cX8_findsWay 23 = .ok (.if_icmp .ne 7, 3) := by decide +kernel
theorem dX8_findsWay_26 : decode cX8_findsWay 26 = .ok (.iconst 0, 1) := by decide +kernel
theorem dX8_findsWay_27 : decode cX8_findsWay 27 = .ok (.goto 11, 3) := by decide +kernel
theorem dX8_findsWay_30 : decode cX8_findsWay 30 = .ok (.aload_n 0, 1) := by decide +kernel
theorem dX8_findsWay_31 : decode cX8_findsWay 31 = .ok (.iload_n 2, 1) := by decide +kernel
theorem dX8_findsWay_32 : decode cX8_findsWay 32 = .ok (.iconst 1, 1) := by decide +kernel
theorem dX8_findsWay_33 : decode cX8_findsWay 33 = .ok (.iadd, 1) := by decide +kernel
theorem dX8_findsWay_34 : decode cX8_findsWay 34 = .ok (.iload_n 3, 1) := by decide +kernel
theorem dX8_findsWay_35 : decode cX8_findsWay 35 = .ok (.invokevirtual 166, 3) := by decide +kernel
theorem dX8_findsWay_38 : decode cX8_findsWay 38 = .ok (.istore 4, 2) := by decide +kernel
theorem dX8_findsWay_40 : decode cX8_findsWay 40 = .ok (.iload_n 2, 1) := by decide +kernel
theorem dX8_findsWay_41 : decode cX8_findsWay 41 = .ok (.iload_n 1, 1) := by decide +kernel
theorem dX8_findsWay_42 : decode cX8_findsWay 42 = .ok (.if_icmp .ne 8, 3) := by decide +kernel
theorem dX8_findsWay_45 : decode cX8_findsWay 45 = .ok (.bipush 100, 2) := by decide +kernel
theorem dX8_findsWay_47 : decode cX8_findsWay 47 = .ok (.goto 15, 3) := by decide +kernel
theorem dX8_findsWay_50 : decode cX8_findsWay 50 = .ok (.iconst 1, 1) := by decide +kernel
theorem dX8_findsWay_51 : decode cX8_findsWay 51 = .ok (.aload_n 0, 1) := by decide +kernel
theorem dX8_findsWay_52 : decode cX8_findsWay 52 = .ok (.iload_n 2, 1) := by decide +kernel
theorem dX8_findsWay_53 : decode cX8_findsWay 53 = .ok (.iconst 1, 1) := by decide +kernel
theorem dX8_findsWay_54 : decode cX8_findsWay 54 = .ok (.iadd, 1) := by decide +kernel
theorem dX8_findsWay_55 : decode cX8_findsWay 55 = .ok (.iload_n 3, 1) := by decide +kernel
theorem dX8_findsWay_56 : decode cX8_findsWay 56 = .ok (.iconst 1, 1) := by decide +kernel
theorem dX8_findsWay_57 : decode cX8_findsWay 57 = .ok (.isub, 1) := by decide +kernel
theorem dX8_findsWay_58 : decode cX8_findsWay 58 = .ok (.invokevirtual 166, 3) := by decide +kernel
theorem dX8_findsWay_61 : decode cX8_findsWay 61 = .ok (.iadd, 1) := by decide +kernel
theorem dX8_findsWay_62 : decode cX8_findsWay 62 = .ok (.istore 5, 2) := by decide +kernel
theorem dX8_findsWay_64 : decode cX8_findsWay 64 = .ok (.iload_n 2, 1) := by decide +kernel
theorem dX8_findsWay_65 : decode cX8_findsWay 65 = .ok (.iload_n 1, 1) := by decide +kernel
theorem dX8_findsWay_66 : decode cX8_findsWay 66 = .ok (.if_icmp .ne 8, 3) := by decide +kernel
theorem dX8_findsWay_69 : decode cX8_findsWay 69 = .ok (.bipush 100, 2) := by decide +kernel
theorem dX8_findsWay_71 : decode cX8_findsWay 71 = .ok (.goto 15, 3) := by decide +kernel
theorem dX8_findsWay_74 : decode cX8_findsWay 74 = .ok (.iconst 1, 1) := by decide +kernel
theorem dX8_findsWay_75 : decode cX8_findsWay 75 = .ok (.aload_n 0, 1) := by decide +kernel
theorem dX8_findsWay_76 : decode cX8_findsWay 76 = .ok (.iload_n 2, 1) := by decide +kernel
theorem dX8_findsWay_77 : decode cX8_findsWay 77 = .ok (.iconst 1, 1) := by decide +kernel
theorem dX8_findsWay_78 : decode cX8_findsWay 78 = .ok (.iadd, 1) := by decide +kernel
theorem dX8_findsWay_79 : decode cX8_findsWay 79 = .ok (.iload_n 3, 1) := by decide +kernel
theorem dX8_findsWay_80 : decode cX8_findsWay 80 = .ok (.iconst 1, 1) := by decide +kernel
theorem dX8_findsWay_81 : decode cX8_findsWay 81 = .ok (.iadd, 1) := by decide +kernel
theorem dX8_findsWay_82 : decode cX8_findsWay 82 = .ok (.invokevirtual 166, 3) := by decide +kernel
theorem dX8_findsWay_85 : decode cX8_findsWay 85 = .ok (.iadd, 1) := by decide +kernel
theorem dX8_findsWay_86 : decode cX8_findsWay 86 = .ok (.istore 6, 2) := by decide +kernel
theorem dX8_findsWay_88 : decode cX8_findsWay 88 = .ok (.iload 5, 2) := by decide +kernel
theorem dX8_findsWay_90 : decode cX8_findsWay 90 = .ok (.iload 6, 2) := by decide +kernel
theorem dX8_findsWay_92 : decode cX8_findsWay 92 = .ok (.if_icmp .ge 8, 3) := by decide +kernel
theorem dX8_findsWay_95 : decode cX8_findsWay 95 = .ok (.iload 5, 2) := by decide +kernel
theorem dX8_findsWay_97 : decode cX8_findsWay 97 = .ok (.goto 5, 3) := by decide +kernel
theorem dX8_findsWay_100 : decode cX8_findsWay 100 = .ok (.iload 6, 2) := by decide +kernel
theorem dX8_findsWay_102 : decode cX8_findsWay 102 = .ok (.istore 7, 2) := by decide +kernel
theorem dX8_findsWay_104 : decode cX8_findsWay 104 = .ok (.iload 4, 2) := by decide +kernel
theorem dX8_findsWay_106 : decode cX8_findsWay 106 = .ok (.iload 7, 2) := by decide +kernel
theorem dX8_findsWay_108 : decode cX8_findsWay 108 = .ok (.if_icmp .ge 8, 3) := by decide +kernel
theorem dX8_findsWay_111 : decode cX8_findsWay 111 = .ok (.iload 4, 2) := by decide +kernel
theorem dX8_findsWay_113 : decode cX8_findsWay 113 = .ok (.goto 5, 3) := by decide +kernel
theorem dX8_findsWay_116 : decode cX8_findsWay 116 = .ok (.iload 7, 2) := by decide +kernel
theorem dX8_findsWay_118 : decode cX8_findsWay 118 = .ok (.istore 7, 2) := by decide +kernel
theorem dX8_findsWay_120 : decode cX8_findsWay 120 = .ok (.aload_n 0, 1) := by decide +kernel
theorem dX8_findsWay_121 : decode cX8_findsWay 121 = .ok (.getfield 35, 3) := by decide +kernel
theorem dX8_findsWay_124 : decode cX8_findsWay 124 = .ok (.bipush 10, 2) := by decide +kernel
theorem dX8_findsWay_126 : decode cX8_findsWay 126 = .ok (.iload_n 2, 1) := by decide +kernel
theorem dX8_findsWay_127 : decode cX8_findsWay 127 = .ok (.imul, 1) := by decide +kernel
theorem dX8_findsWay_128 : decode cX8_findsWay 128 = .ok (.iload_n 3, 1) := by decide +kernel
theorem dX8_findsWay_129 : decode cX8_findsWay 129 = .ok (.iadd, 1) := by decide +kernel
theorem dX8_findsWay_130 : decode cX8_findsWay 130 = .ok (.iload_n 2, 1) := by decide +kernel
theorem dX8_findsWay_131 : decode cX8_findsWay 131 = .ok (.ifCond .le 16, 3) := by decide +kernel
theorem dX8_findsWay_134 : decode cX8_findsWay 134 = .ok (.aload_n 0, 1) := by decide +kernel
theorem dX8_findsWay_135 : decode cX8_findsWay 135 = .ok (.getfield 32, 3) := by decide +kernel
theorem dX8_findsWay_138 : decode cX8_findsWay 138 = .ok (.iload_n 2, 1) := by decide +kernel
theorem dX8_findsWay_139 : decode cX8_findsWay 139 = .ok (.iaload, 1) := by decide +kernel
theorem dX8_findsWay_140 : decode cX8_findsWay 140 = .ok (.iload_n 3, 1) := by decide +kernel
theorem dX8_findsWay_141 : decode cX8_findsWay 141 = .ok (.ishr, 1) := by decide +kernel
theorem dX8_findsWay_142 : decode cX8_findsWay 142 = .ok (.iconst 1, 1) := by decide +kernel
theorem dX8_findsWay_143 : decode cX8_findsWay 143 = .ok (.iand, 1) := by decide +kernel
theorem dX8_findsWay_144 : decode cX8_findsWay 144 = .ok (.ifCond .eq 10, 3) := by decide +kernel
theorem dX8_findsWay_147 : decode cX8_findsWay 147 = .ok (.iload 7, 2) := by decide +kernel
theorem dX8_findsWay_149 : decode cX8_findsWay 149 = .ok (.bipush 99, 2) := by decide +kernel
theorem dX8_findsWay_151 : decode cX8_findsWay 151 = .ok (.if_icmp .le 8, 3) := by decide +kernel
theorem dX8_findsWay_154 : decode cX8_findsWay 154 = .ok (.bipush 100, 2) := by decide +kernel
theorem dX8_findsWay_156 : decode cX8_findsWay 156 = .ok (.goto 5, 3) := by decide +kernel
theorem dX8_findsWay_159 : decode cX8_findsWay 159 = .ok (.iload 7, 2) := by decide +kernel
theorem dX8_findsWay_161 : decode cX8_findsWay 161 = .ok (.iastore, 1) := by decide +kernel
theorem dX8_findsWay_162 : decode cX8_findsWay 162 = .ok (.iinc 3 1, 3) := by decide +kernel
theorem dX8_findsWay_165 : decode cX8_findsWay 165 = .ok (.goto (-150), 3) := by decide +kernel
theorem dX8_findsWay_168 : decode cX8_findsWay 168 = .ok (.iinc 2 (-1), 3) := by decide +kernel
theorem dX8_findsWay_171 : decode cX8_findsWay 171 = .ok (.goto (-162), 3) := by decide +kernel
theorem dX8_findsWay_174 : decode cX8_findsWay 174 = .ok (.aload_n 0, 1) := by decide +kernel
theorem dX8_findsWay_175 : decode cX8_findsWay 175 = .ok (.iconst 0, 1) := by decide +kernel
theorem dX8_findsWay_176 : decode cX8_findsWay 176 = .ok (.aload_n 0, 1) := by decide +kernel
theorem dX8_findsWay_177 : decode cX8_findsWay 177 = .ok (.getfield 7, 3) := by decide +kernel
theorem dX8_findsWay_180 : decode cX8_findsWay 180 = .ok (.iconst 2, 1) := by decide +kernel
theorem dX8_findsWay_181 : decode cX8_findsWay 181 = .ok (.iaload, 1) := by decide +kernel
theorem dX8_findsWay_182 : decode cX8_findsWay 182 = .ok (.invokevirtual 166, 3) := by decide +kernel
theorem dX8_findsWay_185 : decode cX8_findsWay 185 = .ok (.istore_n 2, 1) := by decide +kernel
theorem dX8_findsWay_186 : decode cX8_findsWay 186 = .ok (.aload_n 0, 1) := by decide +kernel
theorem dX8_findsWay_187 : decode cX8_findsWay 187 = .ok (.getfield 38, 3) := by decide +kernel
theorem dX8_findsWay_190 : decode cX8_findsWay 190 = .ok (.iconst 0, 1) := by decide +kernel
theorem dX8_findsWay_191 : decode cX8_findsWay 191 = .ok (.aload_n 0, 1) := by decide +kernel
theorem dX8_findsWay_192 : decode cX8_findsWay 192 = .ok (.getfield 7, 3) := by decide +kernel
theorem dX8_findsWay_195 : decode cX8_findsWay 195 = .ok (.iconst 2, 1) := by decide +kernel
theorem dX8_findsWay_196 : decode cX8_findsWay 196 = .ok (.iaload, 1) := by decide +kernel
theorem dX8_findsWay_197 : decode cX8_findsWay 197 = .ok (.iastore, 1) := by decide +kernel
theorem dX8_findsWay_198 : decode cX8_findsWay 198 = .ok (.iconst 1, 1) := by decide +kernel
theorem dX8_findsWay_199 : decode cX8_findsWay 199 = .ok (.istore_n 3, 1) := by decide +kernel
theorem dX8_findsWay_200 : decode cX8_findsWay 200 = .ok (.iload_n 3, 1) := by decide +kernel
theorem dX8_findsWay_201 : decode cX8_findsWay 201 = .ok (.iload_n 1, 1) := by decide +kernel
theorem dX8_findsWay_202 : decode cX8_findsWay 202 = .ok (.if_icmp .gt 86, 3) := by decide +kernel
theorem dX8_findsWay_205 : decode cX8_findsWay 205 = .ok (.iload_n 2, 1) := by decide +kernel
theorem dX8_findsWay_206 : decode cX8_findsWay 206 = .ok (.bipush 100, 2) := by decide +kernel
theorem dX8_findsWay_208 : decode cX8_findsWay 208 = .ok (.if_icmp .ge 80, 3) := by decide +kernel
theorem dX8_findsWay_211 : decode cX8_findsWay 211 = .ok (.aload_n 0, 1) := by decide +kernel
theorem dX8_findsWay_212 : decode cX8_findsWay 212 = .ok (.getfield 38, 3) := by decide +kernel
theorem dX8_findsWay_215 : decode cX8_findsWay 215 = .ok (.iload_n 3, 1) := by decide +kernel
theorem dX8_findsWay_216 : decode cX8_findsWay 216 = .ok (.iconst 1, 1) := by decide +kernel
theorem dX8_findsWay_217 : decode cX8_findsWay 217 = .ok (.isub, 1) := by decide +kernel
theorem dX8_findsWay_218 : decode cX8_findsWay 218 = .ok (.iaload, 1) := by decide +kernel
theorem dX8_findsWay_219 : decode cX8_findsWay 219 = .ok (.istore 4, 2) := by decide +kernel
theorem dX8_findsWay_221 : decode cX8_findsWay 221 = .ok (.aload_n 0, 1) := by decide +kernel
theorem dX8_findsWay_222 : decode cX8_findsWay 222 = .ok (.iload_n 3, 1) := by decide +kernel
theorem dX8_findsWay_223 : decode cX8_findsWay 223 = .ok (.iconst 1, 1) := by decide +kernel
theorem dX8_findsWay_224 : decode cX8_findsWay 224 = .ok (.isub, 1) := by decide +kernel
theorem dX8_findsWay_225 : decode cX8_findsWay 225 = .ok (.iload 4, 2) := by decide +kernel
theorem dX8_findsWay_227 : decode cX8_findsWay 227 = .ok (.invokevirtual 166, 3) := by decide +kernel
theorem dX8_findsWay_230 : decode cX8_findsWay 230 = .ok (.istore 5, 2) := by decide +kernel
theorem dX8_findsWay_232 : decode cX8_findsWay 232 = .ok (.aload_n 0, 1) := by decide +kernel
theorem dX8_findsWay_233 : decode cX8_findsWay 233 = .ok (.getfield 38, 3) := by decide +kernel
theorem dX8_findsWay_236 : decode cX8_findsWay 236 = .ok (.iload_n 3, 1) := by decide +kernel
theorem dX8_findsWay_237 : decode cX8_findsWay 237 = .ok (.iconst 1, 1) := by decide +kernel
theorem dX8_findsWay_238 : decode cX8_findsWay 238 = .ok (.aload_n 0, 1) := by decide +kernel
theorem dX8_findsWay_239 : decode cX8_findsWay 239 = .ok (.iload_n 3, 1) := by decide +kernel
theorem dX8_findsWay_240 : decode cX8_findsWay 240 = .ok (.iload 4, 2) := by decide +kernel
theorem dX8_findsWay_242 : decode cX8_findsWay 242 = .ok (.iconst 1, 1) := by decide +kernel
theorem dX8_findsWay_243 : decode cX8_findsWay 243 = .ok (.isub, 1) := by decide +kernel
theorem dX8_findsWay_244 : decode cX8_findsWay 244 = .ok (.invokevirtual 166, 3) := by decide +kernel
theorem dX8_findsWay_247 : decode cX8_findsWay 247 = .ok (.iadd, 1) := by decide +kernel
theorem dX8_findsWay_248 : decode cX8_findsWay 248 = .ok (.iload 5, 2) := by decide +kernel
theorem dX8_findsWay_250 : decode cX8_findsWay 250 = .ok (.if_icmp .ne 10, 3) := by decide +kernel
theorem dX8_findsWay_253 : decode cX8_findsWay 253 = .ok (.iload 4, 2) := by decide +kernel
theorem dX8_findsWay_255 : decode cX8_findsWay 255 = .ok (.iconst 1, 1) := by decide +kernel
theorem dX8_findsWay_256 : decode cX8_findsWay 256 = .ok (.isub, 1) := by decide +kernel
theorem dX8_findsWay_257 : decode cX8_findsWay 257 = .ok (.goto 24, 3) := by decide +kernel
theorem dX8_findsWay_260 : decode cX8_findsWay 260 = .ok (.aload_n 0, 1) := by decide +kernel
theorem dX8_findsWay_261 : decode cX8_findsWay 261 = .ok (.iload_n 3, 1) := by decide +kernel
theorem dX8_findsWay_262 : decode cX8_findsWay 262 = .ok (.iload 4, 2) := by decide +kernel
theorem dX8_findsWay_264 : decode cX8_findsWay 264 = .ok (.invokevirtual 166, 3) := by decide +kernel
theorem dX8_findsWay_267 : decode cX8_findsWay 267 = .ok (.iload 5, 2) := by decide +kernel
theorem dX8_findsWay_269 : decode cX8_findsWay 269 = .ok (.if_icmp .ne 8, 3) := by decide +kernel
theorem dX8_findsWay_272 : decode cX8_findsWay 272 = .ok (.iload 4, 2) := by decide +kernel
theorem dX8_findsWay_274 : decode cX8_findsWay 274 = .ok (.goto 7, 3) := by decide +kernel
theorem dX8_findsWay_277 : decode cX8_findsWay 277 = .ok (.iload 4, 2) := by decide +kernel
theorem dX8_findsWay_279 : decode cX8_findsWay 279 = .ok (.iconst 1, 1) := by decide +kernel
theorem dX8_findsWay_280 : decode cX8_findsWay 280 = .ok (.iadd, 1) := by decide +kernel
theorem dX8_findsWay_281 : decode cX8_findsWay 281 = .ok (.iastore, 1) := by decide +kernel
theorem dX8_findsWay_282 : decode cX8_findsWay 282 = .ok (.iinc 3 1, 3) := by decide +kernel
theorem dX8_findsWay_285 : decode cX8_findsWay 285 = .ok (.goto (-85), 3) := by decide +kernel
theorem dX8_findsWay_288 : decode cX8_findsWay 288 = .ok (.iload_n 2, 1) := by decide +kernel
theorem dX8_findsWay_289 : decode cX8_findsWay 289 = .ok (.bipush 100, 2) := by decide +kernel
theorem dX8_findsWay_291 : decode cX8_findsWay 291 = .ok (.if_icmp .ge 7, 3) := by decide +kernel
theorem dX8_findsWay_294 : decode cX8_findsWay 294 = .ok (.iload_n 2, 1) := by decide +kernel
theorem dX8_findsWay_295 : decode cX8_findsWay 295 = .ok (.goto 5, 3) := by decide +kernel
theorem dX8_findsWay_298 : decode cX8_findsWay 298 = .ok (.bipush (-4), 2) := by decide +kernel
theorem dX8_findsWay_300 : decode cX8_findsWay 300 = .ok (.ireturn, 1) := by decide +kernel
theorem dX8_way_0 : decode cX8_way 0 = .ok (.iload_n 1, 1) := by decide +kernel
theorem dX8_way_1 : decode cX8_way 1 = .ok (.iconst 1, 1) := by decide +kernel
theorem dX8_way_2 : decode cX8_way 2 = .ok (.bipush 30, 2) := by decide +kernel
theorem dX8_way_4 : decode cX8_way 4 = .ok (.invokestatic 49, 3) := by decide +kernel
theorem dX8_way_7 : decode cX8_way 7 = .ok (.ifCond .eq 12, 3) := by decide +kernel
theorem dX8_way_10 : decode cX8_way 10 = .ok (.iload_n 2, 1) := by decide +kernel
theorem dX8_way_11 : decode cX8_way 11 = .ok (.iconst 0, 1) := by decide +kernel
theorem dX8_way_12 : decode cX8_way 12 = .ok (.iload_n 1, 1) := by decide +kernel
theorem dX8_way_13 : decode cX8_way 13 = .ok (.invokestatic 49, 3) := by decide +kernel
theorem dX8_way_16 : decode cX8_way 16 = .ok (.ifCond .ne 5, 3) := by decide +kernel
theorem dX8_way_19 : decode cX8_way 19 = .ok (.iconst (-1), 1) := by decide +kernel
theorem dX8_way_20 : decode cX8_way 20 = .ok (.ireturn, 1) := by decide +kernel
theorem dX8_way_21 : decode cX8_way 21 = .ok (.aload_n 0, 1) := by decide +kernel
theorem dX8_way_22 : decode cX8_way 22 = .ok (.iload_n 1, 1) := by decide +kernel
theorem dX8_way_23 : decode cX8_way 23 = .ok (.invokevirtual 169, 3) := by decide +kernel
theorem dX8_way_26 : decode cX8_way 26 = .ok (.ifCond .ge 8, 3) := by decide +kernel
theorem dX8_way_29 : decode cX8_way 29 = .ok (.bipush (-4), 2) := by decide +kernel
theorem dX8_way_31 : decode cX8_way 31 = .ok (.goto 9, 3) := by decide +kernel
theorem dX8_way_34 : decode cX8_way 34 = .ok (.aload_n 0, 1) := by decide +kernel
theorem dX8_way_35 : decode cX8_way 35 = .ok (.getfield 38, 3) := by decide +kernel
theorem dX8_way_38 : decode cX8_way 38 = .ok (.iload_n 2, 1) := by decide +kernel
theorem dX8_way_39 : decode cX8_way 39 = .ok (.iaload, 1) := by decide +kernel
theorem dX8_way_40 : decode cX8_way 40 = .ok (.ireturn, 1) := by decide +kernel
theorem dX8_asides_0 : decode cX8_asides 0 = .ok (.iload_n 1, 1) := by decide +kernel
theorem dX8_asides_1 : decode cX8_asides 1 = .ok (.iconst 1, 1) := by decide +kernel
theorem dX8_asides_2 : decode cX8_asides 2 = .ok (.bipush 30, 2) := by decide +kernel
theorem dX8_asides_4 : decode cX8_asides 4 = .ok (.invokestatic 49, 3) := by decide +kernel
theorem dX8_asides_7 : decode cX8_asides 7 = .ok (.ifCond .eq 11, 3) := by decide +kernel
theorem dX8_asides_10 : decode cX8_asides 10 = .ok (.aload_n 0, 1) := by decide +kernel
theorem dX8_asides_11 : decode cX8_asides 11 = .ok (.iload_n 1, 1) := by decide +kernel
theorem dX8_asides_12 : decode cX8_asides 12 = .ok (.invokevirtual 169, 3) := by decide +kernel
theorem dX8_asides_15 : decode cX8_asides 15 = .ok (.goto 4, 3) := by decide +kernel
theorem dX8_asides_18 : decode cX8_asides 18 = .ok (.iconst (-1), 1) := by decide +kernel
theorem dX8_asides_19 : decode cX8_asides 19 = .ok (.ireturn, 1) := by decide +kernel
theorem dX8_fair_0 : decode cX8_fair 0 = .ok (.aload_n 0, 1) := by decide +kernel
theorem dX8_fair_1 : decode cX8_fair 1 = .ok (.bipush 30, 2) := by decide +kernel
theorem dX8_fair_3 : decode cX8_fair 3 = .ok (.bipush (-4), 2) := by decide +kernel
theorem dX8_fair_5 : decode cX8_fair 5 = .ok (.invokevirtual 157, 3) := by decide +kernel
theorem dX8_fair_8 : decode cX8_fair 8 = .ok (.iconst 0, 1) := by decide +kernel
theorem dX8_fair_9 : decode cX8_fair 9 = .ok (.istore_n 1, 1) := by decide +kernel
theorem dX8_fair_10 : decode cX8_fair 10 = .ok (.iload_n 1, 1) := by decide +kernel
theorem dX8_fair_11 : decode cX8_fair 11 = .ok (.bipush 30, 2) := by decide +kernel
theorem dX8_fair_13 : decode cX8_fair 13 = .ok (.if_icmp .ge 19, 3) := by decide +kernel
theorem dX8_fair_16 : decode cX8_fair 16 = .ok (.aload_n 0, 1) := by decide +kernel
theorem dX8_fair_17 : decode cX8_fair 17 = .ok (.iload_n 1, 1) := by decide +kernel
theorem dX8_fair_18 : decode cX8_fair 18 = .ok (.iconst 1, 1) := by decide +kernel
theorem dX8_fair_19 : decode cX8_fair 19 = .ok (.iadd, 1) := by decide +kernel
theorem dX8_fair_20 : decode cX8_fair 20 = .ok (.invokevirtual 160, 3) := by decide +kernel
theorem dX8_fair_23 : decode cX8_fair 23 = .ok (.ifCond .eq 9, 3) := by decide +kernel
theorem dX8_fair_26 : decode cX8_fair 26 = .ok (.iinc 1 1, 3) := by decide +kernel
theorem dX8_fair_29 : decode cX8_fair 29 = .ok (.goto (-19), 3) := by decide +kernel
theorem dX8_fair_32 : decode cX8_fair 32 = .ok (.iload_n 1, 1) := by decide +kernel
theorem dX8_fair_33 : decode cX8_fair 33 = .ok (.ireturn, 1) := by decide +kernel
theorem dX8_opens_0 : decode cX8_opens 0 = .ok (.aload_n 0, 1) := by decide +kernel
theorem dX8_opens_1 : decode cX8_opens 1 = .ok (.iload_n 1, 1) := by decide +kernel
theorem dX8_opens_2 : decode cX8_opens 2 = .ok (.iload_n 2, 1) := by decide +kernel
theorem dX8_opens_3 : decode cX8_opens 3 = .ok (.invokevirtual 157, 3) := by decide +kernel
theorem dX8_opens_6 : decode cX8_opens 6 = .ok (.iconst 0, 1) := by decide +kernel
theorem dX8_opens_7 : decode cX8_opens 7 = .ok (.istore_n 3, 1) := by decide +kernel
theorem dX8_opens_8 : decode cX8_opens 8 = .ok (.iconst 1, 1) := by decide +kernel
theorem dX8_opens_9 : decode cX8_opens 9 = .ok (.istore 4, 2) := by decide +kernel
theorem dX8_opens_11 : decode cX8_opens 11 = .ok (.iload 4, 2) := by decide +kernel
theorem dX8_opens_13 : decode cX8_opens 13 = .ok (.iload_n 1, 1) := by decide +kernel
theorem dX8_opens_14 : decode cX8_opens 14 = .ok (.if_icmp .gt 22, 3) := by decide +kernel
theorem dX8_opens_17 : decode cX8_opens 17 = .ok (.iload_n 3, 1) := by decide +kernel
theorem dX8_opens_18 : decode cX8_opens 18 = .ok (.aload_n 0, 1) := by decide +kernel
theorem dX8_opens_19 : decode cX8_opens 19 = .ok (.getfield 32, 3) := by decide +kernel
theorem dX8_opens_22 : decode cX8_opens 22 = .ok (.iload 4, 2) := by decide +kernel
theorem dX8_opens_24 : decode cX8_opens 24 = .ok (.iaload, 1) := by decide +kernel
theorem dX8_opens_25 : decode cX8_opens 25 = .ok (.invokestatic 163, 3) := by decide +kernel
theorem dX8_opens_28 : decode cX8_opens 28 = .ok (.iadd, 1) := by decide +kernel
theorem dX8_opens_29 : decode cX8_opens 29 = .ok (.istore_n 3, 1) := by decide +kernel
theorem dX8_opens_30 : decode cX8_opens 30 = .ok (.iinc 4 1, 3) := by decide +kernel
theorem dX8_opens_33 : decode cX8_opens 33 = .ok (.goto (-22), 3) := by decide +kernel
theorem dX8_opens_36 : decode cX8_opens 36 = .ok (.iload_n 3, 1) := by decide +kernel
theorem dX8_opens_37 : decode cX8_opens 37 = .ok (.ireturn, 1) := by decide +kernel
theorem dX8_shuts_0 : decode cX8_shuts 0 = .ok (.iload_n 1, 1) := by decide +kernel
theorem dX8_shuts_1 : decode cX8_shuts 1 = .ok (.iconst 1, 1) := by decide +kernel
theorem dX8_shuts_2 : decode cX8_shuts 2 = .ok (.bipush 30, 2) := by decide +kernel
theorem dX8_shuts_4 : decode cX8_shuts 4 = .ok (.invokestatic 49, 3) := by decide +kernel
theorem dX8_shuts_7 : decode cX8_shuts 7 = .ok (.ifCond .ne 5, 3) := by decide +kernel
theorem dX8_shuts_10 : decode cX8_shuts 10 = .ok (.iconst (-1), 1) := by decide +kernel
theorem dX8_shuts_11 : decode cX8_shuts 11 = .ok (.ireturn, 1) := by decide +kernel
theorem dX8_shuts_12 : decode cX8_shuts 12 = .ok (.aload_n 0, 1) := by decide +kernel
theorem dX8_shuts_13 : decode cX8_shuts 13 = .ok (.getfield 7, 3) := by decide +kernel
theorem dX8_shuts_16 : decode cX8_shuts 16 = .ok (.iconst 0, 1) := by decide +kernel
theorem dX8_shuts_17 : decode cX8_shuts 17 = .ok (.iaload, 1) := by decide +kernel
theorem dX8_shuts_18 : decode cX8_shuts 18 = .ok (.ifCond .ne 6, 3) := by decide +kernel
theorem dX8_shuts_21 : decode cX8_shuts 21 = .ok (.bipush (-2), 2) := by decide +kernel
theorem dX8_shuts_23 : decode cX8_shuts 23 = .ok (.ireturn, 1) := by decide +kernel
theorem dX8_shuts_24 : decode cX8_shuts 24 = .ok (.iconst 0, 1) := by decide +kernel
theorem dX8_shuts_25 : decode cX8_shuts 25 = .ok (.istore_n 2, 1) := by decide +kernel
theorem dX8_shuts_26 : decode cX8_shuts 26 = .ok (.iconst (-1), 1) := by decide +kernel
theorem dX8_shuts_27 : decode cX8_shuts 27 = .ok (.istore_n 3, 1) := by decide +kernel
theorem dX8_shuts_28 : decode cX8_shuts 28 = .ok (.iconst 0, 1) := by decide +kernel
theorem dX8_shuts_29 : decode cX8_shuts 29 = .ok (.istore 4, 2) := by decide +kernel
theorem dX8_shuts_31 : decode cX8_shuts 31 = .ok (.iload 4, 2) := by decide +kernel
theorem dX8_shuts_33 : decode cX8_shuts 33 = .ok (.aload_n 0, 1) := by decide +kernel
theorem dX8_shuts_34 : decode cX8_shuts 34 = .ok (.getfield 7, 3) := by decide +kernel
theorem dX8_shuts_37 : decode cX8_shuts 37 = .ok (.iconst 0, 1) := by decide +kernel
theorem dX8_shuts_38 : decode cX8_shuts 38 = .ok (.iaload, 1) := by decide +kernel
theorem dX8_shuts_39 : decode cX8_shuts 39 = .ok (.if_icmp .ge 44, 3) := by decide +kernel
theorem dX8_shuts_42 : decode cX8_shuts 42 = .ok (.aload_n 0, 1) := by decide +kernel
theorem dX8_shuts_43 : decode cX8_shuts 43 = .ok (.iload_n 1, 1) := by decide +kernel
theorem dX8_shuts_44 : decode cX8_shuts 44 = .ok (.iload 4, 2) := by decide +kernel
theorem dX8_shuts_46 : decode cX8_shuts 46 = .ok (.invokevirtual 172, 3) := by decide +kernel
theorem dX8_shuts_49 : decode cX8_shuts 49 = .ok (.istore 5, 2) := by decide +kernel
theorem dX8_shuts_51 : decode cX8_shuts 51 = .ok (.iload 5, 2) := by decide +kernel
theorem dX8_shuts_53 : decode cX8_shuts 53 = .ok (.iload_n 3, 1) := by decide +kernel
theorem dX8_shuts_54 : decode cX8_shuts 54 = .ok (.if_icmp .le 8, 3) := by decide +kernel
theorem dX8_shuts_57 : decode cX8_shuts 57 = .ok (.iload 4, 2) := by decide +kernel
theorem dX8_shuts_59 : decode cX8_shuts 59 = .ok (.goto 4, 3) := by decide +kernel
theorem dX8_shuts_62 : decode cX8_shuts 62 = .ok (.iload_n 2, 1) := by decide +kernel
theorem dX8_shuts_63 : decode cX8_shuts 63 = .ok (.istore_n 2, 1) := by decide +kernel
theorem dX8_shuts_64 : decode cX8_shuts 64 = .ok (.iload 5, 2) := by decide +kernel
theorem dX8_shuts_66 : decode cX8_shuts 66 = .ok (.iload_n 3, 1) := by decide +kernel
theorem dX8_shuts_67 : decode cX8_shuts 67 = .ok (.if_icmp .le 8, 3) := by decide +kernel
theorem dX8_shuts_70 : decode cX8_shuts 70 = .ok (.iload 5, 2) := by decide +kernel
theorem dX8_shuts_72 : decode cX8_shuts 72 = .ok (.goto 4, 3) := by decide +kernel
theorem dX8_shuts_75 : decode cX8_shuts 75 = .ok (.iload_n 3, 1) := by decide +kernel
theorem dX8_shuts_76 : decode cX8_shuts 76 = .ok (.istore_n 3, 1) := by decide +kernel
theorem dX8_shuts_77 : decode cX8_shuts 77 = .ok (.iinc 4 1, 3) := by decide +kernel
theorem dX8_shuts_80 : decode cX8_shuts 80 = .ok (.goto (-49), 3) := by decide +kernel
theorem dX8_shuts_83 : decode cX8_shuts 83 = .ok (.iload_n 2, 1) := by decide +kernel
theorem dX8_shuts_84 : decode cX8_shuts 84 = .ok (.ireturn, 1) := by decide +kernel
theorem dX8_openness_0 : decode cX8_openness 0 = .ok (.iload_n 1, 1) := by decide +kernel
theorem dX8_openness_1 : decode cX8_openness 1 = .ok (.iconst 1, 1) := by decide +kernel
theorem dX8_openness_2 : decode cX8_openness 2 = .ok (.bipush 30, 2) := by decide +kernel
theorem dX8_openness_4 : decode cX8_openness 4 = .ok (.invokestatic 49, 3) := by decide +kernel
theorem dX8_openness_7 : decode cX8_openness 7 = .ok (.ifCond .eq 20, 3) := by decide +kernel
theorem dX8_openness_10 : decode cX8_openness 10 = .ok (.aload_n 0, 1) := by decide +kernel
theorem dX8_openness_11 : decode cX8_openness 11 = .ok (.iload_n 1, 1) := by decide +kernel
theorem dX8_openness_12 : decode cX8_openness 12 = .ok (.bipush (-4), 2) := by decide +kernel
theorem dX8_openness_14 : decode cX8_openness 14 = .ok (.invokevirtual 172, 3) := by decide +kernel
theorem dX8_openness_17 : decode cX8_openness 17 = .ok (.i2d, 1) := by decide +kernel
theorem dX8_openness_18 : decode cX8_openness 18 = .ok (.bipush 10, 2) := by decide +kernel
theorem dX8_openness_20 : decode cX8_openness 20 = .ok (.iload_n 1, 1) := by decide +kernel
theorem dX8_openness_21 : decode cX8_openness 21 = .ok (.imul, 1) := by decide +kernel
theorem dX8_openness_22 : decode cX8_openness 22 = .ok (.i2d, 1) := by decide +kernel
theorem dX8_openness_23 : decode cX8_openness 23 = .ok (.ddiv, 1) := by decide +kernel
theorem dX8_openness_24 : decode cX8_openness 24 = .ok (.goto 6, 3) := by decide +kernel
theorem dX8_openness_27 : decode cX8_openness 27 = .ok (.ldc2_w 175, 3) := by decide +kernel
theorem dX8_openness_30 : decode cX8_openness 30 = .ok (.dreturn, 1) := by decide +kernel
theorem dX8_ifStepped_0 : decode cX8_ifStepped 0 = .ok (.iload_n 1, 1) := by decide +kernel
theorem dX8_ifStepped_1 : decode cX8_ifStepped 1 = .ok (.iconst (-1), 1) := by decide +kernel
theorem dX8_ifStepped_2 : decode cX8_ifStepped 2 = .ok (.iconst 1, 1) := by decide +kernel
theorem dX8_ifStepped_3 : decode cX8_ifStepped 3 = .ok (.invokestatic 49, 3) := by decide +kernel
theorem dX8_ifStepped_6 : decode cX8_ifStepped 6 = .ok (.ifCond .eq 22, 3) := by decide +kernel
theorem dX8_ifStepped_9 : decode cX8_ifStepped 9 = .ok (.iload_n 2, 1) := by decide +kernel
theorem dX8_ifStepped_10 : decode cX8_ifStepped 10 = .ok (.iconst 1, 1) := by decide +kernel
theorem dX8_ifStepped_11 : decode cX8_ifStepped 11 = .ok (.bipush 30, 2) := by decide +kernel
theorem dX8_ifStepped_13 : decode cX8_ifStepped 13 = .ok (.invokestatic 49, 3) := by decide +kernel
theorem dX8_ifStepped_16 : decode cX8_ifStepped 16 = .ok (.ifCond .eq 12, 3) := by decide +kernel
theorem dX8_ifStepped_19 : decode cX8_ifStepped 19 = .ok (.iload_n 3, 1) := by decide +kernel
theorem dX8_ifStepped_20 : decode cX8_ifStepped 20 = .ok (.iconst 0, 1) := by decide +kernel
theorem dX8_ifStepped_21 : decode cX8_ifStepped 21 = .ok (.iconst 2, 1) := by decide +kernel
theorem dX8_ifStepped_22 : decode cX8_ifStepped 22 = .ok (.invokestatic 49, 3) := by decide +kernel
theorem dX8_ifStepped_25 : decode cX8_ifStepped 25 = .ok (.ifCond .ne 5, 3) := by decide +kernel
theorem dX8_ifStepped_28 : decode cX8_ifStepped 28 = .ok (.iconst (-1), 1) := by decide +kernel
theorem dX8_ifStepped_29 : decode cX8_ifStepped 29 = .ok (.ireturn, 1) := by decide +kernel
theorem dX8_ifStepped_30 : decode cX8_ifStepped 30 = .ok (.aload_n 0, 1) := by decide +kernel
theorem dX8_ifStepped_31 : decode cX8_ifStepped 31 = .ok (.getfield 7, 3) := by decide +kernel
theorem dX8_ifStepped_34 : decode cX8_ifStepped 34 = .ok (.bipush 6, 2) := by decide +kernel
theorem dX8_ifStepped_36 : decode cX8_ifStepped 36 = .ok (.iaload, 1) := by decide +kernel
theorem dX8_ifStepped_37 : decode cX8_ifStepped 37 = .ok (.iconst 1, 1) := by decide +kernel
theorem dX8_ifStepped_38 : decode cX8_ifStepped 38 = .ok (.if_icmp .ne 6, 3) := by decide +kernel
theorem dX8_ifStepped_41 : decode cX8_ifStepped 41 = .ok (.bipush (-2), 2) := by decide +kernel
theorem dX8_ifStepped_43 : decode cX8_ifStepped 43 = .ok (.ireturn, 1) := by decide +kernel
theorem dX8_ifStepped_44 : decode cX8_ifStepped 44 = .ok (.aload_n 0, 1) := by decide +kernel
theorem dX8_ifStepped_45 : decode cX8_ifStepped 45 = .ok (.getfield 7, 3) := by decide +kernel
theorem dX8_ifStepped_48 : decode cX8_ifStepped 48 = .ok (.iconst 0, 1) := by decide +kernel
theorem dX8_ifStepped_49 : decode cX8_ifStepped 49 = .ok (.aload_n 0, 1) := by decide +kernel
theorem dX8_ifStepped_50 : decode cX8_ifStepped 50 = .ok (.getfield 13, 3) := by decide +kernel
theorem dX8_ifStepped_53 : decode cX8_ifStepped 53 = .ok (.iconst 0, 1) := by decide +kernel
theorem dX8_ifStepped_54 : decode cX8_ifStepped 54 = .ok (.invokestatic 45, 3) := by decide +kernel
theorem dX8_ifStepped_57 : decode cX8_ifStepped 57 = .ok (.iconst 0, 1) := by decide +kernel
theorem dX8_ifStepped_58 : decode cX8_ifStepped 58 = .ok (.istore 4, 2) := by decide +kernel
theorem dX8_ifStepped_60 : decode cX8_ifStepped 60 = .ok (.iload 4, 2) := by decide +kernel
theorem dX8_ifStepped_62 : decode cX8_ifStepped 62 = .ok (.iload_n 2, 1) := by decide +kernel
theorem dX8_ifStepped_63 : decode cX8_ifStepped 63 = .ok (.if_icmp .ge 26, 3) := by decide +kernel
theorem dX8_ifStepped_66 : decode cX8_ifStepped 66 = .ok (.aload_n 0, 1) := by decide +kernel
theorem dX8_ifStepped_67 : decode cX8_ifStepped 67 = .ok (.getfield 7, 3) := by decide +kernel
theorem dX8_ifStepped_70 : decode cX8_ifStepped 70 = .ok (.bipush 6, 2) := by decide +kernel
theorem dX8_ifStepped_72 : decode cX8_ifStepped 72 = .ok (.iaload, 1) := by decide +kernel
theorem dX8_ifStepped_73 : decode cX8_ifStepped 73 = .ok (.ifCond .ne 16, 3) := by decide +kernel
theorem dX8_ifStepped_76 : decode cX8_ifStepped 76 = .ok (.aload_n 0, 1) := by decide +kernel
theorem dX8_ifStepped_77 : decode cX8_ifStepped 77 = .ok (.iload_n 1, 1) := by decide +kernel
theorem dX8_ifStepped_78 : decode cX8_ifStepped 78 = .ok (.invokevirtual 105, 3) := by decide +kernel
theorem dX8_ifStepped_81 : decode cX8_ifStepped 81 = .ok (.istore 5, 2) := by decide +kernel
theorem dX8_ifStepped_83 : decode cX8_ifStepped 83 = .ok (.iinc 4 1, 3) := by decide +kernel
theorem dX8_ifStepped_86 : decode cX8_ifStepped 86 = .ok (.goto (-26), 3) := by decide +kernel
theorem dX8_ifStepped_89 : decode cX8_ifStepped 89 = .ok (.iload_n 3, 1) := by decide +kernel
theorem dX8_ifStepped_90 : decode cX8_ifStepped 90 = .ok (.ifCond .ne 21, 3) := by decide +kernel
theorem dX8_ifStepped_93 : decode cX8_ifStepped 93 = .ok (.aload_n 0, 1) := by decide +kernel
theorem dX8_ifStepped_94 : decode cX8_ifStepped 94 = .ok (.getfield 7, 3) := by decide +kernel
theorem dX8_ifStepped_97 : decode cX8_ifStepped 97 = .ok (.bipush 14, 2) := by decide +kernel
theorem dX8_ifStepped_99 : decode cX8_ifStepped 99 = .ok (.iaload, 1) := by decide +kernel
theorem dX8_ifStepped_100 : decode cX8_ifStepped 100 = .ok (.aload_n 0, 1) := by decide +kernel
theorem dX8_ifStepped_101 : decode cX8_ifStepped 101 = .ok (.getfield 13, 3) := by decide +kernel
theorem dX8_ifStepped_104 : decode cX8_ifStepped 104 = .ok (.bipush 14, 2) := by decide +kernel
theorem dX8_ifStepped_106 : decode cX8_ifStepped 106 = .ok (.iaload, 1) := by decide +kernel
theorem dX8_ifStepped_107 : decode cX8_ifStepped 107 = .ok (.isub, 1) := by decide +kernel
theorem dX8_ifStepped_108 : decode cX8_ifStepped 108 = .ok (.goto 44, 3) := by decide +kernel
theorem dX8_ifStepped_111 : decode cX8_ifStepped 111 = .ok (.iload_n 3, 1) := by decide +kernel
theorem dX8_ifStepped_112 : decode cX8_ifStepped 112 = .ok (.iconst 1, 1) := by decide +kernel
theorem dX8_ifStepped_113 : decode cX8_ifStepped 113 = .ok (.if_icmp .ne 21, 3) := by decide +kernel
theorem dX8_ifStepped_116 : decode cX8_ifStepped 116 = .ok (.aload_n 0, 1) := by decide +kernel
theorem dX8_ifStepped_117 : decode cX8_ifStepped 117 = .ok (.getfield 7, 3) := by decide +kernel
theorem dX8_ifStepped_120 : decode cX8_ifStepped 120 = .ok (.bipush 13, 2) := by decide +kernel
theorem dX8_ifStepped_122 : decode cX8_ifStepped 122 = .ok (.iaload, 1) := by decide +kernel
theorem dX8_ifStepped_123 : decode cX8_ifStepped 123 = .ok (.aload_n 0, 1) := by decide +kernel
theorem dX8_ifStepped_124 : decode cX8_ifStepped 124 = .ok (.getfield 13, 3) := by decide +kernel
theorem dX8_ifStepped_127 : decode cX8_ifStepped 127 = .ok (.bipush 13, 2) := by decide +kernel
theorem dX8_ifStepped_129 : decode cX8_ifStepped 129 = .ok (.iaload, 1) := by decide +kernel
theorem dX8_ifStepped_130 : decode cX8_ifStepped 130 = .ok (.isub, 1) := by decide +kernel
theorem dX8_ifStepped_131 : decode cX8_ifStepped 131 = .ok (.goto 21, 3) := by decide +kernel
theorem dX8_ifStepped_134 : decode cX8_ifStepped 134 = .ok (.aload_n 0, 1) := by decide +kernel
theorem dX8_ifStepped_135 : decode cX8_ifStepped 135 = .ok (.getfield 7, 3) := by decide +kernel
theorem dX8_ifStepped_138 : decode cX8_ifStepped 138 = .ok (.bipush 6, 2) := by decide +kernel
theorem dX8_ifStepped_140 : decode cX8_ifStepped 140 = .ok (.iaload, 1) := by decide +kernel
theorem dX8_ifStepped_141 : decode cX8_ifStepped 141 = .ok (.iconst 1, 1) := by decide +kernel
theorem dX8_ifStepped_142 : decode cX8_ifStepped 142 = .ok (.if_icmp .ne 8, 3) := by decide +kernel
theorem dX8_ifStepped_145 : decode cX8_ifStepped 145 = .ok (.iload 4, 2) := by decide +kernel
theorem dX8_ifStepped_147 : decode cX8_ifStepped 147 = .ok (.goto 5, 3) := by decide +kernel
theorem dX8_ifStepped_150 : decode cX8_ifStepped 150 = .ok (.bipush (-4), 2) := by decide +kernel
theorem dX8_ifStepped_152 : decode cX8_ifStepped 152 = .ok (.istore 5, 2) := by decide +kernel
theorem dX8_ifStepped_154 : decode cX8_ifStepped 154 = .ok (.aload_n 0, 1) := by decide +kernel
theorem dX8_ifStepped_155 : decode cX8_ifStepped 155 = .ok (.getfield 13, 3) := by decide +kernel
theorem dX8_ifStepped_158 : decode cX8_ifStepped 158 = .ok (.iconst 0, 1) := by decide +kernel
theorem dX8_ifStepped_159 : decode cX8_ifStepped 159 = .ok (.aload_n 0, 1) := by decide +kernel
theorem dX8_ifStepped_160 : decode cX8_ifStepped 160 = .ok (.getfield 7, 3) := by decide +kernel
theorem dX8_ifStepped_163 : decode cX8_ifStepped 163 = .ok (.iconst 0, 1) := by decide +kernel
theorem dX8_ifStepped_164 : decode cX8_ifStepped 164 = .ok (.invokestatic 45, 3) := by decide +kernel
theorem dX8_ifStepped_167 : decode cX8_ifStepped 167 = .ok (.iload 5, 2) := by decide +kernel
theorem dX8_ifStepped_169 : decode cX8_ifStepped 169 = .ok (.ireturn, 1) := by decide +kernel
theorem dX8_undo_0 : decode cX8_undo 0 = .ok (.aload_n 0, 1) := by decide +kernel
theorem dX8_undo_1 : decode cX8_undo 1 = .ok (.getfield 41, 3) := by decide +kernel
theorem dX8_undo_4 : decode cX8_undo 4 = .ok (.ifCond .ne 6, 3) := by decide +kernel
theorem dX8_undo_7 : decode cX8_undo 7 = .ok (.bipush (-2), 2) := by decide +kernel
theorem dX8_undo_9 : decode cX8_undo 9 = .ok (.ireturn, 1) := by decide +kernel
theorem dX8_undo_10 : decode cX8_undo 10 = .ok (.aload_n 0, 1) := by decide +kernel
theorem dX8_undo_11 : decode cX8_undo 11 = .ok (.dup, 1) := by decide +kernel
theorem dX8_undo_12 : decode cX8_undo 12 = .ok (.getfield 41, 3) := by decide +kernel
theorem dX8_undo_15 : decode cX8_undo 15 = .ok (.iconst 1, 1) := by decide +kernel
theorem dX8_undo_16 : decode cX8_undo 16 = .ok (.isub, 1) := by decide +kernel
theorem dX8_undo_17 : decode cX8_undo 17 = .ok (.putfield 41, 3) := by decide +kernel
theorem dX8_undo_20 : decode cX8_undo 20 = .ok (.aload_n 0, 1) := by decide +kernel
theorem dX8_undo_21 : decode cX8_undo 21 = .ok (.getfield 16, 3) := by decide +kernel
theorem dX8_undo_24 : decode cX8_undo 24 = .ok (.sipush 333, 3) := by decide +kernel
theorem dX8_undo_27 : decode cX8_undo 27 = .ok (.aload_n 0, 1) := by decide +kernel
theorem dX8_undo_28 : decode cX8_undo 28 = .ok (.getfield 41, 3) := by decide +kernel
theorem dX8_undo_31 : decode cX8_undo 31 = .ok (.imul, 1) := by decide +kernel
theorem dX8_undo_32 : decode cX8_undo 32 = .ok (.aload_n 0, 1) := by decide +kernel
theorem dX8_undo_33 : decode cX8_undo 33 = .ok (.getfield 7, 3) := by decide +kernel
theorem dX8_undo_36 : decode cX8_undo 36 = .ok (.iconst 0, 1) := by decide +kernel
theorem dX8_undo_37 : decode cX8_undo 37 = .ok (.invokestatic 45, 3) := by decide +kernel
theorem dX8_undo_40 : decode cX8_undo 40 = .ok (.aload_n 0, 1) := by decide +kernel
theorem dX8_undo_41 : decode cX8_undo 41 = .ok (.getfield 41, 3) := by decide +kernel
theorem dX8_undo_44 : decode cX8_undo 44 = .ok (.ireturn, 1) := by decide +kernel
theorem dX8_save_0 : decode cX8_save 0 = .ok (.aload_n 0, 1) := by decide +kernel
theorem dX8_save_1 : decode cX8_save 1 = .ok (.getfield 7, 3) := by decide +kernel
theorem dX8_save_4 : decode cX8_save 4 = .ok (.iconst 0, 1) := by decide +kernel
theorem dX8_save_5 : decode cX8_save 5 = .ok (.aload_n 0, 1) := by decide +kernel
theorem dX8_save_6 : decode cX8_save 6 = .ok (.getfield 19, 3) := by decide +kernel
theorem dX8_save_9 : decode cX8_save 9 = .ok (.iconst 0, 1) := by decide +kernel
theorem dX8_save_10 : decode cX8_save 10 = .ok (.invokestatic 45, 3) := by decide +kernel
theorem dX8_save_13 : decode cX8_save 13 = .ok (.aload_n 0, 1) := by decide +kernel
theorem dX8_save_14 : decode cX8_save 14 = .ok (.iconst 1, 1) := by decide +kernel
theorem dX8_save_15 : decode cX8_save 15 = .ok (.putfield 177, 3) := by decide +kernel
theorem dX8_save_18 : decode cX8_save 18 = .ok (.aload_n 0, 1) := by decide +kernel
theorem dX8_save_19 : decode cX8_save 19 = .ok (.getfield 7, 3) := by decide +kernel
theorem dX8_save_22 : decode cX8_save 22 = .ok (.iconst 5, 1) := by decide +kernel
theorem dX8_save_23 : decode cX8_save 23 = .ok (.iaload, 1) := by decide +kernel
theorem dX8_save_24 : decode cX8_save 24 = .ok (.ireturn, 1) := by decide +kernel
theorem dX8_restore_0 : decode cX8_restore 0 = .ok (.aload_n 0, 1) := by decide +kernel
theorem dX8_restore_1 : decode cX8_restore 1 = .ok (.getfield 177, 3) := by decide +kernel
theorem dX8_restore_4 : decode cX8_restore 4 = .ok (.ifCond .ne 6, 3) := by decide +kernel
theorem dX8_restore_7 : decode cX8_restore 7 = .ok (.bipush (-2), 2) := by decide +kernel
theorem dX8_restore_9 : decode cX8_restore 9 = .ok (.ireturn, 1) := by decide +kernel
theorem dX8_restore_10 : decode cX8_restore 10 = .ok (.aload_n 0, 1) := by decide +kernel
theorem dX8_restore_11 : decode cX8_restore 11 = .ok (.invokevirtual 90, 3) := by decide +kernel
theorem dX8_restore_14 : decode cX8_restore 14 = .ok (.aload_n 0, 1) := by decide +kernel
theorem dX8_restore_15 : decode cX8_restore 15 = .ok (.getfield 19, 3) := by decide +kernel
theorem dX8_restore_18 : decode cX8_restore 18 = .ok (.iconst 0, 1) := by decide +kernel
theorem dX8_restore_19 : decode cX8_restore 19 = .ok (.aload_n 0, 1) := by decide +kernel
theorem dX8_restore_20 : decode cX8_restore 20 = .ok (.getfield 7, 3) := by decide +kernel
theorem dX8_restore_23 : decode cX8_restore 23 = .ok (.iconst 0, 1) := by decide +kernel
theorem dX8_restore_24 : decode cX8_restore 24 = .ok (.invokestatic 45, 3) := by decide +kernel
theorem dX8_restore_27 : decode cX8_restore 27 = .ok (.aload_n 0, 1) := by decide +kernel
theorem dX8_restore_28 : decode cX8_restore 28 = .ok (.getfield 7, 3) := by decide +kernel
theorem dX8_restore_31 : decode cX8_restore 31 = .ok (.iconst 5, 1) := by decide +kernel
theorem dX8_restore_32 : decode cX8_restore 32 = .ok (.iaload, 1) := by decide +kernel
theorem dX8_restore_33 : decode cX8_restore 33 = .ok (.ireturn, 1) := by decide +kernel

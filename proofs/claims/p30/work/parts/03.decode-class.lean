theorem dX0_init_0 : decode cX0_init 0 = .ok (.aload_n 0, 1) := by decide +kernel
theorem dX0_init_1 : decode cX0_init 1 = .ok (.invokespecial 3, 3) := by decide +kernel
theorem dX0_init_4 : decode cX0_init 4 = .ok (.aload_n 0, 1) := by decide +kernel
theorem dX0_init_5 : decode cX0_init 5 = .ok (.bipush 60, 2) := by decide +kernel
theorem dX0_init_7 : decode cX0_init 7 = .ok (.newarray .int, 2) := by decide +kernel
theorem dX0_init_9 : decode cX0_init 9 = .ok (.putfield 9, 3) := by decide +kernel
theorem dX0_init_12 : decode cX0_init 12 = .ok (.aload_n 0, 1) := by decide +kernel
theorem dX0_init_13 : decode cX0_init 13 = .ok (.bipush 60, 2) := by decide +kernel
theorem dX0_init_15 : decode cX0_init 15 = .ok (.newarray .int, 2) := by decide +kernel
theorem dX0_init_17 : decode cX0_init 17 = .ok (.putfield 15, 3) := by decide +kernel
theorem dX0_init_20 : decode cX0_init 20 = .ok (.aload_n 0, 1) := by decide +kernel
theorem dX0_init_21 : decode cX0_init 21 = .ok (.bipush 60, 2) := by decide +kernel
theorem dX0_init_23 : decode cX0_init 23 = .ok (.newarray .int, 2) := by decide +kernel
theorem dX0_init_25 : decode cX0_init 25 = .ok (.putfield 18, 3) := by decide +kernel
theorem dX0_init_28 : decode cX0_init 28 = .ok (.aload_n 0, 1) := by decide +kernel
theorem dX0_init_29 : decode cX0_init 29 = .ok (.bipush 60, 2) := by decide +kernel
theorem dX0_init_31 : decode cX0_init 31 = .ok (.newarray .boolean, 2) := by decide +kernel
theorem dX0_init_33 : decode cX0_init 33 = .ok (.putfield 21, 3) := by decide +kernel
theorem dX0_init_36 : decode cX0_init 36 = .ok (.aload_n 0, 1) := by decide +kernel
theorem dX0_init_37 : decode cX0_init 37 = .ok (.bipush 60, 2) := by decide +kernel
theorem dX0_init_39 : decode cX0_init 39 = .ok (.newarray .boolean, 2) := by decide +kernel
theorem dX0_init_41 : decode cX0_init 41 = .ok (.putfield 25, 3) := by decide +kernel
theorem dX0_init_44 : decode cX0_init 44 = .ok (.aload_n 0, 1) := by decide +kernel
theorem dX0_init_45 : decode cX0_init 45 = .ok (.iconst 0, 1) := by decide +kernel
theorem dX0_init_46 : decode cX0_init 46 = .ok (.putfield 28, 3) := by decide +kernel
theorem dX0_init_49 : decode cX0_init 49 = .ok (.return_, 1) := by decide +kernel
theorem dX0_has_0 : decode cX0_has 0 = .ok (.iload_n 1, 1) := by decide +kernel
theorem dX0_has_1 : decode cX0_has 1 = .ok (.ifCond .lt 15, 3) := by decide +kernel
theorem dX0_has_4 : decode cX0_has 4 = .ok (.iload_n 1, 1) := by decide +kernel
theorem dX0_has_5 : decode cX0_has 5 = .ok (.aload_n 0, 1) := by decide +kernel
theorem dX0_has_6 : decode cX0_has 6 = .ok (.getfield 28, 3) := by decide +kernel
theorem dX0_has_9 : decode cX0_has 9 = .ok (.if_icmp .ge 7, 3) := by decide +kernel
theorem dX0_has_12 : decode cX0_has 12 = .ok (.iconst 1, 1) := by decide +kernel
theorem dX0_has_13 : decode cX0_has 13 = .ok (.goto 4, 3) := by decide +kernel
theorem dX0_has_16 : decode cX0_has 16 = .ok (.iconst 0, 1) := by decide +kernel
theorem dX0_has_17 : decode cX0_has 17 = .ok (.ireturn, 1) := by decide +kernel
theorem dX0_add_0 : decode cX0_add 0 = .ok (.aload_n 0, 1) := by decide +kernel
theorem dX0_add_1 : decode cX0_add 1 = .ok (.getfield 28, 3) := by decide +kernel
theorem dX0_add_4 : decode cX0_add 4 = .ok (.bipush 60, 2) := by decide +kernel
theorem dX0_add_6 : decode cX0_add 6 = .ok (.if_icmp .lt 5, 3) := by decide +kernel
theorem dX0_add_9 : decode cX0_add 9 = .ok (.iconst 0, 1) := by decide +kernel
theorem dX0_add_10 : decode cX0_add 10 = .ok (.ireturn, 1) := by decide +kernel
theorem dX0_add_11 : decode cX0_add 11 = .ok (.aload_n 0, 1) := by decide +kernel
theorem dX0_add_12 : decode cX0_add 12 = .ok (.getfield 9, 3) := by decide +kernel
theorem dX0_add_15 : decode cX0_add 15 = .ok (.aload_n 0, 1) := by decide +kernel
theorem dX0_add_16 : decode cX0_add 16 = .ok (.getfield 28, 3) := by decide +kernel
theorem dX0_add_19 : decode cX0_add 19 = .ok (.iconst 0, 1) := by decide +kernel
theorem dX0_add_20 : decode cX0_add 20 = .ok (.iastore, 1) := by decide +kernel
theorem dX0_add_21 : decode cX0_add 21 = .ok (.aload_n 0, 1) := by decide +kernel
theorem dX0_add_22 : decode cX0_add 22 = .ok (.getfield 15, 3) := by decide +kernel
theorem dX0_add_25 : decode cX0_add 25 = .ok (.aload_n 0, 1) := by decide +kernel
theorem dX0_add_26 : decode cX0_add 26 = .ok (.getfield 28, 3) := by decide +kernel
theorem dX0_add_29 : decode cX0_add 29 = .ok (.iload_n 1, 1) := by decide +kernel
theorem dX0_add_30 : decode cX0_add 30 = .ok (.iastore, 1) := by decide +kernel
theorem dX0_add_31 : decode cX0_add 31 = .ok (.aload_n 0, 1) := by decide +kernel
theorem dX0_add_32 : decode cX0_add 32 = .ok (.getfield 18, 3) := by decide +kernel
theorem dX0_add_35 : decode cX0_add 35 = .ok (.aload_n 0, 1) := by decide +kernel
theorem dX0_add_36 : decode cX0_add 36 = .ok (.getfield 28, 3) := by decide +kernel
theorem dX0_add_39 : decode cX0_add 39 = .ok (.iload_n 2, 1) := by decide +kernel
theorem dX0_add_40 : decode cX0_add 40 = .ok (.iastore, 1) := by decide +kernel
theorem dX0_add_41 : decode cX0_add 41 = .ok (.aload_n 0, 1) := by decide +kernel
theorem dX0_add_42 : decode cX0_add 42 = .ok (.getfield 21, 3) := by decide +kernel
theorem dX0_add_45 : decode cX0_add 45 = .ok (.aload_n 0, 1) := by decide +kernel
theorem dX0_add_46 : decode cX0_add 46 = .ok (.getfield 28, 3) := by decide +kernel
theorem dX0_add_49 : decode cX0_add 49 = .ok (.iload_n 3, 1) := by decide +kernel
theorem dX0_add_50 : decode cX0_add 50 = .ok (.bastore, 1) := by decide +kernel
theorem dX0_add_51 : decode cX0_add 51 = .ok (.aload_n 0, 1) := by decide +kernel
theorem dX0_add_52 : decode cX0_add 52 = .ok (.getfield 25, 3) := by decide +kernel
theorem dX0_add_55 : decode cX0_add 55 = .ok (.aload_n 0, 1) := by decide +kernel
theorem dX0_add_56 : decode cX0_add 56 = .ok (.getfield 28, 3) := by decide +kernel
theorem dX0_add_59 : decode cX0_add 59 = .ok (.iconst 0, 1) := by decide +kernel
theorem dX0_add_60 : decode cX0_add 60 = .ok (.bastore, 1) := by decide +kernel
theorem dX0_add_61 : decode cX0_add 61 = .ok (.aload_n 0, 1) := by decide +kernel
theorem dX0_add_62 : decode cX0_add 62 = .ok (.dup, 1) := by decide +kernel
theorem dX0_add_63 : decode cX0_add 63 = .ok (.getfield 28, 3) := by decide +kernel
theorem dX0_add_66 : decode cX0_add 66 = .ok (.iconst 1, 1) := by decide +kernel
theorem dX0_add_67 : decode cX0_add 67 = .ok (.iadd, 1) := by decide +kernel
theorem dX0_add_68 : decode cX0_add 68 = .ok (.putfield 28, 3) := by decide +kernel
theorem dX0_add_71 : decode cX0_add 71 = .ok (.iconst 1, 1) := by decide +kernel
theorem dX0_add_72 : decode cX0_add 72 = .ok (.ireturn, 1) := by decide +kernel
theorem dX0_copyFrom_0 : decode cX0_copyFrom 0 = .ok (.aload_n 0, 1) := by decide +kernel
theorem dX0_copyFrom_1 : decode cX0_copyFrom 1 = .ok (.aload_n 1, 1) := by decide +kernel
theorem dX0_copyFrom_2 : decode cX0_copyFrom 2 = .ok (.getfield 28, 3) := by decide +kernel
theorem dX0_copyFrom_5 : decode cX0_copyFrom 5 = .ok (.putfield 28, 3) := by decide +kernel
theorem dX0_copyFrom_8 : decode cX0_copyFrom 8 = .ok (.iconst 0, 1) := by decide +kernel
theorem dX0_copyFrom_9 : decode cX0_copyFrom 9 = .ok (.istore_n 2, 1) := by decide +kernel
theorem dX0_copyFrom_10 : decode cX0_copyFrom 10 = .ok (.iload_n 2, 1) := by decide +kernel
theorem dX0_copyFrom_11 : decode cX0_copyFrom 11 = .ok (.aload_n 0, 1) := by decide +kernel
theorem dX0_copyFrom_12 : decode cX0_copyFrom 12 = .ok (.getfield 28, 3) := by decide +kernel
theorem dX0_copyFrom_15 : decode cX0_copyFrom 15 = .ok (.if_icmp .ge 16, 3) := by decide +kernel
theorem dX0_copyFrom_18 : decode cX0_copyFrom 18 = .ok (.aload_n 0, 1) := by decide +kernel
theorem dX0_copyFrom_19 : decode cX0_copyFrom 19 = .ok (.iload_n 2, 1) := by decide +kernel
theorem dX0_copyFrom_20 : decode cX0_copyFrom 20 = .ok (.aload_n 1, 1) := by decide +kernel
theorem dX0_copyFrom_21 : decode cX0_copyFrom 21 = .ok (.iload_n 2, 1) := by decide +kernel
theorem dX0_copyFrom_22 : decode cX0_copyFrom 22 = .ok (.invokevirtual 32, 3) := by decide +kernel
theorem dX0_copyFrom_25 : decode cX0_copyFrom 25 = .ok (.iinc 2 1, 3) := by decide +kernel
theorem dX0_copyFrom_28 : decode cX0_copyFrom 28 = .ok (.goto (-18), 3) := by decide +kernel
theorem dX0_copyFrom_31 : decode cX0_copyFrom 31 = .ok (.return_, 1) := by decide +kernel
theorem dX0_put_0 : decode cX0_put 0 = .ok (.aload_n 0, 1) := by decide +kernel
theorem dX0_put_1 : decode cX0_put 1 = .ok (.getfield 9, 3) := by decide +kernel
theorem dX0_put_4 : decode cX0_put 4 = .ok (.iload_n 1, 1) := by decide +kernel
theorem dX0_put_5 : decode cX0_put 5 = .ok (.aload_n 2, 1) := by decide +kernel
theorem dX0_put_6 : decode cX0_put 6 = .ok (.getfield 9, 3) := by decide +kernel
theorem dX0_put_9 : decode cX0_put 9 = .ok (.iload_n 3, 1) := by decide +kernel
theorem dX0_put_10 : decode cX0_put 10 = .ok (.iaload, 1) := by decide +kernel
theorem dX0_put_11 : decode cX0_put 11 = .ok (.iastore, 1) := by decide +kernel
theorem dX0_put_12 : decode cX0_put 12 = .ok (.aload_n 0, 1) := by decide +kernel
theorem dX0_put_13 : decode cX0_put 13 = .ok (.getfield 15, 3) := by decide +kernel
theorem dX0_put_16 : decode cX0_put 16 = .ok (.iload_n 1, 1) := by decide +kernel
theorem dX0_put_17 : decode cX0_put 17 = .ok (.aload_n 2, 1) := by decide +kernel
theorem dX0_put_18 : decode cX0_put 18 = .ok (.getfield 15, 3) := by decide +kernel
theorem dX0_put_21 : decode cX0_put 21 = .ok (.iload_n 3, 1) := by decide +kernel
theorem dX0_put_22 : decode cX0_put 22 = .ok (.iaload, 1) := by decide +kernel
theorem dX0_put_23 : decode cX0_put 23 = .ok (.iastore, 1) := by decide +kernel
theorem dX0_put_24 : decode cX0_put 24 = .ok (.aload_n 0, 1) := by decide +kernel
theorem dX0_put_25 : decode cX0_put 25 = .ok (.getfield 18, 3) := by decide +kernel
theorem dX0_put_28 : decode cX0_put 28 = .ok (.iload_n 1, 1) := by decide +kernel
theorem dX0_put_29 : decode cX0_put 29 = .ok (.aload_n 2, 1) := by decide +kernel
theorem dX0_put_30 : decode cX0_put 30 = .ok (.getfield 18, 3) := by decide +kernel
theorem dX0_put_33 : decode cX0_put 33 = .ok (.iload_n 3, 1) := by decide +kernel
theorem dX0_put_34 : decode cX0_put 34 = .ok (.iaload, 1) := by decide +kernel
theorem dX0_put_35 : decode cX0_put 35 = .ok (.iastore, 1) := by decide +kernel
theorem dX0_put_36 : decode cX0_put 36 = .ok (.aload_n 0, 1) := by decide +kernel
theorem dX0_put_37 : decode cX0_put 37 = .ok (.getfield 21, 3) := by decide +kernel
theorem dX0_put_40 : decode cX0_put 40 = .ok (.iload_n 1, 1) := by decide +kernel
theorem dX0_put_41 : decode cX0_put 41 = .ok (.aload_n 2, 1) := by decide +kernel
theorem dX0_put_42 : decode cX0_put 42 = .ok (.getfield 21, 3) := by decide +kernel
theorem dX0_put_45 : decode cX0_put 45 = .ok (.iload_n 3, 1) := by decide +kernel
theorem dX0_put_46 : decode cX0_put 46 = .ok (.baload, 1) := by decide +kernel
theorem dX0_put_47 : decode cX0_put 47 = .ok (.bastore, 1) := by decide +kernel
theorem dX0_put_48 : decode cX0_put 48 = .ok (.aload_n 0, 1) := by decide +kernel
theorem dX0_put_49 : decode cX0_put 49 = .ok (.getfield 25, 3) := by decide +kernel
theorem dX0_put_52 : decode cX0_put 52 = .ok (.iload_n 1, 1) := by decide +kernel
theorem dX0_put_53 : decode cX0_put 53 = .ok (.aload_n 2, 1) := by decide +kernel
theorem dX0_put_54 : decode cX0_put 54 = .ok (.getfield 25, 3) := by decide +kernel
theorem dX0_put_57 : decode cX0_put 57 = .ok (.iload_n 3, 1) := by decide +kernel
theorem dX0_put_58 : decode cX0_put 58 = .ok (.baload, 1) := by decide +kernel
theorem dX0_put_59 : decode cX0_put 59 = .ok (.bastore, 1) := by decide +kernel
theorem dX0_put_60 : decode cX0_put 60 = .ok (.return_, 1) := by decide +kernel
theorem dX0_countIn_0 : decode cX0_countIn 0 = .ok (.iconst 0, 1) := by decide +kernel
theorem dX0_countIn_1 : decode cX0_countIn 1 = .ok (.istore_n 3, 1) := by decide +kernel
theorem dX0_countIn_2 : decode cX0_countIn 2 = .ok (.iconst 0, 1) := by decide +kernel
theorem dX0_countIn_3 : decode cX0_countIn 3 = .ok (.istore 4, 2) := by decide +kernel
theorem dX0_countIn_5 : decode cX0_countIn 5 = .ok (.iload 4, 2) := by decide +kernel
theorem dX0_countIn_7 : decode cX0_countIn 7 = .ok (.aload_n 0, 1) := by decide +kernel
theorem dX0_countIn_8 : decode cX0_countIn 8 = .ok (.getfield 28, 3) := by decide +kernel
theorem dX0_countIn_11 : decode cX0_countIn 11 = .ok (.if_icmp .ge 34, 3) := by decide +kernel
theorem dX0_countIn_14 : decode cX0_countIn 14 = .ok (.aload_n 0, 1) := by decide +kernel
theorem dX0_countIn_15 : decode cX0_countIn 15 = .ok (.getfield 9, 3) := by decide +kernel
theorem dX0_countIn_18 : decode cX0_countIn 18 = .ok (.iload 4, 2) := by decide +kernel
theorem dX0_countIn_20 : decode cX0_countIn 20 = .ok (.iaload, 1) := by decide +kernel
theorem dX0_countIn_21 : decode cX0_countIn 21 = .ok (.iload_n 1, 1) := by decide +kernel
theorem dX0_countIn_22 : decode cX0_countIn 22 = .ok (.if_icmp .ne 17, 3) := by decide +kernel
theorem dX0_countIn_25 : decode cX0_countIn 25 = .ok (.aload_n 0, 1) := by decide +kernel
theorem dX0_countIn_26 : decode cX0_countIn 26 = .ok (.getfield 15, 3) := by decide +kernel
theorem dX0_countIn_29 : decode cX0_countIn 29 = .ok (.iload 4, 2) := by decide +kernel
theorem dX0_countIn_31 : decode cX0_countIn 31 = .ok (.iaload, 1) := by decide +kernel
theorem dX0_countIn_32 : decode cX0_countIn 32 = .ok (.iload_n 2, 1) := by decide +kernel
theorem dX0_countIn_33 : decode cX0_countIn 33 = .ok (.if_icmp .ne 6, 3) := by decide +kernel
theorem dX0_countIn_36 : decode cX0_countIn 36 = .ok (.iinc 3 1, 3) := by decide +kernel
theorem dX0_countIn_39 : decode cX0_countIn 39 = .ok (.iinc 4 1, 3) := by decide +kernel
theorem dX0_countIn_42 : decode cX0_countIn 42 = .ok (.goto (-37), 3) := by decide +kernel
theorem dX0_countIn_45 : decode cX0_countIn 45 = .ok (.iload_n 3, 1) := by decide +kernel
theorem dX0_countIn_46 : decode cX0_countIn 46 = .ok (.ireturn, 1) := by decide +kernel
theorem dX0_fall_0 : decode cX0_fall 0 = .ok (.iconst 0, 1) := by decide +kernel
theorem dX0_fall_1 : decode cX0_fall 1 = .ok (.istore_n 2, 1) := by decide +kernel
theorem dX0_fall_2 : decode cX0_fall 2 = .ok (.iconst 0, 1) := by decide +kernel
theorem dX0_fall_3 : decode cX0_fall 3 = .ok (.istore_n 3, 1) := by decide +kernel
theorem dX0_fall_4 : decode cX0_fall 4 = .ok (.iload_n 3, 1) := by decide +kernel
theorem dX0_fall_5 : decode cX0_fall 5 = .ok (.aload_n 0, 1) := by decide +kernel
theorem dX0_fall_6 : decode cX0_fall 6 = .ok (.getfield 28, 3) := by decide +kernel
theorem dX0_fall_9 : decode cX0_fall 9 = .ok (.if_icmp .ge 125, 3) := by decide +kernel
theorem dX0_fall_12 : decode cX0_fall 12 = .ok (.iload_n 1, 1) := by decide +kernel
theorem dX0_fall_13 : decode cX0_fall 13 = .ok (.ifCond .eq 35, 3) := by decide +kernel
theorem dX0_fall_16 : decode cX0_fall 16 = .ok (.aload_n 0, 1) := by decide +kernel
theorem dX0_fall_17 : decode cX0_fall 17 = .ok (.getfield 15, 3) := by decide +kernel
theorem dX0_fall_20 : decode cX0_fall 20 = .ok (.iload_n 3, 1) := by decide +kernel
theorem dX0_fall_21 : decode cX0_fall 21 = .ok (.iaload, 1) := by decide +kernel
theorem dX0_fall_22 : decode cX0_fall 22 = .ok (.aload_n 0, 1) := by decide +kernel
theorem dX0_fall_23 : decode cX0_fall 23 = .ok (.getfield 18, 3) := by decide +kernel
theorem dX0_fall_26 : decode cX0_fall 26 = .ok (.iload_n 3, 1) := by decide +kernel
theorem dX0_fall_27 : decode cX0_fall 27 = .ok (.iaload, 1) := by decide +kernel
theorem dX0_fall_28 : decode cX0_fall 28 = .ok (.iadd, 1) := by decide +kernel
theorem dX0_fall_29 : decode cX0_fall 29 = .ok (.invokestatic 36, 3) := by decide +kernel
theorem dX0_fall_32 : decode cX0_fall 32 = .ok (.ifCond .ne 16, 3) := by decide +kernel
theorem dX0_fall_35 : decode cX0_fall 35 = .ok (.aload_n 0, 1) := by decide +kernel
theorem dX0_fall_36 : decode cX0_fall 36 = .ok (.getfield 18, 3) := by decide +kernel
theorem dX0_fall_39 : decode cX0_fall 39 = .ok (.iload_n 3, 1) := by decide +kernel
theorem dX0_fall_40 : decode cX0_fall 40 = .ok (.aload_n 0, 1) := by decide +kernel
theorem dX0_fall_41 : decode cX0_fall 41 = .ok (.getfield 18, 3) := by decide +kernel
theorem dX0_fall_44 : decode cX0_fall 44 = .ok (.iload_n 3, 1) := by decide +kernel
theorem dX0_fall_45 : decode cX0_fall 45 = .ok (.iaload, 1) := by decide +kernel
theorem dX0_fall_46 : decode cX0_fall 46 = .ok (.ineg, 1) := by decide +kernel
theorem dX0_fall_47 : decode cX0_fall 47 = .ok (.iastore, 1) := by decide +kernel
theorem dX0_fall_48 : decode cX0_fall 48 = .ok (.aload_n 0, 1) := by decide +kernel
theorem dX0_fall_49 : decode cX0_fall 49 = .ok (.getfield 9, 3) := by decide +kernel
theorem dX0_fall_52 : decode cX0_fall 52 = .ok (.iload_n 3, 1) := by decide +kernel
theorem dX0_fall_53 : decode cX0_fall 53 = .ok (.dup2, 1) := by decide +kernel
theorem dX0_fall_54 : decode cX0_fall 54 = .ok (.iaload, 1) := by decide +kernel
theorem dX0_fall_55 : decode cX0_fall 55 = .ok (.iconst 1, 1) := by decide +kernel
theorem dX0_fall_56 : decode cX0_fall 56 = .ok (.iadd, 1) := by decide +kernel
theorem dX0_fall_57 : decode cX0_fall 57 = .ok (.iastore, 1) := by decide +kernel
theorem dX0_fall_58 : decode cX0_fall 58 = .ok (.aload_n 0, 1) := by decide +kernel
theorem dX0_fall_59 : decode cX0_fall 59 = .ok (.getfield 15, 3) := by decide +kernel
theorem dX0_fall_62 : decode cX0_fall 62 = .ok (.iload_n 3, 1) := by decide +kernel
theorem dX0_fall_63 : decode cX0_fall 63 = .ok (.dup2, 1) := by decide +kernel
theorem dX0_fall_64 : decode cX0_fall 64 = .ok (.iaload, 1) := by decide +kernel
theorem dX0_fall_65 : decode cX0_fall 65 = .ok (.aload_n 0, 1) := by decide +kernel
theorem dX0_fall_66 : decode cX0_fall 66 = .ok (.getfield 18, 3) := by decide +kernel
theorem dX0_fall_69 : decode cX0_fall 69 = .ok (.iload_n 3, 1) := by decide +kernel
theorem dX0_fall_70 : decode cX0_fall 70 = .ok (.iaload, 1) := by decide +kernel
theorem dX0_fall_71 : decode cX0_fall 71 = .ok (.iadd, 1) := by decide +kernel
theorem dX0_fall_72 : decode cX0_fall 72 = .ok (.iastore, 1) := by decide +kernel
theorem dX0_fall_73 : decode cX0_fall 73 = .ok (.aload_n 0, 1) := by decide +kernel
theorem dX0_fall_74 : decode cX0_fall 74 = .ok (.getfield 21, 3) := by decide +kernel
theorem dX0_fall_77 : decode cX0_fall 77 = .ok (.iload_n 3, 1) := by decide +kernel
theorem dX0_fall_78 : decode cX0_fall 78 = .ok (.baload, 1) := by decide +kernel
theorem dX0_fall_79 : decode cX0_fall 79 = .ok (.ifCond .eq 16, 3) := by decide +kernel
theorem dX0_fall_82 : decode cX0_fall 82 = .ok (.aload_n 0, 1) := by decide +kernel
theorem dX0_fall_83 : decode cX0_fall 83 = .ok (.getfield 18, 3) := by decide +kernel
theorem dX0_fall_86 : decode cX0_fall 86 = .ok (.iload_n 3, 1) := by decide +kernel
theorem dX0_fall_87 : decode cX0_fall 87 = .ok (.aload_n 0, 1) := by decide +kernel
theorem dX0_fall_88 : decode cX0_fall 88 = .ok (.getfield 18, 3) := by decide +kernel
theorem dX0_fall_91 : decode cX0_fall 91 = .ok (.iload_n 3, 1) := by decide +kernel
theorem dX0_fall_92 : decode cX0_fall 92 = .ok (.iaload, 1) := by decide +kernel
theorem dX0_fall_93 : decode cX0_fall 93 = .ok (.ineg, 1) := by decide +kernel
theorem dX0_fall_94 : decode cX0_fall 94 = .ok (.iastore, 1) := by decide +kernel
theorem dX0_fall_95 : decode cX0_fall 95 = .ok (.aload_n 0, 1) := by decide +kernel
theorem dX0_fall_96 : decode cX0_fall 96 = .ok (.getfield 9, 3) := by decide +kernel
theorem dX0_fall_99 : decode cX0_fall 99 = .ok (.iload_n 3, 1) := by decide +kernel
theorem dX0_fall_100 : decode cX0_fall 100 = .ok (.iaload, 1) := by decide +kernel
theorem dX0_fall_101 : decode cX0_fall 101 = .ok (.bipush 11, 2) := by decide +kernel
theorem dX0_fall_103 : decode cX0_fall 103 = .ok (.if_icmp .gt 25, 3) := by decide +kernel
theorem dX0_fall_106 : decode cX0_fall 106 = .ok (.aload_n 0, 1) := by decide +kernel
theorem dX0_fall_107 : decode cX0_fall 107 = .ok (.getfield 15, 3) := by decide +kernel
theorem dX0_fall_110 : decode cX0_fall 110 = .ok (.iload_n 3, 1) := by decide +kernel
theorem dX0_fall_111 : decode cX0_fall 111 = .ok (.iaload, 1) := by decide +kernel
theorem dX0_fall_112 : decode cX0_fall 112 = .ok (.invokestatic 36, 3) := by decide +kernel
theorem dX0_fall_115 : decode cX0_fall 115 = .ok (.ifCond .eq 13, 3) := by decide +kernel
theorem dX0_fall_118 : decode cX0_fall 118 = .ok (.aload_n 0, 1) := by decide +kernel
theorem dX0_fall_119 : decode cX0_fall 119 = .ok (.iload_n 2, 1) := by decide +kernel
theorem dX0_fall_120 : decode cX0_fall 120 = .ok (.aload_n 0, 1) := by decide +kernel
theorem dX0_fall_121 : decode cX0_fall 121 = .ok (.iload_n 3, 1) := by decide +kernel
theorem dX0_fall_122 : decode cX0_fall 122 = .ok (.invokevirtual 32, 3) := by decide +kernel
theorem dX0_fall_125 : decode cX0_fall 125 = .ok (.iinc 2 1, 3) := by decide +kernel
theorem dX0_fall_128 : decode cX0_fall 128 = .ok (.iinc 3 1, 3) := by decide +kernel
theorem dX0_fall_131 : decode cX0_fall 131 = .ok (.goto (-127), 3) := by decide +kernel
theorem dX0_fall_134 : decode cX0_fall 134 = .ok (.aload_n 0, 1) := by decide +kernel
theorem dX0_fall_135 : decode cX0_fall 135 = .ok (.iload_n 2, 1) := by decide +kernel
theorem dX0_fall_136 : decode cX0_fall 136 = .ok (.invokevirtual 40, 3) := by decide +kernel
theorem dX0_fall_139 : decode cX0_fall 139 = .ok (.ireturn, 1) := by decide +kernel
theorem dX0_takeAround_0 : decode cX0_takeAround 0 = .ok (.iconst 0, 1) := by decide +kernel
theorem dX0_takeAround_1 : decode cX0_takeAround 1 = .ok (.istore_n 3, 1) := by decide +kernel
theorem dX0_takeAround_2 : decode cX0_takeAround 2 = .ok (.iconst 0, 1) := by decide +kernel
theorem dX0_takeAround_3 : decode cX0_takeAround 3 = .ok (.istore 4, 2) := by decide +kernel
theorem dX0_takeAround_5 : decode cX0_takeAround 5 = .ok (.iload 4, 2) := by decide +kernel
theorem dX0_takeAround_7 : decode cX0_takeAround 7 = .ok (.aload_n 0, 1) := by decide +kernel
theorem dX0_takeAround_8 : decode cX0_takeAround 8 = .ok (.getfield 28, 3) := by decide +kernel
theorem dX0_takeAround_11 : decode cX0_takeAround 11 = .ok (.if_icmp .ge 62, 3) := by decide +kernel
theorem dX0_takeAround_14 : decode cX0_takeAround 14 = .ok (.aload_n 0, 1) := by decide +kernel
theorem dX0_takeAround_15 : decode cX0_takeAround 15 = .ok (.getfield 9, 3) := by decide +kernel
theorem dX0_takeAround_18 : decode cX0_takeAround 18 = .ok (.iload 4, 2) := by decide +kernel
theorem dX0_takeAround_20 : decode cX0_takeAround 20 = .ok (.iaload, 1) := by decide +kernel
theorem dX0_takeAround_21 : decode cX0_takeAround 21 = .ok (.bipush 11, 2) := by decide +kernel
theorem dX0_takeAround_23 : decode cX0_takeAround 23 = .ok (.iload_n 2, 1) := by decide +kernel
theorem dX0_takeAround_24 : decode cX0_takeAround 24 = .ok (.isub, 1) := by decide +kernel
theorem dX0_takeAround_25 : decode cX0_takeAround 25 = .ok (.if_icmp .lt 7, 3) := by decide +kernel
theorem dX0_takeAround_28 : decode cX0_takeAround 28 = .ok (.iconst 1, 1) := by decide +kernel
theorem dX0_takeAround_29 : decode cX0_takeAround 29 = .ok (.goto 4, 3) := by decide +kernel
theorem dX0_takeAround_32 : decode cX0_takeAround 32 = .ok (.iconst 0, 1) := by decide +kernel
theorem dX0_takeAround_33 : decode cX0_takeAround 33 = .ok (.istore 5, 2) := by decide +kernel
theorem dX0_takeAround_35 : decode cX0_takeAround 35 = .ok (.iload 5, 2) := by decide +kernel
theorem dX0_takeAround_37 : decode cX0_takeAround 37 = .ok (.ifCond .eq 19, 3) := by decide +kernel
theorem dX0_takeAround_40 : decode cX0_takeAround 40 = .ok (.aload_n 0, 1) := by decide +kernel
theorem dX0_takeAround_41 : decode cX0_takeAround 41 = .ok (.getfield 15, 3) := by decide +kernel
theorem dX0_takeAround_44 : decode cX0_takeAround 44 = .ok (.iload 4, 2) := by decide +kernel
theorem dX0_takeAround_46 : decode cX0_takeAround 46 = .ok (.iaload, 1) := by decide +kernel
theorem dX0_takeAround_47 : decode cX0_takeAround 47 = .ok (.iload_n 1, 1) := by decide +kernel
theorem dX0_takeAround_48 : decode cX0_takeAround 48 = .ok (.isub, 1) := by decide +kernel
theorem dX0_takeAround_49 : decode cX0_takeAround 49 = .ok (.invokestatic 44, 3) := by decide +kernel
theorem dX0_takeAround_52 : decode cX0_takeAround 52 = .ok (.iload_n 2, 1) := by decide +kernel
theorem dX0_takeAround_53 : decode cX0_takeAround 53 = .ok (.if_icmp .le 14, 3) := by decide +kernel
theorem dX0_takeAround_56 : decode cX0_takeAround 56 = .ok (.aload_n 0, 1) := by decide +kernel
theorem dX0_takeAround_57 : decode cX0_takeAround 57 = .ok (.iload_n 3, 1) := by decide +kernel
theorem dX0_takeAround_58 : decode cX0_takeAround 58 = .ok (.aload_n 0, 1) := by decide +kernel
theorem dX0_takeAround_59 : decode cX0_takeAround 59 = .ok (.iload 4, 2) := by decide +kernel
theorem dX0_takeAround_61 : decode cX0_takeAround 61 = .ok (.invokevirtual 32, 3) := by decide +kernel
theorem dX0_takeAround_64 : decode cX0_takeAround 64 = .ok (.iinc 3 1, 3) := by decide +kernel
theorem dX0_takeAround_67 : decode cX0_takeAround 67 = .ok (.iinc 4 1, 3) := by decide +kernel
theorem dX0_takeAround_70 : decode cX0_takeAround 70 = .ok (.goto (-65), 3) := by decide +kernel
theorem dX0_takeAround_73 : decode cX0_takeAround 73 = .ok (.aload_n 0, 1) := by decide +kernel
theorem dX0_takeAround_74 : decode cX0_takeAround 74 = .ok (.iload_n 3, 1) := by decide +kernel
theorem dX0_takeAround_75 : decode cX0_takeAround 75 = .ok (.invokevirtual 40, 3) := by decide +kernel
theorem dX0_takeAround_78 : decode cX0_takeAround 78 = .ok (.ireturn, 1) := by decide +kernel
theorem dX0_grazeBeside_0 : decode cX0_grazeBeside 0 = .ok (.iconst 0, 1) := by decide +kernel
theorem dX0_grazeBeside_1 : decode cX0_grazeBeside 1 = .ok (.istore_n 2, 1) := by decide +kernel
theorem dX0_grazeBeside_2 : decode cX0_grazeBeside 2 = .ok (.iconst 0, 1) := by decide +kernel
theorem dX0_grazeBeside_3 : decode cX0_grazeBeside 3 = .ok (.istore_n 3, 1) := by decide +kernel
theorem dX0_grazeBeside_4 : decode cX0_grazeBeside 4 = .ok (.iload_n 3, 1) := by decide +kernel
theorem dX0_grazeBeside_5 : decode cX0_grazeBeside 5 = .ok (.aload_n 0, 1) := by decide +kernel
theorem dX0_grazeBeside_6 : decode cX0_grazeBeside 6 = .ok (.getfield 28, 3) := by decide +kernel
theorem dX0_grazeBeside_9 : decode cX0_grazeBeside 9 = .ok (.if_icmp .ge 37, 3) := by decide +kernel
theorem dX0_grazeBeside_12 : decode cX0_grazeBeside 12 = .ok (.aload_n 0, 1) := by decide +kernel
theorem dX0_grazeBeside_13 : decode cX0_grazeBeside 13 = .ok (.getfield 25, 3) := by decide +kernel
theorem dX0_grazeBeside_16 : decode cX0_grazeBeside 16 = .ok (.iload_n 3, 1) := by decide +kernel
theorem dX0_grazeBeside_17 : decode cX0_grazeBeside 17 = .ok (.baload, 1) := by decide +kernel
theorem dX0_grazeBeside_18 : decode cX0_grazeBeside 18 = .ok (.ifCond .ne 22, 3) := by decide +kernel
theorem dX0_grazeBeside_21 : decode cX0_grazeBeside 21 = .ok (.aload_n 0, 1) := by decide +kernel
theorem dX0_grazeBeside_22 : decode cX0_grazeBeside 22 = .ok (.iload_n 3, 1) := by decide +kernel
theorem dX0_grazeBeside_23 : decode cX0_grazeBeside 23 = .ok (.iload_n 1, 1) := by decide +kernel
theorem dX0_grazeBeside_24 : decode cX0_grazeBeside 24 = .ok (.invokevirtual 49, 3) := by decide +kernel
theorem dX0_grazeBeside_27 : decode cX0_grazeBeside 27 = .ok (.ifCond .eq 13, 3) := by decide +kernel
theorem dX0_grazeBeside_30 : decode cX0_grazeBeside 30 = .ok (.aload_n 0, 1) := by decide +kernel
theorem dX0_grazeBeside_31 : decode cX0_grazeBeside 31 = .ok (.getfield 25, 3) := by decide +kernel
theorem dX0_grazeBeside_34 : decode cX0_grazeBeside 34 = .ok (.iload_n 3, 1) := by decide +kernel
theorem dX0_grazeBeside_35 : decode cX0_grazeBeside 35 = .ok (.iconst 1, 1) := by decide +kernel
theorem dX0_grazeBeside_36 : decode cX0_grazeBeside 36 = .ok (.bastore, 1) := by decide +kernel
theorem dX0_grazeBeside_37 : decode cX0_grazeBeside 37 = .ok (.iinc 2 1, 3) := by decide +kernel
theorem dX0_grazeBeside_40 : decode cX0_grazeBeside 40 = .ok (.iinc 3 1, 3) := by decide +kernel
theorem dX0_grazeBeside_43 : decode cX0_grazeBeside 43 = .ok (.goto (-39), 3) := by decide +kernel
theorem dX0_grazeBeside_46 : decode cX0_grazeBeside 46 = .ok (.iload_n 2, 1) := by decide +kernel
theorem dX0_grazeBeside_47 : decode cX0_grazeBeside 47 = .ok (.ireturn, 1) := by decide +kernel
theorem dX0_isBeside_0 : decode cX0_isBeside 0 = .ok (.aload_n 0, 1) := by decide +kernel
theorem dX0_isBeside_1 : decode cX0_isBeside 1 = .ok (.getfield 15, 3) := by decide +kernel
theorem dX0_isBeside_4 : decode cX0_isBeside 4 = .ok (.iload_n 1, 1) := by decide +kernel
theorem dX0_isBeside_5 : decode cX0_isBeside 5 = .ok (.iaload, 1) := by decide +kernel
theorem dX0_isBeside_6 : decode cX0_isBeside 6 = .ok (.iload_n 2, 1) := by decide +kernel
theorem dX0_isBeside_7 : decode cX0_isBeside 7 = .ok (.isub, 1) := by decide +kernel
theorem dX0_isBeside_8 : decode cX0_isBeside 8 = .ok (.invokestatic 44, 3) := by decide +kernel
theorem dX0_isBeside_11 : decode cX0_isBeside 11 = .ok (.istore_n 3, 1) := by decide +kernel
theorem dX0_isBeside_12 : decode cX0_isBeside 12 = .ok (.aload_n 0, 1) := by decide +kernel
theorem dX0_isBeside_13 : decode cX0_isBeside 13 = .ok (.getfield 9, 3) := by decide +kernel
theorem dX0_isBeside_16 : decode cX0_isBeside 16 = .ok (.iload_n 1, 1) := by decide +kernel
theorem dX0_isBeside_17 : decode cX0_isBeside 17 = .ok (.iaload, 1) := by decide +kernel
theorem dX0_isBeside_18 : decode cX0_isBeside 18 = .ok (.bipush 11, 2) := by decide +kernel
theorem dX0_isBeside_20 : decode cX0_isBeside 20 = .ok (.if_icmp .ne 14, 3) := by decide +kernel
theorem dX0_isBeside_23 : decode cX0_isBeside 23 = .ok (.iload_n 3, 1) := by decide +kernel
theorem dX0_isBeside_24 : decode cX0_isBeside 24 = .ok (.iconst 1, 1) := by decide +kernel
theorem dX0_isBeside_25 : decode cX0_isBeside 25 = .ok (.if_icmp .ne 7, 3) := by decide +kernel
theorem dX0_isBeside_28 : decode cX0_isBeside 28 = .ok (.iconst 1, 1) := by decide +kernel
theorem dX0_isBeside_29 : decode cX0_isBeside 29 = .ok (.goto 4, 3) := by decide +kernel
theorem dX0_isBeside_32 : decode cX0_isBeside 32 = .ok (.iconst 0, 1) := by decide +kernel
theorem dX0_isBeside_33 : decode cX0_isBeside 33 = .ok (.ireturn, 1) := by decide +kernel
theorem dX0_isBeside_34 : decode cX0_isBeside 34 = .ok (.aload_n 0, 1) := by decide +kernel
theorem dX0_isBeside_35 : decode cX0_isBeside 35 = .ok (.getfield 9, 3) := by decide +kernel
theorem dX0_isBeside_38 : decode cX0_isBeside 38 = .ok (.iload_n 1, 1) := by decide +kernel
theorem dX0_isBeside_39 : decode cX0_isBeside 39 = .ok (.iaload, 1) := by decide +kernel
theorem dX0_isBeside_40 : decode cX0_isBeside 40 = .ok (.bipush 10, 2) := by decide +kernel
theorem dX0_isBeside_42 : decode cX0_isBeside 42 = .ok (.if_icmp .ne 12, 3) := by decide +kernel
theorem dX0_isBeside_45 : decode cX0_isBeside 45 = .ok (.iload_n 3, 1) := by decide +kernel
theorem dX0_isBeside_46 : decode cX0_isBeside 46 = .ok (.iconst 1, 1) := by decide +kernel
theorem dX0_isBeside_47 : decode cX0_isBeside 47 = .ok (.if_icmp .gt 7, 3) := by decide +kernel
theorem dX0_isBeside_50 : decode cX0_isBeside 50 = .ok (.iconst 1, 1) := by decide +kernel
theorem dX0_isBeside_51 : decode cX0_isBeside 51 = .ok (.goto 4, 3) := by decide +kernel
theorem dX0_isBeside_54 : decode cX0_isBeside 54 = .ok (.iconst 0, 1) := by decide +kernel
theorem dX0_isBeside_55 : decode cX0_isBeside 55 = .ok (.ireturn, 1) := by decide +kernel
theorem dX0_freeColumns_0 : decode cX0_freeColumns 0 = .ok (.sipush 1023, 3) := by decide +kernel
theorem dX0_freeColumns_3 : decode cX0_freeColumns 3 = .ok (.istore_n 1, 1) := by decide +kernel
theorem dX0_freeColumns_4 : decode cX0_freeColumns 4 = .ok (.iconst 0, 1) := by decide +kernel
theorem dX0_freeColumns_5 : decode cX0_freeColumns 5 = .ok (.istore_n 2, 1) := by decide +kernel
theorem dX0_freeColumns_6 : decode cX0_freeColumns 6 = .ok (.iload_n 2, 1) := by decide +kernel
theorem dX0_freeColumns_7 : decode cX0_freeColumns 7 = .ok (.aload_n 0, 1) := by decide +kernel
theorem dX0_freeColumns_8 : decode cX0_freeColumns 8 = .ok (.getfield 28, 3) := by decide +kernel
theorem dX0_freeColumns_11 : decode cX0_freeColumns 11 = .ok (.if_icmp .ge 33, 3) := by decide +kernel
theorem dX0_freeColumns_14 : decode cX0_freeColumns 14 = .ok (.aload_n 0, 1) := by decide +kernel
theorem dX0_freeColumns_15 : decode cX0_freeColumns 15 = .ok (.getfield 9, 3) := by decide +kernel
theorem dX0_freeColumns_18 : decode cX0_freeColumns 18 = .ok (.iload_n 2, 1) := by decide +kernel
theorem dX0_freeColumns_19 : decode cX0_freeColumns 19 = .ok (.iaload, 1) := by decide +kernel
theorem dX0_freeColumns_20 : decode cX0_freeColumns 20 = .ok (.bipush 11, 2) := by decide +kernel
theorem dX0_freeColumns_22 : decode cX0_freeColumns 22 = .ok (.if_icmp .ne 16, 3) := by decide +kernel
theorem dX0_freeColumns_25 : decode cX0_freeColumns 25 = .ok (.iload_n 1, 1) := by decide +kernel
theorem dX0_freeColumns_26 : decode cX0_freeColumns 26 = .ok (.iconst 1, 1) := by decide +kernel
theorem dX0_freeColumns_27 : decode cX0_freeColumns 27 = .ok (.aload_n 0, 1) := by decide +kernel
theorem dX0_freeColumns_28 : decode cX0_freeColumns 28 = .ok (.getfield 15, 3) := by decide +kernel
theorem dX0_freeColumns_31 : decode cX0_freeColumns 31 = .ok (.iload_n 2, 1) := by decide +kernel
theorem dX0_freeColumns_32 : decode cX0_freeColumns 32 = .ok (.iaload, 1) := by decide +kernel
theorem dX0_freeColumns_33 : decode cX0_freeColumns 33 = .ok (.ishl, 1) := by decide +kernel
theorem dX0_freeColumns_34 : decode cX0_freeColumns 34 = .ok (.iconst (-1), 1) := by decide +kernel
theorem dX0_freeColumns_35 : decode cX0_freeColumns 35 = .ok (.ixor, 1) := by decide +kernel
theorem dX0_freeColumns_36 : decode cX0_freeColumns 36 = .ok (.iand, 1) := by decide +kernel
theorem dX0_freeColumns_37 : decode cX0_freeColumns 37 = .ok (.istore_n 1, 1) := by decide +kernel
theorem dX0_freeColumns_38 : decode cX0_freeColumns 38 = .ok (.iinc 2 1, 3) := by decide +kernel
theorem dX0_freeColumns_41 : decode cX0_freeColumns 41 = .ok (.goto (-35), 3) := by decide +kernel
theorem dX0_freeColumns_44 : decode cX0_freeColumns 44 = .ok (.iload_n 1, 1) := by decide +kernel
theorem dX0_freeColumns_45 : decode cX0_freeColumns 45 = .ok (.ireturn, 1) := by decide +kernel
theorem dX0_keepOnly_0 : decode cX0_keepOnly 0 = .ok (.aload_n 0, 1) := by decide +kernel
theorem dX0_keepOnly_1 : decode cX0_keepOnly 1 = .ok (.getfield 28, 3) := by decide +kernel
theorem dX0_keepOnly_4 : decode cX0_keepOnly 4 = .ok (.iload_n 1, 1) := by decide +kernel
theorem dX0_keepOnly_5 : decode cX0_keepOnly 5 = .ok (.isub, 1) := by decide +kernel
theorem dX0_keepOnly_6 : decode cX0_keepOnly 6 = .ok (.istore_n 2, 1) := by decide +kernel
theorem dX0_keepOnly_7 : decode cX0_keepOnly 7 = .ok (.aload_n 0, 1) := by decide +kernel
theorem dX0_keepOnly_8 : decode cX0_keepOnly 8 = .ok (.iload_n 1, 1) := by decide +kernel
theorem dX0_keepOnly_9 : decode cX0_keepOnly 9 = .ok (.putfield 28, 3) := by decide +kernel
theorem dX0_keepOnly_12 : decode cX0_keepOnly 12 = .ok (.iload_n 2, 1) := by decide +kernel
theorem dX0_keepOnly_13 : decode cX0_keepOnly 13 = .ok (.ireturn, 1) := by decide +kernel
theorem dX1_init_0 : decode cX1_init 0 = .ok (.aload_n 0, 1) := by decide +kernel
theorem dX1_init_1 : decode cX1_init 1 = .ok (.invokespecial 3, 3) := by decide +kernel
theorem dX1_init_4 : decode cX1_init 4 = .ok (.aload_n 0, 1) := by decide +kernel
theorem dX1_init_5 : decode cX1_init 5 = .ok (.new 9, 3) := by decide +kernel
theorem dX1_init_8 : decode cX1_init 8 = .ok (.dup, 1) := by decide +kernel
theorem dX1_init_9 : decode cX1_init 9 = .ok (.invokespecial 11, 3) := by decide +kernel
theorem dX1_init_12 : decode cX1_init 12 = .ok (.putfield 12, 3) := by decide +kernel
theorem dX1_init_15 : decode cX1_init 15 = .ok (.aload_n 0, 1) := by decide +kernel
theorem dX1_init_16 : decode cX1_init 16 = .ok (.iconst 0, 1) := by decide +kernel
theorem dX1_init_17 : decode cX1_init 17 = .ok (.putfield 18, 3) := by decide +kernel
theorem dX1_init_20 : decode cX1_init 20 = .ok (.aload_n 0, 1) := by decide +kernel
theorem dX1_init_21 : decode cX1_init 21 = .ok (.iconst 0, 1) := by decide +kernel
theorem dX1_init_22 : decode cX1_init 22 = .ok (.putfield 22, 3) := by decide +kernel
theorem dX1_init_25 : decode cX1_init 25 = .ok (.aload_n 0, 1) := by decide +kernel
theorem dX1_init_26 : decode cX1_init 26 = .ok (.iconst 0, 1) := by decide +kernel
theorem dX1_init_27 : decode cX1_init 27 = .ok (.putfield 25, 3) := by decide +kernel
theorem dX1_init_30 : decode cX1_init 30 = .ok (.return_, 1) := by decide +kernel
theorem dX1_faultIn_0 : decode cX1_faultIn 0 = .ok (.aload_n 0, 1) := by decide +kernel
theorem dX1_faultIn_1 : decode cX1_faultIn 1 = .ok (.getfield 12, 3) := by decide +kernel
theorem dX1_faultIn_4 : decode cX1_faultIn 4 = .ok (.iconst 0, 1) := by decide +kernel
theorem dX1_faultIn_5 : decode cX1_faultIn 5 = .ok (.putfield 28, 3) := by decide +kernel
theorem dX1_faultIn_8 : decode cX1_faultIn 8 = .ok (.aload_n 0, 1) := by decide +kernel
theorem dX1_faultIn_9 : decode cX1_faultIn 9 = .ok (.iconst 0, 1) := by decide +kernel
theorem dX1_faultIn_10 : decode cX1_faultIn 10 = .ok (.putfield 18, 3) := by decide +kernel
theorem dX1_faultIn_13 : decode cX1_faultIn 13 = .ok (.iconst 0, 1) := by decide +kernel
theorem dX1_faultIn_14 : decode cX1_faultIn 14 = .ok (.istore_n 2, 1) := by decide +kernel
theorem dX1_faultIn_15 : decode cX1_faultIn 15 = .ok (.iload_n 2, 1) := by decide +kernel
theorem dX1_faultIn_16 : decode cX1_faultIn 16 = .ok (.aload_n 1, 1) := by decide +kernel
theorem dX1_faultIn_17 : decode cX1_faultIn 17 = .ok (.getfield 31, 3) := by decide +kernel
theorem dX1_faultIn_20 : decode cX1_faultIn 20 = .ok (.if_icmp .ge 24, 3) := by decide +kernel
theorem dX1_faultIn_23 : decode cX1_faultIn 23 = .ok (.aload_n 0, 1) := by decide +kernel
theorem dX1_faultIn_24 : decode cX1_faultIn 24 = .ok (.aload_n 1, 1) := by decide +kernel
theorem dX1_faultIn_25 : decode cX1_faultIn 25 = .ok (.getfield 36, 3) := by decide +kernel
theorem dX1_faultIn_28 : decode cX1_faultIn 28 = .ok (.iload_n 2, 1) := by decide +kernel
theorem dX1_faultIn_29 : decode cX1_faultIn 29 = .ok (.iaload, 1) := by decide +kernel
theorem dX1_faultIn_30 : decode cX1_faultIn 30 = .ok (.invokevirtual 40, 3) := by decide +kernel
theorem dX1_faultIn_33 : decode cX1_faultIn 33 = .ok (.ifCond .ne 5, 3) := by decide +kernel
theorem dX1_faultIn_36 : decode cX1_faultIn 36 = .ok (.iload_n 2, 1) := by decide +kernel
theorem dX1_faultIn_37 : decode cX1_faultIn 37 = .ok (.ireturn, 1) := by decide +kernel
theorem dX1_faultIn_38 : decode cX1_faultIn 38 = .ok (.iinc 2 1, 3) := by decide +kernel
theorem dX1_faultIn_41 : decode cX1_faultIn 41 = .ok (.goto (-26), 3) := by decide +kernel
theorem dX1_faultIn_44 : decode cX1_faultIn 44 = .ok (.aload_n 0, 1) := by decide +kernel
theorem dX1_faultIn_45 : decode cX1_faultIn 45 = .ok (.getfield 18, 3) := by decide +kernel
theorem dX1_faultIn_48 : decode cX1_faultIn 48 = .ok (.iconst 3, 1) := by decide +kernel
theorem dX1_faultIn_49 : decode cX1_faultIn 49 = .ok (.if_icmp .eq 11, 3) := by decide +kernel
theorem dX1_faultIn_52 : decode cX1_faultIn 52 = .ok (.aload_n 0, 1) := by decide +kernel
theorem dX1_faultIn_53 : decode cX1_faultIn 53 = .ok (.getfield 18, 3) := by decide +kernel
theorem dX1_faultIn_56 : decode cX1_faultIn 56 = .ok (.iconst 5, 1) := by decide +kernel
theorem dX1_faultIn_57 : decode cX1_faultIn 57 = .ok (.if_icmp .ne 8, 3) := by decide +kernel
theorem dX1_faultIn_60 : decode cX1_faultIn 60 = .ok (.bipush (-4), 2) := by decide +kernel
theorem dX1_faultIn_62 : decode cX1_faultIn 62 = .ok (.goto 7, 3) := by decide +kernel
theorem dX1_faultIn_65 : decode cX1_faultIn 65 = .ok (.aload_n 1, 1) := by decide +kernel
theorem dX1_faultIn_66 : decode cX1_faultIn 66 = .ok (.getfield 31, 3) := by decide +kernel
theorem dX1_faultIn_69 : decode cX1_faultIn 69 = .ok (.ireturn, 1) := by decide +kernel
theorem dX1_takes_0 : decode cX1_takes 0 = .ok (.aload_n 0, 1) := by decide +kernel
theorem dX1_takes_1 : decode cX1_takes 1 = .ok (.getfield 18, 3) := by decide +kernel
theorem dX1_takes_4 : decode cX1_takes 4 = .ok (.tableswitch 72 0 4 #[36, 45, 54, 72, 63], 36) := by decide +kernel
theorem dX1_takes_40 : decode cX1_takes 40 = .ok (.aload_n 0, 1) := by decide +kernel
theorem dX1_takes_41 : decode cX1_takes 41 = .ok (.iload_n 1, 1) := by decide +kernel
theorem dX1_takes_42 : decode cX1_takes 42 = .ok (.bipush 48, 2) := by decide +kernel
theorem dX1_takes_44 : decode cX1_takes 44 = .ok (.isub, 1) := by decide +kernel
theorem dX1_takes_45 : decode cX1_takes 45 = .ok (.invokevirtual 44, 3) := by decide +kernel
theorem dX1_takes_48 : decode cX1_takes 48 = .ok (.ireturn, 1) := by decide +kernel
theorem dX1_takes_49 : decode cX1_takes 49 = .ok (.aload_n 0, 1) := by decide +kernel
theorem dX1_takes_50 : decode cX1_takes 50 = .ok (.iload_n 1, 1) := by decide +kernel
theorem dX1_takes_51 : decode cX1_takes 51 = .ok (.invokestatic 47, 3) := by decide +kernel
theorem dX1_takes_54 : decode cX1_takes 54 = .ok (.invokevirtual 51, 3) := by decide +kernel
theorem dX1_takes_57 : decode cX1_takes 57 = .ok (.ireturn, 1) := by decide +kernel
theorem dX1_takes_58 : decode cX1_takes 58 = .ok (.aload_n 0, 1) := by decide +kernel
theorem dX1_takes_59 : decode cX1_takes 59 = .ok (.iload_n 1, 1) := by decide +kernel
theorem dX1_takes_60 : decode cX1_takes 60 = .ok (.bipush 48, 2) := by decide +kernel
theorem dX1_takes_62 : decode cX1_takes 62 = .ok (.isub, 1) := by decide +kernel
theorem dX1_takes_63 : decode cX1_takes 63 = .ok (.invokevirtual 54, 3) := by decide +kernel
theorem dX1_takes_66 : decode cX1_takes 66 = .ok (.ireturn, 1) := by decide +kernel
theorem dX1_takes_67 : decode cX1_takes 67 = .ok (.aload_n 0, 1) := by decide +kernel
theorem dX1_takes_68 : decode cX1_takes 68 = .ok (.iload_n 1, 1) := by decide +kernel
theorem dX1_takes_69 : decode cX1_takes 69 = .ok (.bipush 48, 2) := by decide +kernel
theorem dX1_takes_71 : decode cX1_takes 71 = .ok (.isub, 1) := by decide +kernel
theorem dX1_takes_72 : decode cX1_takes 72 = .ok (.invokevirtual 57, 3) := by decide +kernel
theorem dX1_takes_75 : decode cX1_takes 75 = .ok (.ireturn, 1) := by decide +kernel
theorem dX1_takes_76 : decode cX1_takes 76 = .ok (.aload_n 0, 1) := by decide +kernel
theorem dX1_takes_77 : decode cX1_takes 77 = .ok (.iload_n 1, 1) := by decide +kernel
theorem dX1_takes_78 : decode cX1_takes 78 = .ok (.invokevirtual 60, 3) := by decide +kernel
theorem dX1_takes_81 : decode cX1_takes 81 = .ok (.ireturn, 1) := by decide +kernel
theorem dX1_takesColumn_0 : decode cX1_takesColumn 0 = .ok (.aload_n 0, 1) := by decide +kernel
theorem dX1_takesColumn_1 : decode cX1_takesColumn 1 = .ok (.iload_n 1, 1) := by decide +kernel
theorem dX1_takesColumn_2 : decode cX1_takesColumn 2 = .ok (.putfield 22, 3) := by decide +kernel
theorem dX1_takesColumn_5 : decode cX1_takesColumn 5 = .ok (.aload_n 0, 1) := by decide +kernel
theorem dX1_takesColumn_6 : decode cX1_takesColumn 6 = .ok (.iconst 1, 1) := by decide +kernel
theorem dX1_takesColumn_7 : decode cX1_takesColumn 7 = .ok (.putfield 18, 3) := by decide +kernel
theorem dX1_takesColumn_10 : decode cX1_takesColumn 10 = .ok (.iload_n 1, 1) := by decide +kernel
theorem dX1_takesColumn_11 : decode cX1_takesColumn 11 = .ok (.invokestatic 63, 3) := by decide +kernel
theorem dX1_takesColumn_14 : decode cX1_takesColumn 14 = .ok (.ireturn, 1) := by decide +kernel
theorem dX1_takesPattern_0 : decode cX1_takesPattern 0 = .ok (.aload_n 0, 1) := by decide +kernel
theorem dX1_takesPattern_1 : decode cX1_takesPattern 1 = .ok (.iload_n 1, 1) := by decide +kernel
theorem dX1_takesPattern_2 : decode cX1_takesPattern 2 = .ok (.putfield 25, 3) := by decide +kernel
theorem dX1_takesPattern_5 : decode cX1_takesPattern 5 = .ok (.aload_n 0, 1) := by decide +kernel
theorem dX1_takesPattern_6 : decode cX1_takesPattern 6 = .ok (.iconst 2, 1) := by decide +kernel
theorem dX1_takesPattern_7 : decode cX1_takesPattern 7 = .ok (.putfield 18, 3) := by decide +kernel
theorem dX1_takesPattern_10 : decode cX1_takesPattern 10 = .ok (.iload_n 1, 1) := by decide +kernel
theorem dX1_takesPattern_11 : decode cX1_takesPattern 11 = .ok (.invokestatic 66, 3) := by decide +kernel
theorem dX1_takesPattern_14 : decode cX1_takesPattern 14 = .ok (.ireturn, 1) := by decide +kernel
theorem dX1_takesPeriod_0 : decode cX1_takesPeriod 0 = .ok (.iload_n 1, 1) := by decide +kernel
theorem dX1_takesPeriod_1 : decode cX1_takesPeriod 1 = .ok (.invokestatic 69, 3) := by decide +kernel
theorem dX1_takesPeriod_4 : decode cX1_takesPeriod 4 = .ok (.ifCond .ne 5, 3) := by decide +kernel
theorem dX1_takesPeriod_7 : decode cX1_takesPeriod 7 = .ok (.iconst 0, 1) := by decide +kernel
theorem dX1_takesPeriod_8 : decode cX1_takesPeriod 8 = .ok (.ireturn, 1) := by decide +kernel
theorem dX1_takesPeriod_9 : decode cX1_takesPeriod 9 = .ok (.aload_n 0, 1) := by decide +kernel
theorem dX1_takesPeriod_10 : decode cX1_takesPeriod 10 = .ok (.getfield 12, 3) := by decide +kernel
theorem dX1_takesPeriod_13 : decode cX1_takesPeriod 13 = .ok (.aload_n 0, 1) := by decide +kernel
theorem dX1_takesPeriod_14 : decode cX1_takesPeriod 14 = .ok (.getfield 22, 3) := by decide +kernel
theorem dX1_takesPeriod_17 : decode cX1_takesPeriod 17 = .ok (.aload_n 0, 1) := by decide +kernel
theorem dX1_takesPeriod_18 : decode cX1_takesPeriod 18 = .ok (.getfield 25, 3) := by decide +kernel
theorem dX1_takesPeriod_21 : decode cX1_takesPeriod 21 = .ok (.iload_n 1, 1) := by decide +kernel
theorem dX1_takesPeriod_22 : decode cX1_takesPeriod 22 = .ok (.iconst 0, 1) := by decide +kernel
theorem dX1_takesPeriod_23 : decode cX1_takesPeriod 23 = .ok (.invokevirtual 72, 3) := by decide +kernel
theorem dX1_takesPeriod_26 : decode cX1_takesPeriod 26 = .ok (.aload_n 0, 1) := by decide +kernel
theorem dX1_takesPeriod_27 : decode cX1_takesPeriod 27 = .ok (.iconst 3, 1) := by decide +kernel
theorem dX1_takesPeriod_28 : decode cX1_takesPeriod 28 = .ok (.putfield 18, 3) := by decide +kernel
theorem dX1_takesPeriod_31 : decode cX1_takesPeriod 31 = .ok (.iconst 1, 1) := by decide +kernel
theorem dX1_takesPeriod_32 : decode cX1_takesPeriod 32 = .ok (.ireturn, 1) := by decide +kernel
theorem dX1_takesPhase_0 : decode cX1_takesPhase 0 = .ok (.aload_n 0, 1) := by decide +kernel
theorem dX1_takesPhase_1 : decode cX1_takesPhase 1 = .ok (.getfield 12, 3) := by decide +kernel
theorem dX1_takesPhase_4 : decode cX1_takesPhase 4 = .ok (.getfield 28, 3) := by decide +kernel
theorem dX1_takesPhase_7 : decode cX1_takesPhase 7 = .ok (.iconst 1, 1) := by decide +kernel
theorem dX1_takesPhase_8 : decode cX1_takesPhase 8 = .ok (.isub, 1) := by decide +kernel
theorem dX1_takesPhase_9 : decode cX1_takesPhase 9 = .ok (.istore_n 2, 1) := by decide +kernel
theorem dX1_takesPhase_10 : decode cX1_takesPhase 10 = .ok (.iload_n 2, 1) := by decide +kernel
theorem dX1_takesPhase_11 : decode cX1_takesPhase 11 = .ok (.ifCond .lt 20, 3) := by decide +kernel
theorem dX1_takesPhase_14 : decode cX1_takesPhase 14 = .ok (.iload_n 1, 1) := by decide +kernel
theorem dX1_takesPhase_15 : decode cX1_takesPhase 15 = .ok (.ifCond .lt 16, 3) := by decide +kernel
theorem dX1_takesPhase_18 : decode cX1_takesPhase 18 = .ok (.iload_n 1, 1) := by decide +kernel
theorem dX1_takesPhase_19 : decode cX1_takesPhase 19 = .ok (.aload_n 0, 1) := by decide +kernel
theorem dX1_takesPhase_20 : decode cX1_takesPhase 20 = .ok (.getfield 12, 3) := by decide +kernel
theorem dX1_takesPhase_23 : decode cX1_takesPhase 23 = .ok (.getfield 76, 3) := by decide +kernel
theorem dX1_takesPhase_26 : decode cX1_takesPhase 26 = .ok (.iload_n 2, 1) := by decide +kernel
theorem dX1_takesPhase_27 : decode cX1_takesPhase 27 = .ok (.iaload, 1) := by decide +kernel
theorem dX1_takesPhase_28 : decode cX1_takesPhase 28 = .ok (.if_icmp .lt 5, 3) := by decide +kernel
theorem dX1_takesPhase_31 : decode cX1_takesPhase 31 = .ok (.iconst 0, 1) := by decide +kernel
theorem dX1_takesPhase_32 : decode cX1_takesPhase 32 = .ok (.ireturn, 1) := by decide +kernel
theorem dX1_takesPhase_33 : decode cX1_takesPhase 33 = .ok (.aload_n 0, 1) := by decide +kernel
theorem dX1_takesPhase_34 : decode cX1_takesPhase 34 = .ok (.getfield 12, 3) := by decide +kernel
theorem dX1_takesPhase_37 : decode cX1_takesPhase 37 = .ok (.getfield 79, 3) := by decide +kernel
theorem dX1_takesPhase_40 : decode cX1_takesPhase 40 = .ok (.iload_n 2, 1) := by decide +kernel
theorem dX1_takesPhase_41 : decode cX1_takesPhase 41 = .ok (.iload_n 1, 1) := by decide +kernel
theorem dX1_takesPhase_42 : decode cX1_takesPhase 42 = .ok (.iastore, 1) := by decide +kernel
theorem dX1_takesPhase_43 : decode cX1_takesPhase 43 = .ok (.aload_n 0, 1) := by decide +kernel
theorem dX1_takesPhase_44 : decode cX1_takesPhase 44 = .ok (.iconst 5, 1) := by decide +kernel
theorem dX1_takesPhase_45 : decode cX1_takesPhase 45 = .ok (.putfield 18, 3) := by decide +kernel
theorem dX1_takesPhase_48 : decode cX1_takesPhase 48 = .ok (.iconst 1, 1) := by decide +kernel
theorem dX1_takesPhase_49 : decode cX1_takesPhase 49 = .ok (.ireturn, 1) := by decide +kernel
theorem dX1_takesMark_0 : decode cX1_takesMark 0 = .ok (.iload_n 1, 1) := by decide +kernel
theorem dX1_takesMark_1 : decode cX1_takesMark 1 = .ok (.bipush 43, 2) := by decide +kernel
theorem dX1_takesMark_3 : decode cX1_takesMark 3 = .ok (.if_icmp .ne 18, 3) := by decide +kernel
theorem dX1_takesMark_6 : decode cX1_takesMark 6 = .ok (.aload_n 0, 1) := by decide +kernel
theorem dX1_takesMark_7 : decode cX1_takesMark 7 = .ok (.getfield 18, 3) := by decide +kernel
theorem dX1_takesMark_10 : decode cX1_takesMark 10 = .ok (.iconst 3, 1) := by decide +kernel
theorem dX1_takesMark_11 : decode cX1_takesMark 11 = .ok (.if_icmp .ne 10, 3) := by decide +kernel
theorem dX1_takesMark_14 : decode cX1_takesMark 14 = .ok (.aload_n 0, 1) := by decide +kernel
theorem dX1_takesMark_15 : decode cX1_takesMark 15 = .ok (.iconst 4, 1) := by decide +kernel
theorem dX1_takesMark_16 : decode cX1_takesMark 16 = .ok (.putfield 18, 3) := by decide +kernel
theorem dX1_takesMark_19 : decode cX1_takesMark 19 = .ok (.iconst 1, 1) := by decide +kernel
theorem dX1_takesMark_20 : decode cX1_takesMark 20 = .ok (.ireturn, 1) := by decide +kernel
theorem dX1_takesMark_21 : decode cX1_takesMark 21 = .ok (.iload_n 1, 1) := by decide +kernel
theorem dX1_takesMark_22 : decode cX1_takesMark 22 = .ok (.bipush 59, 2) := by decide +kernel
theorem dX1_takesMark_24 : decode cX1_takesMark 24 = .ok (.if_icmp .ne 20, 3) := by decide +kernel
theorem dX1_takesMark_27 : decode cX1_takesMark 27 = .ok (.aload_n 0, 1) := by decide +kernel
theorem dX1_takesMark_28 : decode cX1_takesMark 28 = .ok (.getfield 12, 3) := by decide +kernel
theorem dX1_takesMark_31 : decode cX1_takesMark 31 = .ok (.invokevirtual 82, 3) := by decide +kernel
theorem dX1_takesMark_34 : decode cX1_takesMark 34 = .ok (.ifCond .ne 10, 3) := by decide +kernel
theorem dX1_takesMark_37 : decode cX1_takesMark 37 = .ok (.aload_n 0, 1) := by decide +kernel
theorem dX1_takesMark_38 : decode cX1_takesMark 38 = .ok (.iconst 0, 1) := by decide +kernel
theorem dX1_takesMark_39 : decode cX1_takesMark 39 = .ok (.putfield 18, 3) := by decide +kernel
theorem dX1_takesMark_42 : decode cX1_takesMark 42 = .ok (.iconst 1, 1) := by decide +kernel
theorem dX1_takesMark_43 : decode cX1_takesMark 43 = .ok (.ireturn, 1) := by decide +kernel
theorem dX1_takesMark_44 : decode cX1_takesMark 44 = .ok (.iconst 0, 1) := by decide +kernel
theorem dX1_takesMark_45 : decode cX1_takesMark 45 = .ok (.ireturn, 1) := by decide +kernel
theorem dX1_patternOf_0 : decode cX1_patternOf 0 = .ok (.iload_n 0, 1) := by decide +kernel
theorem dX1_patternOf_1 : decode cX1_patternOf 1 = .ok (.lookupswitch 71 #[(97, 67), (100, 59), (102, 69), (108, 61), (114, 63), (119, 65)], 59) := by decide +kernel
theorem dX1_patternOf_60 : decode cX1_patternOf 60 = .ok (.iconst 0, 1) := by decide +kernel
theorem dX1_patternOf_61 : decode cX1_patternOf 61 = .ok (.ireturn, 1) := by decide +kernel
theorem dX1_patternOf_62 : decode cX1_patternOf 62 = .ok (.iconst 1, 1) := by decide +kernel
theorem dX1_patternOf_63 : decode cX1_patternOf 63 = .ok (.ireturn, 1) := by decide +kernel
theorem dX1_patternOf_64 : decode cX1_patternOf 64 = .ok (.iconst 2, 1) := by decide +kernel
theorem dX1_patternOf_65 : decode cX1_patternOf 65 = .ok (.ireturn, 1) := by decide +kernel
theorem dX1_patternOf_66 : decode cX1_patternOf 66 = .ok (.iconst 3, 1) := by decide +kernel
theorem dX1_patternOf_67 : decode cX1_patternOf 67 = .ok (.ireturn, 1) := by decide +kernel
theorem dX1_patternOf_68 : decode cX1_patternOf 68 = .ok (.iconst 4, 1) := by decide +kernel
theorem dX1_patternOf_69 : decode cX1_patternOf 69 = .ok (.ireturn, 1) := by decide +kernel
theorem dX1_patternOf_70 : decode cX1_patternOf 70 = .ok (.iconst 5, 1) := by decide +kernel
theorem dX1_patternOf_71 : decode cX1_patternOf 71 = .ok (.ireturn, 1) := by decide +kernel
theorem dX1_patternOf_72 : decode cX1_patternOf 72 = .ok (.bipush (-4), 2) := by decide +kernel
theorem dX1_patternOf_74 : decode cX1_patternOf 74 = .ok (.ireturn, 1) := by decide +kernel
theorem dX2_init_0 : decode cX2_init 0 = .ok (.aload_n 0, 1) := by decide +kernel
theorem dX2_init_1 : decode cX2_init 1 = .ok (.invokespecial 3, 3) := by decide +kernel
theorem dX2_init_4 : decode cX2_init 4 = .ok (.aload_n 0, 1) := by decide +kernel
theorem dX2_init_5 : decode cX2_init 5 = .ok (.iconst 4, 1) := by decide +kernel
theorem dX2_init_6 : decode cX2_init 6 = .ok (.newarray .int, 2) := by decide +kernel
theorem dX2_init_8 : decode cX2_init 8 = .ok (.putfield 9, 3) := by decide +kernel
theorem dX2_init_11 : decode cX2_init 11 = .ok (.aload_n 0, 1) := by decide +kernel
theorem dX2_init_12 : decode cX2_init 12 = .ok (.iconst 4, 1) := by decide +kernel
theorem dX2_init_13 : decode cX2_init 13 = .ok (.newarray .int, 2) := by decide +kernel
theorem dX2_init_15 : decode cX2_init 15 = .ok (.putfield 15, 3) := by decide +kernel
theorem dX2_init_18 : decode cX2_init 18 = .ok (.aload_n 0, 1) := by decide +kernel
theorem dX2_init_19 : decode cX2_init 19 = .ok (.iconst 4, 1) := by decide +kernel
theorem dX2_init_20 : decode cX2_init 20 = .ok (.newarray .int, 2) := by decide +kernel
theorem dX2_init_22 : decode cX2_init 22 = .ok (.putfield 18, 3) := by decide +kernel
theorem dX2_init_25 : decode cX2_init 25 = .ok (.aload_n 0, 1) := by decide +kernel
theorem dX2_init_26 : decode cX2_init 26 = .ok (.iconst 4, 1) := by decide +kernel
theorem dX2_init_27 : decode cX2_init 27 = .ok (.newarray .int, 2) := by decide +kernel
theorem dX2_init_29 : decode cX2_init 29 = .ok (.putfield 21, 3) := by decide +kernel
theorem dX2_init_32 : decode cX2_init 32 = .ok (.aload_n 0, 1) := by decide +kernel
theorem dX2_init_33 : decode cX2_init 33 = .ok (.iconst 0, 1) := by decide +kernel
theorem dX2_init_34 : decode cX2_init 34 = .ok (.putfield 24, 3) := by decide +kernel
theorem dX2_init_37 : decode cX2_init 37 = .ok (.return_, 1) := by decide +kernel
theorem dX2_has_0 : decode cX2_has 0 = .ok (.iload_n 1, 1) := by decide +kernel
theorem dX2_has_1 : decode cX2_has 1 = .ok (.ifCond .lt 15, 3) := by decide +kernel
theorem dX2_has_4 : decode cX2_has 4 = .ok (.iload_n 1, 1) := by decide +kernel
theorem dX2_has_5 : decode cX2_has 5 = .ok (.aload_n 0, 1) := by decide +kernel
theorem dX2_has_6 : decode cX2_has 6 = .ok (.getfield 24, 3) := by decide +kernel
theorem dX2_has_9 : decode cX2_has 9 = .ok (.if_icmp .ge 7, 3) := by decide +kernel
theorem dX2_has_12 : decode cX2_has 12 = .ok (.iconst 1, 1) := by decide +kernel
theorem dX2_has_13 : decode cX2_has 13 = .ok (.goto 4, 3) := by decide +kernel
theorem dX2_has_16 : decode cX2_has 16 = .ok (.iconst 0, 1) := by decide +kernel
theorem dX2_has_17 : decode cX2_has 17 = .ok (.ireturn, 1) := by decide +kernel
theorem dX2_isFull_0 : decode cX2_isFull 0 = .ok (.aload_n 0, 1) := by decide +kernel
theorem dX2_isFull_1 : decode cX2_isFull 1 = .ok (.getfield 24, 3) := by decide +kernel
theorem dX2_isFull_4 : decode cX2_isFull 4 = .ok (.iconst 4, 1) := by decide +kernel
theorem dX2_isFull_5 : decode cX2_isFull 5 = .ok (.if_icmp .lt 7, 3) := by decide +kernel
theorem dX2_isFull_8 : decode cX2_isFull 8 = .ok (.iconst 1, 1) := by decide +kernel
theorem dX2_isFull_9 : decode cX2_isFull 9 = .ok (.goto 4, 3) := by decide +kernel
theorem dX2_isFull_12 : decode cX2_isFull 12 = .ok (.iconst 0, 1) := by decide +kernel
theorem dX2_isFull_13 : decode cX2_isFull 13 = .ok (.ireturn, 1) := by decide +kernel
theorem dX2_add_0 : decode cX2_add 0 = .ok (.aload_n 0, 1) := by decide +kernel
theorem dX2_add_1 : decode cX2_add 1 = .ok (.invokevirtual 28, 3) := by decide +kernel
theorem dX2_add_4 : decode cX2_add 4 = .ok (.ifCond .eq 4, 3) := by decide +kernel
theorem dX2_add_7 : decode cX2_add 7 = .ok (.return_, 1) := by decide +kernel
theorem dX2_add_8 : decode cX2_add 8 = .ok (.aload_n 0, 1) := by decide +kernel
theorem dX2_add_9 : decode cX2_add 9 = .ok (.getfield 9, 3) := by decide +kernel
theorem dX2_add_12 : decode cX2_add 12 = .ok (.aload_n 0, 1) := by decide +kernel
theorem dX2_add_13 : decode cX2_add 13 = .ok (.getfield 24, 3) := by decide +kernel
theorem dX2_add_16 : decode cX2_add 16 = .ok (.iload_n 1, 1) := by decide +kernel
theorem dX2_add_17 : decode cX2_add 17 = .ok (.iastore, 1) := by decide +kernel
theorem dX2_add_18 : decode cX2_add 18 = .ok (.aload_n 0, 1) := by decide +kernel
theorem dX2_add_19 : decode cX2_add 19 = .ok (.getfield 15, 3) := by decide +kernel
theorem dX2_add_22 : decode cX2_add 22 = .ok (.aload_n 0, 1) := by decide +kernel
theorem dX2_add_23 : decode cX2_add 23 = .ok (.getfield 24, 3) := by decide +kernel
theorem dX2_add_26 : decode cX2_add 26 = .ok (.iload_n 2, 1) := by decide +kernel
theorem dX2_add_27 : decode cX2_add 27 = .ok (.iastore, 1) := by decide +kernel
theorem dX2_add_28 : decode cX2_add 28 = .ok (.aload_n 0, 1) := by decide +kernel
theorem dX2_add_29 : decode cX2_add 29 = .ok (.getfield 18, 3) := by decide +kernel
theorem dX2_add_32 : decode cX2_add 32 = .ok (.aload_n 0, 1) := by decide +kernel
theorem dX2_add_33 : decode cX2_add 33 = .ok (.getfield 24, 3) := by decide +kernel
theorem dX2_add_36 : decode cX2_add 36 = .ok (.iload_n 3, 1) := by decide +kernel
theorem dX2_add_37 : decode cX2_add 37 = .ok (.iastore, 1) := by decide +kernel
theorem dX2_add_38 : decode cX2_add 38 = .ok (.aload_n 0, 1) := by decide +kernel
theorem dX2_add_39 : decode cX2_add 39 = .ok (.getfield 21, 3) := by decide +kernel
theorem dX2_add_42 : decode cX2_add 42 = .ok (.aload_n 0, 1) := by decide +kernel
theorem dX2_add_43 : decode cX2_add 43 = .ok (.getfield 24, 3) := by decide +kernel
theorem dX2_add_46 : decode cX2_add 46 = .ok (.iload 4, 2) := by decide +kernel
theorem dX2_add_48 : decode cX2_add 48 = .ok (.iastore, 1) := by decide +kernel
theorem dX2_add_49 : decode cX2_add 49 = .ok (.aload_n 0, 1) := by decide +kernel
theorem dX2_add_50 : decode cX2_add 50 = .ok (.dup, 1) := by decide +kernel
theorem dX2_add_51 : decode cX2_add 51 = .ok (.getfield 24, 3) := by decide +kernel
theorem dX2_add_54 : decode cX2_add 54 = .ok (.iconst 1, 1) := by decide +kernel
theorem dX2_add_55 : decode cX2_add 55 = .ok (.iadd, 1) := by decide +kernel
theorem dX2_add_56 : decode cX2_add 56 = .ok (.putfield 24, 3) := by decide +kernel
theorem dX2_add_59 : decode cX2_add 59 = .ok (.return_, 1) := by decide +kernel
theorem dX2_remove_0 : decode cX2_remove 0 = .ok (.aload_n 0, 1) := by decide +kernel
theorem dX2_remove_1 : decode cX2_remove 1 = .ok (.iload_n 1, 1) := by decide +kernel
theorem dX2_remove_2 : decode cX2_remove 2 = .ok (.invokevirtual 32, 3) := by decide +kernel
theorem dX2_remove_5 : decode cX2_remove 5 = .ok (.ifCond .ne 4, 3) := by decide +kernel
theorem dX2_remove_8 : decode cX2_remove 8 = .ok (.return_, 1) := by decide +kernel
theorem dX2_remove_9 : decode cX2_remove 9 = .ok (.iload_n 1, 1) := by decide +kernel
theorem dX2_remove_10 : decode cX2_remove 10 = .ok (.iconst 1, 1) := by decide +kernel
theorem dX2_remove_11 : decode cX2_remove 11 = .ok (.iadd, 1) := by decide +kernel
theorem dX2_remove_12 : decode cX2_remove 12 = .ok (.istore_n 2, 1) := by decide +kernel
theorem dX2_remove_13 : decode cX2_remove 13 = .ok (.iload_n 2, 1) := by decide +kernel
theorem dX2_remove_14 : decode cX2_remove 14 = .ok (.aload_n 0, 1) := by decide +kernel
theorem dX2_remove_15 : decode cX2_remove 15 = .ok (.getfield 24, 3) := by decide +kernel
theorem dX2_remove_18 : decode cX2_remove 18 = .ok (.if_icmp .ge 18, 3) := by decide +kernel
theorem dX2_remove_21 : decode cX2_remove 21 = .ok (.aload_n 0, 1) := by decide +kernel
theorem dX2_remove_22 : decode cX2_remove 22 = .ok (.iload_n 2, 1) := by decide +kernel
theorem dX2_remove_23 : decode cX2_remove 23 = .ok (.iconst 1, 1) := by decide +kernel
theorem dX2_remove_24 : decode cX2_remove 24 = .ok (.isub, 1) := by decide +kernel
theorem dX2_remove_25 : decode cX2_remove 25 = .ok (.aload_n 0, 1) := by decide +kernel
theorem dX2_remove_26 : decode cX2_remove 26 = .ok (.iload_n 2, 1) := by decide +kernel
theorem dX2_remove_27 : decode cX2_remove 27 = .ok (.invokevirtual 36, 3) := by decide +kernel
theorem dX2_remove_30 : decode cX2_remove 30 = .ok (.iinc 2 1, 3) := by decide +kernel
theorem dX2_remove_33 : decode cX2_remove 33 = .ok (.goto (-20), 3) := by decide +kernel
theorem dX2_remove_36 : decode cX2_remove 36 = .ok (.aload_n 0, 1) := by decide +kernel
theorem dX2_remove_37 : decode cX2_remove 37 = .ok (.dup, 1) := by decide +kernel
theorem dX2_remove_38 : decode cX2_remove 38 = .ok (.getfield 24, 3) := by decide +kernel
theorem dX2_remove_41 : decode cX2_remove 41 = .ok (.iconst 1, 1) := by decide +kernel
theorem dX2_remove_42 : decode cX2_remove 42 = .ok (.isub, 1) := by decide +kernel
theorem dX2_remove_43 : decode cX2_remove 43 = .ok (.putfield 24, 3) := by decide +kernel
theorem dX2_remove_46 : decode cX2_remove 46 = .ok (.return_, 1) := by decide +kernel
theorem dX2_copyFrom_0 : decode cX2_copyFrom 0 = .ok (.aload_n 0, 1) := by decide +kernel
theorem dX2_copyFrom_1 : decode cX2_copyFrom 1 = .ok (.aload_n 1, 1) := by decide +kernel
theorem dX2_copyFrom_2 : decode cX2_copyFrom 2 = .ok (.getfield 24, 3) := by decide +kernel
theorem dX2_copyFrom_5 : decode cX2_copyFrom 5 = .ok (.putfield 24, 3) := by decide +kernel
theorem dX2_copyFrom_8 : decode cX2_copyFrom 8 = .ok (.iconst 0, 1) := by decide +kernel
theorem dX2_copyFrom_9 : decode cX2_copyFrom 9 = .ok (.istore_n 2, 1) := by decide +kernel
theorem dX2_copyFrom_10 : decode cX2_copyFrom 10 = .ok (.iload_n 2, 1) := by decide +kernel
theorem dX2_copyFrom_11 : decode cX2_copyFrom 11 = .ok (.aload_n 0, 1) := by decide +kernel
theorem dX2_copyFrom_12 : decode cX2_copyFrom 12 = .ok (.getfield 24, 3) := by decide +kernel
theorem dX2_copyFrom_15 : decode cX2_copyFrom 15 = .ok (.if_icmp .ge 16, 3) := by decide +kernel
theorem dX2_copyFrom_18 : decode cX2_copyFrom 18 = .ok (.aload_n 0, 1) := by decide +kernel
theorem dX2_copyFrom_19 : decode cX2_copyFrom 19 = .ok (.iload_n 2, 1) := by decide +kernel
theorem dX2_copyFrom_20 : decode cX2_copyFrom 20 = .ok (.aload_n 1, 1) := by decide +kernel
theorem dX2_copyFrom_21 : decode cX2_copyFrom 21 = .ok (.iload_n 2, 1) := by decide +kernel
theorem dX2_copyFrom_22 : decode cX2_copyFrom 22 = .ok (.invokevirtual 36, 3) := by decide +kernel
theorem dX2_copyFrom_25 : decode cX2_copyFrom 25 = .ok (.iinc 2 1, 3) := by decide +kernel
theorem dX2_copyFrom_28 : decode cX2_copyFrom 28 = .ok (.goto (-18), 3) := by decide +kernel
theorem dX2_copyFrom_31 : decode cX2_copyFrom 31 = .ok (.return_, 1) := by decide +kernel
theorem dX2_put_0 : decode cX2_put 0 = .ok (.aload_n 0, 1) := by decide +kernel
theorem dX2_put_1 : decode cX2_put 1 = .ok (.getfield 9, 3) := by decide +kernel
theorem dX2_put_4 : decode cX2_put 4 = .ok (.iload_n 1, 1) := by decide +kernel
theorem dX2_put_5 : decode cX2_put 5 = .ok (.aload_n 2, 1) := by decide +kernel
theorem dX2_put_6 : decode cX2_put 6 = .ok (.getfield 9, 3) := by decide +kernel
theorem dX2_put_9 : decode cX2_put 9 = .ok (.iload_n 3, 1) := by decide +kernel
theorem dX2_put_10 : decode cX2_put 10 = .ok (.iaload, 1) := by decide +kernel
theorem dX2_put_11 : decode cX2_put 11 = .ok (.iastore, 1) := by decide +kernel
theorem dX2_put_12 : decode cX2_put 12 = .ok (.aload_n 0, 1) := by decide +kernel
theorem dX2_put_13 : decode cX2_put 13 = .ok (.getfield 15, 3) := by decide +kernel
theorem dX2_put_16 : decode cX2_put 16 = .ok (.iload_n 1, 1) := by decide +kernel
theorem dX2_put_17 : decode cX2_put 17 = .ok (.aload_n 2, 1) := by decide +kernel
theorem dX2_put_18 : decode cX2_put 18 = .ok (.getfield 15, 3) := by decide +kernel
theorem dX2_put_21 : decode cX2_put 21 = .ok (.iload_n 3, 1) := by decide +kernel
theorem dX2_put_22 : decode cX2_put 22 = .ok (.iaload, 1) := by decide +kernel
theorem dX2_put_23 : decode cX2_put 23 = .ok (.iastore, 1) := by decide +kernel
theorem dX2_put_24 : decode cX2_put 24 = .ok (.aload_n 0, 1) := by decide +kernel
theorem dX2_put_25 : decode cX2_put 25 = .ok (.getfield 18, 3) := by decide +kernel
theorem dX2_put_28 : decode cX2_put 28 = .ok (.iload_n 1, 1) := by decide +kernel
theorem dX2_put_29 : decode cX2_put 29 = .ok (.aload_n 2, 1) := by decide +kernel
theorem dX2_put_30 : decode cX2_put 30 = .ok (.getfield 18, 3) := by decide +kernel
theorem dX2_put_33 : decode cX2_put 33 = .ok (.iload_n 3, 1) := by decide +kernel
theorem dX2_put_34 : decode cX2_put 34 = .ok (.iaload, 1) := by decide +kernel
theorem dX2_put_35 : decode cX2_put 35 = .ok (.iastore, 1) := by decide +kernel
theorem dX2_put_36 : decode cX2_put 36 = .ok (.aload_n 0, 1) := by decide +kernel
theorem dX2_put_37 : decode cX2_put 37 = .ok (.getfield 21, 3) := by decide +kernel
theorem dX2_put_40 : decode cX2_put 40 = .ok (.iload_n 1, 1) := by decide +kernel
theorem dX2_put_41 : decode cX2_put 41 = .ok (.aload_n 2, 1) := by decide +kernel
theorem dX2_put_42 : decode cX2_put 42 = .ok (.getfield 21, 3) := by decide +kernel
theorem dX2_put_45 : decode cX2_put 45 = .ok (.iload_n 3, 1) := by decide +kernel
theorem dX2_put_46 : decode cX2_put 46 = .ok (.iaload, 1) := by decide +kernel
theorem dX2_put_47 : decode cX2_put 47 = .ok (.iastore, 1) := by decide +kernel
theorem dX2_put_48 : decode cX2_put 48 = .ok (.return_, 1) := by decide +kernel
theorem dX2_firesAt_0 : decode cX2_firesAt 0 = .ok (.aload_n 0, 1) := by decide +kernel
theorem dX2_firesAt_1 : decode cX2_firesAt 1 = .ok (.getfield 18, 3) := by decide +kernel
theorem dX2_firesAt_4 : decode cX2_firesAt 4 = .ok (.iload_n 1, 1) := by decide +kernel
theorem dX2_firesAt_5 : decode cX2_firesAt 5 = .ok (.iaload, 1) := by decide +kernel
theorem dX2_firesAt_6 : decode cX2_firesAt 6 = .ok (.istore_n 3, 1) := by decide +kernel
theorem dX2_firesAt_7 : decode cX2_firesAt 7 = .ok (.iload_n 3, 1) := by decide +kernel
theorem dX2_firesAt_8 : decode cX2_firesAt 8 = .ok (.ifCond .le 19, 3) := by decide +kernel
theorem dX2_firesAt_11 : decode cX2_firesAt 11 = .ok (.iload_n 2, 1) := by decide +kernel
theorem dX2_firesAt_12 : decode cX2_firesAt 12 = .ok (.iload_n 3, 1) := by decide +kernel
theorem dX2_firesAt_13 : decode cX2_firesAt 13 = .ok (.irem, 1) := by decide +kernel
theorem dX2_firesAt_14 : decode cX2_firesAt 14 = .ok (.aload_n 0, 1) := by decide +kernel
theorem dX2_firesAt_15 : decode cX2_firesAt 15 = .ok (.getfield 21, 3) := by decide +kernel
theorem dX2_firesAt_18 : decode cX2_firesAt 18 = .ok (.iload_n 1, 1) := by decide +kernel
theorem dX2_firesAt_19 : decode cX2_firesAt 19 = .ok (.iaload, 1) := by decide +kernel
theorem dX2_firesAt_20 : decode cX2_firesAt 20 = .ok (.if_icmp .ne 7, 3) := by decide +kernel
theorem dX2_firesAt_23 : decode cX2_firesAt 23 = .ok (.iconst 1, 1) := by decide +kernel
theorem dX2_firesAt_24 : decode cX2_firesAt 24 = .ok (.goto 4, 3) := by decide +kernel
theorem dX2_firesAt_27 : decode cX2_firesAt 27 = .ok (.iconst 0, 1) := by decide +kernel
theorem dX2_firesAt_28 : decode cX2_firesAt 28 = .ok (.ireturn, 1) := by decide +kernel
theorem dX2_ticksToFire_0 : decode cX2_ticksToFire 0 = .ok (.iconst 1, 1) := by decide +kernel
theorem dX2_ticksToFire_1 : decode cX2_ticksToFire 1 = .ok (.istore_n 3, 1) := by decide +kernel
theorem dX2_ticksToFire_2 : decode cX2_ticksToFire 2 = .ok (.iload_n 3, 1) := by decide +kernel
theorem dX2_ticksToFire_3 : decode cX2_ticksToFire 3 = .ok (.aload_n 0, 1) := by decide +kernel
theorem dX2_ticksToFire_4 : decode cX2_ticksToFire 4 = .ok (.getfield 18, 3) := by decide +kernel
theorem dX2_ticksToFire_7 : decode cX2_ticksToFire 7 = .ok (.iload_n 1, 1) := by decide +kernel
theorem dX2_ticksToFire_8 : decode cX2_ticksToFire 8 = .ok (.iaload, 1) := by decide +kernel
theorem dX2_ticksToFire_9 : decode cX2_ticksToFire 9 = .ok (.if_icmp .ge 20, 3) := by decide +kernel
theorem dX2_ticksToFire_12 : decode cX2_ticksToFire 12 = .ok (.aload_n 0, 1) := by decide +kernel
theorem dX2_ticksToFire_13 : decode cX2_ticksToFire 13 = .ok (.iload_n 1, 1) := by decide +kernel
theorem dX2_ticksToFire_14 : decode cX2_ticksToFire 14 = .ok (.iload_n 2, 1) := by decide +kernel
theorem dX2_ticksToFire_15 : decode cX2_ticksToFire 15 = .ok (.iload_n 3, 1) := by decide +kernel
theorem dX2_ticksToFire_16 : decode cX2_ticksToFire 16 = .ok (.iadd, 1) := by decide +kernel
theorem dX2_ticksToFire_17 : decode cX2_ticksToFire 17 = .ok (.invokevirtual 40, 3) := by decide +kernel
theorem dX2_ticksToFire_20 : decode cX2_ticksToFire 20 = .ok (.ifCond .ne 9, 3) := by decide +kernel
theorem dX2_ticksToFire_23 : decode cX2_ticksToFire 23 = .ok (.iinc 3 1, 3) := by decide +kernel
theorem dX2_ticksToFire_26 : decode cX2_ticksToFire 26 = .ok (.goto (-24), 3) := by decide +kernel
theorem dX2_ticksToFire_29 : decode cX2_ticksToFire 29 = .ok (.iload_n 3, 1) := by decide +kernel
theorem dX2_ticksToFire_30 : decode cX2_ticksToFire 30 = .ok (.ireturn, 1) := by decide +kernel
theorem dX3_init_0 : decode cX3_init 0 = .ok (.aload_n 0, 1) := by decide +kernel
theorem dX3_init_1 : decode cX3_init 1 = .ok (.invokespecial 3, 3) := by decide +kernel
theorem dX3_init_4 : decode cX3_init 4 = .ok (.aload_n 0, 1) := by decide +kernel
theorem dX3_init_5 : decode cX3_init 5 = .ok (.new 9, 3) := by decide +kernel
theorem dX3_init_8 : decode cX3_init 8 = .ok (.dup, 1) := by decide +kernel
theorem dX3_init_9 : decode cX3_init 9 = .ok (.invokespecial 11, 3) := by decide +kernel
theorem dX3_init_12 : decode cX3_init 12 = .ok (.putfield 12, 3) := by decide +kernel
theorem dX3_init_15 : decode cX3_init 15 = .ok (.aload_n 0, 1) := by decide +kernel
theorem dX3_init_16 : decode cX3_init 16 = .ok (.new 18, 3) := by decide +kernel
theorem dX3_init_19 : decode cX3_init 19 = .ok (.dup, 1) := by decide +kernel
theorem dX3_init_20 : decode cX3_init 20 = .ok (.invokespecial 20, 3) := by decide +kernel
theorem dX3_init_23 : decode cX3_init 23 = .ok (.putfield 21, 3) := by decide +kernel
theorem dX3_init_26 : decode cX3_init 26 = .ok (.aload_n 0, 1) := by decide +kernel
theorem dX3_init_27 : decode cX3_init 27 = .ok (.iconst 2, 1) := by decide +kernel
theorem dX3_init_28 : decode cX3_init 28 = .ok (.newarray .int, 2) := by decide +kernel
theorem dX3_init_30 : decode cX3_init 30 = .ok (.putfield 25, 3) := by decide +kernel
theorem dX3_init_33 : decode cX3_init 33 = .ok (.aload_n 0, 1) := by decide +kernel
theorem dX3_init_34 : decode cX3_init 34 = .ok (.bipush 8, 2) := by decide +kernel
theorem dX3_init_36 : decode cX3_init 36 = .ok (.newarray .int, 2) := by decide +kernel
theorem dX3_init_38 : decode cX3_init 38 = .ok (.putfield 29, 3) := by decide +kernel
theorem dX3_init_41 : decode cX3_init 41 = .ok (.aload_n 0, 1) := by decide +kernel
theorem dX3_init_42 : decode cX3_init 42 = .ok (.iconst 5, 1) := by decide +kernel
theorem dX3_init_43 : decode cX3_init 43 = .ok (.putfield 32, 3) := by decide +kernel
theorem dX3_init_46 : decode cX3_init 46 = .ok (.aload_n 0, 1) := by decide +kernel
theorem dX3_init_47 : decode cX3_init 47 = .ok (.iconst 3, 1) := by decide +kernel
theorem dX3_init_48 : decode cX3_init 48 = .ok (.putfield 36, 3) := by decide +kernel
theorem dX3_init_51 : decode cX3_init 51 = .ok (.aload_n 0, 1) := by decide +kernel
theorem dX3_init_52 : decode cX3_init 52 = .ok (.iconst 2, 1) := by decide +kernel
theorem dX3_init_53 : decode cX3_init 53 = .ok (.putfield 39, 3) := by decide +kernel
theorem dX3_init_56 : decode cX3_init 56 = .ok (.aload_n 0, 1) := by decide +kernel
theorem dX3_init_57 : decode cX3_init 57 = .ok (.iconst 0, 1) := by decide +kernel
theorem dX3_init_58 : decode cX3_init 58 = .ok (.putfield 42, 3) := by decide +kernel
theorem dX3_init_61 : decode cX3_init 61 = .ok (.aload_n 0, 1) := by decide +kernel
theorem dX3_init_62 : decode cX3_init 62 = .ok (.iconst 0, 1) := by decide +kernel
theorem dX3_init_63 : decode cX3_init 63 = .ok (.putfield 45, 3) := by decide +kernel
theorem dX3_init_66 : decode cX3_init 66 = .ok (.aload_n 0, 1) := by decide +kernel
theorem dX3_init_67 : decode cX3_init 67 = .ok (.getfield 25, 3) := by decide +kernel
theorem dX3_init_70 : decode cX3_init 70 = .ok (.iconst 1, 1) := by decide +kernel
theorem dX3_init_71 : decode cX3_init 71 = .ok (.iconst 2, 1) := by decide +kernel
theorem dX3_init_72 : decode cX3_init 72 = .ok (.iastore, 1) := by decide +kernel
theorem dX3_init_73 : decode cX3_init 73 = .ok (.return_, 1) := by decide +kernel
theorem dX3_copyFrom_0 : decode cX3_copyFrom 0 = .ok (.aload_n 0, 1) := by decide +kernel
theorem dX3_copyFrom_1 : decode cX3_copyFrom 1 = .ok (.getfield 12, 3) := by decide +kernel
theorem dX3_copyFrom_4 : decode cX3_copyFrom 4 = .ok (.aload_n 1, 1) := by decide +kernel
theorem dX3_copyFrom_5 : decode cX3_copyFrom 5 = .ok (.getfield 12, 3) := by decide +kernel
theorem dX3_copyFrom_8 : decode cX3_copyFrom 8 = .ok (.invokevirtual 49, 3) := by decide +kernel
theorem dX3_copyFrom_11 : decode cX3_copyFrom 11 = .ok (.aload_n 0, 1) := by decide +kernel
theorem dX3_copyFrom_12 : decode cX3_copyFrom 12 = .ok (.getfield 21, 3) := by decide +kernel
theorem dX3_copyFrom_15 : decode cX3_copyFrom 15 = .ok (.aload_n 1, 1) := by decide +kernel
theorem dX3_copyFrom_16 : decode cX3_copyFrom 16 = .ok (.getfield 21, 3) := by decide +kernel
theorem dX3_copyFrom_19 : decode cX3_copyFrom 19 = .ok (.invokevirtual 53, 3) := by decide +kernel
theorem dX3_copyFrom_22 : decode cX3_copyFrom 22 = .ok (.aload_n 1, 1) := by decide +kernel
theorem dX3_copyFrom_23 : decode cX3_copyFrom 23 = .ok (.getfield 25, 3) := by decide +kernel
theorem dX3_copyFrom_26 : decode cX3_copyFrom 26 = .ok (.iconst 0, 1) := by decide +kernel
theorem dX3_copyFrom_27 : decode cX3_copyFrom 27 = .ok (.aload_n 0, 1) := by decide +kernel
theorem dX3_copyFrom_28 : decode cX3_copyFrom 28 = .ok (.getfield 25, 3) := by decide +kernel
theorem dX3_copyFrom_31 : decode cX3_copyFrom 31 = .ok (.iconst 0, 1) := by decide +kernel
theorem dX3_copyFrom_32 : decode cX3_copyFrom 32 = .ok (.iconst 2, 1) := by decide +kernel
theorem dX3_copyFrom_33 : decode cX3_copyFrom 33 = .ok (.invokestatic 56, 3) := by decide +kernel
theorem dX3_copyFrom_36 : decode cX3_copyFrom 36 = .ok (.aload_n 1, 1) := by decide +kernel
theorem dX3_copyFrom_37 : decode cX3_copyFrom 37 = .ok (.getfield 29, 3) := by decide +kernel
theorem dX3_copyFrom_40 : decode cX3_copyFrom 40 = .ok (.iconst 0, 1) := by decide +kernel
theorem dX3_copyFrom_41 : decode cX3_copyFrom 41 = .ok (.aload_n 0, 1) := by decide +kernel
theorem dX3_copyFrom_42 : decode cX3_copyFrom 42 = .ok (.getfield 29, 3) := by decide +kernel
theorem dX3_copyFrom_45 : decode cX3_copyFrom 45 = .ok (.iconst 0, 1) := by decide +kernel
theorem dX3_copyFrom_46 : decode cX3_copyFrom 46 = .ok (.bipush 8, 2) := by decide +kernel
theorem dX3_copyFrom_48 : decode cX3_copyFrom 48 = .ok (.invokestatic 56, 3) := by decide +kernel
theorem dX3_copyFrom_51 : decode cX3_copyFrom 51 = .ok (.aload_n 0, 1) := by decide +kernel
theorem dX3_copyFrom_52 : decode cX3_copyFrom 52 = .ok (.aload_n 1, 1) := by decide +kernel
theorem dX3_copyFrom_53 : decode cX3_copyFrom 53 = .ok (.getfield 32, 3) := by decide +kernel
theorem dX3_copyFrom_56 : decode cX3_copyFrom 56 = .ok (.putfield 32, 3) := by decide +kernel
theorem dX3_copyFrom_59 : decode cX3_copyFrom 59 = .ok (.aload_n 0, 1) := by decide +kernel
theorem dX3_copyFrom_60 : decode cX3_copyFrom 60 = .ok (.aload_n 1, 1) := by decide +kernel
theorem dX3_copyFrom_61 : decode cX3_copyFrom 61 = .ok (.getfield 36, 3) := by decide +kernel
theorem dX3_copyFrom_64 : decode cX3_copyFrom 64 = .ok (.putfield 36, 3) := by decide +kernel
theorem dX3_copyFrom_67 : decode cX3_copyFrom 67 = .ok (.aload_n 0, 1) := by decide +kernel
theorem dX3_copyFrom_68 : decode cX3_copyFrom 68 = .ok (.aload_n 1, 1) := by decide +kernel
theorem dX3_copyFrom_69 : decode cX3_copyFrom 69 = .ok (.getfield 39, 3) := by decide +kernel
theorem dX3_copyFrom_72 : decode cX3_copyFrom 72 = .ok (.putfield 39, 3) := by decide +kernel
theorem dX3_copyFrom_75 : decode cX3_copyFrom 75 = .ok (.aload_n 0, 1) := by decide +kernel
theorem dX3_copyFrom_76 : decode cX3_copyFrom 76 = .ok (.aload_n 1, 1) := by decide +kernel
theorem dX3_copyFrom_77 : decode cX3_copyFrom 77 = .ok (.getfield 42, 3) := by decide +kernel
theorem dX3_copyFrom_80 : decode cX3_copyFrom 80 = .ok (.putfield 42, 3) := by decide +kernel
theorem dX3_copyFrom_83 : decode cX3_copyFrom 83 = .ok (.aload_n 0, 1) := by decide +kernel
theorem dX3_copyFrom_84 : decode cX3_copyFrom 84 = .ok (.aload_n 1, 1) := by decide +kernel
theorem dX3_copyFrom_85 : decode cX3_copyFrom 85 = .ok (.getfield 45, 3) := by decide +kernel
theorem dX3_copyFrom_88 : decode cX3_copyFrom 88 = .ok (.putfield 45, 3) := by decide +kernel
theorem dX3_copyFrom_91 : decode cX3_copyFrom 91 = .ok (.return_, 1) := by decide +kernel
theorem dX3_passTick_0 : decode cX3_passTick 0 = .ok (.aload_n 0, 1) := by decide +kernel
theorem dX3_passTick_1 : decode cX3_passTick 1 = .ok (.getfield 32, 3) := by decide +kernel
theorem dX3_passTick_4 : decode cX3_passTick 4 = .ok (.iload_n 1, 1) := by decide +kernel
theorem dX3_passTick_5 : decode cX3_passTick 5 = .ok (.iadd, 1) := by decide +kernel
theorem dX3_passTick_6 : decode cX3_passTick 6 = .ok (.invokestatic 62, 3) := by decide +kernel
theorem dX3_passTick_9 : decode cX3_passTick 9 = .ok (.ifCond .eq 13, 3) := by decide +kernel
theorem dX3_passTick_12 : decode cX3_passTick 12 = .ok (.aload_n 0, 1) := by decide +kernel
theorem dX3_passTick_13 : decode cX3_passTick 13 = .ok (.dup, 1) := by decide +kernel
theorem dX3_passTick_14 : decode cX3_passTick 14 = .ok (.getfield 32, 3) := by decide +kernel
theorem dX3_passTick_17 : decode cX3_passTick 17 = .ok (.iload_n 1, 1) := by decide +kernel
theorem dX3_passTick_18 : decode cX3_passTick 18 = .ok (.iadd, 1) := by decide +kernel
theorem dX3_passTick_19 : decode cX3_passTick 19 = .ok (.putfield 32, 3) := by decide +kernel
theorem dX3_passTick_22 : decode cX3_passTick 22 = .ok (.aload_n 0, 1) := by decide +kernel
theorem dX3_passTick_23 : decode cX3_passTick 23 = .ok (.invokevirtual 66, 3) := by decide +kernel
theorem dX3_passTick_26 : decode cX3_passTick 26 = .ok (.aload_n 0, 1) := by decide +kernel
theorem dX3_passTick_27 : decode cX3_passTick 27 = .ok (.invokevirtual 69, 3) := by decide +kernel
theorem dX3_passTick_30 : decode cX3_passTick 30 = .ok (.istore_n 2, 1) := by decide +kernel
theorem dX3_passTick_31 : decode cX3_passTick 31 = .ok (.aload_n 0, 1) := by decide +kernel
theorem dX3_passTick_32 : decode cX3_passTick 32 = .ok (.getfield 45, 3) := by decide +kernel
theorem dX3_passTick_35 : decode cX3_passTick 35 = .ok (.ifCond .ne 24, 3) := by decide +kernel
theorem dX3_passTick_38 : decode cX3_passTick 38 = .ok (.aload_n 0, 1) := by decide +kernel
theorem dX3_passTick_39 : decode cX3_passTick 39 = .ok (.getfield 29, 3) := by decide +kernel
theorem dX3_passTick_42 : decode cX3_passTick 42 = .ok (.bipush 6, 2) := by decide +kernel
theorem dX3_passTick_44 : decode cX3_passTick 44 = .ok (.dup2, 1) := by decide +kernel
theorem dX3_passTick_45 : decode cX3_passTick 45 = .ok (.iaload, 1) := by decide +kernel
theorem dX3_passTick_46 : decode cX3_passTick 46 = .ok (.aload_n 0, 1) := by decide +kernel
theorem dX3_passTick_47 : decode cX3_passTick 47 = .ok (.getfield 21, 3) := by decide +kernel
theorem dX3_passTick_50 : decode cX3_passTick 50 = .ok (.aload_n 0, 1) := by decide +kernel
theorem dX3_passTick_51 : decode cX3_passTick 51 = .ok (.getfield 32, 3) := by decide +kernel
theorem dX3_passTick_54 : decode cX3_passTick 54 = .ok (.invokevirtual 73, 3) := by decide +kernel
theorem dX3_passTick_57 : decode cX3_passTick 57 = .ok (.iadd, 1) := by decide +kernel
theorem dX3_passTick_58 : decode cX3_passTick 58 = .ok (.iastore, 1) := by decide +kernel
theorem dX3_passTick_59 : decode cX3_passTick 59 = .ok (.iload_n 2, 1) := by decide +kernel
theorem dX3_passTick_60 : decode cX3_passTick 60 = .ok (.ireturn, 1) := by decide +kernel
theorem dX3_advance_0 : decode cX3_advance 0 = .ok (.aload_n 0, 1) := by decide +kernel
theorem dX3_advance_1 : decode cX3_advance 1 = .ok (.dup, 1) := by decide +kernel
theorem dX3_advance_2 : decode cX3_advance 2 = .ok (.getfield 42, 3) := by decide +kernel
theorem dX3_advance_5 : decode cX3_advance 5 = .ok (.iconst 1, 1) := by decide +kernel
theorem dX3_advance_6 : decode cX3_advance 6 = .ok (.iadd, 1) := by decide +kernel
theorem dX3_advance_7 : decode cX3_advance 7 = .ok (.putfield 42, 3) := by decide +kernel
theorem dX3_advance_10 : decode cX3_advance 10 = .ok (.aload_n 0, 1) := by decide +kernel
theorem dX3_advance_11 : decode cX3_advance 11 = .ok (.getfield 29, 3) := by decide +kernel
theorem dX3_advance_14 : decode cX3_advance 14 = .ok (.iconst 2, 1) := by decide +kernel
theorem dX3_advance_15 : decode cX3_advance 15 = .ok (.dup2, 1) := by decide +kernel
theorem dX3_advance_16 : decode cX3_advance 16 = .ok (.iaload, 1) := by decide +kernel
theorem dX3_advance_17 : decode cX3_advance 17 = .ok (.aload_n 0, 1) := by decide +kernel
theorem dX3_advance_18 : decode cX3_advance 18 = .ok (.getfield 21, 3) := by decide +kernel
theorem dX3_advance_21 : decode cX3_advance 21 = .ok (.aload_n 0, 1) := by decide +kernel
theorem dX3_advance_22 : decode cX3_advance 22 = .ok (.getfield 25, 3) := by decide +kernel
theorem dX3_advance_25 : decode cX3_advance 25 = .ok (.iconst 0, 1) := by decide +kernel
theorem dX3_advance_26 : decode cX3_advance 26 = .ok (.iaload, 1) := by decide +kernel
theorem dX3_advance_27 : decode cX3_advance 27 = .ok (.iconst 1, 1) := by decide +kernel
theorem dX3_advance_28 : decode cX3_advance 28 = .ok (.if_icmp .ne 7, 3) := by decide +kernel
theorem dX3_advance_31 : decode cX3_advance 31 = .ok (.iconst 1, 1) := by decide +kernel
theorem dX3_advance_32 : decode cX3_advance 32 = .ok (.goto 4, 3) := by decide +kernel
theorem dX3_advance_35 : decode cX3_advance 35 = .ok (.iconst 0, 1) := by decide +kernel
theorem dX3_advance_36 : decode cX3_advance 36 = .ok (.invokevirtual 77, 3) := by decide +kernel
theorem dX3_advance_39 : decode cX3_advance 39 = .ok (.iadd, 1) := by decide +kernel
theorem dX3_advance_40 : decode cX3_advance 40 = .ok (.iastore, 1) := by decide +kernel
theorem dX3_advance_41 : decode cX3_advance 41 = .ok (.iconst 0, 1) := by decide +kernel
theorem dX3_advance_42 : decode cX3_advance 42 = .ok (.istore_n 1, 1) := by decide +kernel
theorem dX3_advance_43 : decode cX3_advance 43 = .ok (.iload_n 1, 1) := by decide +kernel
theorem dX3_advance_44 : decode cX3_advance 44 = .ok (.aload_n 0, 1) := by decide +kernel
theorem dX3_advance_45 : decode cX3_advance 45 = .ok (.getfield 12, 3) := by decide +kernel
theorem dX3_advance_48 : decode cX3_advance 48 = .ok (.getfield 81, 3) := by decide +kernel
theorem dX3_advance_51 : decode cX3_advance 51 = .ok (.if_icmp .ge 46, 3) := by decide +kernel
theorem dX3_advance_54 : decode cX3_advance 54 = .ok (.aload_n 0, 1) := by decide +kernel
theorem dX3_advance_55 : decode cX3_advance 55 = .ok (.getfield 12, 3) := by decide +kernel
theorem dX3_advance_58 : decode cX3_advance 58 = .ok (.iload_n 1, 1) := by decide +kernel
theorem dX3_advance_59 : decode cX3_advance 59 = .ok (.aload_n 0, 1) := by decide +kernel
theorem dX3_advance_60 : decode cX3_advance 60 = .ok (.getfield 42, 3) := by decide +kernel
theorem dX3_advance_63 : decode cX3_advance 63 = .ok (.invokevirtual 84, 3) := by decide +kernel
theorem dX3_advance_66 : decode cX3_advance 66 = .ok (.ifCond .eq 25, 3) := by decide +kernel
theorem dX3_advance_69 : decode cX3_advance 69 = .ok (.aload_n 0, 1) := by decide +kernel
theorem dX3_advance_70 : decode cX3_advance 70 = .ok (.aload_n 0, 1) := by decide +kernel
theorem dX3_advance_71 : decode cX3_advance 71 = .ok (.getfield 12, 3) := by decide +kernel
theorem dX3_advance_74 : decode cX3_advance 74 = .ok (.getfield 88, 3) := by decide +kernel
theorem dX3_advance_77 : decode cX3_advance 77 = .ok (.iload_n 1, 1) := by decide +kernel
theorem dX3_advance_78 : decode cX3_advance 78 = .ok (.iaload, 1) := by decide +kernel
theorem dX3_advance_79 : decode cX3_advance 79 = .ok (.aload_n 0, 1) := by decide +kernel
theorem dX3_advance_80 : decode cX3_advance 80 = .ok (.getfield 12, 3) := by decide +kernel
theorem dX3_advance_83 : decode cX3_advance 83 = .ok (.getfield 91, 3) := by decide +kernel
theorem dX3_advance_86 : decode cX3_advance 86 = .ok (.iload_n 1, 1) := by decide +kernel
theorem dX3_advance_87 : decode cX3_advance 87 = .ok (.iaload, 1) := by decide +kernel
theorem dX3_advance_88 : decode cX3_advance 88 = .ok (.invokevirtual 94, 3) := by decide +kernel
theorem dX3_advance_91 : decode cX3_advance 91 = .ok (.iinc 1 1, 3) := by decide +kernel
theorem dX3_advance_94 : decode cX3_advance 94 = .ok (.goto (-51), 3) := by decide +kernel
theorem dX3_advance_97 : decode cX3_advance 97 = .ok (.return_, 1) := by decide +kernel
theorem dX3_fire_0 : decode cX3_fire 0 = .ok (.iload_n 2, 1) := by decide +kernel
theorem dX3_fire_1 : decode cX3_fire 1 = .ok (.tableswitch 92 0 4 #[35, 45, 55, 65, 75], 35) := by decide +kernel
theorem dX3_fire_36 : decode cX3_fire 36 = .ok (.aload_n 0, 1) := by decide +kernel
theorem dX3_fire_37 : decode cX3_fire 37 = .ok (.iload_n 1, 1) := by decide +kernel
theorem dX3_fire_38 : decode cX3_fire 38 = .ok (.iconst 0, 1) := by decide +kernel
theorem dX3_fire_39 : decode cX3_fire 39 = .ok (.iconst 0, 1) := by decide +kernel
theorem dX3_fire_40 : decode cX3_fire 40 = .ok (.invokevirtual 98, 3) := by decide +kernel
theorem dX3_fire_43 : decode cX3_fire 43 = .ok (.goto 70, 3) := by decide +kernel
theorem dX3_fire_46 : decode cX3_fire 46 = .ok (.aload_n 0, 1) := by decide +kernel
theorem dX3_fire_47 : decode cX3_fire 47 = .ok (.iload_n 1, 1) := by decide +kernel
theorem dX3_fire_48 : decode cX3_fire 48 = .ok (.iconst (-1), 1) := by decide +kernel
theorem dX3_fire_49 : decode cX3_fire 49 = .ok (.iconst 0, 1) := by decide +kernel
theorem dX3_fire_50 : decode cX3_fire 50 = .ok (.invokevirtual 98, 3) := by decide +kernel
theorem dX3_fire_53 : decode cX3_fire 53 = .ok (.goto 60, 3) := by decide +kernel
theorem dX3_fire_56 : decode cX3_fire 56 = .ok (.aload_n 0, 1) := by decide +kernel
theorem dX3_fire_57 : decode cX3_fire 57 = .ok (.iload_n 1, 1) := by decide +kernel
theorem dX3_fire_58 : decode cX3_fire 58 = .ok (.iconst 1, 1) := by decide +kernel
theorem dX3_fire_59 : decode cX3_fire 59 = .ok (.iconst 0, 1) := by decide +kernel
theorem dX3_fire_60 : decode cX3_fire 60 = .ok (.invokevirtual 98, 3) := by decide +kernel
theorem dX3_fire_63 : decode cX3_fire 63 = .ok (.goto 50, 3) := by decide +kernel
theorem dX3_fire_66 : decode cX3_fire 66 = .ok (.aload_n 0, 1) := by decide +kernel
theorem dX3_fire_67 : decode cX3_fire 67 = .ok (.iload_n 1, 1) := by decide +kernel
theorem dX3_fire_68 : decode cX3_fire 68 = .ok (.iconst 1, 1) := by decide +kernel
theorem dX3_fire_69 : decode cX3_fire 69 = .ok (.iconst 1, 1) := by decide +kernel
theorem dX3_fire_70 : decode cX3_fire 70 = .ok (.invokevirtual 98, 3) := by decide +kernel
theorem dX3_fire_73 : decode cX3_fire 73 = .ok (.goto 40, 3) := by decide +kernel
theorem dX3_fire_76 : decode cX3_fire 76 = .ok (.aload_n 0, 1) := by decide +kernel
theorem dX3_fire_77 : decode cX3_fire 77 = .ok (.iload_n 1, 1) := by decide +kernel
theorem dX3_fire_78 : decode cX3_fire 78 = .ok (.aload_n 0, 1) := by decide +kernel
theorem dX3_fire_79 : decode cX3_fire 79 = .ok (.getfield 32, 3) := by decide +kernel
theorem dX3_fire_82 : decode cX3_fire 82 = .ok (.iload_n 1, 1) := by decide +kernel
theorem dX3_fire_83 : decode cX3_fire 83 = .ok (.invokestatic 102, 3) := by decide +kernel
theorem dX3_fire_86 : decode cX3_fire 86 = .ok (.iconst 0, 1) := by decide +kernel
theorem dX3_fire_87 : decode cX3_fire 87 = .ok (.invokevirtual 98, 3) := by decide +kernel
theorem dX3_fire_90 : decode cX3_fire 90 = .ok (.goto 23, 3) := by decide +kernel
theorem dX3_fire_93 : decode cX3_fire 93 = .ok (.iconst (-1), 1) := by decide +kernel
theorem dX3_fire_94 : decode cX3_fire 94 = .ok (.istore_n 3, 1) := by decide +kernel
theorem dX3_fire_95 : decode cX3_fire 95 = .ok (.iload_n 3, 1) := by decide +kernel
theorem dX3_fire_96 : decode cX3_fire 96 = .ok (.iconst 1, 1) := by decide +kernel
theorem dX3_fire_97 : decode cX3_fire 97 = .ok (.if_icmp .gt 16, 3) := by decide +kernel
theorem dX3_fire_100 : decode cX3_fire 100 = .ok (.aload_n 0, 1) := by decide +kernel
theorem dX3_fire_101 : decode cX3_fire 101 = .ok (.iload_n 1, 1) := by decide +kernel
theorem dX3_fire_102 : decode cX3_fire 102 = .ok (.iload_n 3, 1) := by decide +kernel
theorem dX3_fire_103 : decode cX3_fire 103 = .ok (.iconst 0, 1) := by decide +kernel
theorem dX3_fire_104 : decode cX3_fire 104 = .ok (.invokevirtual 98, 3) := by decide +kernel
theorem dX3_fire_107 : decode cX3_fire 107 = .ok (.iinc 3 1, 3) := by decide +kernel
theorem dX3_fire_110 : decode cX3_fire 110 = .ok (.goto (-15), 3) := by decide +kernel
theorem dX3_fire_113 : decode cX3_fire 113 = .ok (.return_, 1) := by decide +kernel
theorem dX3_shoot_0 : decode cX3_shoot 0 = .ok (.aload_n 0, 1) := by decide +kernel
theorem dX3_shoot_1 : decode cX3_shoot 1 = .ok (.getfield 21, 3) := by decide +kernel
theorem dX3_shoot_4 : decode cX3_shoot 4 = .ok (.iload_n 1, 1) := by decide +kernel
theorem dX3_shoot_5 : decode cX3_shoot 5 = .ok (.iload_n 2, 1) := by decide +kernel
theorem dX3_shoot_6 : decode cX3_shoot 6 = .ok (.iload_n 3, 1) := by decide +kernel
theorem dX3_shoot_7 : decode cX3_shoot 7 = .ok (.invokevirtual 108, 3) := by decide +kernel
theorem dX3_shoot_10 : decode cX3_shoot 10 = .ok (.ifCond .eq 16, 3) := by decide +kernel
theorem dX3_shoot_13 : decode cX3_shoot 13 = .ok (.aload_n 0, 1) := by decide +kernel
theorem dX3_shoot_14 : decode cX3_shoot 14 = .ok (.getfield 29, 3) := by decide +kernel
theorem dX3_shoot_17 : decode cX3_shoot 17 = .ok (.iconst 0, 1) := by decide +kernel
theorem dX3_shoot_18 : decode cX3_shoot 18 = .ok (.dup2, 1) := by decide +kernel
theorem dX3_shoot_19 : decode cX3_shoot 19 = .ok (.iaload, 1) := by decide +kernel
theorem dX3_shoot_20 : decode cX3_shoot 20 = .ok (.iconst 1, 1) := by decide +kernel
theorem dX3_shoot_21 : decode cX3_shoot 21 = .ok (.iadd, 1) := by decide +kernel
theorem dX3_shoot_22 : decode cX3_shoot 22 = .ok (.iastore, 1) := by decide +kernel
theorem dX3_shoot_23 : decode cX3_shoot 23 = .ok (.goto 13, 3) := by decide +kernel
theorem dX3_shoot_26 : decode cX3_shoot 26 = .ok (.aload_n 0, 1) := by decide +kernel
theorem dX3_shoot_27 : decode cX3_shoot 27 = .ok (.getfield 29, 3) := by decide +kernel
theorem dX3_shoot_30 : decode cX3_shoot 30 = .ok (.iconst 1, 1) := by decide +kernel
theorem dX3_shoot_31 : decode cX3_shoot 31 = .ok (.dup2, 1) := by decide +kernel
theorem dX3_shoot_32 : decode cX3_shoot 32 = .ok (.iaload, 1) := by decide +kernel
theorem dX3_shoot_33 : decode cX3_shoot 33 = .ok (.iconst 1, 1) := by decide +kernel
theorem dX3_shoot_34 : decode cX3_shoot 34 = .ok (.iadd, 1) := by decide +kernel
theorem dX3_shoot_35 : decode cX3_shoot 35 = .ok (.iastore, 1) := by decide +kernel
theorem dX3_shoot_36 : decode cX3_shoot 36 = .ok (.return_, 1) := by decide +kernel
theorem dX3_takeHits_0 : decode cX3_takeHits 0 = .ok (.aload_n 0, 1) := by decide +kernel
theorem dX3_takeHits_1 : decode cX3_takeHits 1 = .ok (.getfield 21, 3) := by decide +kernel
theorem dX3_takeHits_4 : decode cX3_takeHits 4 = .ok (.aload_n 0, 1) := by decide +kernel
theorem dX3_takeHits_5 : decode cX3_takeHits 5 = .ok (.getfield 32, 3) := by decide +kernel
theorem dX3_takeHits_8 : decode cX3_takeHits 8 = .ok (.iconst 0, 1) := by decide +kernel
theorem dX3_takeHits_9 : decode cX3_takeHits 9 = .ok (.invokevirtual 112, 3) := by decide +kernel
theorem dX3_takeHits_12 : decode cX3_takeHits 12 = .ok (.istore_n 1, 1) := by decide +kernel
theorem dX3_takeHits_13 : decode cX3_takeHits 13 = .ok (.iload_n 1, 1) := by decide +kernel
theorem dX3_takeHits_14 : decode cX3_takeHits 14 = .ok (.ifCond .ne 5, 3) := by decide +kernel
theorem dX3_takeHits_17 : decode cX3_takeHits 17 = .ok (.iconst 0, 1) := by decide +kernel
theorem dX3_takeHits_18 : decode cX3_takeHits 18 = .ok (.ireturn, 1) := by decide +kernel
theorem dX3_takeHits_19 : decode cX3_takeHits 19 = .ok (.aload_n 0, 1) := by decide +kernel
theorem dX3_takeHits_20 : decode cX3_takeHits 20 = .ok (.getfield 29, 3) := by decide +kernel
theorem dX3_takeHits_23 : decode cX3_takeHits 23 = .ok (.iconst 3, 1) := by decide +kernel
theorem dX3_takeHits_24 : decode cX3_takeHits 24 = .ok (.dup2, 1) := by decide +kernel
theorem dX3_takeHits_25 : decode cX3_takeHits 25 = .ok (.iaload, 1) := by decide +kernel
theorem dX3_takeHits_26 : decode cX3_takeHits 26 = .ok (.iload_n 1, 1) := by decide +kernel
theorem dX3_takeHits_27 : decode cX3_takeHits 27 = .ok (.iadd, 1) := by decide +kernel
theorem dX3_takeHits_28 : decode cX3_takeHits 28 = .ok (.iastore, 1) := by decide +kernel
theorem dX3_takeHits_29 : decode cX3_takeHits 29 = .ok (.aload_n 0, 1) := by decide +kernel
theorem dX3_takeHits_30 : decode cX3_takeHits 30 = .ok (.getfield 29, 3) := by decide +kernel
theorem dX3_takeHits_33 : decode cX3_takeHits 33 = .ok (.bipush 7, 2) := by decide +kernel
theorem dX3_takeHits_35 : decode cX3_takeHits 35 = .ok (.dup2, 1) := by decide +kernel
theorem dX3_takeHits_36 : decode cX3_takeHits 36 = .ok (.iaload, 1) := by decide +kernel
theorem dX3_takeHits_37 : decode cX3_takeHits 37 = .ok (.iconst 1, 1) := by decide +kernel
theorem dX3_takeHits_38 : decode cX3_takeHits 38 = .ok (.iadd, 1) := by decide +kernel
theorem dX3_takeHits_39 : decode cX3_takeHits 39 = .ok (.iastore, 1) := by decide +kernel
theorem dX3_takeHits_40 : decode cX3_takeHits 40 = .ok (.aload_n 0, 1) := by decide +kernel
theorem dX3_takeHits_41 : decode cX3_takeHits 41 = .ok (.getfield 36, 3) := by decide +kernel
theorem dX3_takeHits_44 : decode cX3_takeHits 44 = .ok (.ifCond .ne 10, 3) := by decide +kernel
theorem dX3_takeHits_47 : decode cX3_takeHits 47 = .ok (.aload_n 0, 1) := by decide +kernel
theorem dX3_takeHits_48 : decode cX3_takeHits 48 = .ok (.iconst 1, 1) := by decide +kernel
theorem dX3_takeHits_49 : decode cX3_takeHits 49 = .ok (.putfield 45, 3) := by decide +kernel
theorem dX3_takeHits_52 : decode cX3_takeHits 52 = .ok (.iconst 2, 1) := by decide +kernel
theorem dX3_takeHits_53 : decode cX3_takeHits 53 = .ok (.ireturn, 1) := by decide +kernel
theorem dX3_takeHits_54 : decode cX3_takeHits 54 = .ok (.aload_n 0, 1) := by decide +kernel
theorem dX3_takeHits_55 : decode cX3_takeHits 55 = .ok (.dup, 1) := by decide +kernel
theorem dX3_takeHits_56 : decode cX3_takeHits 56 = .ok (.getfield 36, 3) := by decide +kernel
theorem dX3_takeHits_59 : decode cX3_takeHits 59 = .ok (.iconst 1, 1) := by decide +kernel
theorem dX3_takeHits_60 : decode cX3_takeHits 60 = .ok (.isub, 1) := by decide +kernel
theorem dX3_takeHits_61 : decode cX3_takeHits 61 = .ok (.putfield 36, 3) := by decide +kernel
theorem dX3_takeHits_64 : decode cX3_takeHits 64 = .ok (.iconst 1, 1) := by decide +kernel
theorem dX3_takeHits_65 : decode cX3_takeHits 65 = .ok (.ireturn, 1) := by decide +kernel
theorem dX3_canBomb_0 : decode cX3_canBomb 0 = .ok (.aload_n 0, 1) := by decide +kernel
theorem dX3_canBomb_1 : decode cX3_canBomb 1 = .ok (.getfield 45, 3) := by decide +kernel
theorem dX3_canBomb_4 : decode cX3_canBomb 4 = .ok (.ifCond .ne 14, 3) := by decide +kernel
theorem dX3_canBomb_7 : decode cX3_canBomb 7 = .ok (.aload_n 0, 1) := by decide +kernel
theorem dX3_canBomb_8 : decode cX3_canBomb 8 = .ok (.getfield 39, 3) := by decide +kernel
theorem dX3_canBomb_11 : decode cX3_canBomb 11 = .ok (.ifCond .le 7, 3) := by decide +kernel
theorem dX3_canBomb_14 : decode cX3_canBomb 14 = .ok (.iconst 1, 1) := by decide +kernel
theorem dX3_canBomb_15 : decode cX3_canBomb 15 = .ok (.goto 4, 3) := by decide +kernel
theorem dX3_canBomb_18 : decode cX3_canBomb 18 = .ok (.iconst 0, 1) := by decide +kernel
theorem dX3_canBomb_19 : decode cX3_canBomb 19 = .ok (.ireturn, 1) := by decide +kernel
theorem dX3_throwBomb_0 : decode cX3_throwBomb 0 = .ok (.aload_n 0, 1) := by decide +kernel
theorem dX3_throwBomb_1 : decode cX3_throwBomb 1 = .ok (.dup, 1) := by decide +kernel
theorem dX3_throwBomb_2 : decode cX3_throwBomb 2 = .ok (.getfield 39, 3) := by decide +kernel
theorem dX3_throwBomb_5 : decode cX3_throwBomb 5 = .ok (.iconst 1, 1) := by decide +kernel
theorem dX3_throwBomb_6 : decode cX3_throwBomb 6 = .ok (.isub, 1) := by decide +kernel
theorem dX3_throwBomb_7 : decode cX3_throwBomb 7 = .ok (.putfield 39, 3) := by decide +kernel
theorem dX3_throwBomb_10 : decode cX3_throwBomb 10 = .ok (.aload_n 0, 1) := by decide +kernel
theorem dX3_throwBomb_11 : decode cX3_throwBomb 11 = .ok (.getfield 21, 3) := by decide +kernel
theorem dX3_throwBomb_14 : decode cX3_throwBomb 14 = .ok (.aload_n 0, 1) := by decide +kernel
theorem dX3_throwBomb_15 : decode cX3_throwBomb 15 = .ok (.getfield 32, 3) := by decide +kernel
theorem dX3_throwBomb_18 : decode cX3_throwBomb 18 = .ok (.aload_n 0, 1) := by decide +kernel
theorem dX3_throwBomb_19 : decode cX3_throwBomb 19 = .ok (.getfield 25, 3) := by decide +kernel
theorem dX3_throwBomb_22 : decode cX3_throwBomb 22 = .ok (.iconst 1, 1) := by decide +kernel
theorem dX3_throwBomb_23 : decode cX3_throwBomb 23 = .ok (.iaload, 1) := by decide +kernel
theorem dX3_throwBomb_24 : decode cX3_throwBomb 24 = .ok (.invokevirtual 112, 3) := by decide +kernel
theorem dX3_throwBomb_27 : decode cX3_throwBomb 27 = .ok (.istore_n 1, 1) := by decide +kernel
theorem dX3_throwBomb_28 : decode cX3_throwBomb 28 = .ok (.aload_n 0, 1) := by decide +kernel
theorem dX3_throwBomb_29 : decode cX3_throwBomb 29 = .ok (.getfield 29, 3) := by decide +kernel
theorem dX3_throwBomb_32 : decode cX3_throwBomb 32 = .ok (.iconst 4, 1) := by decide +kernel
theorem dX3_throwBomb_33 : decode cX3_throwBomb 33 = .ok (.dup2, 1) := by decide +kernel
theorem dX3_throwBomb_34 : decode cX3_throwBomb 34 = .ok (.iaload, 1) := by decide +kernel
theorem dX3_throwBomb_35 : decode cX3_throwBomb 35 = .ok (.iload_n 1, 1) := by decide +kernel
theorem dX3_throwBomb_36 : decode cX3_throwBomb 36 = .ok (.iadd, 1) := by decide +kernel
theorem dX3_throwBomb_37 : decode cX3_throwBomb 37 = .ok (.iastore, 1) := by decide +kernel
theorem dX3_throwBomb_38 : decode cX3_throwBomb 38 = .ok (.iload_n 1, 1) := by decide +kernel
theorem dX3_throwBomb_39 : decode cX3_throwBomb 39 = .ok (.ireturn, 1) := by decide +kernel
theorem dX3_sweep_0 : decode cX3_sweep 0 = .ok (.aload_n 0, 1) := by decide +kernel
theorem dX3_sweep_1 : decode cX3_sweep 1 = .ok (.getfield 21, 3) := by decide +kernel
theorem dX3_sweep_4 : decode cX3_sweep 4 = .ok (.iconst 0, 1) := by decide +kernel
theorem dX3_sweep_5 : decode cX3_sweep 5 = .ok (.invokevirtual 115, 3) := by decide +kernel
theorem dX3_sweep_8 : decode cX3_sweep 8 = .ok (.istore_n 1, 1) := by decide +kernel
theorem dX3_sweep_9 : decode cX3_sweep 9 = .ok (.aload_n 0, 1) := by decide +kernel
theorem dX3_sweep_10 : decode cX3_sweep 10 = .ok (.getfield 29, 3) := by decide +kernel
theorem dX3_sweep_13 : decode cX3_sweep 13 = .ok (.iconst 5, 1) := by decide +kernel
theorem dX3_sweep_14 : decode cX3_sweep 14 = .ok (.dup2, 1) := by decide +kernel
theorem dX3_sweep_15 : decode cX3_sweep 15 = .ok (.iaload, 1) := by decide +kernel
theorem dX3_sweep_16 : decode cX3_sweep 16 = .ok (.iload_n 1, 1) := by decide +kernel
theorem dX3_sweep_17 : decode cX3_sweep 17 = .ok (.iadd, 1) := by decide +kernel
theorem dX3_sweep_18 : decode cX3_sweep 18 = .ok (.iastore, 1) := by decide +kernel
theorem dX3_sweep_19 : decode cX3_sweep 19 = .ok (.aload_n 0, 1) := by decide +kernel
theorem dX3_sweep_20 : decode cX3_sweep 20 = .ok (.iconst 3, 1) := by decide +kernel
theorem dX3_sweep_21 : decode cX3_sweep 21 = .ok (.putfield 36, 3) := by decide +kernel
theorem dX3_sweep_24 : decode cX3_sweep 24 = .ok (.aload_n 0, 1) := by decide +kernel
theorem dX3_sweep_25 : decode cX3_sweep 25 = .ok (.iconst 2, 1) := by decide +kernel
theorem dX3_sweep_26 : decode cX3_sweep 26 = .ok (.putfield 39, 3) := by decide +kernel
theorem dX3_sweep_29 : decode cX3_sweep 29 = .ok (.aload_n 0, 1) := by decide +kernel
theorem dX3_sweep_30 : decode cX3_sweep 30 = .ok (.iconst 0, 1) := by decide +kernel
theorem dX3_sweep_31 : decode cX3_sweep 31 = .ok (.putfield 45, 3) := by decide +kernel
theorem dX3_sweep_34 : decode cX3_sweep 34 = .ok (.iload_n 1, 1) := by decide +kernel
theorem dX3_sweep_35 : decode cX3_sweep 35 = .ok (.ireturn, 1) := by decide +kernel
theorem dX4_init_0 : decode cX4_init 0 = .ok (.aload_n 0, 1) := by decide +kernel
theorem dX4_init_1 : decode cX4_init 1 = .ok (.invokespecial 3, 3) := by decide +kernel
theorem dX4_init_4 : decode cX4_init 4 = .ok (.aload_n 0, 1) := by decide +kernel
theorem dX4_init_5 : decode cX4_init 5 = .ok (.iconst 4, 1) := by decide +kernel
theorem dX4_init_6 : decode cX4_init 6 = .ok (.anewarray 9, 3) := by decide +kernel
theorem dX4_init_9 : decode cX4_init 9 = .ok (.putfield 11, 3) := by decide +kernel
theorem dX4_init_12 : decode cX4_init 12 = .ok (.aload_n 0, 1) := by decide +kernel
theorem dX4_init_13 : decode cX4_init 13 = .ok (.iconst 0, 1) := by decide +kernel
theorem dX4_init_14 : decode cX4_init 14 = .ok (.putfield 17, 3) := by decide +kernel
theorem dX4_init_17 : decode cX4_init 17 = .ok (.iconst 0, 1) := by decide +kernel
theorem dX4_init_18 : decode cX4_init 18 = .ok (.istore_n 1, 1) := by decide +kernel
theorem dX4_init_19 : decode cX4_init 19 = .ok (.iload_n 1, 1) := by decide +kernel
theorem dX4_init_20 : decode cX4_init 20 = .ok (.iconst 4, 1) := by decide +kernel
theorem dX4_init_21 : decode cX4_init 21 = .ok (.if_icmp .ge 22, 3) := by decide +kernel
theorem dX4_init_24 : decode cX4_init 24 = .ok (.aload_n 0, 1) := by decide +kernel
theorem dX4_init_25 : decode cX4_init 25 = .ok (.getfield 11, 3) := by decide +kernel
theorem dX4_init_28 : decode cX4_init 28 = .ok (.iload_n 1, 1) := by decide +kernel
theorem dX4_init_29 : decode cX4_init 29 = .ok (.new 9, 3) := by decide +kernel
theorem dX4_init_32 : decode cX4_init 32 = .ok (.dup, 1) := by decide +kernel
theorem dX4_init_33 : decode cX4_init 33 = .ok (.invokespecial 21, 3) := by decide +kernel
theorem dX4_init_36 : decode cX4_init 36 = .ok (.aastore, 1) := by decide +kernel
theorem dX4_init_37 : decode cX4_init 37 = .ok (.iinc 1 1, 3) := by decide +kernel
theorem dX4_init_40 : decode cX4_init 40 = .ok (.goto (-21), 3) := by decide +kernel
theorem dX4_init_43 : decode cX4_init 43 = .ok (.return_, 1) := by decide +kernel
theorem dX4_record_0 : decode cX4_record 0 = .ok (.aload_n 0, 1) := by decide +kernel
theorem dX4_record_1 : decode cX4_record 1 = .ok (.getfield 17, 3) := by decide +kernel
theorem dX4_record_4 : decode cX4_record 4 = .ok (.iconst 4, 1) := by decide +kernel
theorem dX4_record_5 : decode cX4_record 5 = .ok (.if_icmp .lt 7, 3) := by decide +kernel
theorem dX4_record_8 : decode cX4_record 8 = .ok (.aload_n 0, 1) := by decide +kernel
theorem dX4_record_9 : decode cX4_record 9 = .ok (.invokevirtual 22, 3) := by decide +kernel
theorem dX4_record_12 : decode cX4_record 12 = .ok (.aload_n 0, 1) := by decide +kernel
theorem dX4_record_13 : decode cX4_record 13 = .ok (.getfield 11, 3) := by decide +kernel
theorem dX4_record_16 : decode cX4_record 16 = .ok (.aload_n 0, 1) := by decide +kernel
theorem dX4_record_17 : decode cX4_record 17 = .ok (.getfield 17, 3) := by decide +kernel
theorem dX4_record_20 : decode cX4_record 20 = .ok (.aaload, 1) := by decide +kernel
theorem dX4_record_21 : decode cX4_record 21 = .ok (.aload_n 1, 1) := by decide +kernel
theorem dX4_record_22 : decode cX4_record 22 = .ok (.invokevirtual 25, 3) := by decide +kernel
theorem dX4_record_25 : decode cX4_record 25 = .ok (.aload_n 0, 1) := by decide +kernel
theorem dX4_record_26 : decode cX4_record 26 = .ok (.dup, 1) := by decide +kernel
theorem dX4_record_27 : decode cX4_record 27 = .ok (.getfield 17, 3) := by decide +kernel
theorem dX4_record_30 : decode cX4_record 30 = .ok (.iconst 1, 1) := by decide +kernel
theorem dX4_record_31 : decode cX4_record 31 = .ok (.iadd, 1) := by decide +kernel
theorem dX4_record_32 : decode cX4_record 32 = .ok (.putfield 17, 3) := by decide +kernel
theorem dX4_record_35 : decode cX4_record 35 = .ok (.return_, 1) := by decide +kernel
theorem dX4_dropOldest_0 : decode cX4_dropOldest 0 = .ok (.aload_n 0, 1) := by decide +kernel
theorem dX4_dropOldest_1 : decode cX4_dropOldest 1 = .ok (.getfield 11, 3) := by decide +kernel
theorem dX4_dropOldest_4 : decode cX4_dropOldest 4 = .ok (.iconst 0, 1) := by decide +kernel
theorem dX4_dropOldest_5 : decode cX4_dropOldest 5 = .ok (.aaload, 1) := by decide +kernel
theorem dX4_dropOldest_6 : decode cX4_dropOldest 6 = .ok (.astore_n 1, 1) := by decide +kernel
theorem dX4_dropOldest_7 : decode cX4_dropOldest 7 = .ok (.iconst 1, 1) := by decide +kernel
theorem dX4_dropOldest_8 : decode cX4_dropOldest 8 = .ok (.istore_n 2, 1) := by decide +kernel
theorem dX4_dropOldest_9 : decode cX4_dropOldest 9 = .ok (.iload_n 2, 1) := by decide +kernel
theorem dX4_dropOldest_10 : decode cX4_dropOldest 10 = .ok (.iconst 4, 1) := by decide +kernel
theorem dX4_dropOldest_11 : decode cX4_dropOldest 11 = .ok (.if_icmp .ge 23, 3) := by decide +kernel
theorem dX4_dropOldest_14 : decode cX4_dropOldest 14 = .ok (.aload_n 0, 1) := by decide +kernel
theorem dX4_dropOldest_15 : decode cX4_dropOldest 15 = .ok (.getfield 11, 3) := by decide +kernel
theorem dX4_dropOldest_18 : decode cX4_dropOldest 18 = .ok (.iload_n 2, 1) := by decide +kernel
theorem dX4_dropOldest_19 : decode cX4_dropOldest 19 = .ok (.iconst 1, 1) := by decide +kernel
theorem dX4_dropOldest_20 : decode cX4_dropOldest 20 = .ok (.isub, 1) := by decide +kernel
theorem dX4_dropOldest_21 : decode cX4_dropOldest 21 = .ok (.aload_n 0, 1) := by decide +kernel
theorem dX4_dropOldest_22 : decode cX4_dropOldest 22 = .ok (.getfield 11, 3) := by decide +kernel
theorem dX4_dropOldest_25 : decode cX4_dropOldest 25 = .ok (.iload_n 2, 1) := by decide +kernel
theorem dX4_dropOldest_26 : decode cX4_dropOldest 26 = .ok (.aaload, 1) := by decide +kernel
theorem dX4_dropOldest_27 : decode cX4_dropOldest 27 = .ok (.aastore, 1) := by decide +kernel
theorem dX4_dropOldest_28 : decode cX4_dropOldest 28 = .ok (.iinc 2 1, 3) := by decide +kernel
theorem dX4_dropOldest_31 : decode cX4_dropOldest 31 = .ok (.goto (-22), 3) := by decide +kernel
theorem dX4_dropOldest_34 : decode cX4_dropOldest 34 = .ok (.aload_n 0, 1) := by decide +kernel
theorem dX4_dropOldest_35 : decode cX4_dropOldest 35 = .ok (.getfield 11, 3) := by decide +kernel
theorem dX4_dropOldest_38 : decode cX4_dropOldest 38 = .ok (.iconst 3, 1) := by decide +kernel
theorem dX4_dropOldest_39 : decode cX4_dropOldest 39 = .ok (.aload_n 1, 1) := by decide +kernel
theorem dX4_dropOldest_40 : decode cX4_dropOldest 40 = .ok (.aastore, 1) := by decide +kernel
theorem dX4_dropOldest_41 : decode cX4_dropOldest 41 = .ok (.aload_n 0, 1) := by decide +kernel
theorem dX4_dropOldest_42 : decode cX4_dropOldest 42 = .ok (.iconst 3, 1) := by decide +kernel
theorem dX4_dropOldest_43 : decode cX4_dropOldest 43 = .ok (.putfield 17, 3) := by decide +kernel
theorem dX4_dropOldest_46 : decode cX4_dropOldest 46 = .ok (.return_, 1) := by decide +kernel
theorem dX4_takeBack_0 : decode cX4_takeBack 0 = .ok (.aload_n 0, 1) := by decide +kernel
theorem dX4_takeBack_1 : decode cX4_takeBack 1 = .ok (.getfield 17, 3) := by decide +kernel
theorem dX4_takeBack_4 : decode cX4_takeBack 4 = .ok (.ifCond .le 26, 3) := by decide +kernel
theorem dX4_takeBack_7 : decode cX4_takeBack 7 = .ok (.aload_n 0, 1) := by decide +kernel
theorem dX4_takeBack_8 : decode cX4_takeBack 8 = .ok (.dup, 1) := by decide +kernel
theorem dX4_takeBack_9 : decode cX4_takeBack 9 = .ok (.getfield 17, 3) := by decide +kernel
theorem dX4_takeBack_12 : decode cX4_takeBack 12 = .ok (.iconst 1, 1) := by decide +kernel
theorem dX4_takeBack_13 : decode cX4_takeBack 13 = .ok (.isub, 1) := by decide +kernel
theorem dX4_takeBack_14 : decode cX4_takeBack 14 = .ok (.putfield 17, 3) := by decide +kernel
theorem dX4_takeBack_17 : decode cX4_takeBack 17 = .ok (.aload_n 1, 1) := by decide +kernel
theorem dX4_takeBack_18 : decode cX4_takeBack 18 = .ok (.aload_n 0, 1) := by decide +kernel
theorem dX4_takeBack_19 : decode cX4_takeBack 19 = .ok (.getfield 11, 3) := by decide +kernel
theorem dX4_takeBack_22 : decode cX4_takeBack 22 = .ok (.aload_n 0, 1) := by decide +kernel
theorem dX4_takeBack_23 : decode cX4_takeBack 23 = .ok (.getfield 17, 3) := by decide +kernel
theorem dX4_takeBack_26 : decode cX4_takeBack 26 = .ok (.aaload, 1) := by decide +kernel
theorem dX4_takeBack_27 : decode cX4_takeBack 27 = .ok (.invokevirtual 25, 3) := by decide +kernel
theorem dX4_takeBack_30 : decode cX4_takeBack 30 = .ok (.return_, 1) := by decide +kernel
theorem dX5_init_0 : decode cX5_init 0 = .ok (.aload_n 0, 1) := by decide +kernel
theorem dX5_init_1 : decode cX5_init 1 = .ok (.invokespecial 3, 3) := by decide +kernel
theorem dX5_init_4 : decode cX5_init 4 = .ok (.aload_n 0, 1) := by decide +kernel
theorem dX5_init_5 : decode cX5_init 5 = .ok (.bipush 31, 2) := by decide +kernel
theorem dX5_init_7 : decode cX5_init 7 = .ok (.newarray .int, 2) := by decide +kernel
theorem dX5_init_9 : decode cX5_init 9 = .ok (.putfield 9, 3) := by decide +kernel
theorem dX5_init_12 : decode cX5_init 12 = .ok (.aload_n 0, 1) := by decide +kernel
theorem dX5_init_13 : decode cX5_init 13 = .ok (.bipush 31, 2) := by decide +kernel
theorem dX5_init_15 : decode cX5_init 15 = .ok (.bipush 10, 2) := by decide +kernel
theorem dX5_init_17 : decode cX5_init 17 = .ok (.multianewarray 15 2, 4) := by decide +kernel
theorem dX5_init_21 : decode cX5_init 21 = .ok (.putfield 17, 3) := by decide +kernel
theorem dX5_init_24 : decode cX5_init 24 = .ok (.return_, 1) := by decide +kernel
theorem dX5_foresee_0 : decode cX5_foresee 0 = .ok (.aload_n 0, 1) := by decide +kernel
theorem dX5_foresee_1 : decode cX5_foresee 1 = .ok (.getfield 9, 3) := by decide +kernel
theorem dX5_foresee_4 : decode cX5_foresee 4 = .ok (.iconst 0, 1) := by decide +kernel
theorem dX5_foresee_5 : decode cX5_foresee 5 = .ok (.aload_n 1, 1) := by decide +kernel
theorem dX5_foresee_6 : decode cX5_foresee 6 = .ok (.getfield 20, 3) := by decide +kernel
theorem dX5_foresee_9 : decode cX5_foresee 9 = .ok (.invokevirtual 26, 3) := by decide +kernel
theorem dX5_foresee_12 : decode cX5_foresee 12 = .ok (.iastore, 1) := by decide +kernel
theorem dX5_foresee_13 : decode cX5_foresee 13 = .ok (.iconst 1, 1) := by decide +kernel
theorem dX5_foresee_14 : decode cX5_foresee 14 = .ok (.istore_n 3, 1) := by decide +kernel
theorem dX5_foresee_15 : decode cX5_foresee 15 = .ok (.iload_n 3, 1) := by decide +kernel
theorem dX5_foresee_16 : decode cX5_foresee 16 = .ok (.iload_n 2, 1) := by decide +kernel
theorem dX5_foresee_17 : decode cX5_foresee 17 = .ok (.if_icmp .gt 26, 3) := by decide +kernel
theorem dX5_foresee_20 : decode cX5_foresee 20 = .ok (.aload_n 1, 1) := by decide +kernel
theorem dX5_foresee_21 : decode cX5_foresee 21 = .ok (.invokevirtual 32, 3) := by decide +kernel
theorem dX5_foresee_24 : decode cX5_foresee 24 = .ok (.aload_n 0, 1) := by decide +kernel
theorem dX5_foresee_25 : decode cX5_foresee 25 = .ok (.getfield 9, 3) := by decide +kernel
theorem dX5_foresee_28 : decode cX5_foresee 28 = .ok (.iload_n 3, 1) := by decide +kernel
theorem dX5_foresee_29 : decode cX5_foresee 29 = .ok (.aload_n 1, 1) := by decide +kernel
theorem dX5_foresee_30 : decode cX5_foresee 30 = .ok (.getfield 20, 3) := by decide +kernel
theorem dX5_foresee_33 : decode cX5_foresee 33 = .ok (.invokevirtual 26, 3) := by decide +kernel
theorem dX5_foresee_36 : decode cX5_foresee 36 = .ok (.iastore, 1) := by decide +kernel
theorem dX5_foresee_37 : decode cX5_foresee 37 = .ok (.iinc 3 1, 3) := by decide +kernel
theorem dX5_foresee_40 : decode cX5_foresee 40 = .ok (.goto (-25), 3) := by decide +kernel
theorem dX5_foresee_43 : decode cX5_foresee 43 = .ok (.return_, 1) := by decide +kernel
theorem dX5_sumFree_0 : decode cX5_sumFree 0 = .ok (.iconst 0, 1) := by decide +kernel
theorem dX5_sumFree_1 : decode cX5_sumFree 1 = .ok (.istore_n 2, 1) := by decide +kernel
theorem dX5_sumFree_2 : decode cX5_sumFree 2 = .ok (.iconst 1, 1) := by decide +kernel
theorem dX5_sumFree_3 : decode cX5_sumFree 3 = .ok (.istore_n 3, 1) := by decide +kernel
theorem dX5_sumFree_4 : decode cX5_sumFree 4 = .ok (.iload_n 3, 1) := by decide +kernel
theorem dX5_sumFree_5 : decode cX5_sumFree 5 = .ok (.iload_n 1, 1) := by decide +kernel
theorem dX5_sumFree_6 : decode cX5_sumFree 6 = .ok (.if_icmp .gt 21, 3) := by decide +kernel
theorem dX5_sumFree_9 : decode cX5_sumFree 9 = .ok (.iload_n 2, 1) := by decide +kernel
theorem dX5_sumFree_10 : decode cX5_sumFree 10 = .ok (.aload_n 0, 1) := by decide +kernel
theorem dX5_sumFree_11 : decode cX5_sumFree 11 = .ok (.getfield 9, 3) := by decide +kernel
theorem dX5_sumFree_14 : decode cX5_sumFree 14 = .ok (.iload_n 3, 1) := by decide +kernel
theorem dX5_sumFree_15 : decode cX5_sumFree 15 = .ok (.iaload, 1) := by decide +kernel
theorem dX5_sumFree_16 : decode cX5_sumFree 16 = .ok (.invokestatic 35, 3) := by decide +kernel
theorem dX5_sumFree_19 : decode cX5_sumFree 19 = .ok (.iadd, 1) := by decide +kernel
theorem dX5_sumFree_20 : decode cX5_sumFree 20 = .ok (.istore_n 2, 1) := by decide +kernel
theorem dX5_sumFree_21 : decode cX5_sumFree 21 = .ok (.iinc 3 1, 3) := by decide +kernel
theorem dX5_sumFree_24 : decode cX5_sumFree 24 = .ok (.goto (-20), 3) := by decide +kernel
theorem dX5_sumFree_27 : decode cX5_sumFree 27 = .ok (.iload_n 2, 1) := by decide +kernel
theorem dX5_sumFree_28 : decode cX5_sumFree 28 = .ok (.ireturn, 1) := by decide +kernel
theorem dX5_isFree_0 : decode cX5_isFree 0 = .ok (.iload_n 2, 1) := by decide +kernel
theorem dX5_isFree_1 : decode cX5_isFree 1 = .ok (.invokestatic 41, 3) := by decide +kernel
theorem dX5_isFree_4 : decode cX5_isFree 4 = .ok (.ifCond .eq 21, 3) := by decide +kernel
theorem dX5_isFree_7 : decode cX5_isFree 7 = .ok (.aload_n 0, 1) := by decide +kernel
theorem dX5_isFree_8 : decode cX5_isFree 8 = .ok (.getfield 9, 3) := by decide +kernel
theorem dX5_isFree_11 : decode cX5_isFree 11 = .ok (.iload_n 1, 1) := by decide +kernel
theorem dX5_isFree_12 : decode cX5_isFree 12 = .ok (.iaload, 1) := by decide +kernel
theorem dX5_isFree_13 : decode cX5_isFree 13 = .ok (.iload_n 2, 1) := by decide +kernel
theorem dX5_isFree_14 : decode cX5_isFree 14 = .ok (.ishr, 1) := by decide +kernel
theorem dX5_isFree_15 : decode cX5_isFree 15 = .ok (.iconst 1, 1) := by decide +kernel
theorem dX5_isFree_16 : decode cX5_isFree 16 = .ok (.iand, 1) := by decide +kernel
theorem dX5_isFree_17 : decode cX5_isFree 17 = .ok (.iconst 1, 1) := by decide +kernel
theorem dX5_isFree_18 : decode cX5_isFree 18 = .ok (.if_icmp .ne 7, 3) := by decide +kernel
theorem dX5_isFree_21 : decode cX5_isFree 21 = .ok (.iconst 1, 1) := by decide +kernel
theorem dX5_isFree_22 : decode cX5_isFree 22 = .ok (.goto 4, 3) := by decide +kernel
theorem dX5_isFree_25 : decode cX5_isFree 25 = .ok (.iconst 0, 1) := by decide +kernel
theorem dX5_isFree_26 : decode cX5_isFree 26 = .ok (.ireturn, 1) := by decide +kernel
theorem dX5_countLanes_0 : decode cX5_countLanes 0 = .ok (.iconst 0, 1) := by decide +kernel
theorem dX5_countLanes_1 : decode cX5_countLanes 1 = .ok (.istore_n 2, 1) := by decide +kernel
theorem dX5_countLanes_2 : decode cX5_countLanes 2 = .ok (.iconst 0, 1) := by decide +kernel
theorem dX5_countLanes_3 : decode cX5_countLanes 3 = .ok (.istore_n 3, 1) := by decide +kernel
theorem dX5_countLanes_4 : decode cX5_countLanes 4 = .ok (.iload_n 3, 1) := by decide +kernel
theorem dX5_countLanes_5 : decode cX5_countLanes 5 = .ok (.bipush 10, 2) := by decide +kernel
theorem dX5_countLanes_7 : decode cX5_countLanes 7 = .ok (.if_icmp .ge 32, 3) := by decide +kernel
theorem dX5_countLanes_10 : decode cX5_countLanes 10 = .ok (.aload_n 0, 1) := by decide +kernel
theorem dX5_countLanes_11 : decode cX5_countLanes 11 = .ok (.iload_n 1, 1) := by decide +kernel
theorem dX5_countLanes_12 : decode cX5_countLanes 12 = .ok (.iload_n 3, 1) := by decide +kernel
theorem dX5_countLanes_13 : decode cX5_countLanes 13 = .ok (.invokevirtual 45, 3) := by decide +kernel
theorem dX5_countLanes_16 : decode cX5_countLanes 16 = .ok (.ifCond .eq 17, 3) := by decide +kernel
theorem dX5_countLanes_19 : decode cX5_countLanes 19 = .ok (.aload_n 0, 1) := by decide +kernel
theorem dX5_countLanes_20 : decode cX5_countLanes 20 = .ok (.iload_n 1, 1) := by decide +kernel
theorem dX5_countLanes_21 : decode cX5_countLanes 21 = .ok (.iload_n 3, 1) := by decide +kernel
theorem dX5_countLanes_22 : decode cX5_countLanes 22 = .ok (.iconst 1, 1) := by decide +kernel
theorem dX5_countLanes_23 : decode cX5_countLanes 23 = .ok (.isub, 1) := by decide +kernel
theorem dX5_countLanes_24 : decode cX5_countLanes 24 = .ok (.invokevirtual 45, 3) := by decide +kernel
theorem dX5_countLanes_27 : decode cX5_countLanes 27 = .ok (.ifCond .ne 6, 3) := by decide +kernel
theorem dX5_countLanes_30 : decode cX5_countLanes 30 = .ok (.iinc 2 1, 3) := by decide +kernel
theorem dX5_countLanes_33 : decode cX5_countLanes 33 = .ok (.iinc 3 1, 3) := by decide +kernel
theorem dX5_countLanes_36 : decode cX5_countLanes 36 = .ok (.goto (-32), 3) := by decide +kernel
theorem dX5_countLanes_39 : decode cX5_countLanes 39 = .ok (.iload_n 2, 1) := by decide +kernel
theorem dX5_countLanes_40 : decode cX5_countLanes 40 = .ok (.ireturn, 1) := by decide +kernel
theorem dX5_widest_0 : decode cX5_widest 0 = .ok (.iconst 0, 1) := by decide +kernel
theorem dX5_widest_1 : decode cX5_widest 1 = .ok (.istore_n 2, 1) := by decide +kernel
theorem dX5_widest_2 : decode cX5_widest 2 = .ok (.iconst 0, 1) := by decide +kernel
theorem dX5_widest_3 : decode cX5_widest 3 = .ok (.istore_n 3, 1) := by decide +kernel
theorem dX5_widest_4 : decode cX5_widest 4 = .ok (.iload_n 3, 1) := by decide +kernel
theorem dX5_widest_5 : decode cX5_widest 5 = .ok (.bipush 10, 2) := by decide +kernel
theorem dX5_widest_7 : decode cX5_widest 7 = .ok (.if_icmp .ge 20, 3) := by decide +kernel
theorem dX5_widest_10 : decode cX5_widest 10 = .ok (.iload_n 2, 1) := by decide +kernel
theorem dX5_widest_11 : decode cX5_widest 11 = .ok (.aload_n 0, 1) := by decide +kernel
theorem dX5_widest_12 : decode cX5_widest 12 = .ok (.iload_n 1, 1) := by decide +kernel
theorem dX5_widest_13 : decode cX5_widest 13 = .ok (.iload_n 3, 1) := by decide +kernel
theorem dX5_widest_14 : decode cX5_widest 14 = .ok (.invokevirtual 49, 3) := by decide +kernel
theorem dX5_widest_17 : decode cX5_widest 17 = .ok (.invokestatic 53, 3) := by decide +kernel
theorem dX5_widest_20 : decode cX5_widest 20 = .ok (.istore_n 2, 1) := by decide +kernel
theorem dX5_widest_21 : decode cX5_widest 21 = .ok (.iinc 3 1, 3) := by decide +kernel
theorem dX5_widest_24 : decode cX5_widest 24 = .ok (.goto (-20), 3) := by decide +kernel
theorem dX5_widest_27 : decode cX5_widest 27 = .ok (.iload_n 2, 1) := by decide +kernel
theorem dX5_widest_28 : decode cX5_widest 28 = .ok (.ireturn, 1) := by decide +kernel
theorem dX5_startOfWidest_0 : decode cX5_startOfWidest 0 = .ok (.aload_n 0, 1) := by decide +kernel
theorem dX5_startOfWidest_1 : decode cX5_startOfWidest 1 = .ok (.iload_n 1, 1) := by decide +kernel
theorem dX5_startOfWidest_2 : decode cX5_startOfWidest 2 = .ok (.invokevirtual 58, 3) := by decide +kernel
theorem dX5_startOfWidest_5 : decode cX5_startOfWidest 5 = .ok (.istore_n 2, 1) := by decide +kernel
theorem dX5_startOfWidest_6 : decode cX5_startOfWidest 6 = .ok (.iconst 0, 1) := by decide +kernel
theorem dX5_startOfWidest_7 : decode cX5_startOfWidest 7 = .ok (.istore_n 3, 1) := by decide +kernel
theorem dX5_startOfWidest_8 : decode cX5_startOfWidest 8 = .ok (.iload_n 3, 1) := by decide +kernel
theorem dX5_startOfWidest_9 : decode cX5_startOfWidest 9 = .ok (.bipush 10, 2) := by decide +kernel
theorem dX5_startOfWidest_11 : decode cX5_startOfWidest 11 = .ok (.if_icmp .ge 25, 3) := by decide +kernel
theorem dX5_startOfWidest_14 : decode cX5_startOfWidest 14 = .ok (.iload_n 2, 1) := by decide +kernel
theorem dX5_startOfWidest_15 : decode cX5_startOfWidest 15 = .ok (.ifCond .le 15, 3) := by decide +kernel
theorem dX5_startOfWidest_18 : decode cX5_startOfWidest 18 = .ok (.aload_n 0, 1) := by decide +kernel
theorem dX5_startOfWidest_19 : decode cX5_startOfWidest 19 = .ok (.iload_n 1, 1) := by decide +kernel
theorem dX5_startOfWidest_20 : decode cX5_startOfWidest 20 = .ok (.iload_n 3, 1) := by decide +kernel
theorem dX5_startOfWidest_21 : decode cX5_startOfWidest 21 = .ok (.invokevirtual 49, 3) := by decide +kernel
theorem dX5_startOfWidest_24 : decode cX5_startOfWidest 24 = .ok (.iload_n 2, 1) := by decide +kernel
theorem dX5_startOfWidest_25 : decode cX5_startOfWidest 25 = .ok (.if_icmp .ne 5, 3) := by decide +kernel
theorem dX5_startOfWidest_28 : decode cX5_startOfWidest 28 = .ok (.iload_n 3, 1) := by decide +kernel
theorem dX5_startOfWidest_29 : decode cX5_startOfWidest 29 = .ok (.ireturn, 1) := by decide +kernel
theorem dX5_startOfWidest_30 : decode cX5_startOfWidest 30 = .ok (.iinc 3 1, 3) := by decide +kernel
theorem dX5_startOfWidest_33 : decode cX5_startOfWidest 33 = .ok (.goto (-25), 3) := by decide +kernel
theorem dX5_startOfWidest_36 : decode cX5_startOfWidest 36 = .ok (.bipush (-4), 2) := by decide +kernel
theorem dX5_startOfWidest_38 : decode cX5_startOfWidest 38 = .ok (.ireturn, 1) := by decide +kernel
theorem dX5_widthFrom_0 : decode cX5_widthFrom 0 = .ok (.iload_n 2, 1) := by decide +kernel
theorem dX5_widthFrom_1 : decode cX5_widthFrom 1 = .ok (.istore_n 3, 1) := by decide +kernel
theorem dX5_widthFrom_2 : decode cX5_widthFrom 2 = .ok (.iload_n 3, 1) := by decide +kernel
theorem dX5_widthFrom_3 : decode cX5_widthFrom 3 = .ok (.bipush 10, 2) := by decide +kernel
theorem dX5_widthFrom_5 : decode cX5_widthFrom 5 = .ok (.if_icmp .ge 18, 3) := by decide +kernel
theorem dX5_widthFrom_8 : decode cX5_widthFrom 8 = .ok (.aload_n 0, 1) := by decide +kernel
theorem dX5_widthFrom_9 : decode cX5_widthFrom 9 = .ok (.iload_n 1, 1) := by decide +kernel
theorem dX5_widthFrom_10 : decode cX5_widthFrom 10 = .ok (.iload_n 3, 1) := by decide +kernel
theorem dX5_widthFrom_11 : decode cX5_widthFrom 11 = .ok (.invokevirtual 45, 3) := by decide +kernel
theorem dX5_widthFrom_14 : decode cX5_widthFrom 14 = .ok (.ifCond .eq 9, 3) := by decide +kernel
theorem dX5_widthFrom_17 : decode cX5_widthFrom 17 = .ok (.iinc 3 1, 3) := by decide +kernel
theorem dX5_widthFrom_20 : decode cX5_widthFrom 20 = .ok (.goto (-18), 3) := by decide +kernel
theorem dX5_widthFrom_23 : decode cX5_widthFrom 23 = .ok (.iload_n 3, 1) := by decide +kernel
theorem dX5_widthFrom_24 : decode cX5_widthFrom 24 = .ok (.iload_n 2, 1) := by decide +kernel
theorem dX5_widthFrom_25 : decode cX5_widthFrom 25 = .ok (.isub, 1) := by decide +kernel
theorem dX5_widthFrom_26 : decode cX5_widthFrom 26 = .ok (.ireturn, 1) := by decide +kernel
theorem dX5_spread_0 : decode cX5_spread 0 = .ok (.iload_n 0, 1) := by decide +kernel
theorem dX5_spread_1 : decode cX5_spread 1 = .ok (.iload_n 0, 1) := by decide +kernel
theorem dX5_spread_2 : decode cX5_spread 2 = .ok (.iconst 1, 1) := by decide +kernel
theorem dX5_spread_3 : decode cX5_spread 3 = .ok (.ishl, 1) := by decide +kernel
theorem dX5_spread_4 : decode cX5_spread 4 = .ok (.ior, 1) := by decide +kernel
theorem dX5_spread_5 : decode cX5_spread 5 = .ok (.iload_n 0, 1) := by decide +kernel
theorem dX5_spread_6 : decode cX5_spread 6 = .ok (.iconst 1, 1) := by decide +kernel
theorem dX5_spread_7 : decode cX5_spread 7 = .ok (.ishr, 1) := by decide +kernel
theorem dX5_spread_8 : decode cX5_spread 8 = .ok (.ior, 1) := by decide +kernel
theorem dX5_spread_9 : decode cX5_spread 9 = .ok (.ireturn, 1) := by decide +kernel
theorem dX5_endsForwards_0 : decode cX5_endsForwards 0 = .ok (.iconst 1, 1) := by decide +kernel
theorem dX5_endsForwards_1 : decode cX5_endsForwards 1 = .ok (.iload_n 1, 1) := by decide +kernel
theorem dX5_endsForwards_2 : decode cX5_endsForwards 2 = .ok (.ishl, 1) := by decide +kernel
theorem dX5_endsForwards_3 : decode cX5_endsForwards 3 = .ok (.istore_n 3, 1) := by decide +kernel
theorem dX5_endsForwards_4 : decode cX5_endsForwards 4 = .ok (.iconst 1, 1) := by decide +kernel
theorem dX5_endsForwards_5 : decode cX5_endsForwards 5 = .ok (.istore 4, 2) := by decide +kernel
theorem dX5_endsForwards_7 : decode cX5_endsForwards 7 = .ok (.iload 4, 2) := by decide +kernel
theorem dX5_endsForwards_9 : decode cX5_endsForwards 9 = .ok (.iload_n 2, 1) := by decide +kernel
theorem dX5_endsForwards_10 : decode cX5_endsForwards 10 = .ok (.if_icmp .gt 22, 3) := by decide +kernel
theorem dX5_endsForwards_13 : decode cX5_endsForwards 13 = .ok (.iload_n 3, 1) := by decide +kernel
theorem dX5_endsForwards_14 : decode cX5_endsForwards 14 = .ok (.invokestatic 61, 3) := by decide +kernel
theorem dX5_endsForwards_17 : decode cX5_endsForwards 17 = .ok (.aload_n 0, 1) := by decide +kernel
theorem dX5_endsForwards_18 : decode cX5_endsForwards 18 = .ok (.getfield 9, 3) := by decide +kernel
theorem dX5_endsForwards_21 : decode cX5_endsForwards 21 = .ok (.iload 4, 2) := by decide +kernel
theorem dX5_endsForwards_23 : decode cX5_endsForwards 23 = .ok (.iaload, 1) := by decide +kernel
theorem dX5_endsForwards_24 : decode cX5_endsForwards 24 = .ok (.iand, 1) := by decide +kernel
theorem dX5_endsForwards_25 : decode cX5_endsForwards 25 = .ok (.istore_n 3, 1) := by decide +kernel
theorem dX5_endsForwards_26 : decode cX5_endsForwards 26 = .ok (.iinc 4 1, 3) := by decide +kernel
theorem dX5_endsForwards_29 : decode cX5_endsForwards 29 = .ok (.goto (-22), 3) := by decide +kernel
theorem dX5_endsForwards_32 : decode cX5_endsForwards 32 = .ok (.iload_n 3, 1) := by decide +kernel
theorem dX5_endsForwards_33 : decode cX5_endsForwards 33 = .ok (.invokestatic 35, 3) := by decide +kernel
theorem dX5_endsForwards_36 : decode cX5_endsForwards 36 = .ok (.ireturn, 1) := by decide +kernel
theorem dX5_endsBackwards_0 : decode cX5_endsBackwards 0 = .ok (.iconst 0, 1) := by decide +kernel
theorem dX5_endsBackwards_1 : decode cX5_endsBackwards 1 = .ok (.istore_n 3, 1) := by decide +kernel
theorem dX5_endsBackwards_2 : decode cX5_endsBackwards 2 = .ok (.iconst 0, 1) := by decide +kernel
theorem dX5_endsBackwards_3 : decode cX5_endsBackwards 3 = .ok (.istore 4, 2) := by decide +kernel
theorem dX5_endsBackwards_5 : decode cX5_endsBackwards 5 = .ok (.iload 4, 2) := by decide +kernel
theorem dX5_endsBackwards_7 : decode cX5_endsBackwards 7 = .ok (.bipush 10, 2) := by decide +kernel
theorem dX5_endsBackwards_9 : decode cX5_endsBackwards 9 = .ok (.if_icmp .ge 23, 3) := by decide +kernel
theorem dX5_endsBackwards_12 : decode cX5_endsBackwards 12 = .ok (.aload_n 0, 1) := by decide +kernel
theorem dX5_endsBackwards_13 : decode cX5_endsBackwards 13 = .ok (.iload 4, 2) := by decide +kernel
theorem dX5_endsBackwards_15 : decode cX5_endsBackwards 15 = .ok (.iload_n 1, 1) := by decide +kernel
theorem dX5_endsBackwards_16 : decode cX5_endsBackwards 16 = .ok (.iload_n 2, 1) := by decide +kernel
theorem dX5_endsBackwards_17 : decode cX5_endsBackwards 17 = .ok (.invokevirtual 64, 3) := by decide +kernel
theorem dX5_endsBackwards_20 : decode cX5_endsBackwards 20 = .ok (.ifCond .eq 6, 3) := by decide +kernel
theorem dX5_endsBackwards_23 : decode cX5_endsBackwards 23 = .ok (.iinc 3 1, 3) := by decide +kernel
theorem dX5_endsBackwards_26 : decode cX5_endsBackwards 26 = .ok (.iinc 4 1, 3) := by decide +kernel
theorem dX5_endsBackwards_29 : decode cX5_endsBackwards 29 = .ok (.goto (-24), 3) := by decide +kernel
theorem dX5_endsBackwards_32 : decode cX5_endsBackwards 32 = .ok (.iload_n 3, 1) := by decide +kernel
theorem dX5_endsBackwards_33 : decode cX5_endsBackwards 33 = .ok (.ireturn, 1) := by decide +kernel
theorem dX5_leadsBack_0 : decode cX5_leadsBack 0 = .ok (.iconst 1, 1) := by decide +kernel
theorem dX5_leadsBack_1 : decode cX5_leadsBack 1 = .ok (.iload_n 1, 1) := by decide +kernel
theorem dX5_leadsBack_2 : decode cX5_leadsBack 2 = .ok (.ishl, 1) := by decide +kernel
theorem dX5_leadsBack_3 : decode cX5_leadsBack 3 = .ok (.istore 4, 2) := by decide +kernel
theorem dX5_leadsBack_5 : decode cX5_leadsBack 5 = .ok (.iload_n 3, 1) := by decide +kernel
theorem dX5_leadsBack_6 : decode cX5_leadsBack 6 = .ok (.istore 5, 2) := by decide +kernel
theorem dX5_leadsBack_8 : decode cX5_leadsBack 8 = .ok (.iload 5, 2) := by decide +kernel
theorem dX5_leadsBack_10 : decode cX5_leadsBack 10 = .ok (.iconst 1, 1) := by decide +kernel
theorem dX5_leadsBack_11 : decode cX5_leadsBack 11 = .ok (.if_icmp .lt 24, 3) := by decide +kernel
theorem dX5_leadsBack_14 : decode cX5_leadsBack 14 = .ok (.iload 4, 2) := by decide +kernel
theorem dX5_leadsBack_16 : decode cX5_leadsBack 16 = .ok (.aload_n 0, 1) := by decide +kernel
theorem dX5_leadsBack_17 : decode cX5_leadsBack 17 = .ok (.getfield 9, 3) := by decide +kernel
theorem dX5_leadsBack_20 : decode cX5_leadsBack 20 = .ok (.iload 5, 2) := by decide +kernel
theorem dX5_leadsBack_22 : decode cX5_leadsBack 22 = .ok (.iaload, 1) := by decide +kernel
theorem dX5_leadsBack_23 : decode cX5_leadsBack 23 = .ok (.iand, 1) := by decide +kernel
theorem dX5_leadsBack_24 : decode cX5_leadsBack 24 = .ok (.invokestatic 61, 3) := by decide +kernel
theorem dX5_leadsBack_27 : decode cX5_leadsBack 27 = .ok (.istore 4, 2) := by decide +kernel
theorem dX5_leadsBack_29 : decode cX5_leadsBack 29 = .ok (.iinc 5 (-1), 3) := by decide +kernel
theorem dX5_leadsBack_32 : decode cX5_leadsBack 32 = .ok (.goto (-24), 3) := by decide +kernel
theorem dX5_leadsBack_35 : decode cX5_leadsBack 35 = .ok (.iload 4, 2) := by decide +kernel
theorem dX5_leadsBack_37 : decode cX5_leadsBack 37 = .ok (.iload_n 2, 1) := by decide +kernel
theorem dX5_leadsBack_38 : decode cX5_leadsBack 38 = .ok (.ishr, 1) := by decide +kernel
theorem dX5_leadsBack_39 : decode cX5_leadsBack 39 = .ok (.iconst 1, 1) := by decide +kernel
theorem dX5_leadsBack_40 : decode cX5_leadsBack 40 = .ok (.iand, 1) := by decide +kernel
theorem dX5_leadsBack_41 : decode cX5_leadsBack 41 = .ok (.iconst 1, 1) := by decide +kernel
theorem dX5_leadsBack_42 : decode cX5_leadsBack 42 = .ok (.if_icmp .ne 7, 3) := by decide +kernel
theorem dX5_leadsBack_45 : decode cX5_leadsBack 45 = .ok (.iconst 1, 1) := by decide +kernel
theorem dX5_leadsBack_46 : decode cX5_leadsBack 46 = .ok (.goto 4, 3) := by decide +kernel
theorem dX5_leadsBack_49 : decode cX5_leadsBack 49 = .ok (.iconst 0, 1) := by decide +kernel
theorem dX5_leadsBack_50 : decode cX5_leadsBack 50 = .ok (.ireturn, 1) := by decide +kernel
theorem dX5_longestWay_0 : decode cX5_longestWay 0 = .ok (.iconst 1, 1) := by decide +kernel
theorem dX5_longestWay_1 : decode cX5_longestWay 1 = .ok (.iload_n 1, 1) := by decide +kernel
theorem dX5_longestWay_2 : decode cX5_longestWay 2 = .ok (.ishl, 1) := by decide +kernel
theorem dX5_longestWay_3 : decode cX5_longestWay 3 = .ok (.istore_n 2, 1) := by decide +kernel
theorem dX5_longestWay_4 : decode cX5_longestWay 4 = .ok (.iconst 1, 1) := by decide +kernel
theorem dX5_longestWay_5 : decode cX5_longestWay 5 = .ok (.istore_n 3, 1) := by decide +kernel
theorem dX5_longestWay_6 : decode cX5_longestWay 6 = .ok (.iload_n 3, 1) := by decide +kernel
theorem dX5_longestWay_7 : decode cX5_longestWay 7 = .ok (.bipush 30, 2) := by decide +kernel
theorem dX5_longestWay_9 : decode cX5_longestWay 9 = .ok (.if_icmp .gt 29, 3) := by decide +kernel
theorem dX5_longestWay_12 : decode cX5_longestWay 12 = .ok (.iload_n 2, 1) := by decide +kernel
theorem dX5_longestWay_13 : decode cX5_longestWay 13 = .ok (.invokestatic 61, 3) := by decide +kernel
theorem dX5_longestWay_16 : decode cX5_longestWay 16 = .ok (.aload_n 0, 1) := by decide +kernel
theorem dX5_longestWay_17 : decode cX5_longestWay 17 = .ok (.getfield 9, 3) := by decide +kernel
theorem dX5_longestWay_20 : decode cX5_longestWay 20 = .ok (.iload_n 3, 1) := by decide +kernel
theorem dX5_longestWay_21 : decode cX5_longestWay 21 = .ok (.iaload, 1) := by decide +kernel
theorem dX5_longestWay_22 : decode cX5_longestWay 22 = .ok (.iand, 1) := by decide +kernel
theorem dX5_longestWay_23 : decode cX5_longestWay 23 = .ok (.istore_n 2, 1) := by decide +kernel
theorem dX5_longestWay_24 : decode cX5_longestWay 24 = .ok (.iload_n 2, 1) := by decide +kernel
theorem dX5_longestWay_25 : decode cX5_longestWay 25 = .ok (.ifCond .ne 7, 3) := by decide +kernel
theorem dX5_longestWay_28 : decode cX5_longestWay 28 = .ok (.iload_n 3, 1) := by decide +kernel
theorem dX5_longestWay_29 : decode cX5_longestWay 29 = .ok (.iconst 1, 1) := by decide +kernel
theorem dX5_longestWay_30 : decode cX5_longestWay 30 = .ok (.isub, 1) := by decide +kernel
theorem dX5_longestWay_31 : decode cX5_longestWay 31 = .ok (.ireturn, 1) := by decide +kernel
theorem dX5_longestWay_32 : decode cX5_longestWay 32 = .ok (.iinc 3 1, 3) := by decide +kernel
theorem dX5_longestWay_35 : decode cX5_longestWay 35 = .ok (.goto (-29), 3) := by decide +kernel
theorem dX5_longestWay_38 : decode cX5_longestWay 38 = .ok (.bipush 30, 2) := by decide +kernel
theorem dX5_longestWay_40 : decode cX5_longestWay 40 = .ok (.ireturn, 1) := by decide +kernel
theorem dX5_fewestAsides_0 : decode cX5_fewestAsides 0 = .ok (.aload_n 0, 1) := by decide +kernel
theorem dX5_fewestAsides_1 : decode cX5_fewestAsides 1 = .ok (.iload_n 2, 1) := by decide +kernel
theorem dX5_fewestAsides_2 : decode cX5_fewestAsides 2 = .ok (.invokevirtual 68, 3) := by decide +kernel
theorem dX5_fewestAsides_5 : decode cX5_fewestAsides 5 = .ok (.aload_n 0, 1) := by decide +kernel
theorem dX5_fewestAsides_6 : decode cX5_fewestAsides 6 = .ok (.iconst 0, 1) := by decide +kernel
theorem dX5_fewestAsides_7 : decode cX5_fewestAsides 7 = .ok (.iload_n 1, 1) := by decide +kernel
theorem dX5_fewestAsides_8 : decode cX5_fewestAsides 8 = .ok (.iload_n 2, 1) := by decide +kernel
theorem dX5_fewestAsides_9 : decode cX5_fewestAsides 9 = .ok (.invokevirtual 72, 3) := by decide +kernel
theorem dX5_fewestAsides_12 : decode cX5_fewestAsides 12 = .ok (.istore_n 3, 1) := by decide +kernel
theorem dX5_fewestAsides_13 : decode cX5_fewestAsides 13 = .ok (.iload_n 3, 1) := by decide +kernel
theorem dX5_fewestAsides_14 : decode cX5_fewestAsides 14 = .ok (.sipush 1000, 3) := by decide +kernel
theorem dX5_fewestAsides_17 : decode cX5_fewestAsides 17 = .ok (.if_icmp .ge 7, 3) := by decide +kernel
theorem dX5_fewestAsides_20 : decode cX5_fewestAsides 20 = .ok (.iload_n 3, 1) := by decide +kernel
theorem dX5_fewestAsides_21 : decode cX5_fewestAsides 21 = .ok (.goto 5, 3) := by decide +kernel
theorem dX5_fewestAsides_24 : decode cX5_fewestAsides 24 = .ok (.bipush (-4), 2) := by decide +kernel
theorem dX5_fewestAsides_26 : decode cX5_fewestAsides 26 = .ok (.ireturn, 1) := by decide +kernel
theorem dX5_calmestAt_0 : decode cX5_calmestAt 0 = .ok (.aload_n 0, 1) := by decide +kernel
theorem dX5_calmestAt_1 : decode cX5_calmestAt 1 = .ok (.iload_n 1, 1) := by decide +kernel
theorem dX5_calmestAt_2 : decode cX5_calmestAt 2 = .ok (.iload_n 2, 1) := by decide +kernel
theorem dX5_calmestAt_3 : decode cX5_calmestAt 3 = .ok (.invokevirtual 76, 3) := by decide +kernel
theorem dX5_calmestAt_6 : decode cX5_calmestAt 6 = .ok (.bipush (-4), 2) := by decide +kernel
theorem dX5_calmestAt_8 : decode cX5_calmestAt 8 = .ok (.if_icmp .ne 6, 3) := by decide +kernel
theorem dX5_calmestAt_11 : decode cX5_calmestAt 11 = .ok (.bipush (-4), 2) := by decide +kernel
theorem dX5_calmestAt_13 : decode cX5_calmestAt 13 = .ok (.ireturn, 1) := by decide +kernel
theorem dX5_calmestAt_14 : decode cX5_calmestAt 14 = .ok (.iload_n 1, 1) := by decide +kernel
theorem dX5_calmestAt_15 : decode cX5_calmestAt 15 = .ok (.istore 4, 2) := by decide +kernel
theorem dX5_calmestAt_17 : decode cX5_calmestAt 17 = .ok (.iconst 0, 1) := by decide +kernel
theorem dX5_calmestAt_18 : decode cX5_calmestAt 18 = .ok (.istore 5, 2) := by decide +kernel
theorem dX5_calmestAt_20 : decode cX5_calmestAt 20 = .ok (.iload 5, 2) := by decide +kernel
theorem dX5_calmestAt_22 : decode cX5_calmestAt 22 = .ok (.iload_n 3, 1) := by decide +kernel
theorem dX5_calmestAt_23 : decode cX5_calmestAt 23 = .ok (.if_icmp .ge 19, 3) := by decide +kernel
theorem dX5_calmestAt_26 : decode cX5_calmestAt 26 = .ok (.aload_n 0, 1) := by decide +kernel
theorem dX5_calmestAt_27 : decode cX5_calmestAt 27 = .ok (.iload 5, 2) := by decide +kernel
theorem dX5_calmestAt_29 : decode cX5_calmestAt 29 = .ok (.iload 4, 2) := by decide +kernel
theorem dX5_calmestAt_31 : decode cX5_calmestAt 31 = .ok (.invokevirtual 79, 3) := by decide +kernel
theorem dX5_calmestAt_34 : decode cX5_calmestAt 34 = .ok (.istore 4, 2) := by decide +kernel
theorem dX5_calmestAt_36 : decode cX5_calmestAt 36 = .ok (.iinc 5 1, 3) := by decide +kernel
theorem dX5_calmestAt_39 : decode cX5_calmestAt 39 = .ok (.goto (-19), 3) := by decide +kernel
theorem dX5_calmestAt_42 : decode cX5_calmestAt 42 = .ok (.iload 4, 2) := by decide +kernel
theorem dX5_calmestAt_44 : decode cX5_calmestAt 44 = .ok (.ireturn, 1) := by decide +kernel
theorem dX5_tellAsides_0 : decode cX5_tellAsides 0 = .ok (.iload_n 1, 1) := by decide +kernel
theorem dX5_tellAsides_1 : decode cX5_tellAsides 1 = .ok (.istore_n 2, 1) := by decide +kernel
theorem dX5_tellAsides_2 : decode cX5_tellAsides 2 = .ok (.iload_n 2, 1) := by decide +kernel
theorem dX5_tellAsides_3 : decode cX5_tellAsides 3 = .ok (.iconst 1, 1) := by decide +kernel
theorem dX5_tellAsides_4 : decode cX5_tellAsides 4 = .ok (.if_icmp .lt 53, 3) := by decide +kernel
theorem dX5_tellAsides_7 : decode cX5_tellAsides 7 = .ok (.iconst 0, 1) := by decide +kernel
theorem dX5_tellAsides_8 : decode cX5_tellAsides 8 = .ok (.istore_n 3, 1) := by decide +kernel
theorem dX5_tellAsides_9 : decode cX5_tellAsides 9 = .ok (.iload_n 3, 1) := by decide +kernel
theorem dX5_tellAsides_10 : decode cX5_tellAsides 10 = .ok (.bipush 10, 2) := by decide +kernel
theorem dX5_tellAsides_12 : decode cX5_tellAsides 12 = .ok (.if_icmp .ge 39, 3) := by decide +kernel
theorem dX5_tellAsides_15 : decode cX5_tellAsides 15 = .ok (.aload_n 0, 1) := by decide +kernel
theorem dX5_tellAsides_16 : decode cX5_tellAsides 16 = .ok (.getfield 17, 3) := by decide +kernel
theorem dX5_tellAsides_19 : decode cX5_tellAsides 19 = .ok (.iload_n 2, 1) := by decide +kernel
theorem dX5_tellAsides_20 : decode cX5_tellAsides 20 = .ok (.aaload, 1) := by decide +kernel
theorem dX5_tellAsides_21 : decode cX5_tellAsides 21 = .ok (.iload_n 3, 1) := by decide +kernel
theorem dX5_tellAsides_22 : decode cX5_tellAsides 22 = .ok (.aload_n 0, 1) := by decide +kernel
theorem dX5_tellAsides_23 : decode cX5_tellAsides 23 = .ok (.iload_n 2, 1) := by decide +kernel
theorem dX5_tellAsides_24 : decode cX5_tellAsides 24 = .ok (.iload_n 3, 1) := by decide +kernel
theorem dX5_tellAsides_25 : decode cX5_tellAsides 25 = .ok (.invokevirtual 45, 3) := by decide +kernel
theorem dX5_tellAsides_28 : decode cX5_tellAsides 28 = .ok (.ifCond .eq 13, 3) := by decide +kernel
theorem dX5_tellAsides_31 : decode cX5_tellAsides 31 = .ok (.aload_n 0, 1) := by decide +kernel
theorem dX5_tellAsides_32 : decode cX5_tellAsides 32 = .ok (.iload_n 2, 1) := by decide +kernel
theorem dX5_tellAsides_33 : decode cX5_tellAsides 33 = .ok (.iload_n 3, 1) := by decide +kernel
theorem dX5_tellAsides_34 : decode cX5_tellAsides 34 = .ok (.iload_n 1, 1) := by decide +kernel
theorem dX5_tellAsides_35 : decode cX5_tellAsides 35 = .ok (.invokevirtual 72, 3) := by decide +kernel
theorem dX5_tellAsides_38 : decode cX5_tellAsides 38 = .ok (.goto 6, 3) := by decide +kernel
theorem dX5_tellAsides_41 : decode cX5_tellAsides 41 = .ok (.sipush 1000, 3) := by decide +kernel
theorem dX5_tellAsides_44 : decode cX5_tellAsides 44 = .ok (.iastore, 1) := by decide +kernel
theorem dX5_tellAsides_45 : decode cX5_tellAsides 45 = .ok (.iinc 3 1, 3) := by decide +kernel
theorem dX5_tellAsides_48 : decode cX5_tellAsides 48 = .ok (.goto (-39), 3) := by decide +kernel
theorem dX5_tellAsides_51 : decode cX5_tellAsides 51 = .ok (.iinc 2 (-1), 3) := by decide +kernel
theorem dX5_tellAsides_54 : decode cX5_tellAsides 54 = .ok (.goto (-52), 3) := by decide +kernel
theorem dX5_tellAsides_57 : decode cX5_tellAsides 57 = .ok (.return_, 1) := by decide +kernel
theorem dX5_fewestAfter_0 : decode cX5_fewestAfter 0 = .ok (.iload_n 1, 1) := by decide +kernel
theorem dX5_fewestAfter_1 : decode cX5_fewestAfter 1 = .ok (.iload_n 3, 1) := by decide +kernel
theorem dX5_fewestAfter_2 : decode cX5_fewestAfter 2 = .ok (.if_icmp .lt 5, 3) := by decide +kernel
theorem dX5_fewestAfter_5 : decode cX5_fewestAfter 5 = .ok (.iconst 0, 1) := by decide +kernel
theorem dX5_fewestAfter_6 : decode cX5_fewestAfter 6 = .ok (.ireturn, 1) := by decide +kernel
theorem dX5_fewestAfter_7 : decode cX5_fewestAfter 7 = .ok (.sipush 1000, 3) := by decide +kernel
theorem dX5_fewestAfter_10 : decode cX5_fewestAfter 10 = .ok (.aload_n 0, 1) := by decide +kernel
theorem dX5_fewestAfter_11 : decode cX5_fewestAfter 11 = .ok (.iload_n 1, 1) := by decide +kernel
theorem dX5_fewestAfter_12 : decode cX5_fewestAfter 12 = .ok (.iconst 1, 1) := by decide +kernel
theorem dX5_fewestAfter_13 : decode cX5_fewestAfter 13 = .ok (.iadd, 1) := by decide +kernel
theorem dX5_fewestAfter_14 : decode cX5_fewestAfter 14 = .ok (.iload_n 2, 1) := by decide +kernel
theorem dX5_fewestAfter_15 : decode cX5_fewestAfter 15 = .ok (.aload_n 0, 1) := by decide +kernel
theorem dX5_fewestAfter_16 : decode cX5_fewestAfter 16 = .ok (.iload_n 1, 1) := by decide +kernel
theorem dX5_fewestAfter_17 : decode cX5_fewestAfter 17 = .ok (.iload_n 2, 1) := by decide +kernel
theorem dX5_fewestAfter_18 : decode cX5_fewestAfter 18 = .ok (.invokevirtual 79, 3) := by decide +kernel
theorem dX5_fewestAfter_21 : decode cX5_fewestAfter 21 = .ok (.invokevirtual 82, 3) := by decide +kernel
theorem dX5_fewestAfter_24 : decode cX5_fewestAfter 24 = .ok (.invokestatic 85, 3) := by decide +kernel
theorem dX5_fewestAfter_27 : decode cX5_fewestAfter 27 = .ok (.ireturn, 1) := by decide +kernel
theorem dX5_asidesBy_0 : decode cX5_asidesBy 0 = .ok (.aload_n 0, 1) := by decide +kernel
theorem dX5_asidesBy_1 : decode cX5_asidesBy 1 = .ok (.getfield 17, 3) := by decide +kernel
theorem dX5_asidesBy_4 : decode cX5_asidesBy 4 = .ok (.iload_n 1, 1) := by decide +kernel
theorem dX5_asidesBy_5 : decode cX5_asidesBy 5 = .ok (.aaload, 1) := by decide +kernel
theorem dX5_asidesBy_6 : decode cX5_asidesBy 6 = .ok (.iload_n 3, 1) := by decide +kernel
theorem dX5_asidesBy_7 : decode cX5_asidesBy 7 = .ok (.iaload, 1) := by decide +kernel
theorem dX5_asidesBy_8 : decode cX5_asidesBy 8 = .ok (.iload_n 2, 1) := by decide +kernel
theorem dX5_asidesBy_9 : decode cX5_asidesBy 9 = .ok (.iload_n 3, 1) := by decide +kernel
theorem dX5_asidesBy_10 : decode cX5_asidesBy 10 = .ok (.if_icmp .ne 7, 3) := by decide +kernel
theorem dX5_asidesBy_13 : decode cX5_asidesBy 13 = .ok (.iconst 0, 1) := by decide +kernel
theorem dX5_asidesBy_14 : decode cX5_asidesBy 14 = .ok (.goto 4, 3) := by decide +kernel
theorem dX5_asidesBy_17 : decode cX5_asidesBy 17 = .ok (.iconst 1, 1) := by decide +kernel
theorem dX5_asidesBy_18 : decode cX5_asidesBy 18 = .ok (.iadd, 1) := by decide +kernel
theorem dX5_asidesBy_19 : decode cX5_asidesBy 19 = .ok (.ireturn, 1) := by decide +kernel
theorem dX5_calmestNext_0 : decode cX5_calmestNext 0 = .ok (.iload_n 2, 1) := by decide +kernel
theorem dX5_calmestNext_1 : decode cX5_calmestNext 1 = .ok (.istore_n 3, 1) := by decide +kernel
theorem dX5_calmestNext_2 : decode cX5_calmestNext 2 = .ok (.sipush 2000, 3) := by decide +kernel
theorem dX5_calmestNext_5 : decode cX5_calmestNext 5 = .ok (.istore 4, 2) := by decide +kernel
theorem dX5_calmestNext_7 : decode cX5_calmestNext 7 = .ok (.iload_n 2, 1) := by decide +kernel
theorem dX5_calmestNext_8 : decode cX5_calmestNext 8 = .ok (.iconst 1, 1) := by decide +kernel
theorem dX5_calmestNext_9 : decode cX5_calmestNext 9 = .ok (.isub, 1) := by decide +kernel
theorem dX5_calmestNext_10 : decode cX5_calmestNext 10 = .ok (.iconst 0, 1) := by decide +kernel
theorem dX5_calmestNext_11 : decode cX5_calmestNext 11 = .ok (.invokestatic 53, 3) := by decide +kernel
theorem dX5_calmestNext_14 : decode cX5_calmestNext 14 = .ok (.istore 5, 2) := by decide +kernel
theorem dX5_calmestNext_16 : decode cX5_calmestNext 16 = .ok (.iload 5, 2) := by decide +kernel
theorem dX5_calmestNext_18 : decode cX5_calmestNext 18 = .ok (.iload_n 2, 1) := by decide +kernel
theorem dX5_calmestNext_19 : decode cX5_calmestNext 19 = .ok (.iconst 1, 1) := by decide +kernel
theorem dX5_calmestNext_20 : decode cX5_calmestNext 20 = .ok (.iadd, 1) := by decide +kernel
theorem dX5_calmestNext_21 : decode cX5_calmestNext 21 = .ok (.bipush 9, 2) := by decide +kernel
theorem dX5_calmestNext_23 : decode cX5_calmestNext 23 = .ok (.invokestatic 85, 3) := by decide +kernel
theorem dX5_calmestNext_26 : decode cX5_calmestNext 26 = .ok (.if_icmp .gt 35, 3) := by decide +kernel
theorem dX5_calmestNext_29 : decode cX5_calmestNext 29 = .ok (.aload_n 0, 1) := by decide +kernel
theorem dX5_calmestNext_30 : decode cX5_calmestNext 30 = .ok (.iload_n 1, 1) := by decide +kernel
theorem dX5_calmestNext_31 : decode cX5_calmestNext 31 = .ok (.iconst 1, 1) := by decide +kernel
theorem dX5_calmestNext_32 : decode cX5_calmestNext 32 = .ok (.iadd, 1) := by decide +kernel
theorem dX5_calmestNext_33 : decode cX5_calmestNext 33 = .ok (.iload_n 2, 1) := by decide +kernel
theorem dX5_calmestNext_34 : decode cX5_calmestNext 34 = .ok (.iload 5, 2) := by decide +kernel
theorem dX5_calmestNext_36 : decode cX5_calmestNext 36 = .ok (.invokevirtual 82, 3) := by decide +kernel
theorem dX5_calmestNext_39 : decode cX5_calmestNext 39 = .ok (.istore 6, 2) := by decide +kernel
theorem dX5_calmestNext_41 : decode cX5_calmestNext 41 = .ok (.iload 6, 2) := by decide +kernel
theorem dX5_calmestNext_43 : decode cX5_calmestNext 43 = .ok (.iload 4, 2) := by decide +kernel
theorem dX5_calmestNext_45 : decode cX5_calmestNext 45 = .ok (.if_icmp .ge 10, 3) := by decide +kernel
theorem dX5_calmestNext_48 : decode cX5_calmestNext 48 = .ok (.iload 6, 2) := by decide +kernel
theorem dX5_calmestNext_50 : decode cX5_calmestNext 50 = .ok (.istore 4, 2) := by decide +kernel
theorem dX5_calmestNext_52 : decode cX5_calmestNext 52 = .ok (.iload 5, 2) := by decide +kernel
theorem dX5_calmestNext_54 : decode cX5_calmestNext 54 = .ok (.istore_n 3, 1) := by decide +kernel
theorem dX5_calmestNext_55 : decode cX5_calmestNext 55 = .ok (.iinc 5 1, 3) := by decide +kernel
theorem dX5_calmestNext_58 : decode cX5_calmestNext 58 = .ok (.goto (-42), 3) := by decide +kernel
theorem dX5_calmestNext_61 : decode cX5_calmestNext 61 = .ok (.iload_n 3, 1) := by decide +kernel
theorem dX5_calmestNext_62 : decode cX5_calmestNext 62 = .ok (.ireturn, 1) := by decide +kernel
theorem dX6_init_0 : decode cX6_init 0 = .ok (.aload_n 0, 1) := by decide +kernel
theorem dX6_init_1 : decode cX6_init 1 = .ok (.invokespecial 3, 3) := by decide +kernel
theorem dX6_init_4 : decode cX6_init 4 = .ok (.aload_n 0, 1) := by decide +kernel
theorem dX6_init_5 : decode cX6_init 5 = .ok (.bipush 60, 2) := by decide +kernel
theorem dX6_init_7 : decode cX6_init 7 = .ok (.newarray .int, 2) := by decide +kernel
theorem dX6_init_9 : decode cX6_init 9 = .ok (.putfield 9, 3) := by decide +kernel
theorem dX6_init_12 : decode cX6_init 12 = .ok (.aload_n 0, 1) := by decide +kernel
theorem dX6_init_13 : decode cX6_init 13 = .ok (.iconst 0, 1) := by decide +kernel
theorem dX6_init_14 : decode cX6_init 14 = .ok (.putfield 15, 3) := by decide +kernel
theorem dX6_init_17 : decode cX6_init 17 = .ok (.return_, 1) := by decide +kernel
theorem dX6_isFull_0 : decode cX6_isFull 0 = .ok (.aload_n 0, 1) := by decide +kernel
theorem dX6_isFull_1 : decode cX6_isFull 1 = .ok (.getfield 15, 3) := by decide +kernel
theorem dX6_isFull_4 : decode cX6_isFull 4 = .ok (.bipush 60, 2) := by decide +kernel
theorem dX6_isFull_6 : decode cX6_isFull 6 = .ok (.if_icmp .lt 7, 3) := by decide +kernel
theorem dX6_isFull_9 : decode cX6_isFull 9 = .ok (.iconst 1, 1) := by decide +kernel
theorem dX6_isFull_10 : decode cX6_isFull 10 = .ok (.goto 4, 3) := by decide +kernel
theorem dX6_isFull_13 : decode cX6_isFull 13 = .ok (.iconst 0, 1) := by decide +kernel
theorem dX6_isFull_14 : decode cX6_isFull 14 = .ok (.ireturn, 1) := by decide +kernel
theorem dX6_add_0 : decode cX6_add 0 = .ok (.aload_n 0, 1) := by decide +kernel
theorem dX6_add_1 : decode cX6_add 1 = .ok (.invokevirtual 19, 3) := by decide +kernel
theorem dX6_add_4 : decode cX6_add 4 = .ok (.ifCond .ne 23, 3) := by decide +kernel
theorem dX6_add_7 : decode cX6_add 7 = .ok (.aload_n 0, 1) := by decide +kernel
theorem dX6_add_8 : decode cX6_add 8 = .ok (.getfield 9, 3) := by decide +kernel
theorem dX6_add_11 : decode cX6_add 11 = .ok (.aload_n 0, 1) := by decide +kernel
theorem dX6_add_12 : decode cX6_add 12 = .ok (.getfield 15, 3) := by decide +kernel
theorem dX6_add_15 : decode cX6_add 15 = .ok (.iload_n 1, 1) := by decide +kernel
theorem dX6_add_16 : decode cX6_add 16 = .ok (.iastore, 1) := by decide +kernel
theorem dX6_add_17 : decode cX6_add 17 = .ok (.aload_n 0, 1) := by decide +kernel
theorem dX6_add_18 : decode cX6_add 18 = .ok (.dup, 1) := by decide +kernel
theorem dX6_add_19 : decode cX6_add 19 = .ok (.getfield 15, 3) := by decide +kernel
theorem dX6_add_22 : decode cX6_add 22 = .ok (.iconst 1, 1) := by decide +kernel
theorem dX6_add_23 : decode cX6_add 23 = .ok (.iadd, 1) := by decide +kernel
theorem dX6_add_24 : decode cX6_add 24 = .ok (.putfield 15, 3) := by decide +kernel
theorem dX6_add_27 : decode cX6_add 27 = .ok (.return_, 1) := by decide +kernel
theorem dX6_faultInSteps_0 : decode cX6_faultInSteps 0 = .ok (.iconst 0, 1) := by decide +kernel
theorem dX6_faultInSteps_1 : decode cX6_faultInSteps 1 = .ok (.istore_n 1, 1) := by decide +kernel
theorem dX6_faultInSteps_2 : decode cX6_faultInSteps 2 = .ok (.iload_n 1, 1) := by decide +kernel
theorem dX6_faultInSteps_3 : decode cX6_faultInSteps 3 = .ok (.aload_n 0, 1) := by decide +kernel
theorem dX6_faultInSteps_4 : decode cX6_faultInSteps 4 = .ok (.getfield 15, 3) := by decide +kernel
theorem dX6_faultInSteps_7 : decode cX6_faultInSteps 7 = .ok (.if_icmp .ge 23, 3) := by decide +kernel
theorem dX6_faultInSteps_10 : decode cX6_faultInSteps 10 = .ok (.aload_n 0, 1) := by decide +kernel
theorem dX6_faultInSteps_11 : decode cX6_faultInSteps 11 = .ok (.getfield 9, 3) := by decide +kernel
theorem dX6_faultInSteps_14 : decode cX6_faultInSteps 14 = .ok (.iload_n 1, 1) := by decide +kernel
theorem dX6_faultInSteps_15 : decode cX6_faultInSteps 15 = .ok (.iaload, 1) := by decide +kernel
theorem dX6_faultInSteps_16 : decode cX6_faultInSteps 16 = .ok (.invokestatic 23, 3) := by decide +kernel
theorem dX6_faultInSteps_19 : decode cX6_faultInSteps 19 = .ok (.ifCond .ne 5, 3) := by decide +kernel
theorem dX6_faultInSteps_22 : decode cX6_faultInSteps 22 = .ok (.iload_n 1, 1) := by decide +kernel
theorem dX6_faultInSteps_23 : decode cX6_faultInSteps 23 = .ok (.ireturn, 1) := by decide +kernel
theorem dX6_faultInSteps_24 : decode cX6_faultInSteps 24 = .ok (.iinc 1 1, 3) := by decide +kernel
theorem dX6_faultInSteps_27 : decode cX6_faultInSteps 27 = .ok (.goto (-25), 3) := by decide +kernel
theorem dX6_faultInSteps_30 : decode cX6_faultInSteps 30 = .ok (.aload_n 0, 1) := by decide +kernel
theorem dX6_faultInSteps_31 : decode cX6_faultInSteps 31 = .ok (.getfield 15, 3) := by decide +kernel
theorem dX6_faultInSteps_34 : decode cX6_faultInSteps 34 = .ok (.ifCond .ne 7, 3) := by decide +kernel
theorem dX6_faultInSteps_37 : decode cX6_faultInSteps 37 = .ok (.iconst 0, 1) := by decide +kernel
theorem dX6_faultInSteps_38 : decode cX6_faultInSteps 38 = .ok (.goto 5, 3) := by decide +kernel
theorem dX6_faultInSteps_41 : decode cX6_faultInSteps 41 = .ok (.bipush (-4), 2) := by decide +kernel
theorem dX6_faultInSteps_43 : decode cX6_faultInSteps 43 = .ok (.ireturn, 1) := by decide +kernel
theorem dX6_isStepSign_0 : decode cX6_isStepSign 0 = .ok (.iload_n 0, 1) := by decide +kernel
theorem dX6_isStepSign_1 : decode cX6_isStepSign 1 = .ok (.bipush 108, 2) := by decide +kernel
theorem dX6_isStepSign_3 : decode cX6_isStepSign 3 = .ok (.if_icmp .eq 21, 3) := by decide +kernel
theorem dX6_isStepSign_6 : decode cX6_isStepSign 6 = .ok (.iload_n 0, 1) := by decide +kernel
theorem dX6_isStepSign_7 : decode cX6_isStepSign 7 = .ok (.bipush 115, 2) := by decide +kernel
theorem dX6_isStepSign_9 : decode cX6_isStepSign 9 = .ok (.if_icmp .eq 15, 3) := by decide +kernel
theorem dX6_isStepSign_12 : decode cX6_isStepSign 12 = .ok (.iload_n 0, 1) := by decide +kernel
theorem dX6_isStepSign_13 : decode cX6_isStepSign 13 = .ok (.bipush 114, 2) := by decide +kernel
theorem dX6_isStepSign_15 : decode cX6_isStepSign 15 = .ok (.if_icmp .eq 9, 3) := by decide +kernel
theorem dX6_isStepSign_18 : decode cX6_isStepSign 18 = .ok (.iload_n 0, 1) := by decide +kernel
theorem dX6_isStepSign_19 : decode cX6_isStepSign 19 = .ok (.bipush 98, 2) := by decide +kernel
theorem dX6_isStepSign_21 : decode cX6_isStepSign 21 = .ok (.if_icmp .ne 7, 3) := by decide +kernel
theorem dX6_isStepSign_24 : decode cX6_isStepSign 24 = .ok (.iconst 1, 1) := by decide +kernel
theorem dX6_isStepSign_25 : decode cX6_isStepSign 25 = .ok (.goto 4, 3) := by decide +kernel
theorem dX6_isStepSign_28 : decode cX6_isStepSign 28 = .ok (.iconst 0, 1) := by decide +kernel
theorem dX6_isStepSign_29 : decode cX6_isStepSign 29 = .ok (.ireturn, 1) := by decide +kernel
theorem dX7_init_0 : decode cX7_init 0 = .ok (.aload_n 0, 1) := by decide +kernel
theorem dX7_init_1 : decode cX7_init 1 = .ok (.invokespecial 1, 3) := by decide +kernel
theorem dX7_init_4 : decode cX7_init 4 = .ok (.aload_n 0, 1) := by decide +kernel
theorem dX7_init_5 : decode cX7_init 5 = .ok (.new 7, 3) := by decide +kernel
theorem dX7_init_8 : decode cX7_init 8 = .ok (.dup, 1) := by decide +kernel
theorem dX7_init_9 : decode cX7_init 9 = .ok (.invokespecial 9, 3) := by decide +kernel
theorem dX7_init_12 : decode cX7_init 12 = .ok (.putfield 10, 3) := by decide +kernel
theorem dX7_init_15 : decode cX7_init 15 = .ok (.aload_n 0, 1) := by decide +kernel
theorem dX7_init_16 : decode cX7_init 16 = .ok (.new 7, 3) := by decide +kernel
theorem dX7_init_19 : decode cX7_init 19 = .ok (.dup, 1) := by decide +kernel
theorem dX7_init_20 : decode cX7_init 20 = .ok (.invokespecial 9, 3) := by decide +kernel
theorem dX7_init_23 : decode cX7_init 23 = .ok (.putfield 16, 3) := by decide +kernel
theorem dX7_init_26 : decode cX7_init 26 = .ok (.aload_n 0, 1) := by decide +kernel
theorem dX7_init_27 : decode cX7_init 27 = .ok (.new 7, 3) := by decide +kernel
theorem dX7_init_30 : decode cX7_init 30 = .ok (.dup, 1) := by decide +kernel
theorem dX7_init_31 : decode cX7_init 31 = .ok (.invokespecial 9, 3) := by decide +kernel
theorem dX7_init_34 : decode cX7_init 34 = .ok (.putfield 19, 3) := by decide +kernel
theorem dX7_init_37 : decode cX7_init 37 = .ok (.aload_n 0, 1) := by decide +kernel
theorem dX7_init_38 : decode cX7_init 38 = .ok (.iconst 0, 1) := by decide +kernel
theorem dX7_init_39 : decode cX7_init 39 = .ok (.putfield 22, 3) := by decide +kernel
theorem dX7_init_42 : decode cX7_init 42 = .ok (.aload_n 0, 1) := by decide +kernel
theorem dX7_init_43 : decode cX7_init 43 = .ok (.new 26, 3) := by decide +kernel
theorem dX7_init_46 : decode cX7_init 46 = .ok (.dup, 1) := by decide +kernel
theorem dX7_init_47 : decode cX7_init 47 = .ok (.invokespecial 28, 3) := by decide +kernel
theorem dX7_init_50 : decode cX7_init 50 = .ok (.putfield 29, 3) := by decide +kernel
theorem dX7_init_53 : decode cX7_init 53 = .ok (.aload_n 0, 1) := by decide +kernel
theorem dX7_init_54 : decode cX7_init 54 = .ok (.new 33, 3) := by decide +kernel
theorem dX7_init_57 : decode cX7_init 57 = .ok (.dup, 1) := by decide +kernel
theorem dX7_init_58 : decode cX7_init 58 = .ok (.invokespecial 35, 3) := by decide +kernel
theorem dX7_init_61 : decode cX7_init 61 = .ok (.putfield 36, 3) := by decide +kernel
theorem dX7_init_64 : decode cX7_init 64 = .ok (.aload_n 0, 1) := by decide +kernel
theorem dX7_init_65 : decode cX7_init 65 = .ok (.new 40, 3) := by decide +kernel
theorem dX7_init_68 : decode cX7_init 68 = .ok (.dup, 1) := by decide +kernel
theorem dX7_init_69 : decode cX7_init 69 = .ok (.invokespecial 42, 3) := by decide +kernel
theorem dX7_init_72 : decode cX7_init 72 = .ok (.putfield 43, 3) := by decide +kernel
theorem dX7_init_75 : decode cX7_init 75 = .ok (.aload_n 0, 1) := by decide +kernel
theorem dX7_init_76 : decode cX7_init 76 = .ok (.new 47, 3) := by decide +kernel
theorem dX7_init_79 : decode cX7_init 79 = .ok (.dup, 1) := by decide +kernel
theorem dX7_init_80 : decode cX7_init 80 = .ok (.invokespecial 49, 3) := by decide +kernel
theorem dX7_init_83 : decode cX7_init 83 = .ok (.putfield 50, 3) := by decide +kernel
theorem dX7_init_86 : decode cX7_init 86 = .ok (.return_, 1) := by decide +kernel
theorem dX7_emitter_0 : decode cX7_emitter 0 = .ok (.iload_n 1, 1) := by decide +kernel
theorem dX7_emitter_1 : decode cX7_emitter 1 = .ok (.invokestatic 54, 3) := by decide +kernel
theorem dX7_emitter_4 : decode cX7_emitter 4 = .ok (.ifCond .eq 17, 3) := by decide +kernel
theorem dX7_emitter_7 : decode cX7_emitter 7 = .ok (.iload_n 2, 1) := by decide +kernel
theorem dX7_emitter_8 : decode cX7_emitter 8 = .ok (.invokestatic 58, 3) := by decide +kernel
theorem dX7_emitter_11 : decode cX7_emitter 11 = .ok (.ifCond .eq 10, 3) := by decide +kernel
theorem dX7_emitter_14 : decode cX7_emitter 14 = .ok (.iload_n 3, 1) := by decide +kernel
theorem dX7_emitter_15 : decode cX7_emitter 15 = .ok (.invokestatic 61, 3) := by decide +kernel
theorem dX7_emitter_18 : decode cX7_emitter 18 = .ok (.ifCond .ne 5, 3) := by decide +kernel
theorem dX7_emitter_21 : decode cX7_emitter 21 = .ok (.iconst (-1), 1) := by decide +kernel
theorem dX7_emitter_22 : decode cX7_emitter 22 = .ok (.ireturn, 1) := by decide +kernel
theorem dX7_emitter_23 : decode cX7_emitter 23 = .ok (.iload 4, 2) := by decide +kernel
theorem dX7_emitter_25 : decode cX7_emitter 25 = .ok (.ifCond .lt 9, 3) := by decide +kernel
theorem dX7_emitter_28 : decode cX7_emitter 28 = .ok (.iload 4, 2) := by decide +kernel
theorem dX7_emitter_30 : decode cX7_emitter 30 = .ok (.iload_n 3, 1) := by decide +kernel
theorem dX7_emitter_31 : decode cX7_emitter 31 = .ok (.if_icmp .lt 5, 3) := by decide +kernel
theorem dX7_emitter_34 : decode cX7_emitter 34 = .ok (.iconst (-1), 1) := by decide +kernel
theorem dX7_emitter_35 : decode cX7_emitter 35 = .ok (.ireturn, 1) := by decide +kernel
theorem dX7_emitter_36 : decode cX7_emitter 36 = .ok (.aload_n 0, 1) := by decide +kernel
theorem dX7_emitter_37 : decode cX7_emitter 37 = .ok (.getfield 10, 3) := by decide +kernel
theorem dX7_emitter_40 : decode cX7_emitter 40 = .ok (.getfield 64, 3) := by decide +kernel
theorem dX7_emitter_43 : decode cX7_emitter 43 = .ok (.invokevirtual 68, 3) := by decide +kernel
theorem dX7_emitter_46 : decode cX7_emitter 46 = .ok (.ifCond .eq 6, 3) := by decide +kernel
theorem dX7_emitter_49 : decode cX7_emitter 49 = .ok (.bipush (-3), 2) := by decide +kernel
theorem dX7_emitter_51 : decode cX7_emitter 51 = .ok (.ireturn, 1) := by decide +kernel
theorem dX7_emitter_52 : decode cX7_emitter 52 = .ok (.aload_n 0, 1) := by decide +kernel
theorem dX7_emitter_53 : decode cX7_emitter 53 = .ok (.getfield 29, 3) := by decide +kernel
theorem dX7_emitter_56 : decode cX7_emitter 56 = .ok (.aload_n 0, 1) := by decide +kernel
theorem dX7_emitter_57 : decode cX7_emitter 57 = .ok (.getfield 10, 3) := by decide +kernel
theorem dX7_emitter_60 : decode cX7_emitter 60 = .ok (.invokevirtual 74, 3) := by decide +kernel
theorem dX7_emitter_63 : decode cX7_emitter 63 = .ok (.aload_n 0, 1) := by decide +kernel
theorem dX7_emitter_64 : decode cX7_emitter 64 = .ok (.getfield 10, 3) := by decide +kernel
theorem dX7_emitter_67 : decode cX7_emitter 67 = .ok (.getfield 64, 3) := by decide +kernel
theorem dX7_emitter_70 : decode cX7_emitter 70 = .ok (.iload_n 1, 1) := by decide +kernel
theorem dX7_emitter_71 : decode cX7_emitter 71 = .ok (.iload_n 2, 1) := by decide +kernel
theorem dX7_emitter_72 : decode cX7_emitter 72 = .ok (.iload_n 3, 1) := by decide +kernel
theorem dX7_emitter_73 : decode cX7_emitter 73 = .ok (.iload 4, 2) := by decide +kernel
theorem dX7_emitter_75 : decode cX7_emitter 75 = .ok (.invokevirtual 78, 3) := by decide +kernel
theorem dX7_emitter_78 : decode cX7_emitter 78 = .ok (.aload_n 0, 1) := by decide +kernel
theorem dX7_emitter_79 : decode cX7_emitter 79 = .ok (.getfield 10, 3) := by decide +kernel
theorem dX7_emitter_82 : decode cX7_emitter 82 = .ok (.getfield 64, 3) := by decide +kernel
theorem dX7_emitter_85 : decode cX7_emitter 85 = .ok (.getfield 82, 3) := by decide +kernel
theorem dX7_emitter_88 : decode cX7_emitter 88 = .ok (.iconst 1, 1) := by decide +kernel
theorem dX7_emitter_89 : decode cX7_emitter 89 = .ok (.isub, 1) := by decide +kernel
theorem dX7_emitter_90 : decode cX7_emitter 90 = .ok (.ireturn, 1) := by decide +kernel
theorem dX7_takeAway_0 : decode cX7_takeAway 0 = .ok (.aload_n 0, 1) := by decide +kernel
theorem dX7_takeAway_1 : decode cX7_takeAway 1 = .ok (.getfield 10, 3) := by decide +kernel
theorem dX7_takeAway_4 : decode cX7_takeAway 4 = .ok (.getfield 64, 3) := by decide +kernel
theorem dX7_takeAway_7 : decode cX7_takeAway 7 = .ok (.iload_n 1, 1) := by decide +kernel
theorem dX7_takeAway_8 : decode cX7_takeAway 8 = .ok (.invokevirtual 86, 3) := by decide +kernel
theorem dX7_takeAway_11 : decode cX7_takeAway 11 = .ok (.ifCond .ne 5, 3) := by decide +kernel
theorem dX7_takeAway_14 : decode cX7_takeAway 14 = .ok (.iconst (-1), 1) := by decide +kernel
theorem dX7_takeAway_15 : decode cX7_takeAway 15 = .ok (.ireturn, 1) := by decide +kernel
theorem dX7_takeAway_16 : decode cX7_takeAway 16 = .ok (.aload_n 0, 1) := by decide +kernel
theorem dX7_takeAway_17 : decode cX7_takeAway 17 = .ok (.getfield 29, 3) := by decide +kernel
theorem dX7_takeAway_20 : decode cX7_takeAway 20 = .ok (.aload_n 0, 1) := by decide +kernel
theorem dX7_takeAway_21 : decode cX7_takeAway 21 = .ok (.getfield 10, 3) := by decide +kernel
theorem dX7_takeAway_24 : decode cX7_takeAway 24 = .ok (.invokevirtual 74, 3) := by decide +kernel
theorem dX7_takeAway_27 : decode cX7_takeAway 27 = .ok (.aload_n 0, 1) := by decide +kernel
theorem dX7_takeAway_28 : decode cX7_takeAway 28 = .ok (.getfield 10, 3) := by decide +kernel
theorem dX7_takeAway_31 : decode cX7_takeAway 31 = .ok (.getfield 64, 3) := by decide +kernel
theorem dX7_takeAway_34 : decode cX7_takeAway 34 = .ok (.iload_n 1, 1) := by decide +kernel
theorem dX7_takeAway_35 : decode cX7_takeAway 35 = .ok (.invokevirtual 89, 3) := by decide +kernel
theorem dX7_takeAway_38 : decode cX7_takeAway 38 = .ok (.aload_n 0, 1) := by decide +kernel
theorem dX7_takeAway_39 : decode cX7_takeAway 39 = .ok (.getfield 10, 3) := by decide +kernel
theorem dX7_takeAway_42 : decode cX7_takeAway 42 = .ok (.getfield 64, 3) := by decide +kernel
theorem dX7_takeAway_45 : decode cX7_takeAway 45 = .ok (.getfield 82, 3) := by decide +kernel
theorem dX7_takeAway_48 : decode cX7_takeAway 48 = .ok (.ireturn, 1) := by decide +kernel
theorem dX7_tick_0 : decode cX7_tick 0 = .ok (.iload_n 1, 1) := by decide +kernel
theorem dX7_tick_1 : decode cX7_tick 1 = .ok (.invokestatic 93, 3) := by decide +kernel
theorem dX7_tick_4 : decode cX7_tick 4 = .ok (.ifCond .ne 5, 3) := by decide +kernel
theorem dX7_tick_7 : decode cX7_tick 7 = .ok (.iconst (-1), 1) := by decide +kernel
theorem dX7_tick_8 : decode cX7_tick 8 = .ok (.ireturn, 1) := by decide +kernel
theorem dX7_tick_9 : decode cX7_tick 9 = .ok (.aload_n 0, 1) := by decide +kernel
theorem dX7_tick_10 : decode cX7_tick 10 = .ok (.getfield 10, 3) := by decide +kernel
theorem dX7_tick_13 : decode cX7_tick 13 = .ok (.getfield 96, 3) := by decide +kernel
theorem dX7_tick_16 : decode cX7_tick 16 = .ok (.ifCond .eq 6, 3) := by decide +kernel
theorem dX7_tick_19 : decode cX7_tick 19 = .ok (.bipush (-2), 2) := by decide +kernel
theorem dX7_tick_21 : decode cX7_tick 21 = .ok (.ireturn, 1) := by decide +kernel
theorem dX7_tick_22 : decode cX7_tick 22 = .ok (.aload_n 0, 1) := by decide +kernel
theorem dX7_tick_23 : decode cX7_tick 23 = .ok (.getfield 29, 3) := by decide +kernel
theorem dX7_tick_26 : decode cX7_tick 26 = .ok (.aload_n 0, 1) := by decide +kernel
theorem dX7_tick_27 : decode cX7_tick 27 = .ok (.getfield 10, 3) := by decide +kernel
theorem dX7_tick_30 : decode cX7_tick 30 = .ok (.invokevirtual 74, 3) := by decide +kernel
theorem dX7_tick_33 : decode cX7_tick 33 = .ok (.aload_n 0, 1) := by decide +kernel
theorem dX7_tick_34 : decode cX7_tick 34 = .ok (.getfield 10, 3) := by decide +kernel
theorem dX7_tick_37 : decode cX7_tick 37 = .ok (.iload_n 1, 1) := by decide +kernel
theorem dX7_tick_38 : decode cX7_tick 38 = .ok (.invokevirtual 99, 3) := by decide +kernel
theorem dX7_tick_41 : decode cX7_tick 41 = .ok (.ireturn, 1) := by decide +kernel
theorem dX7_bomb_0 : decode cX7_bomb 0 = .ok (.aload_n 0, 1) := by decide +kernel
theorem dX7_bomb_1 : decode cX7_bomb 1 = .ok (.getfield 10, 3) := by decide +kernel
theorem dX7_bomb_4 : decode cX7_bomb 4 = .ok (.invokevirtual 103, 3) := by decide +kernel
theorem dX7_bomb_7 : decode cX7_bomb 7 = .ok (.ifCond .ne 6, 3) := by decide +kernel
theorem dX7_bomb_10 : decode cX7_bomb 10 = .ok (.bipush (-2), 2) := by decide +kernel
theorem dX7_bomb_12 : decode cX7_bomb 12 = .ok (.ireturn, 1) := by decide +kernel
theorem dX7_bomb_13 : decode cX7_bomb 13 = .ok (.aload_n 0, 1) := by decide +kernel
theorem dX7_bomb_14 : decode cX7_bomb 14 = .ok (.getfield 29, 3) := by decide +kernel
theorem dX7_bomb_17 : decode cX7_bomb 17 = .ok (.aload_n 0, 1) := by decide +kernel
theorem dX7_bomb_18 : decode cX7_bomb 18 = .ok (.getfield 10, 3) := by decide +kernel
theorem dX7_bomb_21 : decode cX7_bomb 21 = .ok (.invokevirtual 74, 3) := by decide +kernel
theorem dX7_bomb_24 : decode cX7_bomb 24 = .ok (.aload_n 0, 1) := by decide +kernel
theorem dX7_bomb_25 : decode cX7_bomb 25 = .ok (.getfield 10, 3) := by decide +kernel
theorem dX7_bomb_28 : decode cX7_bomb 28 = .ok (.invokevirtual 106, 3) := by decide +kernel
theorem dX7_bomb_31 : decode cX7_bomb 31 = .ok (.ireturn, 1) := by decide +kernel
theorem dX7_clearField_0 : decode cX7_clearField 0 = .ok (.aload_n 0, 1) := by decide +kernel
theorem dX7_clearField_1 : decode cX7_clearField 1 = .ok (.getfield 29, 3) := by decide +kernel
theorem dX7_clearField_4 : decode cX7_clearField 4 = .ok (.aload_n 0, 1) := by decide +kernel
theorem dX7_clearField_5 : decode cX7_clearField 5 = .ok (.getfield 10, 3) := by decide +kernel
theorem dX7_clearField_8 : decode cX7_clearField 8 = .ok (.invokevirtual 74, 3) := by decide +kernel
theorem dX7_clearField_11 : decode cX7_clearField 11 = .ok (.aload_n 0, 1) := by decide +kernel
theorem dX7_clearField_12 : decode cX7_clearField 12 = .ok (.getfield 10, 3) := by decide +kernel
theorem dX7_clearField_15 : decode cX7_clearField 15 = .ok (.invokevirtual 110, 3) := by decide +kernel
theorem dX7_clearField_18 : decode cX7_clearField 18 = .ok (.ireturn, 1) := by decide +kernel
theorem dX7_set_0 : decode cX7_set 0 = .ok (.iload_n 1, 1) := by decide +kernel
theorem dX7_set_1 : decode cX7_set 1 = .ok (.iload_n 2, 1) := by decide +kernel
theorem dX7_set_2 : decode cX7_set 2 = .ok (.invokestatic 113, 3) := by decide +kernel
theorem dX7_set_5 : decode cX7_set 5 = .ok (.ifCond .ne 5, 3) := by decide +kernel
theorem dX7_set_8 : decode cX7_set 8 = .ok (.iconst (-1), 1) := by decide +kernel
theorem dX7_set_9 : decode cX7_set 9 = .ok (.ireturn, 1) := by decide +kernel
theorem dX7_set_10 : decode cX7_set 10 = .ok (.aload_n 0, 1) := by decide +kernel
theorem dX7_set_11 : decode cX7_set 11 = .ok (.getfield 29, 3) := by decide +kernel
theorem dX7_set_14 : decode cX7_set 14 = .ok (.aload_n 0, 1) := by decide +kernel
theorem dX7_set_15 : decode cX7_set 15 = .ok (.getfield 10, 3) := by decide +kernel
theorem dX7_set_18 : decode cX7_set 18 = .ok (.invokevirtual 74, 3) := by decide +kernel
theorem dX7_set_21 : decode cX7_set 21 = .ok (.aload_n 0, 1) := by decide +kernel
theorem dX7_set_22 : decode cX7_set 22 = .ok (.getfield 10, 3) := by decide +kernel
theorem dX7_set_25 : decode cX7_set 25 = .ok (.getfield 117, 3) := by decide +kernel
theorem dX7_set_28 : decode cX7_set 28 = .ok (.iload_n 1, 1) := by decide +kernel
theorem dX7_set_29 : decode cX7_set 29 = .ok (.iaload, 1) := by decide +kernel
theorem dX7_set_30 : decode cX7_set 30 = .ok (.istore_n 3, 1) := by decide +kernel
theorem dX7_set_31 : decode cX7_set 31 = .ok (.aload_n 0, 1) := by decide +kernel
theorem dX7_set_32 : decode cX7_set 32 = .ok (.getfield 10, 3) := by decide +kernel
theorem dX7_set_35 : decode cX7_set 35 = .ok (.getfield 117, 3) := by decide +kernel
theorem dX7_set_38 : decode cX7_set 38 = .ok (.iload_n 1, 1) := by decide +kernel
theorem dX7_set_39 : decode cX7_set 39 = .ok (.iload_n 2, 1) := by decide +kernel
theorem dX7_set_40 : decode cX7_set 40 = .ok (.iastore, 1) := by decide +kernel
theorem dX7_set_41 : decode cX7_set 41 = .ok (.iload_n 3, 1) := by decide +kernel
theorem dX7_set_42 : decode cX7_set 42 = .ok (.ireturn, 1) := by decide +kernel
theorem dX7_append_0 : decode cX7_append 0 = .ok (.iload_n 1, 1) := by decide +kernel
theorem dX7_append_1 : decode cX7_append 1 = .ok (.bipush 33, 2) := by decide +kernel
theorem dX7_append_3 : decode cX7_append 3 = .ok (.if_icmp .lt 9, 3) := by decide +kernel
theorem dX7_append_6 : decode cX7_append 6 = .ok (.iload_n 1, 1) := by decide +kernel
theorem dX7_append_7 : decode cX7_append 7 = .ok (.bipush 126, 2) := by decide +kernel
theorem dX7_append_9 : decode cX7_append 9 = .ok (.if_icmp .le 5, 3) := by decide +kernel
theorem dX7_append_12 : decode cX7_append 12 = .ok (.iconst (-1), 1) := by decide +kernel
theorem dX7_append_13 : decode cX7_append 13 = .ok (.ireturn, 1) := by decide +kernel
theorem dX7_append_14 : decode cX7_append 14 = .ok (.aload_n 0, 1) := by decide +kernel
theorem dX7_append_15 : decode cX7_append 15 = .ok (.getfield 36, 3) := by decide +kernel
theorem dX7_append_18 : decode cX7_append 18 = .ok (.invokevirtual 121, 3) := by decide +kernel
theorem dX7_append_21 : decode cX7_append 21 = .ok (.ifCond .eq 6, 3) := by decide +kernel
theorem dX7_append_24 : decode cX7_append 24 = .ok (.bipush (-3), 2) := by decide +kernel
theorem dX7_append_26 : decode cX7_append 26 = .ok (.ireturn, 1) := by decide +kernel
theorem dX7_append_27 : decode cX7_append 27 = .ok (.aload_n 0, 1) := by decide +kernel
theorem dX7_append_28 : decode cX7_append 28 = .ok (.getfield 36, 3) := by decide +kernel
theorem dX7_append_31 : decode cX7_append 31 = .ok (.iload_n 1, 1) := by decide +kernel
theorem dX7_append_32 : decode cX7_append 32 = .ok (.invokevirtual 122, 3) := by decide +kernel
theorem dX7_append_35 : decode cX7_append 35 = .ok (.aload_n 0, 1) := by decide +kernel
theorem dX7_append_36 : decode cX7_append 36 = .ok (.getfield 36, 3) := by decide +kernel
theorem dX7_append_39 : decode cX7_append 39 = .ok (.getfield 124, 3) := by decide +kernel
theorem dX7_append_42 : decode cX7_append 42 = .ok (.ireturn, 1) := by decide +kernel
theorem dX7_clear_0 : decode cX7_clear 0 = .ok (.aload_n 0, 1) := by decide +kernel
theorem dX7_clear_1 : decode cX7_clear 1 = .ok (.getfield 36, 3) := by decide +kernel
theorem dX7_clear_4 : decode cX7_clear 4 = .ok (.getfield 124, 3) := by decide +kernel
theorem dX7_clear_7 : decode cX7_clear 7 = .ok (.istore_n 1, 1) := by decide +kernel
theorem dX7_clear_8 : decode cX7_clear 8 = .ok (.aload_n 0, 1) := by decide +kernel
theorem dX7_clear_9 : decode cX7_clear 9 = .ok (.getfield 36, 3) := by decide +kernel
theorem dX7_clear_12 : decode cX7_clear 12 = .ok (.iconst 0, 1) := by decide +kernel
theorem dX7_clear_13 : decode cX7_clear 13 = .ok (.putfield 124, 3) := by decide +kernel
theorem dX7_clear_16 : decode cX7_clear 16 = .ok (.iload_n 1, 1) := by decide +kernel
theorem dX7_clear_17 : decode cX7_clear 17 = .ok (.ireturn, 1) := by decide +kernel
theorem dX7_fault_0 : decode cX7_fault 0 = .ok (.iload_n 1, 1) := by decide +kernel
theorem dX7_fault_1 : decode cX7_fault 1 = .ok (.ifCond .ne 15, 3) := by decide +kernel
theorem dX7_fault_4 : decode cX7_fault 4 = .ok (.aload_n 0, 1) := by decide +kernel
theorem dX7_fault_5 : decode cX7_fault 5 = .ok (.getfield 43, 3) := by decide +kernel
theorem dX7_fault_8 : decode cX7_fault 8 = .ok (.aload_n 0, 1) := by decide +kernel
theorem dX7_fault_9 : decode cX7_fault 9 = .ok (.getfield 36, 3) := by decide +kernel
theorem dX7_fault_12 : decode cX7_fault 12 = .ok (.invokevirtual 127, 3) := by decide +kernel
theorem dX7_fault_15 : decode cX7_fault 15 = .ok (.ireturn, 1) := by decide +kernel
theorem dX7_fault_16 : decode cX7_fault 16 = .ok (.iload_n 1, 1) := by decide +kernel
theorem dX7_fault_17 : decode cX7_fault 17 = .ok (.iconst 1, 1) := by decide +kernel
theorem dX7_fault_18 : decode cX7_fault 18 = .ok (.if_icmp .ne 11, 3) := by decide +kernel
theorem dX7_fault_21 : decode cX7_fault 21 = .ok (.aload_n 0, 1) := by decide +kernel
theorem dX7_fault_22 : decode cX7_fault 22 = .ok (.getfield 36, 3) := by decide +kernel
theorem dX7_fault_25 : decode cX7_fault 25 = .ok (.invokevirtual 131, 3) := by decide +kernel
theorem dX7_fault_28 : decode cX7_fault 28 = .ok (.ireturn, 1) := by decide +kernel
theorem dX7_fault_29 : decode cX7_fault 29 = .ok (.iconst (-1), 1) := by decide +kernel
theorem dX7_fault_30 : decode cX7_fault 30 = .ok (.ireturn, 1) := by decide +kernel
theorem dX7_hang_0 : decode cX7_hang 0 = .ok (.aload_n 0, 1) := by decide +kernel
theorem dX7_hang_1 : decode cX7_hang 1 = .ok (.getfield 43, 3) := by decide +kernel
theorem dX7_hang_4 : decode cX7_hang 4 = .ok (.aload_n 0, 1) := by decide +kernel
theorem dX7_hang_5 : decode cX7_hang 5 = .ok (.getfield 36, 3) := by decide +kernel
theorem dX7_hang_8 : decode cX7_hang 8 = .ok (.invokevirtual 127, 3) := by decide +kernel
theorem dX7_hang_11 : decode cX7_hang 11 = .ok (.bipush (-4), 2) := by decide +kernel
theorem dX7_hang_13 : decode cX7_hang 13 = .ok (.if_icmp .eq 6, 3) := by decide +kernel
theorem dX7_hang_16 : decode cX7_hang 16 = .ok (.bipush (-2), 2) := by decide +kernel
theorem dX7_hang_18 : decode cX7_hang 18 = .ok (.ireturn, 1) := by decide +kernel
theorem dX7_hang_19 : decode cX7_hang 19 = .ok (.aload_n 0, 1) := by decide +kernel
theorem dX7_hang_20 : decode cX7_hang 20 = .ok (.getfield 29, 3) := by decide +kernel
theorem dX7_hang_23 : decode cX7_hang 23 = .ok (.aload_n 0, 1) := by decide +kernel
theorem dX7_hang_24 : decode cX7_hang 24 = .ok (.getfield 10, 3) := by decide +kernel
theorem dX7_hang_27 : decode cX7_hang 27 = .ok (.invokevirtual 74, 3) := by decide +kernel
theorem dX7_hang_30 : decode cX7_hang 30 = .ok (.aload_n 0, 1) := by decide +kernel
theorem dX7_hang_31 : decode cX7_hang 31 = .ok (.getfield 10, 3) := by decide +kernel
theorem dX7_hang_34 : decode cX7_hang 34 = .ok (.getfield 64, 3) := by decide +kernel
theorem dX7_hang_37 : decode cX7_hang 37 = .ok (.aload_n 0, 1) := by decide +kernel
theorem dX7_hang_38 : decode cX7_hang 38 = .ok (.getfield 43, 3) := by decide +kernel
theorem dX7_hang_41 : decode cX7_hang 41 = .ok (.getfield 134, 3) := by decide +kernel
theorem dX7_hang_44 : decode cX7_hang 44 = .ok (.invokevirtual 135, 3) := by decide +kernel
theorem dX7_hang_47 : decode cX7_hang 47 = .ok (.aload_n 0, 1) := by decide +kernel
theorem dX7_hang_48 : decode cX7_hang 48 = .ok (.getfield 36, 3) := by decide +kernel
theorem dX7_hang_51 : decode cX7_hang 51 = .ok (.iconst 0, 1) := by decide +kernel
theorem dX7_hang_52 : decode cX7_hang 52 = .ok (.putfield 124, 3) := by decide +kernel
theorem dX7_hang_55 : decode cX7_hang 55 = .ok (.aload_n 0, 1) := by decide +kernel
theorem dX7_hang_56 : decode cX7_hang 56 = .ok (.getfield 10, 3) := by decide +kernel
theorem dX7_hang_59 : decode cX7_hang 59 = .ok (.getfield 64, 3) := by decide +kernel
theorem dX7_hang_62 : decode cX7_hang 62 = .ok (.getfield 82, 3) := by decide +kernel
theorem dX7_hang_65 : decode cX7_hang 65 = .ok (.ireturn, 1) := by decide +kernel
theorem dX7_play_0 : decode cX7_play 0 = .ok (.aload_n 0, 1) := by decide +kernel
theorem dX7_play_1 : decode cX7_play 1 = .ok (.getfield 36, 3) := by decide +kernel
theorem dX7_play_4 : decode cX7_play 4 = .ok (.invokevirtual 131, 3) := by decide +kernel
theorem dX7_play_7 : decode cX7_play 7 = .ok (.bipush (-4), 2) := by decide +kernel
theorem dX7_play_9 : decode cX7_play 9 = .ok (.if_icmp .eq 6, 3) := by decide +kernel
theorem dX7_play_12 : decode cX7_play 12 = .ok (.bipush (-2), 2) := by decide +kernel
theorem dX7_play_14 : decode cX7_play 14 = .ok (.ireturn, 1) := by decide +kernel
theorem dX7_play_15 : decode cX7_play 15 = .ok (.aload_n 0, 1) := by decide +kernel
theorem dX7_play_16 : decode cX7_play 16 = .ok (.getfield 29, 3) := by decide +kernel
theorem dX7_play_19 : decode cX7_play 19 = .ok (.aload_n 0, 1) := by decide +kernel
theorem dX7_play_20 : decode cX7_play 20 = .ok (.getfield 10, 3) := by decide +kernel
theorem dX7_play_23 : decode cX7_play 23 = .ok (.invokevirtual 74, 3) := by decide +kernel
theorem dX7_play_26 : decode cX7_play 26 = .ok (.iconst 0, 1) := by decide +kernel
theorem dX7_play_27 : decode cX7_play 27 = .ok (.istore_n 1, 1) := by decide +kernel
theorem dX7_play_28 : decode cX7_play 28 = .ok (.iload_n 1, 1) := by decide +kernel
theorem dX7_play_29 : decode cX7_play 29 = .ok (.aload_n 0, 1) := by decide +kernel
theorem dX7_play_30 : decode cX7_play 30 = .ok (.getfield 36, 3) := by decide +kernel
theorem dX7_play_33 : decode cX7_play 33 = .ok (.getfield 124, 3) := by decide +kernel
theorem dX7_play_36 : decode cX7_play 36 = .ok (.if_icmp .ge 25, 3) := by decide +kernel
theorem dX7_play_39 : decode cX7_play 39 = .ok (.aload_n 0, 1) := by decide +kernel
theorem dX7_play_40 : decode cX7_play 40 = .ok (.aload_n 0, 1) := by decide +kernel
theorem dX7_play_41 : decode cX7_play 41 = .ok (.getfield 36, 3) := by decide +kernel
theorem dX7_play_44 : decode cX7_play 44 = .ok (.getfield 139, 3) := by decide +kernel
theorem dX7_play_47 : decode cX7_play 47 = .ok (.iload_n 1, 1) := by decide +kernel
theorem dX7_play_48 : decode cX7_play 48 = .ok (.iaload, 1) := by decide +kernel
theorem dX7_play_49 : decode cX7_play 49 = .ok (.invokevirtual 142, 3) := by decide +kernel
theorem dX7_play_52 : decode cX7_play 52 = .ok (.ifCond .eq 9, 3) := by decide +kernel
theorem dX7_play_55 : decode cX7_play 55 = .ok (.iinc 1 1, 3) := by decide +kernel
theorem dX7_play_58 : decode cX7_play 58 = .ok (.goto (-30), 3) := by decide +kernel
theorem dX7_play_61 : decode cX7_play 61 = .ok (.aload_n 0, 1) := by decide +kernel
theorem dX7_play_62 : decode cX7_play 62 = .ok (.getfield 36, 3) := by decide +kernel
theorem dX7_play_65 : decode cX7_play 65 = .ok (.iconst 0, 1) := by decide +kernel
theorem dX7_play_66 : decode cX7_play 66 = .ok (.putfield 124, 3) := by decide +kernel
theorem dX7_play_69 : decode cX7_play 69 = .ok (.iload_n 1, 1) := by decide +kernel
theorem dX7_play_70 : decode cX7_play 70 = .ok (.ireturn, 1) := by decide +kernel
theorem dX7_playOne_0 : decode cX7_playOne 0 = .ok (.iload_n 1, 1) := by decide +kernel
theorem dX7_playOne_1 : decode cX7_playOne 1 = .ok (.bipush 98, 2) := by decide +kernel
theorem dX7_playOne_3 : decode cX7_playOne 3 = .ok (.if_icmp .ne 25, 3) := by decide +kernel
theorem dX7_playOne_6 : decode cX7_playOne 6 = .ok (.aload_n 0, 1) := by decide +kernel
theorem dX7_playOne_7 : decode cX7_playOne 7 = .ok (.getfield 10, 3) := by decide +kernel
theorem dX7_playOne_10 : decode cX7_playOne 10 = .ok (.invokevirtual 103, 3) := by decide +kernel
theorem dX7_playOne_13 : decode cX7_playOne 13 = .ok (.ifCond .ne 5, 3) := by decide +kernel
theorem dX7_playOne_16 : decode cX7_playOne 16 = .ok (.iconst 0, 1) := by decide +kernel
theorem dX7_playOne_17 : decode cX7_playOne 17 = .ok (.ireturn, 1) := by decide +kernel
theorem dX7_playOne_18 : decode cX7_playOne 18 = .ok (.aload_n 0, 1) := by decide +kernel
theorem dX7_playOne_19 : decode cX7_playOne 19 = .ok (.getfield 10, 3) := by decide +kernel
theorem dX7_playOne_22 : decode cX7_playOne 22 = .ok (.invokevirtual 106, 3) := by decide +kernel
theorem dX7_playOne_25 : decode cX7_playOne 25 = .ok (.pop, 1) := by decide +kernel
theorem dX7_playOne_26 : decode cX7_playOne 26 = .ok (.iconst 1, 1) := by decide +kernel
theorem dX7_playOne_27 : decode cX7_playOne 27 = .ok (.ireturn, 1) := by decide +kernel
theorem dX7_playOne_28 : decode cX7_playOne 28 = .ok (.aload_n 0, 1) := by decide +kernel
theorem dX7_playOne_29 : decode cX7_playOne 29 = .ok (.getfield 10, 3) := by decide +kernel
theorem dX7_playOne_32 : decode cX7_playOne 32 = .ok (.getfield 96, 3) := by decide +kernel
theorem dX7_playOne_35 : decode cX7_playOne 35 = .ok (.ifCond .eq 5, 3) := by decide +kernel
theorem dX7_playOne_38 : decode cX7_playOne 38 = .ok (.iconst 0, 1) := by decide +kernel
theorem dX7_playOne_39 : decode cX7_playOne 39 = .ok (.ireturn, 1) := by decide +kernel
theorem dX7_playOne_40 : decode cX7_playOne 40 = .ok (.aload_n 0, 1) := by decide +kernel
theorem dX7_playOne_41 : decode cX7_playOne 41 = .ok (.getfield 10, 3) := by decide +kernel
theorem dX7_playOne_44 : decode cX7_playOne 44 = .ok (.iload_n 1, 1) := by decide +kernel
theorem dX7_playOne_45 : decode cX7_playOne 45 = .ok (.bipush 108, 2) := by decide +kernel
theorem dX7_playOne_47 : decode cX7_playOne 47 = .ok (.if_icmp .ne 7, 3) := by decide +kernel
theorem dX7_playOne_50 : decode cX7_playOne 50 = .ok (.iconst (-1), 1) := by decide +kernel
theorem dX7_playOne_51 : decode cX7_playOne 51 = .ok (.goto 14, 3) := by decide +kernel
theorem dX7_playOne_54 : decode cX7_playOne 54 = .ok (.iload_n 1, 1) := by decide +kernel
theorem dX7_playOne_55 : decode cX7_playOne 55 = .ok (.bipush 114, 2) := by decide +kernel
theorem dX7_playOne_57 : decode cX7_playOne 57 = .ok (.if_icmp .ne 7, 3) := by decide +kernel
theorem dX7_playOne_60 : decode cX7_playOne 60 = .ok (.iconst 1, 1) := by decide +kernel
theorem dX7_playOne_61 : decode cX7_playOne 61 = .ok (.goto 4, 3) := by decide +kernel
theorem dX7_playOne_64 : decode cX7_playOne 64 = .ok (.iconst 0, 1) := by decide +kernel
theorem dX7_playOne_65 : decode cX7_playOne 65 = .ok (.invokevirtual 99, 3) := by decide +kernel
theorem dX7_playOne_68 : decode cX7_playOne 68 = .ok (.pop, 1) := by decide +kernel
theorem dX7_playOne_69 : decode cX7_playOne 69 = .ok (.iconst 1, 1) := by decide +kernel
theorem dX7_playOne_70 : decode cX7_playOne 70 = .ok (.ireturn, 1) := by decide +kernel
theorem dX7_emitterOf_0 : decode cX7_emitterOf 0 = .ok (.aload_n 0, 1) := by decide +kernel
theorem dX7_emitterOf_1 : decode cX7_emitterOf 1 = .ok (.getfield 10, 3) := by decide +kernel
theorem dX7_emitterOf_4 : decode cX7_emitterOf 4 = .ok (.getfield 64, 3) := by decide +kernel
theorem dX7_emitterOf_7 : decode cX7_emitterOf 7 = .ok (.iload_n 1, 1) := by decide +kernel
theorem dX7_emitterOf_8 : decode cX7_emitterOf 8 = .ok (.invokevirtual 86, 3) := by decide +kernel
theorem dX7_emitterOf_11 : decode cX7_emitterOf 11 = .ok (.ifCond .ne 5, 3) := by decide +kernel
theorem dX7_emitterOf_14 : decode cX7_emitterOf 14 = .ok (.iconst (-1), 1) := by decide +kernel
theorem dX7_emitterOf_15 : decode cX7_emitterOf 15 = .ok (.ireturn, 1) := by decide +kernel
theorem dX7_emitterOf_16 : decode cX7_emitterOf 16 = .ok (.iload_n 2, 1) := by decide +kernel
theorem dX7_emitterOf_17 : decode cX7_emitterOf 17 = .ok (.tableswitch 106 0 4 #[35, 48, 61, 74, 87], 35) := by decide +kernel
theorem dX7_emitterOf_52 : decode cX7_emitterOf 52 = .ok (.aload_n 0, 1) := by decide +kernel
theorem dX7_emitterOf_53 : decode cX7_emitterOf 53 = .ok (.getfield 10, 3) := by decide +kernel
theorem dX7_emitterOf_56 : decode cX7_emitterOf 56 = .ok (.getfield 64, 3) := by decide +kernel
theorem dX7_emitterOf_59 : decode cX7_emitterOf 59 = .ok (.getfield 145, 3) := by decide +kernel
theorem dX7_emitterOf_62 : decode cX7_emitterOf 62 = .ok (.iload_n 1, 1) := by decide +kernel
theorem dX7_emitterOf_63 : decode cX7_emitterOf 63 = .ok (.iaload, 1) := by decide +kernel
theorem dX7_emitterOf_64 : decode cX7_emitterOf 64 = .ok (.ireturn, 1) := by decide +kernel
theorem dX7_emitterOf_65 : decode cX7_emitterOf 65 = .ok (.aload_n 0, 1) := by decide +kernel
theorem dX7_emitterOf_66 : decode cX7_emitterOf 66 = .ok (.getfield 10, 3) := by decide +kernel
theorem dX7_emitterOf_69 : decode cX7_emitterOf 69 = .ok (.getfield 64, 3) := by decide +kernel
theorem dX7_emitterOf_72 : decode cX7_emitterOf 72 = .ok (.getfield 148, 3) := by decide +kernel
theorem dX7_emitterOf_75 : decode cX7_emitterOf 75 = .ok (.iload_n 1, 1) := by decide +kernel
theorem dX7_emitterOf_76 : decode cX7_emitterOf 76 = .ok (.iaload, 1) := by decide +kernel
theorem dX7_emitterOf_77 : decode cX7_emitterOf 77 = .ok (.ireturn, 1) := by decide +kernel
theorem dX7_emitterOf_78 : decode cX7_emitterOf 78 = .ok (.aload_n 0, 1) := by decide +kernel
theorem dX7_emitterOf_79 : decode cX7_emitterOf 79 = .ok (.getfield 10, 3) := by decide +kernel
theorem dX7_emitterOf_82 : decode cX7_emitterOf 82 = .ok (.getfield 64, 3) := by decide +kernel
theorem dX7_emitterOf_85 : decode cX7_emitterOf 85 = .ok (.getfield 151, 3) := by decide +kernel
theorem dX7_emitterOf_88 : decode cX7_emitterOf 88 = .ok (.iload_n 1, 1) := by decide +kernel
theorem dX7_emitterOf_89 : decode cX7_emitterOf 89 = .ok (.iaload, 1) := by decide +kernel
theorem dX7_emitterOf_90 : decode cX7_emitterOf 90 = .ok (.ireturn, 1) := by decide +kernel
theorem dX7_emitterOf_91 : decode cX7_emitterOf 91 = .ok (.aload_n 0, 1) := by decide +kernel
theorem dX7_emitterOf_92 : decode cX7_emitterOf 92 = .ok (.getfield 10, 3) := by decide +kernel
theorem dX7_emitterOf_95 : decode cX7_emitterOf 95 = .ok (.getfield 64, 3) := by decide +kernel
theorem dX7_emitterOf_98 : decode cX7_emitterOf 98 = .ok (.getfield 154, 3) := by decide +kernel
theorem dX7_emitterOf_101 : decode cX7_emitterOf 101 = .ok (.iload_n 1, 1) := by decide +kernel
theorem dX7_emitterOf_102 : decode cX7_emitterOf 102 = .ok (.iaload, 1) := by decide +kernel
theorem dX7_emitterOf_103 : decode cX7_emitterOf 103 = .ok (.ireturn, 1) := by decide +kernel
theorem dX7_emitterOf_104 : decode cX7_emitterOf 104 = .ok (.aload_n 0, 1) := by decide +kernel
theorem dX7_emitterOf_105 : decode cX7_emitterOf 105 = .ok (.getfield 10, 3) := by decide +kernel
theorem dX7_emitterOf_108 : decode cX7_emitterOf 108 = .ok (.getfield 64, 3) := by decide +kernel
theorem dX7_emitterOf_111 : decode cX7_emitterOf 111 = .ok (.iload_n 1, 1) := by decide +kernel
theorem dX7_emitterOf_112 : decode cX7_emitterOf 112 = .ok (.aload_n 0, 1) := by decide +kernel
theorem dX7_emitterOf_113 : decode cX7_emitterOf 113 = .ok (.getfield 10, 3) := by decide +kernel
theorem dX7_emitterOf_116 : decode cX7_emitterOf 116 = .ok (.getfield 157, 3) := by decide +kernel
theorem dX7_emitterOf_119 : decode cX7_emitterOf 119 = .ok (.invokevirtual 160, 3) := by decide +kernel
theorem dX7_emitterOf_122 : decode cX7_emitterOf 122 = .ok (.ireturn, 1) := by decide +kernel
theorem dX7_emitterOf_123 : decode cX7_emitterOf 123 = .ok (.iconst (-1), 1) := by decide +kernel
theorem dX7_emitterOf_124 : decode cX7_emitterOf 124 = .ok (.ireturn, 1) := by decide +kernel
theorem dX7_bullet_0 : decode cX7_bullet 0 = .ok (.aload_n 0, 1) := by decide +kernel
theorem dX7_bullet_1 : decode cX7_bullet 1 = .ok (.getfield 10, 3) := by decide +kernel
theorem dX7_bullet_4 : decode cX7_bullet 4 = .ok (.getfield 164, 3) := by decide +kernel
theorem dX7_bullet_7 : decode cX7_bullet 7 = .ok (.iload_n 1, 1) := by decide +kernel
theorem dX7_bullet_8 : decode cX7_bullet 8 = .ok (.invokevirtual 168, 3) := by decide +kernel
theorem dX7_bullet_11 : decode cX7_bullet 11 = .ok (.ifCond .ne 5, 3) := by decide +kernel
theorem dX7_bullet_14 : decode cX7_bullet 14 = .ok (.iconst (-1), 1) := by decide +kernel
theorem dX7_bullet_15 : decode cX7_bullet 15 = .ok (.ireturn, 1) := by decide +kernel
theorem dX7_bullet_16 : decode cX7_bullet 16 = .ok (.iload_n 2, 1) := by decide +kernel
theorem dX7_bullet_17 : decode cX7_bullet 17 = .ok (.tableswitch 118 0 4 #[35, 48, 61, 76, 97], 35) := by decide +kernel
theorem dX7_bullet_52 : decode cX7_bullet 52 = .ok (.aload_n 0, 1) := by decide +kernel
theorem dX7_bullet_53 : decode cX7_bullet 53 = .ok (.getfield 10, 3) := by decide +kernel
theorem dX7_bullet_56 : decode cX7_bullet 56 = .ok (.getfield 164, 3) := by decide +kernel
theorem dX7_bullet_59 : decode cX7_bullet 59 = .ok (.getfield 171, 3) := by decide +kernel
theorem dX7_bullet_62 : decode cX7_bullet 62 = .ok (.iload_n 1, 1) := by decide +kernel
theorem dX7_bullet_63 : decode cX7_bullet 63 = .ok (.iaload, 1) := by decide +kernel
theorem dX7_bullet_64 : decode cX7_bullet 64 = .ok (.ireturn, 1) := by decide +kernel
theorem dX7_bullet_65 : decode cX7_bullet 65 = .ok (.aload_n 0, 1) := by decide +kernel
theorem dX7_bullet_66 : decode cX7_bullet 66 = .ok (.getfield 10, 3) := by decide +kernel
theorem dX7_bullet_69 : decode cX7_bullet 69 = .ok (.getfield 164, 3) := by decide +kernel
theorem dX7_bullet_72 : decode cX7_bullet 72 = .ok (.getfield 174, 3) := by decide +kernel
theorem dX7_bullet_75 : decode cX7_bullet 75 = .ok (.iload_n 1, 1) := by decide +kernel
theorem dX7_bullet_76 : decode cX7_bullet 76 = .ok (.iaload, 1) := by decide +kernel
theorem dX7_bullet_77 : decode cX7_bullet 77 = .ok (.ireturn, 1) := by decide +kernel
theorem dX7_bullet_78 : decode cX7_bullet 78 = .ok (.aload_n 0, 1) := by decide +kernel
theorem dX7_bullet_79 : decode cX7_bullet 79 = .ok (.getfield 10, 3) := by decide +kernel
theorem dX7_bullet_82 : decode cX7_bullet 82 = .ok (.getfield 164, 3) := by decide +kernel
theorem dX7_bullet_85 : decode cX7_bullet 85 = .ok (.getfield 175, 3) := by decide +kernel
theorem dX7_bullet_88 : decode cX7_bullet 88 = .ok (.iload_n 1, 1) := by decide +kernel
theorem dX7_bullet_89 : decode cX7_bullet 89 = .ok (.iaload, 1) := by decide +kernel
theorem dX7_bullet_90 : decode cX7_bullet 90 = .ok (.iconst 1, 1) := by decide +kernel
theorem dX7_bullet_91 : decode cX7_bullet 91 = .ok (.iadd, 1) := by decide +kernel
theorem dX7_bullet_92 : decode cX7_bullet 92 = .ok (.ireturn, 1) := by decide +kernel
theorem dX7_bullet_93 : decode cX7_bullet 93 = .ok (.aload_n 0, 1) := by decide +kernel
theorem dX7_bullet_94 : decode cX7_bullet 94 = .ok (.getfield 10, 3) := by decide +kernel
theorem dX7_bullet_97 : decode cX7_bullet 97 = .ok (.getfield 164, 3) := by decide +kernel
theorem dX7_bullet_100 : decode cX7_bullet 100 = .ok (.getfield 178, 3) := by decide +kernel
theorem dX7_bullet_103 : decode cX7_bullet 103 = .ok (.iload_n 1, 1) := by decide +kernel
theorem dX7_bullet_104 : decode cX7_bullet 104 = .ok (.baload, 1) := by decide +kernel
theorem dX7_bullet_105 : decode cX7_bullet 105 = .ok (.ifCond .eq 7, 3) := by decide +kernel
theorem dX7_bullet_108 : decode cX7_bullet 108 = .ok (.iconst 1, 1) := by decide +kernel
theorem dX7_bullet_109 : decode cX7_bullet 109 = .ok (.goto 4, 3) := by decide +kernel
theorem dX7_bullet_112 : decode cX7_bullet 112 = .ok (.iconst 0, 1) := by decide +kernel
theorem dX7_bullet_113 : decode cX7_bullet 113 = .ok (.ireturn, 1) := by decide +kernel
theorem dX7_bullet_114 : decode cX7_bullet 114 = .ok (.aload_n 0, 1) := by decide +kernel
theorem dX7_bullet_115 : decode cX7_bullet 115 = .ok (.getfield 10, 3) := by decide +kernel
theorem dX7_bullet_118 : decode cX7_bullet 118 = .ok (.getfield 164, 3) := by decide +kernel
theorem dX7_bullet_121 : decode cX7_bullet 121 = .ok (.getfield 182, 3) := by decide +kernel
theorem dX7_bullet_124 : decode cX7_bullet 124 = .ok (.iload_n 1, 1) := by decide +kernel
theorem dX7_bullet_125 : decode cX7_bullet 125 = .ok (.baload, 1) := by decide +kernel
theorem dX7_bullet_126 : decode cX7_bullet 126 = .ok (.ifCond .eq 7, 3) := by decide +kernel
theorem dX7_bullet_129 : decode cX7_bullet 129 = .ok (.iconst 1, 1) := by decide +kernel
theorem dX7_bullet_130 : decode cX7_bullet 130 = .ok (.goto 4, 3) := by decide +kernel
theorem dX7_bullet_133 : decode cX7_bullet 133 = .ok (.iconst 0, 1) := by decide +kernel
theorem dX7_bullet_134 : decode cX7_bullet 134 = .ok (.ireturn, 1) := by decide +kernel
theorem dX7_bullet_135 : decode cX7_bullet 135 = .ok (.iconst (-1), 1) := by decide +kernel
theorem dX7_bullet_136 : decode cX7_bullet 136 = .ok (.ireturn, 1) := by decide +kernel
theorem dX7_at_0 : decode cX7_at 0 = .ok (.iload_n 1, 1) := by decide +kernel
theorem dX7_at_1 : decode cX7_at 1 = .ok (.ifCond .lt 16, 3) := by decide +kernel
theorem dX7_at_4 : decode cX7_at 4 = .ok (.iload_n 1, 1) := by decide +kernel
theorem dX7_at_5 : decode cX7_at 5 = .ok (.bipush 11, 2) := by decide +kernel
theorem dX7_at_7 : decode cX7_at 7 = .ok (.if_icmp .gt 10, 3) := by decide +kernel
theorem dX7_at_10 : decode cX7_at 10 = .ok (.iload_n 2, 1) := by decide +kernel
theorem dX7_at_11 : decode cX7_at 11 = .ok (.invokestatic 54, 3) := by decide +kernel
theorem dX7_at_14 : decode cX7_at 14 = .ok (.ifCond .ne 5, 3) := by decide +kernel
theorem dX7_at_17 : decode cX7_at 17 = .ok (.iconst (-1), 1) := by decide +kernel
theorem dX7_at_18 : decode cX7_at 18 = .ok (.ireturn, 1) := by decide +kernel
theorem dX7_at_19 : decode cX7_at 19 = .ok (.aload_n 0, 1) := by decide +kernel
theorem dX7_at_20 : decode cX7_at 20 = .ok (.getfield 10, 3) := by decide +kernel
theorem dX7_at_23 : decode cX7_at 23 = .ok (.getfield 164, 3) := by decide +kernel
theorem dX7_at_26 : decode cX7_at 26 = .ok (.iload_n 1, 1) := by decide +kernel
theorem dX7_at_27 : decode cX7_at 27 = .ok (.iload_n 2, 1) := by decide +kernel
theorem dX7_at_28 : decode cX7_at 28 = .ok (.invokevirtual 185, 3) := by decide +kernel
theorem dX7_at_31 : decode cX7_at 31 = .ok (.ireturn, 1) := by decide +kernel
theorem dX7_count_0 : decode cX7_count 0 = .ok (.iload_n 1, 1) := by decide +kernel
theorem dX7_count_1 : decode cX7_count 1 = .ok (.bipush 7, 2) := by decide +kernel
theorem dX7_count_3 : decode cX7_count 3 = .ok (.if_icmp .lt 22, 3) := by decide +kernel
theorem dX7_count_6 : decode cX7_count 6 = .ok (.iload_n 1, 1) := by decide +kernel
theorem dX7_count_7 : decode cX7_count 7 = .ok (.bipush 15, 2) := by decide +kernel
theorem dX7_count_9 : decode cX7_count 9 = .ok (.if_icmp .ge 16, 3) := by decide +kernel
theorem dX7_count_12 : decode cX7_count 12 = .ok (.aload_n 0, 1) := by decide +kernel
theorem dX7_count_13 : decode cX7_count 13 = .ok (.getfield 10, 3) := by decide +kernel
theorem dX7_count_16 : decode cX7_count 16 = .ok (.getfield 188, 3) := by decide +kernel
theorem dX7_count_19 : decode cX7_count 19 = .ok (.iload_n 1, 1) := by decide +kernel
theorem dX7_count_20 : decode cX7_count 20 = .ok (.bipush 7, 2) := by decide +kernel
theorem dX7_count_22 : decode cX7_count 22 = .ok (.isub, 1) := by decide +kernel
theorem dX7_count_23 : decode cX7_count 23 = .ok (.iaload, 1) := by decide +kernel
theorem dX7_count_24 : decode cX7_count 24 = .ok (.ireturn, 1) := by decide +kernel
theorem dX7_count_25 : decode cX7_count 25 = .ok (.iload_n 1, 1) := by decide +kernel
theorem dX7_count_26 : decode cX7_count 26 = .ok (.tableswitch 196 0 18 #[90, 101, 112, 120, 128, 136, 144, 196, 196, 196, 196, 196, 196, 196, 196, 160, 170, 180, 188], 90) := by decide +kernel
theorem dX7_count_116 : decode cX7_count 116 = .ok (.aload_n 0, 1) := by decide +kernel
theorem dX7_count_117 : decode cX7_count 117 = .ok (.getfield 10, 3) := by decide +kernel
theorem dX7_count_120 : decode cX7_count 120 = .ok (.getfield 64, 3) := by decide +kernel
theorem dX7_count_123 : decode cX7_count 123 = .ok (.getfield 82, 3) := by decide +kernel
theorem dX7_count_126 : decode cX7_count 126 = .ok (.ireturn, 1) := by decide +kernel
theorem dX7_count_127 : decode cX7_count 127 = .ok (.aload_n 0, 1) := by decide +kernel
theorem dX7_count_128 : decode cX7_count 128 = .ok (.getfield 10, 3) := by decide +kernel
theorem dX7_count_131 : decode cX7_count 131 = .ok (.getfield 164, 3) := by decide +kernel
theorem dX7_count_134 : decode cX7_count 134 = .ok (.getfield 191, 3) := by decide +kernel
theorem dX7_count_137 : decode cX7_count 137 = .ok (.ireturn, 1) := by decide +kernel
theorem dX7_count_138 : decode cX7_count 138 = .ok (.aload_n 0, 1) := by decide +kernel
theorem dX7_count_139 : decode cX7_count 139 = .ok (.getfield 10, 3) := by decide +kernel
theorem dX7_count_142 : decode cX7_count 142 = .ok (.getfield 192, 3) := by decide +kernel
theorem dX7_count_145 : decode cX7_count 145 = .ok (.ireturn, 1) := by decide +kernel
theorem dX7_count_146 : decode cX7_count 146 = .ok (.aload_n 0, 1) := by decide +kernel
theorem dX7_count_147 : decode cX7_count 147 = .ok (.getfield 10, 3) := by decide +kernel
theorem dX7_count_150 : decode cX7_count 150 = .ok (.getfield 195, 3) := by decide +kernel
theorem dX7_count_153 : decode cX7_count 153 = .ok (.ireturn, 1) := by decide +kernel
theorem dX7_count_154 : decode cX7_count 154 = .ok (.aload_n 0, 1) := by decide +kernel
theorem dX7_count_155 : decode cX7_count 155 = .ok (.getfield 10, 3) := by decide +kernel
theorem dX7_count_158 : decode cX7_count 158 = .ok (.getfield 198, 3) := by decide +kernel
theorem dX7_count_161 : decode cX7_count 161 = .ok (.ireturn, 1) := by decide +kernel
theorem dX7_count_162 : decode cX7_count 162 = .ok (.aload_n 0, 1) := by decide +kernel
theorem dX7_count_163 : decode cX7_count 163 = .ok (.getfield 10, 3) := by decide +kernel
theorem dX7_count_166 : decode cX7_count 166 = .ok (.getfield 157, 3) := by decide +kernel
theorem dX7_count_169 : decode cX7_count 169 = .ok (.ireturn, 1) := by decide +kernel
theorem dX7_count_170 : decode cX7_count 170 = .ok (.aload_n 0, 1) := by decide +kernel
theorem dX7_count_171 : decode cX7_count 171 = .ok (.getfield 10, 3) := by decide +kernel
theorem dX7_count_174 : decode cX7_count 174 = .ok (.getfield 96, 3) := by decide +kernel
theorem dX7_count_177 : decode cX7_count 177 = .ok (.ifCond .eq 7, 3) := by decide +kernel
theorem dX7_count_180 : decode cX7_count 180 = .ok (.iconst 1, 1) := by decide +kernel
theorem dX7_count_181 : decode cX7_count 181 = .ok (.goto 4, 3) := by decide +kernel
theorem dX7_count_184 : decode cX7_count 184 = .ok (.iconst 0, 1) := by decide +kernel
theorem dX7_count_185 : decode cX7_count 185 = .ok (.ireturn, 1) := by decide +kernel
theorem dX7_count_186 : decode cX7_count 186 = .ok (.aload_n 0, 1) := by decide +kernel
theorem dX7_count_187 : decode cX7_count 187 = .ok (.getfield 10, 3) := by decide +kernel
theorem dX7_count_190 : decode cX7_count 190 = .ok (.getfield 117, 3) := by decide +kernel
theorem dX7_count_193 : decode cX7_count 193 = .ok (.iconst 0, 1) := by decide +kernel
theorem dX7_count_194 : decode cX7_count 194 = .ok (.iaload, 1) := by decide +kernel
theorem dX7_count_195 : decode cX7_count 195 = .ok (.ireturn, 1) := by decide +kernel
theorem dX7_count_196 : decode cX7_count 196 = .ok (.aload_n 0, 1) := by decide +kernel
theorem dX7_count_197 : decode cX7_count 197 = .ok (.getfield 10, 3) := by decide +kernel
theorem dX7_count_200 : decode cX7_count 200 = .ok (.getfield 117, 3) := by decide +kernel
theorem dX7_count_203 : decode cX7_count 203 = .ok (.iconst 1, 1) := by decide +kernel
theorem dX7_count_204 : decode cX7_count 204 = .ok (.iaload, 1) := by decide +kernel
theorem dX7_count_205 : decode cX7_count 205 = .ok (.ireturn, 1) := by decide +kernel
theorem dX7_count_206 : decode cX7_count 206 = .ok (.aload_n 0, 1) := by decide +kernel
theorem dX7_count_207 : decode cX7_count 207 = .ok (.getfield 36, 3) := by decide +kernel
theorem dX7_count_210 : decode cX7_count 210 = .ok (.getfield 124, 3) := by decide +kernel
theorem dX7_count_213 : decode cX7_count 213 = .ok (.ireturn, 1) := by decide +kernel
theorem dX7_count_214 : decode cX7_count 214 = .ok (.aload_n 0, 1) := by decide +kernel
theorem dX7_count_215 : decode cX7_count 215 = .ok (.getfield 29, 3) := by decide +kernel
theorem dX7_count_218 : decode cX7_count 218 = .ok (.getfield 201, 3) := by decide +kernel
theorem dX7_count_221 : decode cX7_count 221 = .ok (.ireturn, 1) := by decide +kernel
theorem dX7_count_222 : decode cX7_count 222 = .ok (.iconst (-1), 1) := by decide +kernel
theorem dX7_count_223 : decode cX7_count 223 = .ok (.ireturn, 1) := by decide +kernel
theorem dX7_free_0 : decode cX7_free 0 = .ok (.iload_n 1, 1) := by decide +kernel
theorem dX7_free_1 : decode cX7_free 1 = .ok (.ifCond .lt 9, 3) := by decide +kernel
theorem dX7_free_4 : decode cX7_free 4 = .ok (.iload_n 1, 1) := by decide +kernel
theorem dX7_free_5 : decode cX7_free 5 = .ok (.bipush 30, 2) := by decide +kernel
theorem dX7_free_7 : decode cX7_free 7 = .ok (.if_icmp .le 5, 3) := by decide +kernel
theorem dX7_free_10 : decode cX7_free 10 = .ok (.iconst (-1), 1) := by decide +kernel
theorem dX7_free_11 : decode cX7_free 11 = .ok (.ireturn, 1) := by decide +kernel
theorem dX7_free_12 : decode cX7_free 12 = .ok (.aload_n 0, 1) := by decide +kernel
theorem dX7_free_13 : decode cX7_free 13 = .ok (.iload_n 1, 1) := by decide +kernel
theorem dX7_free_14 : decode cX7_free 14 = .ok (.invokevirtual 202, 3) := by decide +kernel
theorem dX7_free_17 : decode cX7_free 17 = .ok (.aload_n 0, 1) := by decide +kernel
theorem dX7_free_18 : decode cX7_free 18 = .ok (.getfield 50, 3) := by decide +kernel
theorem dX7_free_21 : decode cX7_free 21 = .ok (.getfield 205, 3) := by decide +kernel
theorem dX7_free_24 : decode cX7_free 24 = .ok (.iload_n 1, 1) := by decide +kernel
theorem dX7_free_25 : decode cX7_free 25 = .ok (.iaload, 1) := by decide +kernel
theorem dX7_free_26 : decode cX7_free 26 = .ok (.ireturn, 1) := by decide +kernel
theorem dX7_lane_0 : decode cX7_lane 0 = .ok (.iload_n 1, 1) := by decide +kernel
theorem dX7_lane_1 : decode cX7_lane 1 = .ok (.ifCond .lt 9, 3) := by decide +kernel
theorem dX7_lane_4 : decode cX7_lane 4 = .ok (.iload_n 1, 1) := by decide +kernel
theorem dX7_lane_5 : decode cX7_lane 5 = .ok (.bipush 30, 2) := by decide +kernel
theorem dX7_lane_7 : decode cX7_lane 7 = .ok (.if_icmp .le 5, 3) := by decide +kernel
theorem dX7_lane_10 : decode cX7_lane 10 = .ok (.iconst (-1), 1) := by decide +kernel
theorem dX7_lane_11 : decode cX7_lane 11 = .ok (.ireturn, 1) := by decide +kernel
theorem dX7_lane_12 : decode cX7_lane 12 = .ok (.iload_n 2, 1) := by decide +kernel
theorem dX7_lane_13 : decode cX7_lane 13 = .ok (.ifCond .lt 8, 3) := by decide +kernel
theorem dX7_lane_16 : decode cX7_lane 16 = .ok (.iload_n 2, 1) := by decide +kernel
theorem dX7_lane_17 : decode cX7_lane 17 = .ok (.iconst 2, 1) := by decide +kernel
theorem dX7_lane_18 : decode cX7_lane 18 = .ok (.if_icmp .le 5, 3) := by decide +kernel
theorem dX7_lane_21 : decode cX7_lane 21 = .ok (.iconst (-1), 1) := by decide +kernel
theorem dX7_lane_22 : decode cX7_lane 22 = .ok (.ireturn, 1) := by decide +kernel
theorem dX7_lane_23 : decode cX7_lane 23 = .ok (.aload_n 0, 1) := by decide +kernel
theorem dX7_lane_24 : decode cX7_lane 24 = .ok (.iload_n 1, 1) := by decide +kernel
theorem dX7_lane_25 : decode cX7_lane 25 = .ok (.invokevirtual 202, 3) := by decide +kernel
theorem dX7_lane_28 : decode cX7_lane 28 = .ok (.iload_n 2, 1) := by decide +kernel
theorem dX7_lane_29 : decode cX7_lane 29 = .ok (.ifCond .ne 12, 3) := by decide +kernel
theorem dX7_lane_32 : decode cX7_lane 32 = .ok (.aload_n 0, 1) := by decide +kernel
theorem dX7_lane_33 : decode cX7_lane 33 = .ok (.getfield 50, 3) := by decide +kernel
theorem dX7_lane_36 : decode cX7_lane 36 = .ok (.iload_n 1, 1) := by decide +kernel
theorem dX7_lane_37 : decode cX7_lane 37 = .ok (.invokevirtual 208, 3) := by decide +kernel
theorem dX7_lane_40 : decode cX7_lane 40 = .ok (.ireturn, 1) := by decide +kernel
theorem dX7_lane_41 : decode cX7_lane 41 = .ok (.iload_n 2, 1) := by decide +kernel
theorem dX7_lane_42 : decode cX7_lane 42 = .ok (.iconst 1, 1) := by decide +kernel
theorem dX7_lane_43 : decode cX7_lane 43 = .ok (.if_icmp .ne 14, 3) := by decide +kernel
theorem dX7_lane_46 : decode cX7_lane 46 = .ok (.aload_n 0, 1) := by decide +kernel
theorem dX7_lane_47 : decode cX7_lane 47 = .ok (.getfield 50, 3) := by decide +kernel
theorem dX7_lane_50 : decode cX7_lane 50 = .ok (.iload_n 1, 1) := by decide +kernel
theorem dX7_lane_51 : decode cX7_lane 51 = .ok (.invokevirtual 211, 3) := by decide +kernel
theorem dX7_lane_54 : decode cX7_lane 54 = .ok (.goto 11, 3) := by decide +kernel
theorem dX7_lane_57 : decode cX7_lane 57 = .ok (.aload_n 0, 1) := by decide +kernel
theorem dX7_lane_58 : decode cX7_lane 58 = .ok (.getfield 50, 3) := by decide +kernel
theorem dX7_lane_61 : decode cX7_lane 61 = .ok (.iload_n 1, 1) := by decide +kernel
theorem dX7_lane_62 : decode cX7_lane 62 = .ok (.invokevirtual 214, 3) := by decide +kernel
theorem dX7_lane_65 : decode cX7_lane 65 = .ok (.ireturn, 1) := by decide +kernel
theorem dX7_ends_0 : decode cX7_ends 0 = .ok (.iload_n 1, 1) := by decide +kernel
theorem dX7_ends_1 : decode cX7_ends 1 = .ok (.invokestatic 217, 3) := by decide +kernel
theorem dX7_ends_4 : decode cX7_ends 4 = .ok (.ifCond .eq 12, 3) := by decide +kernel
theorem dX7_ends_7 : decode cX7_ends 7 = .ok (.iload_n 2, 1) := by decide +kernel
theorem dX7_ends_8 : decode cX7_ends 8 = .ok (.ifCond .lt 8, 3) := by decide +kernel
theorem dX7_ends_11 : decode cX7_ends 11 = .ok (.iload_n 2, 1) := by decide +kernel
theorem dX7_ends_12 : decode cX7_ends 12 = .ok (.iconst 1, 1) := by decide +kernel
theorem dX7_ends_13 : decode cX7_ends 13 = .ok (.if_icmp .le 5, 3) := by decide +kernel
theorem dX7_ends_16 : decode cX7_ends 16 = .ok (.iconst (-1), 1) := by decide +kernel
theorem dX7_ends_17 : decode cX7_ends 17 = .ok (.ireturn, 1) := by decide +kernel
theorem dX7_ends_18 : decode cX7_ends 18 = .ok (.aload_n 0, 1) := by decide +kernel
theorem dX7_ends_19 : decode cX7_ends 19 = .ok (.iload_n 1, 1) := by decide +kernel
theorem dX7_ends_20 : decode cX7_ends 20 = .ok (.invokevirtual 202, 3) := by decide +kernel
theorem dX7_ends_23 : decode cX7_ends 23 = .ok (.iload_n 2, 1) := by decide +kernel
theorem dX7_ends_24 : decode cX7_ends 24 = .ok (.ifCond .ne 21, 3) := by decide +kernel
theorem dX7_ends_27 : decode cX7_ends 27 = .ok (.aload_n 0, 1) := by decide +kernel
theorem dX7_ends_28 : decode cX7_ends 28 = .ok (.getfield 50, 3) := by decide +kernel
theorem dX7_ends_31 : decode cX7_ends 31 = .ok (.aload_n 0, 1) := by decide +kernel
theorem dX7_ends_32 : decode cX7_ends 32 = .ok (.getfield 10, 3) := by decide +kernel
theorem dX7_ends_35 : decode cX7_ends 35 = .ok (.getfield 192, 3) := by decide +kernel
theorem dX7_ends_38 : decode cX7_ends 38 = .ok (.iload_n 1, 1) := by decide +kernel
theorem dX7_ends_39 : decode cX7_ends 39 = .ok (.invokevirtual 220, 3) := by decide +kernel
theorem dX7_ends_42 : decode cX7_ends 42 = .ok (.goto 18, 3) := by decide +kernel
theorem dX7_ends_45 : decode cX7_ends 45 = .ok (.aload_n 0, 1) := by decide +kernel
theorem dX7_ends_46 : decode cX7_ends 46 = .ok (.getfield 50, 3) := by decide +kernel
theorem dX7_ends_49 : decode cX7_ends 49 = .ok (.aload_n 0, 1) := by decide +kernel
theorem dX7_ends_50 : decode cX7_ends 50 = .ok (.getfield 10, 3) := by decide +kernel
theorem dX7_ends_53 : decode cX7_ends 53 = .ok (.getfield 192, 3) := by decide +kernel
theorem dX7_ends_56 : decode cX7_ends 56 = .ok (.iload_n 1, 1) := by decide +kernel
theorem dX7_ends_57 : decode cX7_ends 57 = .ok (.invokevirtual 223, 3) := by decide +kernel
theorem dX7_ends_60 : decode cX7_ends 60 = .ok (.ireturn, 1) := by decide +kernel
theorem dX7_way_0 : decode cX7_way 0 = .ok (.iload_n 1, 1) := by decide +kernel
theorem dX7_way_1 : decode cX7_way 1 = .ok (.invokestatic 217, 3) := by decide +kernel
theorem dX7_way_4 : decode cX7_way 4 = .ok (.ifCond .eq 12, 3) := by decide +kernel
theorem dX7_way_7 : decode cX7_way 7 = .ok (.iload_n 2, 1) := by decide +kernel
theorem dX7_way_8 : decode cX7_way 8 = .ok (.ifCond .lt 8, 3) := by decide +kernel
theorem dX7_way_11 : decode cX7_way 11 = .ok (.iload_n 2, 1) := by decide +kernel
theorem dX7_way_12 : decode cX7_way 12 = .ok (.iload_n 1, 1) := by decide +kernel
theorem dX7_way_13 : decode cX7_way 13 = .ok (.if_icmp .le 5, 3) := by decide +kernel
theorem dX7_way_16 : decode cX7_way 16 = .ok (.iconst (-1), 1) := by decide +kernel
theorem dX7_way_17 : decode cX7_way 17 = .ok (.ireturn, 1) := by decide +kernel
theorem dX7_way_18 : decode cX7_way 18 = .ok (.aload_n 0, 1) := by decide +kernel
theorem dX7_way_19 : decode cX7_way 19 = .ok (.iload_n 1, 1) := by decide +kernel
theorem dX7_way_20 : decode cX7_way 20 = .ok (.invokevirtual 202, 3) := by decide +kernel
theorem dX7_way_23 : decode cX7_way 23 = .ok (.aload_n 0, 1) := by decide +kernel
theorem dX7_way_24 : decode cX7_way 24 = .ok (.getfield 50, 3) := by decide +kernel
theorem dX7_way_27 : decode cX7_way 27 = .ok (.aload_n 0, 1) := by decide +kernel
theorem dX7_way_28 : decode cX7_way 28 = .ok (.getfield 10, 3) := by decide +kernel
theorem dX7_way_31 : decode cX7_way 31 = .ok (.getfield 192, 3) := by decide +kernel
theorem dX7_way_34 : decode cX7_way 34 = .ok (.iload_n 1, 1) := by decide +kernel
theorem dX7_way_35 : decode cX7_way 35 = .ok (.iload_n 2, 1) := by decide +kernel
theorem dX7_way_36 : decode cX7_way 36 = .ok (.invokevirtual 226, 3) := by decide +kernel
theorem dX7_way_39 : decode cX7_way 39 = .ok (.ireturn, 1) := by decide +kernel
theorem dX7_asides_0 : decode cX7_asides 0 = .ok (.iload_n 1, 1) := by decide +kernel
theorem dX7_asides_1 : decode cX7_asides 1 = .ok (.invokestatic 217, 3) := by decide +kernel
theorem dX7_asides_4 : decode cX7_asides 4 = .ok (.ifCond .ne 5, 3) := by decide +kernel
theorem dX7_asides_7 : decode cX7_asides 7 = .ok (.iconst (-1), 1) := by decide +kernel
theorem dX7_asides_8 : decode cX7_asides 8 = .ok (.ireturn, 1) := by decide +kernel
theorem dX7_asides_9 : decode cX7_asides 9 = .ok (.aload_n 0, 1) := by decide +kernel
theorem dX7_asides_10 : decode cX7_asides 10 = .ok (.iload_n 1, 1) := by decide +kernel
theorem dX7_asides_11 : decode cX7_asides 11 = .ok (.invokevirtual 202, 3) := by decide +kernel
theorem dX7_asides_14 : decode cX7_asides 14 = .ok (.aload_n 0, 1) := by decide +kernel
theorem dX7_asides_15 : decode cX7_asides 15 = .ok (.getfield 50, 3) := by decide +kernel
theorem dX7_asides_18 : decode cX7_asides 18 = .ok (.aload_n 0, 1) := by decide +kernel
theorem dX7_asides_19 : decode cX7_asides 19 = .ok (.getfield 10, 3) := by decide +kernel
theorem dX7_asides_22 : decode cX7_asides 22 = .ok (.getfield 192, 3) := by decide +kernel
theorem dX7_asides_25 : decode cX7_asides 25 = .ok (.iload_n 1, 1) := by decide +kernel
theorem dX7_asides_26 : decode cX7_asides 26 = .ok (.invokevirtual 230, 3) := by decide +kernel
theorem dX7_asides_29 : decode cX7_asides 29 = .ok (.ireturn, 1) := by decide +kernel
theorem dX7_fair_0 : decode cX7_fair 0 = .ok (.aload_n 0, 1) := by decide +kernel
theorem dX7_fair_1 : decode cX7_fair 1 = .ok (.bipush 30, 2) := by decide +kernel
theorem dX7_fair_3 : decode cX7_fair 3 = .ok (.invokevirtual 202, 3) := by decide +kernel
theorem dX7_fair_6 : decode cX7_fair 6 = .ok (.aload_n 0, 1) := by decide +kernel
theorem dX7_fair_7 : decode cX7_fair 7 = .ok (.getfield 50, 3) := by decide +kernel
theorem dX7_fair_10 : decode cX7_fair 10 = .ok (.aload_n 0, 1) := by decide +kernel
theorem dX7_fair_11 : decode cX7_fair 11 = .ok (.getfield 10, 3) := by decide +kernel
theorem dX7_fair_14 : decode cX7_fair 14 = .ok (.getfield 192, 3) := by decide +kernel
theorem dX7_fair_17 : decode cX7_fair 17 = .ok (.invokevirtual 233, 3) := by decide +kernel
theorem dX7_fair_20 : decode cX7_fair 20 = .ok (.ireturn, 1) := by decide +kernel
theorem dX7_shuts_0 : decode cX7_shuts 0 = .ok (.iload_n 1, 1) := by decide +kernel
theorem dX7_shuts_1 : decode cX7_shuts 1 = .ok (.invokestatic 217, 3) := by decide +kernel
theorem dX7_shuts_4 : decode cX7_shuts 4 = .ok (.ifCond .ne 5, 3) := by decide +kernel
theorem dX7_shuts_7 : decode cX7_shuts 7 = .ok (.iconst (-1), 1) := by decide +kernel
theorem dX7_shuts_8 : decode cX7_shuts 8 = .ok (.ireturn, 1) := by decide +kernel
theorem dX7_shuts_9 : decode cX7_shuts 9 = .ok (.aload_n 0, 1) := by decide +kernel
theorem dX7_shuts_10 : decode cX7_shuts 10 = .ok (.getfield 10, 3) := by decide +kernel
theorem dX7_shuts_13 : decode cX7_shuts 13 = .ok (.getfield 64, 3) := by decide +kernel
theorem dX7_shuts_16 : decode cX7_shuts 16 = .ok (.getfield 82, 3) := by decide +kernel
theorem dX7_shuts_19 : decode cX7_shuts 19 = .ok (.ifCond .ne 6, 3) := by decide +kernel
theorem dX7_shuts_22 : decode cX7_shuts 22 = .ok (.bipush (-2), 2) := by decide +kernel
theorem dX7_shuts_24 : decode cX7_shuts 24 = .ok (.ireturn, 1) := by decide +kernel
theorem dX7_shuts_25 : decode cX7_shuts 25 = .ok (.iconst 0, 1) := by decide +kernel
theorem dX7_shuts_26 : decode cX7_shuts 26 = .ok (.istore_n 2, 1) := by decide +kernel
theorem dX7_shuts_27 : decode cX7_shuts 27 = .ok (.iconst (-1), 1) := by decide +kernel
theorem dX7_shuts_28 : decode cX7_shuts 28 = .ok (.istore_n 3, 1) := by decide +kernel
theorem dX7_shuts_29 : decode cX7_shuts 29 = .ok (.iconst 0, 1) := by decide +kernel
theorem dX7_shuts_30 : decode cX7_shuts 30 = .ok (.istore 4, 2) := by decide +kernel
theorem dX7_shuts_32 : decode cX7_shuts 32 = .ok (.iload 4, 2) := by decide +kernel
theorem dX7_shuts_34 : decode cX7_shuts 34 = .ok (.aload_n 0, 1) := by decide +kernel
theorem dX7_shuts_35 : decode cX7_shuts 35 = .ok (.getfield 10, 3) := by decide +kernel
theorem dX7_shuts_38 : decode cX7_shuts 38 = .ok (.getfield 64, 3) := by decide +kernel
theorem dX7_shuts_41 : decode cX7_shuts 41 = .ok (.getfield 82, 3) := by decide +kernel
theorem dX7_shuts_44 : decode cX7_shuts 44 = .ok (.if_icmp .ge 66, 3) := by decide +kernel
theorem dX7_shuts_47 : decode cX7_shuts 47 = .ok (.aload_n 0, 1) := by decide +kernel
theorem dX7_shuts_48 : decode cX7_shuts 48 = .ok (.getfield 16, 3) := by decide +kernel
theorem dX7_shuts_51 : decode cX7_shuts 51 = .ok (.aload_n 0, 1) := by decide +kernel
theorem dX7_shuts_52 : decode cX7_shuts 52 = .ok (.getfield 10, 3) := by decide +kernel
theorem dX7_shuts_55 : decode cX7_shuts 55 = .ok (.invokevirtual 236, 3) := by decide +kernel
theorem dX7_shuts_58 : decode cX7_shuts 58 = .ok (.aload_n 0, 1) := by decide +kernel
theorem dX7_shuts_59 : decode cX7_shuts 59 = .ok (.getfield 16, 3) := by decide +kernel
theorem dX7_shuts_62 : decode cX7_shuts 62 = .ok (.getfield 64, 3) := by decide +kernel
theorem dX7_shuts_65 : decode cX7_shuts 65 = .ok (.iload 4, 2) := by decide +kernel
theorem dX7_shuts_67 : decode cX7_shuts 67 = .ok (.invokevirtual 89, 3) := by decide +kernel
theorem dX7_shuts_70 : decode cX7_shuts 70 = .ok (.aload_n 0, 1) := by decide +kernel
theorem dX7_shuts_71 : decode cX7_shuts 71 = .ok (.getfield 50, 3) := by decide +kernel
theorem dX7_shuts_74 : decode cX7_shuts 74 = .ok (.aload_n 0, 1) := by decide +kernel
theorem dX7_shuts_75 : decode cX7_shuts 75 = .ok (.getfield 16, 3) := by decide +kernel
theorem dX7_shuts_78 : decode cX7_shuts 78 = .ok (.iload_n 1, 1) := by decide +kernel
theorem dX7_shuts_79 : decode cX7_shuts 79 = .ok (.invokevirtual 238, 3) := by decide +kernel
theorem dX7_shuts_82 : decode cX7_shuts 82 = .ok (.aload_n 0, 1) := by decide +kernel
theorem dX7_shuts_83 : decode cX7_shuts 83 = .ok (.getfield 50, 3) := by decide +kernel
theorem dX7_shuts_86 : decode cX7_shuts 86 = .ok (.iload_n 1, 1) := by decide +kernel
theorem dX7_shuts_87 : decode cX7_shuts 87 = .ok (.invokevirtual 241, 3) := by decide +kernel
theorem dX7_shuts_90 : decode cX7_shuts 90 = .ok (.istore 5, 2) := by decide +kernel
theorem dX7_shuts_92 : decode cX7_shuts 92 = .ok (.iload 5, 2) := by decide +kernel
theorem dX7_shuts_94 : decode cX7_shuts 94 = .ok (.iload_n 3, 1) := by decide +kernel
theorem dX7_shuts_95 : decode cX7_shuts 95 = .ok (.if_icmp .le 9, 3) := by decide +kernel
theorem dX7_shuts_98 : decode cX7_shuts 98 = .ok (.iload 5, 2) := by decide +kernel
theorem dX7_shuts_100 : decode cX7_shuts 100 = .ok (.istore_n 3, 1) := by decide +kernel
theorem dX7_shuts_101 : decode cX7_shuts 101 = .ok (.iload 4, 2) := by decide +kernel
theorem dX7_shuts_103 : decode cX7_shuts 103 = .ok (.istore_n 2, 1) := by decide +kernel
theorem dX7_shuts_104 : decode cX7_shuts 104 = .ok (.iinc 4 1, 3) := by decide +kernel
theorem dX7_shuts_107 : decode cX7_shuts 107 = .ok (.goto (-75), 3) := by decide +kernel
theorem dX7_shuts_110 : decode cX7_shuts 110 = .ok (.iload_n 2, 1) := by decide +kernel
theorem dX7_shuts_111 : decode cX7_shuts 111 = .ok (.ireturn, 1) := by decide +kernel
theorem dX7_ifStepped_0 : decode cX7_ifStepped 0 = .ok (.iload_n 1, 1) := by decide +kernel
theorem dX7_ifStepped_1 : decode cX7_ifStepped 1 = .ok (.invokestatic 93, 3) := by decide +kernel
theorem dX7_ifStepped_4 : decode cX7_ifStepped 4 = .ok (.ifCond .eq 19, 3) := by decide +kernel
theorem dX7_ifStepped_7 : decode cX7_ifStepped 7 = .ok (.iload_n 2, 1) := by decide +kernel
theorem dX7_ifStepped_8 : decode cX7_ifStepped 8 = .ok (.invokestatic 217, 3) := by decide +kernel
theorem dX7_ifStepped_11 : decode cX7_ifStepped 11 = .ok (.ifCond .eq 12, 3) := by decide +kernel
theorem dX7_ifStepped_14 : decode cX7_ifStepped 14 = .ok (.iload_n 3, 1) := by decide +kernel
theorem dX7_ifStepped_15 : decode cX7_ifStepped 15 = .ok (.ifCond .lt 8, 3) := by decide +kernel
theorem dX7_ifStepped_18 : decode cX7_ifStepped 18 = .ok (.iload_n 3, 1) := by decide +kernel
theorem dX7_ifStepped_19 : decode cX7_ifStepped 19 = .ok (.iconst 2, 1) := by decide +kernel
theorem dX7_ifStepped_20 : decode cX7_ifStepped 20 = .ok (.if_icmp .le 5, 3) := by decide +kernel
theorem dX7_ifStepped_23 : decode cX7_ifStepped 23 = .ok (.iconst (-1), 1) := by decide +kernel
theorem dX7_ifStepped_24 : decode cX7_ifStepped 24 = .ok (.ireturn, 1) := by decide +kernel
theorem dX7_ifStepped_25 : decode cX7_ifStepped 25 = .ok (.aload_n 0, 1) := by decide +kernel
theorem dX7_ifStepped_26 : decode cX7_ifStepped 26 = .ok (.getfield 10, 3) := by decide +kernel
theorem dX7_ifStepped_29 : decode cX7_ifStepped 29 = .ok (.getfield 96, 3) := by decide +kernel
theorem dX7_ifStepped_32 : decode cX7_ifStepped 32 = .ok (.ifCond .eq 6, 3) := by decide +kernel
theorem dX7_ifStepped_35 : decode cX7_ifStepped 35 = .ok (.bipush (-2), 2) := by decide +kernel
theorem dX7_ifStepped_37 : decode cX7_ifStepped 37 = .ok (.ireturn, 1) := by decide +kernel
theorem dX7_ifStepped_38 : decode cX7_ifStepped 38 = .ok (.aload_n 0, 1) := by decide +kernel
theorem dX7_ifStepped_39 : decode cX7_ifStepped 39 = .ok (.getfield 16, 3) := by decide +kernel
theorem dX7_ifStepped_42 : decode cX7_ifStepped 42 = .ok (.aload_n 0, 1) := by decide +kernel
theorem dX7_ifStepped_43 : decode cX7_ifStepped 43 = .ok (.getfield 10, 3) := by decide +kernel
theorem dX7_ifStepped_46 : decode cX7_ifStepped 46 = .ok (.invokevirtual 236, 3) := by decide +kernel
theorem dX7_ifStepped_49 : decode cX7_ifStepped 49 = .ok (.iconst 0, 1) := by decide +kernel
theorem dX7_ifStepped_50 : decode cX7_ifStepped 50 = .ok (.istore 4, 2) := by decide +kernel
theorem dX7_ifStepped_52 : decode cX7_ifStepped 52 = .ok (.iload 4, 2) := by decide +kernel
theorem dX7_ifStepped_54 : decode cX7_ifStepped 54 = .ok (.iload_n 2, 1) := by decide +kernel
theorem dX7_ifStepped_55 : decode cX7_ifStepped 55 = .ok (.if_icmp .ge 28, 3) := by decide +kernel
theorem dX7_ifStepped_58 : decode cX7_ifStepped 58 = .ok (.aload_n 0, 1) := by decide +kernel
theorem dX7_ifStepped_59 : decode cX7_ifStepped 59 = .ok (.getfield 16, 3) := by decide +kernel
theorem dX7_ifStepped_62 : decode cX7_ifStepped 62 = .ok (.getfield 96, 3) := by decide +kernel
theorem dX7_ifStepped_65 : decode cX7_ifStepped 65 = .ok (.ifCond .ne 18, 3) := by decide +kernel
theorem dX7_ifStepped_68 : decode cX7_ifStepped 68 = .ok (.aload_n 0, 1) := by decide +kernel
theorem dX7_ifStepped_69 : decode cX7_ifStepped 69 = .ok (.getfield 16, 3) := by decide +kernel
theorem dX7_ifStepped_72 : decode cX7_ifStepped 72 = .ok (.iload_n 1, 1) := by decide +kernel
theorem dX7_ifStepped_73 : decode cX7_ifStepped 73 = .ok (.invokevirtual 99, 3) := by decide +kernel
theorem dX7_ifStepped_76 : decode cX7_ifStepped 76 = .ok (.pop, 1) := by decide +kernel
theorem dX7_ifStepped_77 : decode cX7_ifStepped 77 = .ok (.iinc 4 1, 3) := by decide +kernel
theorem dX7_ifStepped_80 : decode cX7_ifStepped 80 = .ok (.goto (-28), 3) := by decide +kernel
theorem dX7_ifStepped_83 : decode cX7_ifStepped 83 = .ok (.iload_n 3, 1) := by decide +kernel
theorem dX7_ifStepped_84 : decode cX7_ifStepped 84 = .ok (.ifCond .ne 25, 3) := by decide +kernel
theorem dX7_ifStepped_87 : decode cX7_ifStepped 87 = .ok (.aload_n 0, 1) := by decide +kernel
theorem dX7_ifStepped_88 : decode cX7_ifStepped 88 = .ok (.getfield 16, 3) := by decide +kernel
theorem dX7_ifStepped_91 : decode cX7_ifStepped 91 = .ok (.getfield 188, 3) := by decide +kernel
theorem dX7_ifStepped_94 : decode cX7_ifStepped 94 = .ok (.bipush 7, 2) := by decide +kernel
theorem dX7_ifStepped_96 : decode cX7_ifStepped 96 = .ok (.iaload, 1) := by decide +kernel
theorem dX7_ifStepped_97 : decode cX7_ifStepped 97 = .ok (.aload_n 0, 1) := by decide +kernel
theorem dX7_ifStepped_98 : decode cX7_ifStepped 98 = .ok (.getfield 10, 3) := by decide +kernel
theorem dX7_ifStepped_101 : decode cX7_ifStepped 101 = .ok (.getfield 188, 3) := by decide +kernel
theorem dX7_ifStepped_104 : decode cX7_ifStepped 104 = .ok (.bipush 7, 2) := by decide +kernel
theorem dX7_ifStepped_106 : decode cX7_ifStepped 106 = .ok (.iaload, 1) := by decide +kernel
theorem dX7_ifStepped_107 : decode cX7_ifStepped 107 = .ok (.isub, 1) := by decide +kernel
theorem dX7_ifStepped_108 : decode cX7_ifStepped 108 = .ok (.ireturn, 1) := by decide +kernel
theorem dX7_ifStepped_109 : decode cX7_ifStepped 109 = .ok (.iload_n 3, 1) := by decide +kernel
theorem dX7_ifStepped_110 : decode cX7_ifStepped 110 = .ok (.iconst 1, 1) := by decide +kernel
theorem dX7_ifStepped_111 : decode cX7_ifStepped 111 = .ok (.if_icmp .ne 25, 3) := by decide +kernel
theorem dX7_ifStepped_114 : decode cX7_ifStepped 114 = .ok (.aload_n 0, 1) := by decide +kernel
theorem dX7_ifStepped_115 : decode cX7_ifStepped 115 = .ok (.getfield 16, 3) := by decide +kernel
theorem dX7_ifStepped_118 : decode cX7_ifStepped 118 = .ok (.getfield 188, 3) := by decide +kernel
theorem dX7_ifStepped_121 : decode cX7_ifStepped 121 = .ok (.bipush 6, 2) := by decide +kernel
theorem dX7_ifStepped_123 : decode cX7_ifStepped 123 = .ok (.iaload, 1) := by decide +kernel
theorem dX7_ifStepped_124 : decode cX7_ifStepped 124 = .ok (.aload_n 0, 1) := by decide +kernel
theorem dX7_ifStepped_125 : decode cX7_ifStepped 125 = .ok (.getfield 10, 3) := by decide +kernel
theorem dX7_ifStepped_128 : decode cX7_ifStepped 128 = .ok (.getfield 188, 3) := by decide +kernel
theorem dX7_ifStepped_131 : decode cX7_ifStepped 131 = .ok (.bipush 6, 2) := by decide +kernel
theorem dX7_ifStepped_133 : decode cX7_ifStepped 133 = .ok (.iaload, 1) := by decide +kernel
theorem dX7_ifStepped_134 : decode cX7_ifStepped 134 = .ok (.isub, 1) := by decide +kernel
theorem dX7_ifStepped_135 : decode cX7_ifStepped 135 = .ok (.ireturn, 1) := by decide +kernel
theorem dX7_ifStepped_136 : decode cX7_ifStepped 136 = .ok (.aload_n 0, 1) := by decide +kernel
theorem dX7_ifStepped_137 : decode cX7_ifStepped 137 = .ok (.getfield 16, 3) := by decide +kernel
theorem dX7_ifStepped_140 : decode cX7_ifStepped 140 = .ok (.getfield 96, 3) := by decide +kernel
theorem dX7_ifStepped_143 : decode cX7_ifStepped 143 = .ok (.ifCond .eq 8, 3) := by decide +kernel
theorem dX7_ifStepped_146 : decode cX7_ifStepped 146 = .ok (.iload 4, 2) := by decide +kernel
theorem dX7_ifStepped_148 : decode cX7_ifStepped 148 = .ok (.goto 5, 3) := by decide +kernel
theorem dX7_ifStepped_151 : decode cX7_ifStepped 151 = .ok (.bipush (-4), 2) := by decide +kernel
theorem dX7_ifStepped_153 : decode cX7_ifStepped 153 = .ok (.ireturn, 1) := by decide +kernel
theorem dX7_openness_0 : decode cX7_openness 0 = .ok (.iload_n 1, 1) := by decide +kernel
theorem dX7_openness_1 : decode cX7_openness 1 = .ok (.invokestatic 217, 3) := by decide +kernel
theorem dX7_openness_4 : decode cX7_openness 4 = .ok (.ifCond .ne 7, 3) := by decide +kernel
theorem dX7_openness_7 : decode cX7_openness 7 = .ok (.ldc2_w 244, 3) := by decide +kernel
theorem dX7_openness_10 : decode cX7_openness 10 = .ok (.dreturn, 1) := by decide +kernel
theorem dX7_openness_11 : decode cX7_openness 11 = .ok (.aload_n 0, 1) := by decide +kernel
theorem dX7_openness_12 : decode cX7_openness 12 = .ok (.iload_n 1, 1) := by decide +kernel
theorem dX7_openness_13 : decode cX7_openness 13 = .ok (.invokevirtual 202, 3) := by decide +kernel
theorem dX7_openness_16 : decode cX7_openness 16 = .ok (.aload_n 0, 1) := by decide +kernel
theorem dX7_openness_17 : decode cX7_openness 17 = .ok (.getfield 50, 3) := by decide +kernel
theorem dX7_openness_20 : decode cX7_openness 20 = .ok (.iload_n 1, 1) := by decide +kernel
theorem dX7_openness_21 : decode cX7_openness 21 = .ok (.invokevirtual 241, 3) := by decide +kernel
theorem dX7_openness_24 : decode cX7_openness 24 = .ok (.i2d, 1) := by decide +kernel
theorem dX7_openness_25 : decode cX7_openness 25 = .ok (.bipush 10, 2) := by decide +kernel
theorem dX7_openness_27 : decode cX7_openness 27 = .ok (.iload_n 1, 1) := by decide +kernel
theorem dX7_openness_28 : decode cX7_openness 28 = .ok (.imul, 1) := by decide +kernel
theorem dX7_openness_29 : decode cX7_openness 29 = .ok (.i2d, 1) := by decide +kernel
theorem dX7_openness_30 : decode cX7_openness 30 = .ok (.ddiv, 1) := by decide +kernel
theorem dX7_openness_31 : decode cX7_openness 31 = .ok (.dreturn, 1) := by decide +kernel
theorem dX7_foresee_0 : decode cX7_foresee 0 = .ok (.aload_n 0, 1) := by decide +kernel
theorem dX7_foresee_1 : decode cX7_foresee 1 = .ok (.getfield 16, 3) := by decide +kernel
theorem dX7_foresee_4 : decode cX7_foresee 4 = .ok (.aload_n 0, 1) := by decide +kernel
theorem dX7_foresee_5 : decode cX7_foresee 5 = .ok (.getfield 10, 3) := by decide +kernel
theorem dX7_foresee_8 : decode cX7_foresee 8 = .ok (.invokevirtual 236, 3) := by decide +kernel
theorem dX7_foresee_11 : decode cX7_foresee 11 = .ok (.aload_n 0, 1) := by decide +kernel
theorem dX7_foresee_12 : decode cX7_foresee 12 = .ok (.getfield 50, 3) := by decide +kernel
theorem dX7_foresee_15 : decode cX7_foresee 15 = .ok (.aload_n 0, 1) := by decide +kernel
theorem dX7_foresee_16 : decode cX7_foresee 16 = .ok (.getfield 16, 3) := by decide +kernel
theorem dX7_foresee_19 : decode cX7_foresee 19 = .ok (.iload_n 1, 1) := by decide +kernel
theorem dX7_foresee_20 : decode cX7_foresee 20 = .ok (.invokevirtual 238, 3) := by decide +kernel
theorem dX7_foresee_23 : decode cX7_foresee 23 = .ok (.return_, 1) := by decide +kernel
theorem dX7_undo_0 : decode cX7_undo 0 = .ok (.aload_n 0, 1) := by decide +kernel
theorem dX7_undo_1 : decode cX7_undo 1 = .ok (.getfield 29, 3) := by decide +kernel
theorem dX7_undo_4 : decode cX7_undo 4 = .ok (.getfield 201, 3) := by decide +kernel
theorem dX7_undo_7 : decode cX7_undo 7 = .ok (.ifCond .ne 6, 3) := by decide +kernel
theorem dX7_undo_10 : decode cX7_undo 10 = .ok (.bipush (-2), 2) := by decide +kernel
theorem dX7_undo_12 : decode cX7_undo 12 = .ok (.ireturn, 1) := by decide +kernel
theorem dX7_undo_13 : decode cX7_undo 13 = .ok (.aload_n 0, 1) := by decide +kernel
theorem dX7_undo_14 : decode cX7_undo 14 = .ok (.getfield 29, 3) := by decide +kernel
theorem dX7_undo_17 : decode cX7_undo 17 = .ok (.aload_n 0, 1) := by decide +kernel
theorem dX7_undo_18 : decode cX7_undo 18 = .ok (.getfield 10, 3) := by decide +kernel
theorem dX7_undo_21 : decode cX7_undo 21 = .ok (.invokevirtual 246, 3) := by decide +kernel
theorem dX7_undo_24 : decode cX7_undo 24 = .ok (.aload_n 0, 1) := by decide +kernel
theorem dX7_undo_25 : decode cX7_undo 25 = .ok (.getfield 29, 3) := by decide +kernel
theorem dX7_undo_28 : decode cX7_undo 28 = .ok (.getfield 201, 3) := by decide +kernel
theorem dX7_undo_31 : decode cX7_undo 31 = .ok (.ireturn, 1) := by decide +kernel
theorem dX7_save_0 : decode cX7_save 0 = .ok (.aload_n 0, 1) := by decide +kernel
theorem dX7_save_1 : decode cX7_save 1 = .ok (.getfield 19, 3) := by decide +kernel
theorem dX7_save_4 : decode cX7_save 4 = .ok (.aload_n 0, 1) := by decide +kernel
theorem dX7_save_5 : decode cX7_save 5 = .ok (.getfield 10, 3) := by decide +kernel
theorem dX7_save_8 : decode cX7_save 8 = .ok (.invokevirtual 236, 3) := by decide +kernel
theorem dX7_save_11 : decode cX7_save 11 = .ok (.aload_n 0, 1) := by decide +kernel
theorem dX7_save_12 : decode cX7_save 12 = .ok (.iconst 1, 1) := by decide +kernel
theorem dX7_save_13 : decode cX7_save 13 = .ok (.putfield 22, 3) := by decide +kernel
theorem dX7_save_16 : decode cX7_save 16 = .ok (.aload_n 0, 1) := by decide +kernel
theorem dX7_save_17 : decode cX7_save 17 = .ok (.getfield 10, 3) := by decide +kernel
theorem dX7_save_20 : decode cX7_save 20 = .ok (.getfield 157, 3) := by decide +kernel
theorem dX7_save_23 : decode cX7_save 23 = .ok (.ireturn, 1) := by decide +kernel
theorem dX7_restore_0 : decode cX7_restore 0 = .ok (.aload_n 0, 1) := by decide +kernel
theorem dX7_restore_1 : decode cX7_restore 1 = .ok (.getfield 22, 3) := by decide +kernel
theorem dX7_restore_4 : decode cX7_restore 4 = .ok (.ifCond .ne 6, 3) := by decide +kernel
theorem dX7_restore_7 : decode cX7_restore 7 = .ok (.bipush (-2), 2) := by decide +kernel
theorem dX7_restore_9 : decode cX7_restore 9 = .ok (.ireturn, 1) := by decide +kernel
theorem dX7_restore_10 : decode cX7_restore 10 = .ok (.aload_n 0, 1) := by decide +kernel
theorem dX7_restore_11 : decode cX7_restore 11 = .ok (.getfield 29, 3) := by decide +kernel
theorem dX7_restore_14 : decode cX7_restore 14 = .ok (.aload_n 0, 1) := by decide +kernel
theorem dX7_restore_15 : decode cX7_restore 15 = .ok (.getfield 10, 3) := by decide +kernel
theorem dX7_restore_18 : decode cX7_restore 18 = .ok (.invokevirtual 74, 3) := by decide +kernel
theorem dX7_restore_21 : decode cX7_restore 21 = .ok (.aload_n 0, 1) := by decide +kernel
theorem dX7_restore_22 : decode cX7_restore 22 = .ok (.getfield 10, 3) := by decide +kernel
theorem dX7_restore_25 : decode cX7_restore 25 = .ok (.aload_n 0, 1) := by decide +kernel
theorem dX7_restore_26 : decode cX7_restore 26 = .ok (.getfield 19, 3) := by decide +kernel
theorem dX7_restore_29 : decode cX7_restore 29 = .ok (.invokevirtual 236, 3) := by decide +kernel
theorem dX7_restore_32 : decode cX7_restore 32 = .ok (.aload_n 0, 1) := by decide +kernel
theorem dX7_restore_33 : decode cX7_restore 33 = .ok (.getfield 10, 3) := by decide +kernel
theorem dX7_restore_36 : decode cX7_restore 36 = .ok (.getfield 157, 3) := by decide +kernel
theorem dX7_restore_39 : decode cX7_restore 39 = .ok (.ireturn, 1) := by decide +kernel
theorem dX7_isColumn_0 : decode cX7_isColumn 0 = .ok (.iload_n 0, 1) := by decide +kernel
theorem dX7_isColumn_1 : decode cX7_isColumn 1 = .ok (.ifCond .lt 13, 3) := by decide +kernel
theorem dX7_isColumn_4 : decode cX7_isColumn 4 = .ok (.iload_n 0, 1) := by decide +kernel
theorem dX7_isColumn_5 : decode cX7_isColumn 5 = .ok (.bipush 10, 2) := by decide +kernel
theorem dX7_isColumn_7 : decode cX7_isColumn 7 = .ok (.if_icmp .ge 7, 3) := by decide +kernel
theorem dX7_isColumn_10 : decode cX7_isColumn 10 = .ok (.iconst 1, 1) := by decide +kernel
theorem dX7_isColumn_11 : decode cX7_isColumn 11 = .ok (.goto 4, 3) := by decide +kernel
theorem dX7_isColumn_14 : decode cX7_isColumn 14 = .ok (.iconst 0, 1) := by decide +kernel
theorem dX7_isColumn_15 : decode cX7_isColumn 15 = .ok (.ireturn, 1) := by decide +kernel
theorem dX7_isPattern_0 : decode cX7_isPattern 0 = .ok (.iload_n 0, 1) := by decide +kernel
theorem dX7_isPattern_1 : decode cX7_isPattern 1 = .ok (.ifCond .lt 12, 3) := by decide +kernel
theorem dX7_isPattern_4 : decode cX7_isPattern 4 = .ok (.iload_n 0, 1) := by decide +kernel
theorem dX7_isPattern_5 : decode cX7_isPattern 5 = .ok (.iconst 5, 1) := by decide +kernel
theorem dX7_isPattern_6 : decode cX7_isPattern 6 = .ok (.if_icmp .gt 7, 3) := by decide +kernel
theorem dX7_isPattern_9 : decode cX7_isPattern 9 = .ok (.iconst 1, 1) := by decide +kernel
theorem dX7_isPattern_10 : decode cX7_isPattern 10 = .ok (.goto 4, 3) := by decide +kernel
theorem dX7_isPattern_13 : decode cX7_isPattern 13 = .ok (.iconst 0, 1) := by decide +kernel
theorem dX7_isPattern_14 : decode cX7_isPattern 14 = .ok (.ireturn, 1) := by decide +kernel
theorem dX7_isPeriod_0 : decode cX7_isPeriod 0 = .ok (.iload_n 0, 1) := by decide +kernel
theorem dX7_isPeriod_1 : decode cX7_isPeriod 1 = .ok (.iconst 1, 1) := by decide +kernel
theorem dX7_isPeriod_2 : decode cX7_isPeriod 2 = .ok (.if_icmp .lt 13, 3) := by decide +kernel
theorem dX7_isPeriod_5 : decode cX7_isPeriod 5 = .ok (.iload_n 0, 1) := by decide +kernel
theorem dX7_isPeriod_6 : decode cX7_isPeriod 6 = .ok (.bipush 9, 2) := by decide +kernel
theorem dX7_isPeriod_8 : decode cX7_isPeriod 8 = .ok (.if_icmp .gt 7, 3) := by decide +kernel
theorem dX7_isPeriod_11 : decode cX7_isPeriod 11 = .ok (.iconst 1, 1) := by decide +kernel
theorem dX7_isPeriod_12 : decode cX7_isPeriod 12 = .ok (.goto 4, 3) := by decide +kernel
theorem dX7_isPeriod_15 : decode cX7_isPeriod 15 = .ok (.iconst 0, 1) := by decide +kernel
theorem dX7_isPeriod_16 : decode cX7_isPeriod 16 = .ok (.ireturn, 1) := by decide +kernel
theorem dX7_isStep_0 : decode cX7_isStep 0 = .ok (.iload_n 0, 1) := by decide +kernel
theorem dX7_isStep_1 : decode cX7_isStep 1 = .ok (.iconst (-1), 1) := by decide +kernel
theorem dX7_isStep_2 : decode cX7_isStep 2 = .ok (.if_icmp .lt 12, 3) := by decide +kernel
theorem dX7_isStep_5 : decode cX7_isStep 5 = .ok (.iload_n 0, 1) := by decide +kernel
theorem dX7_isStep_6 : decode cX7_isStep 6 = .ok (.iconst 1, 1) := by decide +kernel
theorem dX7_isStep_7 : decode cX7_isStep 7 = .ok (.if_icmp .gt 7, 3) := by decide +kernel
theorem dX7_isStep_10 : decode cX7_isStep 10 = .ok (.iconst 1, 1) := by decide +kernel
theorem dX7_isStep_11 : decode cX7_isStep 11 = .ok (.goto 4, 3) := by decide +kernel
theorem dX7_isStep_14 : decode cX7_isStep 14 = .ok (.iconst 0, 1) := by decide +kernel
theorem dX7_isStep_15 : decode cX7_isStep 15 = .ok (.ireturn, 1) := by decide +kernel
theorem dX7_isSpan_0 : decode cX7_isSpan 0 = .ok (.iload_n 0, 1) := by decide +kernel
theorem dX7_isSpan_1 : decode cX7_isSpan 1 = .ok (.iconst 1, 1) := by decide +kernel
theorem dX7_isSpan_2 : decode cX7_isSpan 2 = .ok (.if_icmp .lt 13, 3) := by decide +kernel
theorem dX7_isSpan_5 : decode cX7_isSpan 5 = .ok (.iload_n 0, 1) := by decide +kernel
theorem dX7_isSpan_6 : decode cX7_isSpan 6 = .ok (.bipush 30, 2) := by decide +kernel
theorem dX7_isSpan_8 : decode cX7_isSpan 8 = .ok (.if_icmp .gt 7, 3) := by decide +kernel
theorem dX7_isSpan_11 : decode cX7_isSpan 11 = .ok (.iconst 1, 1) := by decide +kernel
theorem dX7_isSpan_12 : decode cX7_isSpan 12 = .ok (.goto 4, 3) := by decide +kernel
theorem dX7_isSpan_15 : decode cX7_isSpan 15 = .ok (.iconst 0, 1) := by decide +kernel
theorem dX7_isSpan_16 : decode cX7_isSpan 16 = .ok (.ireturn, 1) := by decide +kernel
theorem dX7_isSetting_0 : decode cX7_isSetting 0 = .ok (.iload_n 0, 1) := by decide +kernel
theorem dX7_isSetting_1 : decode cX7_isSetting 1 = .ok (.ifCond .ne 18, 3) := by decide +kernel
theorem dX7_isSetting_4 : decode cX7_isSetting 4 = .ok (.iload_n 1, 1) := by decide +kernel
theorem dX7_isSetting_5 : decode cX7_isSetting 5 = .ok (.ifCond .eq 8, 3) := by decide +kernel
theorem dX7_isSetting_8 : decode cX7_isSetting 8 = .ok (.iload_n 1, 1) := by decide +kernel
theorem dX7_isSetting_9 : decode cX7_isSetting 9 = .ok (.iconst 1, 1) := by decide +kernel
theorem dX7_isSetting_10 : decode cX7_isSetting 10 = .ok (.if_icmp .ne 7, 3) := by decide +kernel
theorem dX7_isSetting_13 : decode cX7_isSetting 13 = .ok (.iconst 1, 1) := by decide +kernel
theorem dX7_isSetting_14 : decode cX7_isSetting 14 = .ok (.goto 4, 3) := by decide +kernel
theorem dX7_isSetting_17 : decode cX7_isSetting 17 = .ok (.iconst 0, 1) := by decide +kernel
theorem dX7_isSetting_18 : decode cX7_isSetting 18 = .ok (.ireturn, 1) := by decide +kernel
theorem dX7_isSetting_19 : decode cX7_isSetting 19 = .ok (.iload_n 0, 1) := by decide +kernel
theorem dX7_isSetting_20 : decode cX7_isSetting 20 = .ok (.iconst 1, 1) := by decide +kernel
theorem dX7_isSetting_21 : decode cX7_isSetting 21 = .ok (.if_icmp .ne 17, 3) := by decide +kernel
theorem dX7_isSetting_24 : decode cX7_isSetting 24 = .ok (.iload_n 1, 1) := by decide +kernel
theorem dX7_isSetting_25 : decode cX7_isSetting 25 = .ok (.iconst 1, 1) := by decide +kernel
theorem dX7_isSetting_26 : decode cX7_isSetting 26 = .ok (.if_icmp .lt 12, 3) := by decide +kernel
theorem dX7_isSetting_29 : decode cX7_isSetting 29 = .ok (.iload_n 1, 1) := by decide +kernel
theorem dX7_isSetting_30 : decode cX7_isSetting 30 = .ok (.iconst 5, 1) := by decide +kernel
theorem dX7_isSetting_31 : decode cX7_isSetting 31 = .ok (.if_icmp .gt 7, 3) := by decide +kernel
theorem dX7_isSetting_34 : decode cX7_isSetting 34 = .ok (.iconst 1, 1) := by decide +kernel
theorem dX7_isSetting_35 : decode cX7_isSetting 35 = .ok (.goto 4, 3) := by decide +kernel
theorem dX7_isSetting_38 : decode cX7_isSetting 38 = .ok (.iconst 0, 1) := by decide +kernel
theorem dX7_isSetting_39 : decode cX7_isSetting 39 = .ok (.ireturn, 1) := by decide +kernel

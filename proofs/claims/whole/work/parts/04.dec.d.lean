theorem dX7_init_0 : decode cX7_init 0 = .ok (.aload_n 0, 1) := by decide +kernel
theorem dX7_init_1 : decode cX7_init 1 = .ok (.invokespecial 1, 3) := by decide +kernel
theorem dX7_init_4 : decode cX7_init 4 = .ok (.aload_n 0, 1) := by decide +kernel
theorem dX7_init_5 : decode cX7_init 5 = .ok (.bipush 16, 2) := by decide +kernel
theorem dX7_init_7 : decode cX7_init 7 = .ok (.newarray .int, 2) := by decide +kernel
theorem dX7_init_9 : decode cX7_init 9 = .ok (.putfield 7, 3) := by decide +kernel
theorem dX7_init_12 : decode cX7_init 12 = .ok (.aload_n 0, 1) := by decide +kernel
theorem dX7_init_13 : decode cX7_init 13 = .ok (.bipush 16, 2) := by decide +kernel
theorem dX7_init_15 : decode cX7_init 15 = .ok (.newarray .int, 2) := by decide +kernel
theorem dX7_init_17 : decode cX7_init 17 = .ok (.putfield 13, 3) := by decide +kernel
theorem dX7_init_20 : decode cX7_init 20 = .ok (.aload_n 0, 1) := by decide +kernel
theorem dX7_init_21 : decode cX7_init 21 = .ok (.bipush 16, 2) := by decide +kernel
theorem dX7_init_23 : decode cX7_init 23 = .ok (.newarray .int, 2) := by decide +kernel
theorem dX7_init_25 : decode cX7_init 25 = .ok (.putfield 16, 3) := by decide +kernel
theorem dX7_init_28 : decode cX7_init 28 = .ok (.aload_n 0, 1) := by decide +kernel
theorem dX7_init_29 : decode cX7_init 29 = .ok (.bipush 80, 2) := by decide +kernel
theorem dX7_init_31 : decode cX7_init 31 = .ok (.newarray .int, 2) := by decide +kernel
theorem dX7_init_33 : decode cX7_init 33 = .ok (.putfield 19, 3) := by decide +kernel
theorem dX7_init_36 : decode cX7_init 36 = .ok (.aload_n 0, 1) := by decide +kernel
theorem dX7_init_37 : decode cX7_init 37 = .ok (.bipush 80, 2) := by decide +kernel
theorem dX7_init_39 : decode cX7_init 39 = .ok (.newarray .int, 2) := by decide +kernel
theorem dX7_init_41 : decode cX7_init 41 = .ok (.putfield 22, 3) := by decide +kernel
theorem dX7_init_44 : decode cX7_init 44 = .ok (.aload_n 0, 1) := by decide +kernel
theorem dX7_init_45 : decode cX7_init 45 = .ok (.bipush 80, 2) := by decide +kernel
theorem dX7_init_47 : decode cX7_init 47 = .ok (.newarray .int, 2) := by decide +kernel
theorem dX7_init_49 : decode cX7_init 49 = .ok (.putfield 25, 3) := by decide +kernel
theorem dX7_init_52 : decode cX7_init 52 = .ok (.aload_n 0, 1) := by decide +kernel
theorem dX7_init_53 : decode cX7_init 53 = .ok (.bipush 16, 2) := by decide +kernel
theorem dX7_init_55 : decode cX7_init 55 = .ok (.newarray .int, 2) := by decide +kernel
theorem dX7_init_57 : decode cX7_init 57 = .ok (.putfield 28, 3) := by decide +kernel
theorem dX7_init_60 : decode cX7_init 60 = .ok (.return_, 1) := by decide +kernel
theorem dX7_thrown_0 : decode cX7_thrown 0 = .ok (.aload_n 0, 1) := by decide +kernel
theorem dX7_thrown_1 : decode cX7_thrown 1 = .ok (.getfield 31, 3) := by decide +kernel
theorem dX7_thrown_4 : decode cX7_thrown 4 = .ok (.ireturn, 1) := by decide +kernel
theorem dX7_isWrong_0 : decode cX7_isWrong 0 = .ok (.aload_n 0, 1) := by decide +kernel
theorem dX7_isWrong_1 : decode cX7_isWrong 1 = .ok (.iload_n 1, 1) := by decide +kernel
theorem dX7_isWrong_2 : decode cX7_isWrong 2 = .ok (.putfield 31, 3) := by decide +kernel
theorem dX7_isWrong_5 : decode cX7_isWrong 5 = .ok (.iload_n 1, 1) := by decide +kernel
theorem dX7_isWrong_6 : decode cX7_isWrong 6 = .ok (.ifCond .eq 7, 3) := by decide +kernel
theorem dX7_isWrong_9 : decode cX7_isWrong 9 = .ok (.iconst 1, 1) := by decide +kernel
theorem dX7_isWrong_10 : decode cX7_isWrong 10 = .ok (.goto 4, 3) := by decide +kernel
theorem dX7_isWrong_13 : decode cX7_isWrong 13 = .ok (.iconst 0, 1) := by decide +kernel
theorem dX7_isWrong_14 : decode cX7_isWrong 14 = .ok (.ireturn, 1) := by decide +kernel
theorem dX7_isBetween_0 : decode cX7_isBetween 0 = .ok (.lload_n 0, 1) := by decide +kernel
theorem dX7_isBetween_1 : decode cX7_isBetween 1 = .ok (.lload_n 2, 1) := by decide +kernel
theorem dX7_isBetween_2 : decode cX7_isBetween 2 = .ok (.lcmp, 1) := by decide +kernel
theorem dX7_isBetween_3 : decode cX7_isBetween 3 = .ok (.ifCond .lt 14, 3) := by decide +kernel
theorem dX7_isBetween_6 : decode cX7_isBetween 6 = .ok (.lload_n 0, 1) := by decide +kernel
theorem dX7_isBetween_7 : decode cX7_isBetween 7 = .ok (.lload 4, 2) := by decide +kernel
theorem dX7_isBetween_9 : decode cX7_isBetween 9 = .ok (.lcmp, 1) := by decide +kernel
theorem dX7_isBetween_10 : decode cX7_isBetween 10 = .ok (.ifCond .gt 7, 3) := by decide +kernel
theorem dX7_isBetween_13 : decode cX7_isBetween 13 = .ok (.iconst 1, 1) := by decide +kernel
theorem dX7_isBetween_14 : decode cX7_isBetween 14 = .ok (.goto 4, 3) := by decide +kernel
theorem dX7_isBetween_17 : decode cX7_isBetween 17 = .ok (.iconst 0, 1) := by decide +kernel
theorem dX7_isBetween_18 : decode cX7_isBetween 18 = .ok (.ireturn, 1) := by decide +kernel
theorem dX7_isPlace_0 : decode cX7_isPlace 0 = .ok (.iload_n 0, 1) := by decide +kernel
theorem dX7_isPlace_1 : decode cX7_isPlace 1 = .ok (.i2l, 1) := by decide +kernel
theorem dX7_isPlace_2 : decode cX7_isPlace 2 = .ok (.lconst 0, 1) := by decide +kernel
theorem dX7_isPlace_3 : decode cX7_isPlace 3 = .ok (.ldc2_w 35, 3) := by decide +kernel
theorem dX7_isPlace_6 : decode cX7_isPlace 6 = .ok (.invokestatic 37, 3) := by decide +kernel
theorem dX7_isPlace_9 : decode cX7_isPlace 9 = .ok (.ireturn, 1) := by decide +kernel
theorem dX7_isThere_0 : decode cX7_isThere 0 = .ok (.aload_n 0, 1) := by decide +kernel
theorem dX7_isThere_1 : decode cX7_isThere 1 = .ok (.getfield 16, 3) := by decide +kernel
theorem dX7_isThere_4 : decode cX7_isThere 4 = .ok (.iload_n 1, 1) := by decide +kernel
theorem dX7_isThere_5 : decode cX7_isThere 5 = .ok (.iaload, 1) := by decide +kernel
theorem dX7_isThere_6 : decode cX7_isThere 6 = .ok (.ifCond .le 7, 3) := by decide +kernel
theorem dX7_isThere_9 : decode cX7_isThere 9 = .ok (.iconst 1, 1) := by decide +kernel
theorem dX7_isThere_10 : decode cX7_isThere 10 = .ok (.goto 4, 3) := by decide +kernel
theorem dX7_isThere_13 : decode cX7_isThere 13 = .ok (.iconst 0, 1) := by decide +kernel
theorem dX7_isThere_14 : decode cX7_isThere 14 = .ok (.ireturn, 1) := by decide +kernel
theorem dX7_missing_0 : decode cX7_missing 0 = .ok (.iload_n 1, 1) := by decide +kernel
theorem dX7_missing_1 : decode cX7_missing 1 = .ok (.invokestatic 41, 3) := by decide +kernel
theorem dX7_missing_4 : decode cX7_missing 4 = .ok (.ifCond .ne 7, 3) := by decide +kernel
theorem dX7_missing_7 : decode cX7_missing 7 = .ok (.iconst 1, 1) := by decide +kernel
theorem dX7_missing_8 : decode cX7_missing 8 = .ok (.goto 16, 3) := by decide +kernel
theorem dX7_missing_11 : decode cX7_missing 11 = .ok (.aload_n 0, 1) := by decide +kernel
theorem dX7_missing_12 : decode cX7_missing 12 = .ok (.iload_n 1, 1) := by decide +kernel
theorem dX7_missing_13 : decode cX7_missing 13 = .ok (.invokevirtual 45, 3) := by decide +kernel
theorem dX7_missing_16 : decode cX7_missing 16 = .ok (.ifCond .ne 7, 3) := by decide +kernel
theorem dX7_missing_19 : decode cX7_missing 19 = .ok (.iload_n 2, 1) := by decide +kernel
theorem dX7_missing_20 : decode cX7_missing 20 = .ok (.goto 4, 3) := by decide +kernel
theorem dX7_missing_23 : decode cX7_missing 23 = .ok (.iconst 0, 1) := by decide +kernel
theorem dX7_missing_24 : decode cX7_missing 24 = .ok (.ireturn, 1) := by decide +kernel
theorem dX7_many_0 : decode cX7_many 0 = .ok (.iconst 0, 1) := by decide +kernel
theorem dX7_many_1 : decode cX7_many 1 = .ok (.istore_n 1, 1) := by decide +kernel
theorem dX7_many_2 : decode cX7_many 2 = .ok (.iconst 0, 1) := by decide +kernel
theorem dX7_many_3 : decode cX7_many 3 = .ok (.istore_n 2, 1) := by decide +kernel
theorem dX7_many_4 : decode cX7_many 4 = .ok (.iload_n 2, 1) := by decide +kernel
theorem dX7_many_5 : decode cX7_many 5 = .ok (.bipush 16, 2) := by decide +kernel
theorem dX7_many_7 : decode cX7_many 7 = .ok (.if_icmp .ge 26, 3) := by decide +kernel
theorem dX7_many_10 : decode cX7_many 10 = .ok (.iload_n 1, 1) := by decide +kernel
theorem dX7_many_11 : decode cX7_many 11 = .ok (.aload_n 0, 1) := by decide +kernel
theorem dX7_many_12 : decode cX7_many 12 = .ok (.getfield 16, 3) := by decide +kernel
theorem dX7_many_15 : decode cX7_many 15 = .ok (.iload_n 2, 1) := by decide +kernel
theorem dX7_many_16 : decode cX7_many 16 = .ok (.iaload, 1) := by decide +kernel
theorem dX7_many_17 : decode cX7_many 17 = .ok (.ifCond .le 7, 3) := by decide +kernel
theorem dX7_many_20 : decode cX7_many 20 = .ok (.iconst 1, 1) := by decide +kernel
theorem dX7_many_21 : decode cX7_many 21 = .ok (.goto 4, 3) := by decide +kernel
theorem dX7_many_24 : decode cX7_many 24 = .ok (.iconst 0, 1) := by decide +kernel
theorem dX7_many_25 : decode cX7_many 25 = .ok (.iadd, 1) := by decide +kernel
theorem dX7_many_26 : decode cX7_many 26 = .ok (.istore_n 1, 1) := by decide +kernel
theorem dX7_many_27 : decode cX7_many 27 = .ok (.iinc 2 1, 3) := by decide +kernel
theorem dX7_many_30 : decode cX7_many 30 = .ok (.goto (-26), 3) := by decide +kernel
theorem dX7_many_33 : decode cX7_many 33 = .ok (.iload_n 1, 1) := by decide +kernel
theorem dX7_many_34 : decode cX7_many 34 = .ok (.ireturn, 1) := by decide +kernel
theorem dX7_sideOf_0 : decode cX7_sideOf 0 = .ok (.iload_n 2, 1) := by decide +kernel
theorem dX7_sideOf_1 : decode cX7_sideOf 1 = .ok (.ifCond .ne 12, 3) := by decide +kernel
theorem dX7_sideOf_4 : decode cX7_sideOf 4 = .ok (.aload_n 0, 1) := by decide +kernel
theorem dX7_sideOf_5 : decode cX7_sideOf 5 = .ok (.getfield 7, 3) := by decide +kernel
theorem dX7_sideOf_8 : decode cX7_sideOf 8 = .ok (.iload_n 1, 1) := by decide +kernel
theorem dX7_sideOf_9 : decode cX7_sideOf 9 = .ok (.iaload, 1) := by decide +kernel
theorem dX7_sideOf_10 : decode cX7_sideOf 10 = .ok (.goto 23, 3) := by decide +kernel
theorem dX7_sideOf_13 : decode cX7_sideOf 13 = .ok (.iload_n 2, 1) := by decide +kernel
theorem dX7_sideOf_14 : decode cX7_sideOf 14 = .ok (.iconst 1, 1) := by decide +kernel
theorem dX7_sideOf_15 : decode cX7_sideOf 15 = .ok (.if_icmp .ne 12, 3) := by decide +kernel
theorem dX7_sideOf_18 : decode cX7_sideOf 18 = .ok (.aload_n 0, 1) := by decide +kernel
theorem dX7_sideOf_19 : decode cX7_sideOf 19 = .ok (.getfield 13, 3) := by decide +kernel
theorem dX7_sideOf_22 : decode cX7_sideOf 22 = .ok (.iload_n 1, 1) := by decide +kernel
theorem dX7_sideOf_23 : decode cX7_sideOf 23 = .ok (.iaload, 1) := by decide +kernel
theorem dX7_sideOf_24 : decode cX7_sideOf 24 = .ok (.goto 9, 3) := by decide +kernel
theorem dX7_sideOf_27 : decode cX7_sideOf 27 = .ok (.aload_n 0, 1) := by decide +kernel
theorem dX7_sideOf_28 : decode cX7_sideOf 28 = .ok (.getfield 16, 3) := by decide +kernel
theorem dX7_sideOf_31 : decode cX7_sideOf 31 = .ok (.iload_n 1, 1) := by decide +kernel
theorem dX7_sideOf_32 : decode cX7_sideOf 32 = .ok (.iaload, 1) := by decide +kernel
theorem dX7_sideOf_33 : decode cX7_sideOf 33 = .ok (.ireturn, 1) := by decide +kernel
theorem dX7_least_0 : decode cX7_least 0 = .ok (.iload_n 1, 1) := by decide +kernel
theorem dX7_least_1 : decode cX7_least 1 = .ok (.iload_n 2, 1) := by decide +kernel
theorem dX7_least_2 : decode cX7_least 2 = .ok (.if_icmp .ge 7, 3) := by decide +kernel
theorem dX7_least_5 : decode cX7_least 5 = .ok (.iload_n 1, 1) := by decide +kernel
theorem dX7_least_6 : decode cX7_least 6 = .ok (.goto 4, 3) := by decide +kernel
theorem dX7_least_9 : decode cX7_least 9 = .ok (.iload_n 2, 1) := by decide +kernel
theorem dX7_least_10 : decode cX7_least 10 = .ok (.ireturn, 1) := by decide +kernel
theorem dX7_most_0 : decode cX7_most 0 = .ok (.iload_n 1, 1) := by decide +kernel
theorem dX7_most_1 : decode cX7_most 1 = .ok (.iload_n 2, 1) := by decide +kernel
theorem dX7_most_2 : decode cX7_most 2 = .ok (.if_icmp .ge 7, 3) := by decide +kernel
theorem dX7_most_5 : decode cX7_most 5 = .ok (.iload_n 2, 1) := by decide +kernel
theorem dX7_most_6 : decode cX7_most 6 = .ok (.goto 4, 3) := by decide +kernel
theorem dX7_most_9 : decode cX7_most 9 = .ok (.iload_n 1, 1) := by decide +kernel
theorem dX7_most_10 : decode cX7_most 10 = .ok (.ireturn, 1) := by decide +kernel
theorem dX7_hold_0 : decode cX7_hold 0 = .ok (.aload_n 0, 1) := by decide +kernel
theorem dX7_hold_1 : decode cX7_hold 1 = .ok (.iload_n 2, 1) := by decide +kernel
theorem dX7_hold_2 : decode cX7_hold 2 = .ok (.aload_n 0, 1) := by decide +kernel
theorem dX7_hold_3 : decode cX7_hold 3 = .ok (.iload_n 3, 1) := by decide +kernel
theorem dX7_hold_4 : decode cX7_hold 4 = .ok (.iload 4, 2) := by decide +kernel
theorem dX7_hold_6 : decode cX7_hold 6 = .ok (.invokevirtual 48, 3) := by decide +kernel
theorem dX7_hold_9 : decode cX7_hold 9 = .ok (.invokevirtual 48, 3) := by decide +kernel
theorem dX7_hold_12 : decode cX7_hold 12 = .ok (.istore 5, 2) := by decide +kernel
theorem dX7_hold_14 : decode cX7_hold 14 = .ok (.aload_n 0, 1) := by decide +kernel
theorem dX7_hold_15 : decode cX7_hold 15 = .ok (.iload_n 2, 1) := by decide +kernel
theorem dX7_hold_16 : decode cX7_hold 16 = .ok (.aload_n 0, 1) := by decide +kernel
theorem dX7_hold_17 : decode cX7_hold 17 = .ok (.iload_n 3, 1) := by decide +kernel
theorem dX7_hold_18 : decode cX7_hold 18 = .ok (.iload 4, 2) := by decide +kernel
theorem dX7_hold_20 : decode cX7_hold 20 = .ok (.invokevirtual 52, 3) := by decide +kernel
theorem dX7_hold_23 : decode cX7_hold 23 = .ok (.invokevirtual 52, 3) := by decide +kernel
theorem dX7_hold_26 : decode cX7_hold 26 = .ok (.istore 6, 2) := by decide +kernel
theorem dX7_hold_28 : decode cX7_hold 28 = .ok (.aload_n 0, 1) := by decide +kernel
theorem dX7_hold_29 : decode cX7_hold 29 = .ok (.getfield 7, 3) := by decide +kernel
theorem dX7_hold_32 : decode cX7_hold 32 = .ok (.iload_n 1, 1) := by decide +kernel
theorem dX7_hold_33 : decode cX7_hold 33 = .ok (.iload 5, 2) := by decide +kernel
theorem dX7_hold_35 : decode cX7_hold 35 = .ok (.iastore, 1) := by decide +kernel
theorem dX7_hold_36 : decode cX7_hold 36 = .ok (.aload_n 0, 1) := by decide +kernel
theorem dX7_hold_37 : decode cX7_hold 37 = .ok (.getfield 16, 3) := by decide +kernel
theorem dX7_hold_40 : decode cX7_hold 40 = .ok (.iload_n 1, 1) := by decide +kernel
theorem dX7_hold_41 : decode cX7_hold 41 = .ok (.iload 6, 2) := by decide +kernel
theorem dX7_hold_43 : decode cX7_hold 43 = .ok (.iastore, 1) := by decide +kernel
theorem dX7_hold_44 : decode cX7_hold 44 = .ok (.aload_n 0, 1) := by decide +kernel
theorem dX7_hold_45 : decode cX7_hold 45 = .ok (.getfield 13, 3) := by decide +kernel
theorem dX7_hold_48 : decode cX7_hold 48 = .ok (.iload_n 1, 1) := by decide +kernel
theorem dX7_hold_49 : decode cX7_hold 49 = .ok (.iload_n 2, 1) := by decide +kernel
theorem dX7_hold_50 : decode cX7_hold 50 = .ok (.iload_n 3, 1) := by decide +kernel
theorem dX7_hold_51 : decode cX7_hold 51 = .ok (.iadd, 1) := by decide +kernel
theorem dX7_hold_52 : decode cX7_hold 52 = .ok (.iload 4, 2) := by decide +kernel
theorem dX7_hold_54 : decode cX7_hold 54 = .ok (.iadd, 1) := by decide +kernel
theorem dX7_hold_55 : decode cX7_hold 55 = .ok (.iload 5, 2) := by decide +kernel
theorem dX7_hold_57 : decode cX7_hold 57 = .ok (.isub, 1) := by decide +kernel
theorem dX7_hold_58 : decode cX7_hold 58 = .ok (.iload 6, 2) := by decide +kernel
theorem dX7_hold_60 : decode cX7_hold 60 = .ok (.isub, 1) := by decide +kernel
theorem dX7_hold_61 : decode cX7_hold 61 = .ok (.iastore, 1) := by decide +kernel
theorem dX7_hold_62 : decode cX7_hold 62 = .ok (.return_, 1) := by decide +kernel
theorem dX7_divisor_0 : decode cX7_divisor 0 = .ok (.iload_n 0, 1) := by decide +kernel
theorem dX7_divisor_1 : decode cX7_divisor 1 = .ok (.istore_n 2, 1) := by decide +kernel
theorem dX7_divisor_2 : decode cX7_divisor 2 = .ok (.iload_n 1, 1) := by decide +kernel
theorem dX7_divisor_3 : decode cX7_divisor 3 = .ok (.istore_n 3, 1) := by decide +kernel
theorem dX7_divisor_4 : decode cX7_divisor 4 = .ok (.iload_n 3, 1) := by decide +kernel
theorem dX7_divisor_5 : decode cX7_divisor 5 = .ok (.ifCond .le 16, 3) := by decide +kernel
theorem dX7_divisor_8 : decode cX7_divisor 8 = .ok (.iload_n 2, 1) := by decide +kernel
theorem dX7_divisor_9 : decode cX7_divisor 9 = .ok (.iload_n 3, 1) := by decide +kernel
theorem dX7_divisor_10 : decode cX7_divisor 10 = .ok (.irem, 1) := by decide +kernel
theorem dX7_divisor_11 : decode cX7_divisor 11 = .ok (.istore 4, 2) := by decide +kernel
theorem dX7_divisor_13 : decode cX7_divisor 13 = .ok (.iload_n 3, 1) := by decide +kernel
theorem dX7_divisor_14 : decode cX7_divisor 14 = .ok (.istore_n 2, 1) := by decide +kernel
theorem dX7_divisor_15 : decode cX7_divisor 15 = .ok (.iload 4, 2) := by decide +kernel
theorem dX7_divisor_17 : decode cX7_divisor 17 = .ok (.istore_n 3, 1) := by decide +kernel
theorem dX7_divisor_18 : decode cX7_divisor 18 = .ok (.goto (-14), 3) := by decide +kernel
theorem dX7_divisor_21 : decode cX7_divisor 21 = .ok (.iload_n 2, 1) := by decide +kernel
theorem dX7_divisor_22 : decode cX7_divisor 22 = .ok (.ireturn, 1) := by decide +kernel
theorem dX7_put_0 : decode cX7_put 0 = .ok (.iload_n 2, 1) := by decide +kernel
theorem dX7_put_1 : decode cX7_put 1 = .ok (.i2l, 1) := by decide +kernel
theorem dX7_put_2 : decode cX7_put 2 = .ok (.lconst 1, 1) := by decide +kernel
theorem dX7_put_3 : decode cX7_put 3 = .ok (.ldc2_w 55, 3) := by decide +kernel
theorem dX7_put_6 : decode cX7_put 6 = .ok (.invokestatic 37, 3) := by decide +kernel
theorem dX7_put_9 : decode cX7_put 9 = .ok (.ifCond .eq 32, 3) := by decide +kernel
theorem dX7_put_12 : decode cX7_put 12 = .ok (.iload_n 3, 1) := by decide +kernel
theorem dX7_put_13 : decode cX7_put 13 = .ok (.i2l, 1) := by decide +kernel
theorem dX7_put_14 : decode cX7_put 14 = .ok (.lconst 1, 1) := by decide +kernel
theorem dX7_put_15 : decode cX7_put 15 = .ok (.ldc2_w 55, 3) := by decide +kernel
theorem dX7_put_18 : decode cX7_put 18 = .ok (.invokestatic 37, 3) := by decide +kernel
theorem dX7_put_21 : decode cX7_put 21 = .ok (.ifCond .eq 20, 3) := by decide +kernel
theorem dX7_put_24 : decode cX7_put 24 = .ok (.iload 4, 2) := by decide +kernel
theorem dX7_put_26 : decode cX7_put 26 = .ok (.i2l, 1) := by decide +kernel
theorem dX7_put_27 : decode cX7_put 27 = .ok (.lconst 1, 1) := by decide +kernel
theorem dX7_put_28 : decode cX7_put 28 = .ok (.ldc2_w 55, 3) := by decide +kernel
theorem dX7_put_31 : decode cX7_put 31 = .ok (.invokestatic 37, 3) := by decide +kernel
theorem dX7_put_34 : decode cX7_put 34 = .ok (.ifCond .eq 7, 3) := by decide +kernel
theorem dX7_put_37 : decode cX7_put 37 = .ok (.iconst 1, 1) := by decide +kernel
theorem dX7_put_38 : decode cX7_put 38 = .ok (.goto 4, 3) := by decide +kernel
theorem dX7_put_41 : decode cX7_put 41 = .ok (.iconst 0, 1) := by decide +kernel
theorem dX7_put_42 : decode cX7_put 42 = .ok (.istore 5, 2) := by decide +kernel
theorem dX7_put_44 : decode cX7_put 44 = .ok (.aload_n 0, 1) := by decide +kernel
theorem dX7_put_45 : decode cX7_put 45 = .ok (.iload_n 1, 1) := by decide +kernel
theorem dX7_put_46 : decode cX7_put 46 = .ok (.invokestatic 41, 3) := by decide +kernel
theorem dX7_put_49 : decode cX7_put 49 = .ok (.ifCond .ne 7, 3) := by decide +kernel
theorem dX7_put_52 : decode cX7_put 52 = .ok (.iconst 1, 1) := by decide +kernel
theorem dX7_put_53 : decode cX7_put 53 = .ok (.goto 41, 3) := by decide +kernel
theorem dX7_put_56 : decode cX7_put 56 = .ok (.iload 5, 2) := by decide +kernel
theorem dX7_put_58 : decode cX7_put 58 = .ok (.ifCond .ne 7, 3) := by decide +kernel
theorem dX7_put_61 : decode cX7_put 61 = .ok (.iconst 2, 1) := by decide +kernel
theorem dX7_put_62 : decode cX7_put 62 = .ok (.goto 32, 3) := by decide +kernel
theorem dX7_put_65 : decode cX7_put 65 = .ok (.iload_n 2, 1) := by decide +kernel
theorem dX7_put_66 : decode cX7_put 66 = .ok (.iload_n 3, 1) := by decide +kernel
theorem dX7_put_67 : decode cX7_put 67 = .ok (.iload 4, 2) := by decide +kernel
theorem dX7_put_69 : decode cX7_put 69 = .ok (.iadd, 1) := by decide +kernel
theorem dX7_put_70 : decode cX7_put 70 = .ok (.if_icmp .ge 19, 3) := by decide +kernel
theorem dX7_put_73 : decode cX7_put 73 = .ok (.iload_n 3, 1) := by decide +kernel
theorem dX7_put_74 : decode cX7_put 74 = .ok (.iload_n 2, 1) := by decide +kernel
theorem dX7_put_75 : decode cX7_put 75 = .ok (.iload 4, 2) := by decide +kernel
theorem dX7_put_77 : decode cX7_put 77 = .ok (.iadd, 1) := by decide +kernel
theorem dX7_put_78 : decode cX7_put 78 = .ok (.if_icmp .ge 11, 3) := by decide +kernel
theorem dX7_put_81 : decode cX7_put 81 = .ok (.iload 4, 2) := by decide +kernel
theorem dX7_put_83 : decode cX7_put 83 = .ok (.iload_n 2, 1) := by decide +kernel
theorem dX7_put_84 : decode cX7_put 84 = .ok (.iload_n 3, 1) := by decide +kernel
theorem dX7_put_85 : decode cX7_put 85 = .ok (.iadd, 1) := by decide +kernel
theorem dX7_put_86 : decode cX7_put 86 = .ok (.if_icmp .lt 7, 3) := by decide +kernel
theorem dX7_put_89 : decode cX7_put 89 = .ok (.iconst 3, 1) := by decide +kernel
theorem dX7_put_90 : decode cX7_put 90 = .ok (.goto 4, 3) := by decide +kernel
theorem dX7_put_93 : decode cX7_put 93 = .ok (.iconst 0, 1) := by decide +kernel
theorem dX7_put_94 : decode cX7_put 94 = .ok (.invokevirtual 57, 3) := by decide +kernel
theorem dX7_put_97 : decode cX7_put 97 = .ok (.ifCond .eq 5, 3) := by decide +kernel
theorem dX7_put_100 : decode cX7_put 100 = .ok (.iconst 0, 1) := by decide +kernel
theorem dX7_put_101 : decode cX7_put 101 = .ok (.ireturn, 1) := by decide +kernel
theorem dX7_put_102 : decode cX7_put 102 = .ok (.aload_n 0, 1) := by decide +kernel
theorem dX7_put_103 : decode cX7_put 103 = .ok (.iload_n 1, 1) := by decide +kernel
theorem dX7_put_104 : decode cX7_put 104 = .ok (.iload_n 2, 1) := by decide +kernel
theorem dX7_put_105 : decode cX7_put 105 = .ok (.iload_n 3, 1) := by decide +kernel
theorem dX7_put_106 : decode cX7_put 106 = .ok (.iload 4, 2) := by decide +kernel
theorem dX7_put_108 : decode cX7_put 108 = .ok (.invokevirtual 60, 3) := by decide +kernel
theorem dX7_put_111 : decode cX7_put 111 = .ok (.aload_n 0, 1) := by decide +kernel
theorem dX7_put_112 : decode cX7_put 112 = .ok (.invokevirtual 64, 3) := by decide +kernel
theorem dX7_put_115 : decode cX7_put 115 = .ok (.ireturn, 1) := by decide +kernel
theorem dX7_take_0 : decode cX7_take 0 = .ok (.aload_n 0, 1) := by decide +kernel
theorem dX7_take_1 : decode cX7_take 1 = .ok (.aload_n 0, 1) := by decide +kernel
theorem dX7_take_2 : decode cX7_take 2 = .ok (.iload_n 1, 1) := by decide +kernel
theorem dX7_take_3 : decode cX7_take 3 = .ok (.iconst 2, 1) := by decide +kernel
theorem dX7_take_4 : decode cX7_take 4 = .ok (.invokevirtual 68, 3) := by decide +kernel
theorem dX7_take_7 : decode cX7_take 7 = .ok (.invokevirtual 57, 3) := by decide +kernel
theorem dX7_take_10 : decode cX7_take 10 = .ok (.ifCond .eq 5, 3) := by decide +kernel
theorem dX7_take_13 : decode cX7_take 13 = .ok (.iconst 0, 1) := by decide +kernel
theorem dX7_take_14 : decode cX7_take 14 = .ok (.ireturn, 1) := by decide +kernel
theorem dX7_take_15 : decode cX7_take 15 = .ok (.aload_n 0, 1) := by decide +kernel
theorem dX7_take_16 : decode cX7_take 16 = .ok (.getfield 7, 3) := by decide +kernel
theorem dX7_take_19 : decode cX7_take 19 = .ok (.iload_n 1, 1) := by decide +kernel
theorem dX7_take_20 : decode cX7_take 20 = .ok (.iconst 0, 1) := by decide +kernel
theorem dX7_take_21 : decode cX7_take 21 = .ok (.iastore, 1) := by decide +kernel
theorem dX7_take_22 : decode cX7_take 22 = .ok (.aload_n 0, 1) := by decide +kernel
theorem dX7_take_23 : decode cX7_take 23 = .ok (.getfield 13, 3) := by decide +kernel
theorem dX7_take_26 : decode cX7_take 26 = .ok (.iload_n 1, 1) := by decide +kernel
theorem dX7_take_27 : decode cX7_take 27 = .ok (.iconst 0, 1) := by decide +kernel
theorem dX7_take_28 : decode cX7_take 28 = .ok (.iastore, 1) := by decide +kernel
theorem dX7_take_29 : decode cX7_take 29 = .ok (.aload_n 0, 1) := by decide +kernel
theorem dX7_take_30 : decode cX7_take 30 = .ok (.getfield 16, 3) := by decide +kernel
theorem dX7_take_33 : decode cX7_take 33 = .ok (.iload_n 1, 1) := by decide +kernel
theorem dX7_take_34 : decode cX7_take 34 = .ok (.iconst 0, 1) := by decide +kernel
theorem dX7_take_35 : decode cX7_take 35 = .ok (.iastore, 1) := by decide +kernel
theorem dX7_take_36 : decode cX7_take 36 = .ok (.aload_n 0, 1) := by decide +kernel
theorem dX7_take_37 : decode cX7_take 37 = .ok (.invokevirtual 64, 3) := by decide +kernel
theorem dX7_take_40 : decode cX7_take 40 = .ok (.ireturn, 1) := by decide +kernel
theorem dX7_isHeld_0 : decode cX7_isHeld 0 = .ok (.aload_n 0, 1) := by decide +kernel
theorem dX7_isHeld_1 : decode cX7_isHeld 1 = .ok (.iload_n 1, 1) := by decide +kernel
theorem dX7_isHeld_2 : decode cX7_isHeld 2 = .ok (.invokestatic 41, 3) := by decide +kernel
theorem dX7_isHeld_5 : decode cX7_isHeld 5 = .ok (.ifCond .eq 7, 3) := by decide +kernel
theorem dX7_isHeld_8 : decode cX7_isHeld 8 = .ok (.iconst 0, 1) := by decide +kernel
theorem dX7_isHeld_9 : decode cX7_isHeld 9 = .ok (.goto 4, 3) := by decide +kernel
theorem dX7_isHeld_12 : decode cX7_isHeld 12 = .ok (.iconst 1, 1) := by decide +kernel
theorem dX7_isHeld_13 : decode cX7_isHeld 13 = .ok (.invokevirtual 57, 3) := by decide +kernel
theorem dX7_isHeld_16 : decode cX7_isHeld 16 = .ok (.ifCond .ne 15, 3) := by decide +kernel
theorem dX7_isHeld_19 : decode cX7_isHeld 19 = .ok (.aload_n 0, 1) := by decide +kernel
theorem dX7_isHeld_20 : decode cX7_isHeld 20 = .ok (.iload_n 1, 1) := by decide +kernel
theorem dX7_isHeld_21 : decode cX7_isHeld 21 = .ok (.invokevirtual 45, 3) := by decide +kernel
theorem dX7_isHeld_24 : decode cX7_isHeld 24 = .ok (.ifCond .eq 7, 3) := by decide +kernel
theorem dX7_isHeld_27 : decode cX7_isHeld 27 = .ok (.iconst 1, 1) := by decide +kernel
theorem dX7_isHeld_28 : decode cX7_isHeld 28 = .ok (.goto 4, 3) := by decide +kernel
theorem dX7_isHeld_31 : decode cX7_isHeld 31 = .ok (.iconst 0, 1) := by decide +kernel
theorem dX7_isHeld_32 : decode cX7_isHeld 32 = .ok (.ireturn, 1) := by decide +kernel
theorem dX7_side_0 : decode cX7_side 0 = .ok (.aload_n 0, 1) := by decide +kernel
theorem dX7_side_1 : decode cX7_side 1 = .ok (.iload_n 2, 1) := by decide +kernel
theorem dX7_side_2 : decode cX7_side 2 = .ok (.i2l, 1) := by decide +kernel
theorem dX7_side_3 : decode cX7_side 3 = .ok (.lconst 0, 1) := by decide +kernel
theorem dX7_side_4 : decode cX7_side 4 = .ok (.ldc2_w 71, 3) := by decide +kernel
theorem dX7_side_7 : decode cX7_side 7 = .ok (.invokestatic 37, 3) := by decide +kernel
theorem dX7_side_10 : decode cX7_side 10 = .ok (.ifCond .ne 7, 3) := by decide +kernel
theorem dX7_side_13 : decode cX7_side 13 = .ok (.iconst 1, 1) := by decide +kernel
theorem dX7_side_14 : decode cX7_side 14 = .ok (.goto 9, 3) := by decide +kernel
theorem dX7_side_17 : decode cX7_side 17 = .ok (.aload_n 0, 1) := by decide +kernel
theorem dX7_side_18 : decode cX7_side 18 = .ok (.iload_n 1, 1) := by decide +kernel
theorem dX7_side_19 : decode cX7_side 19 = .ok (.iconst 2, 1) := by decide +kernel
theorem dX7_side_20 : decode cX7_side 20 = .ok (.invokevirtual 68, 3) := by decide +kernel
theorem dX7_side_23 : decode cX7_side 23 = .ok (.invokevirtual 57, 3) := by decide +kernel
theorem dX7_side_26 : decode cX7_side 26 = .ok (.ifCond .eq 5, 3) := by decide +kernel
theorem dX7_side_29 : decode cX7_side 29 = .ok (.iconst 0, 1) := by decide +kernel
theorem dX7_side_30 : decode cX7_side 30 = .ok (.ireturn, 1) := by decide +kernel
theorem dX7_side_31 : decode cX7_side 31 = .ok (.aload_n 0, 1) := by decide +kernel
theorem dX7_side_32 : decode cX7_side 32 = .ok (.iload_n 1, 1) := by decide +kernel
theorem dX7_side_33 : decode cX7_side 33 = .ok (.iload_n 2, 1) := by decide +kernel
theorem dX7_side_34 : decode cX7_side 34 = .ok (.invokevirtual 73, 3) := by decide +kernel
theorem dX7_side_37 : decode cX7_side 37 = .ok (.ireturn, 1) := by decide +kernel
theorem dX7_copy_0 : decode cX7_copy 0 = .ok (.aload_n 0, 1) := by decide +kernel
theorem dX7_copy_1 : decode cX7_copy 1 = .ok (.iload_n 2, 1) := by decide +kernel
theorem dX7_copy_2 : decode cX7_copy 2 = .ok (.invokestatic 41, 3) := by decide +kernel
theorem dX7_copy_5 : decode cX7_copy 5 = .ok (.ifCond .ne 7, 3) := by decide +kernel
theorem dX7_copy_8 : decode cX7_copy 8 = .ok (.iconst 1, 1) := by decide +kernel
theorem dX7_copy_9 : decode cX7_copy 9 = .ok (.goto 9, 3) := by decide +kernel
theorem dX7_copy_12 : decode cX7_copy 12 = .ok (.aload_n 0, 1) := by decide +kernel
theorem dX7_copy_13 : decode cX7_copy 13 = .ok (.iload_n 1, 1) := by decide +kernel
theorem dX7_copy_14 : decode cX7_copy 14 = .ok (.iconst 2, 1) := by decide +kernel
theorem dX7_copy_15 : decode cX7_copy 15 = .ok (.invokevirtual 68, 3) := by decide +kernel
theorem dX7_copy_18 : decode cX7_copy 18 = .ok (.invokevirtual 57, 3) := by decide +kernel
theorem dX7_copy_21 : decode cX7_copy 21 = .ok (.ifCond .eq 5, 3) := by decide +kernel
theorem dX7_copy_24 : decode cX7_copy 24 = .ok (.iconst 0, 1) := by decide +kernel
theorem dX7_copy_25 : decode cX7_copy 25 = .ok (.ireturn, 1) := by decide +kernel
theorem dX7_copy_26 : decode cX7_copy 26 = .ok (.aload_n 0, 1) := by decide +kernel
theorem dX7_copy_27 : decode cX7_copy 27 = .ok (.iload_n 2, 1) := by decide +kernel
theorem dX7_copy_28 : decode cX7_copy 28 = .ok (.aload_n 0, 1) := by decide +kernel
theorem dX7_copy_29 : decode cX7_copy 29 = .ok (.getfield 7, 3) := by decide +kernel
theorem dX7_copy_32 : decode cX7_copy 32 = .ok (.iload_n 1, 1) := by decide +kernel
theorem dX7_copy_33 : decode cX7_copy 33 = .ok (.iaload, 1) := by decide +kernel
theorem dX7_copy_34 : decode cX7_copy 34 = .ok (.aload_n 0, 1) := by decide +kernel
theorem dX7_copy_35 : decode cX7_copy 35 = .ok (.getfield 13, 3) := by decide +kernel
theorem dX7_copy_38 : decode cX7_copy 38 = .ok (.iload_n 1, 1) := by decide +kernel
theorem dX7_copy_39 : decode cX7_copy 39 = .ok (.iaload, 1) := by decide +kernel
theorem dX7_copy_40 : decode cX7_copy 40 = .ok (.aload_n 0, 1) := by decide +kernel
theorem dX7_copy_41 : decode cX7_copy 41 = .ok (.getfield 16, 3) := by decide +kernel
theorem dX7_copy_44 : decode cX7_copy 44 = .ok (.iload_n 1, 1) := by decide +kernel
theorem dX7_copy_45 : decode cX7_copy 45 = .ok (.iaload, 1) := by decide +kernel
theorem dX7_copy_46 : decode cX7_copy 46 = .ok (.invokevirtual 60, 3) := by decide +kernel
theorem dX7_copy_49 : decode cX7_copy 49 = .ok (.aload_n 0, 1) := by decide +kernel
theorem dX7_copy_50 : decode cX7_copy 50 = .ok (.invokevirtual 64, 3) := by decide +kernel
theorem dX7_copy_53 : decode cX7_copy 53 = .ok (.ireturn, 1) := by decide +kernel
theorem dX7_scale_0 : decode cX7_scale 0 = .ok (.iload_n 2, 1) := by decide +kernel
theorem dX7_scale_1 : decode cX7_scale 1 = .ok (.i2l, 1) := by decide +kernel
theorem dX7_scale_2 : decode cX7_scale 2 = .ok (.lconst 1, 1) := by decide +kernel
theorem dX7_scale_3 : decode cX7_scale 3 = .ok (.ldc2_w 76, 3) := by decide +kernel
theorem dX7_scale_6 : decode cX7_scale 6 = .ok (.invokestatic 37, 3) := by decide +kernel
theorem dX7_scale_9 : decode cX7_scale 9 = .ok (.istore_n 3, 1) := by decide +kernel
theorem dX7_scale_10 : decode cX7_scale 10 = .ok (.aload_n 0, 1) := by decide +kernel
theorem dX7_scale_11 : decode cX7_scale 11 = .ok (.iload_n 1, 1) := by decide +kernel
theorem dX7_scale_12 : decode cX7_scale 12 = .ok (.invokestatic 41, 3) := by decide +kernel
theorem dX7_scale_15 : decode cX7_scale 15 = .ok (.ifCond .ne 7, 3) := by decide +kernel
theorem dX7_scale_18 : decode cX7_scale 18 = .ok (.iconst 1, 1) := by decide +kernel
theorem dX7_scale_19 : decode cX7_scale 19 = .ok (.goto 41, 3) := by decide +kernel
theorem dX7_scale_22 : decode cX7_scale 22 = .ok (.iload_n 3, 1) := by decide +kernel
theorem dX7_scale_23 : decode cX7_scale 23 = .ok (.ifCond .ne 7, 3) := by decide +kernel
theorem dX7_scale_26 : decode cX7_scale 26 = .ok (.iconst 2, 1) := by decide +kernel
theorem dX7_scale_27 : decode cX7_scale 27 = .ok (.goto 33, 3) := by decide +kernel
theorem dX7_scale_30 : decode cX7_scale 30 = .ok (.aload_n 0, 1) := by decide +kernel
theorem dX7_scale_31 : decode cX7_scale 31 = .ok (.iload_n 1, 1) := by decide +kernel
theorem dX7_scale_32 : decode cX7_scale 32 = .ok (.invokevirtual 45, 3) := by decide +kernel
theorem dX7_scale_35 : decode cX7_scale 35 = .ok (.ifCond .ne 7, 3) := by decide +kernel
theorem dX7_scale_38 : decode cX7_scale 38 = .ok (.iconst 3, 1) := by decide +kernel
theorem dX7_scale_39 : decode cX7_scale 39 = .ok (.goto 21, 3) := by decide +kernel
theorem dX7_scale_42 : decode cX7_scale 42 = .ok (.aload_n 0, 1) := by decide +kernel
theorem dX7_scale_43 : decode cX7_scale 43 = .ok (.getfield 16, 3) := by decide +kernel
theorem dX7_scale_46 : decode cX7_scale 46 = .ok (.iload_n 1, 1) := by decide +kernel
theorem dX7_scale_47 : decode cX7_scale 47 = .ok (.iaload, 1) := by decide +kernel
theorem dX7_scale_48 : decode cX7_scale 48 = .ok (.iload_n 2, 1) := by decide +kernel
theorem dX7_scale_49 : decode cX7_scale 49 = .ok (.imul, 1) := by decide +kernel
theorem dX7_scale_50 : decode cX7_scale 50 = .ok (.ldc 78, 2) := by decide +kernel
theorem dX7_scale_52 : decode cX7_scale 52 = .ok (.if_icmp .le 7, 3) := by decide +kernel
theorem dX7_scale_55 : decode cX7_scale 55 = .ok (.iconst 4, 1) := by decide +kernel
theorem dX7_scale_56 : decode cX7_scale 56 = .ok (.goto 4, 3) := by decide +kernel
theorem dX7_scale_59 : decode cX7_scale 59 = .ok (.iconst 0, 1) := by decide +kernel
theorem dX7_scale_60 : decode cX7_scale 60 = .ok (.invokevirtual 57, 3) := by decide +kernel
theorem dX7_scale_63 : decode cX7_scale 63 = .ok (.ifCond .eq 5, 3) := by decide +kernel
theorem dX7_scale_66 : decode cX7_scale 66 = .ok (.iconst 0, 1) := by decide +kernel
theorem dX7_scale_67 : decode cX7_scale 67 = .ok (.ireturn, 1) := by decide +kernel
theorem dX7_scale_68 : decode cX7_scale 68 = .ok (.aload_n 0, 1) := by decide +kernel
theorem dX7_scale_69 : decode cX7_scale 69 = .ok (.iload_n 1, 1) := by decide +kernel
theorem dX7_scale_70 : decode cX7_scale 70 = .ok (.aload_n 0, 1) := by decide +kernel
theorem dX7_scale_71 : decode cX7_scale 71 = .ok (.getfield 7, 3) := by decide +kernel
theorem dX7_scale_74 : decode cX7_scale 74 = .ok (.iload_n 1, 1) := by decide +kernel
theorem dX7_scale_75 : decode cX7_scale 75 = .ok (.iaload, 1) := by decide +kernel
theorem dX7_scale_76 : decode cX7_scale 76 = .ok (.iload_n 2, 1) := by decide +kernel
theorem dX7_scale_77 : decode cX7_scale 77 = .ok (.imul, 1) := by decide +kernel
theorem dX7_scale_78 : decode cX7_scale 78 = .ok (.aload_n 0, 1) := by decide +kernel
theorem dX7_scale_79 : decode cX7_scale 79 = .ok (.getfield 13, 3) := by decide +kernel
theorem dX7_scale_82 : decode cX7_scale 82 = .ok (.iload_n 1, 1) := by decide +kernel
theorem dX7_scale_83 : decode cX7_scale 83 = .ok (.iaload, 1) := by decide +kernel
theorem dX7_scale_84 : decode cX7_scale 84 = .ok (.iload_n 2, 1) := by decide +kernel
theorem dX7_scale_85 : decode cX7_scale 85 = .ok (.imul, 1) := by decide +kernel
theorem dX7_scale_86 : decode cX7_scale 86 = .ok (.aload_n 0, 1) := by decide +kernel
theorem dX7_scale_87 : decode cX7_scale 87 = .ok (.getfield 16, 3) := by decide +kernel
theorem dX7_scale_90 : decode cX7_scale 90 = .ok (.iload_n 1, 1) := by decide +kernel
theorem dX7_scale_91 : decode cX7_scale 91 = .ok (.iaload, 1) := by decide +kernel
theorem dX7_scale_92 : decode cX7_scale 92 = .ok (.iload_n 2, 1) := by decide +kernel
theorem dX7_scale_93 : decode cX7_scale 93 = .ok (.imul, 1) := by decide +kernel
theorem dX7_scale_94 : decode cX7_scale 94 = .ok (.invokevirtual 60, 3) := by decide +kernel
theorem dX7_scale_97 : decode cX7_scale 97 = .ok (.aload_n 0, 1) := by decide +kernel
theorem dX7_scale_98 : decode cX7_scale 98 = .ok (.getfield 16, 3) := by decide +kernel
theorem dX7_scale_101 : decode cX7_scale 101 = .ok (.iload_n 1, 1) := by decide +kernel
theorem dX7_scale_102 : decode cX7_scale 102 = .ok (.iaload, 1) := by decide +kernel
theorem dX7_scale_103 : decode cX7_scale 103 = .ok (.ireturn, 1) := by decide +kernel
theorem dX7_reduce_0 : decode cX7_reduce 0 = .ok (.aload_n 0, 1) := by decide +kernel
theorem dX7_reduce_1 : decode cX7_reduce 1 = .ok (.aload_n 0, 1) := by decide +kernel
theorem dX7_reduce_2 : decode cX7_reduce 2 = .ok (.iload_n 1, 1) := by decide +kernel
theorem dX7_reduce_3 : decode cX7_reduce 3 = .ok (.iconst 2, 1) := by decide +kernel
theorem dX7_reduce_4 : decode cX7_reduce 4 = .ok (.invokevirtual 68, 3) := by decide +kernel
theorem dX7_reduce_7 : decode cX7_reduce 7 = .ok (.invokevirtual 57, 3) := by decide +kernel
theorem dX7_reduce_10 : decode cX7_reduce 10 = .ok (.ifCond .eq 5, 3) := by decide +kernel
theorem dX7_reduce_13 : decode cX7_reduce 13 = .ok (.iconst 0, 1) := by decide +kernel
theorem dX7_reduce_14 : decode cX7_reduce 14 = .ok (.ireturn, 1) := by decide +kernel
theorem dX7_reduce_15 : decode cX7_reduce 15 = .ok (.aload_n 0, 1) := by decide +kernel
theorem dX7_reduce_16 : decode cX7_reduce 16 = .ok (.getfield 7, 3) := by decide +kernel
theorem dX7_reduce_19 : decode cX7_reduce 19 = .ok (.iload_n 1, 1) := by decide +kernel
theorem dX7_reduce_20 : decode cX7_reduce 20 = .ok (.iaload, 1) := by decide +kernel
theorem dX7_reduce_21 : decode cX7_reduce 21 = .ok (.aload_n 0, 1) := by decide +kernel
theorem dX7_reduce_22 : decode cX7_reduce 22 = .ok (.getfield 13, 3) := by decide +kernel
theorem dX7_reduce_25 : decode cX7_reduce 25 = .ok (.iload_n 1, 1) := by decide +kernel
theorem dX7_reduce_26 : decode cX7_reduce 26 = .ok (.iaload, 1) := by decide +kernel
theorem dX7_reduce_27 : decode cX7_reduce 27 = .ok (.aload_n 0, 1) := by decide +kernel
theorem dX7_reduce_28 : decode cX7_reduce 28 = .ok (.getfield 16, 3) := by decide +kernel
theorem dX7_reduce_31 : decode cX7_reduce 31 = .ok (.iload_n 1, 1) := by decide +kernel
theorem dX7_reduce_32 : decode cX7_reduce 32 = .ok (.iaload, 1) := by decide +kernel
theorem dX7_reduce_33 : decode cX7_reduce 33 = .ok (.invokestatic 79, 3) := by decide +kernel
theorem dX7_reduce_36 : decode cX7_reduce 36 = .ok (.invokestatic 79, 3) := by decide +kernel
theorem dX7_reduce_39 : decode cX7_reduce 39 = .ok (.istore_n 2, 1) := by decide +kernel
theorem dX7_reduce_40 : decode cX7_reduce 40 = .ok (.aload_n 0, 1) := by decide +kernel
theorem dX7_reduce_41 : decode cX7_reduce 41 = .ok (.iload_n 1, 1) := by decide +kernel
theorem dX7_reduce_42 : decode cX7_reduce 42 = .ok (.aload_n 0, 1) := by decide +kernel
theorem dX7_reduce_43 : decode cX7_reduce 43 = .ok (.getfield 7, 3) := by decide +kernel
theorem dX7_reduce_46 : decode cX7_reduce 46 = .ok (.iload_n 1, 1) := by decide +kernel
theorem dX7_reduce_47 : decode cX7_reduce 47 = .ok (.iaload, 1) := by decide +kernel
theorem dX7_reduce_48 : decode cX7_reduce 48 = .ok (.iload_n 2, 1) := by decide +kernel
theorem dX7_reduce_49 : decode cX7_reduce 49 = .ok (.idiv, 1) := by decide +kernel
theorem dX7_reduce_50 : decode cX7_reduce 50 = .ok (.aload_n 0, 1) := by decide +kernel
theorem dX7_reduce_51 : decode cX7_reduce 51 = .ok (.getfield 13, 3) := by decide +kernel
theorem dX7_reduce_54 : decode cX7_reduce 54 = .ok (.iload_n 1, 1) := by decide +kernel
theorem dX7_reduce_55 : decode cX7_reduce 55 = .ok (.iaload, 1) := by decide +kernel
theorem dX7_reduce_56 : decode cX7_reduce 56 = .ok (.iload_n 2, 1) := by decide +kernel
theorem dX7_reduce_57 : decode cX7_reduce 57 = .ok (.idiv, 1) := by decide +kernel
theorem dX7_reduce_58 : decode cX7_reduce 58 = .ok (.aload_n 0, 1) := by decide +kernel
theorem dX7_reduce_59 : decode cX7_reduce 59 = .ok (.getfield 16, 3) := by decide +kernel
theorem dX7_reduce_62 : decode cX7_reduce 62 = .ok (.iload_n 1, 1) := by decide +kernel
theorem dX7_reduce_63 : decode cX7_reduce 63 = .ok (.iaload, 1) := by decide +kernel
theorem dX7_reduce_64 : decode cX7_reduce 64 = .ok (.iload_n 2, 1) := by decide +kernel
theorem dX7_reduce_65 : decode cX7_reduce 65 = .ok (.idiv, 1) := by decide +kernel
theorem dX7_reduce_66 : decode cX7_reduce 66 = .ok (.invokevirtual 60, 3) := by decide +kernel
theorem dX7_reduce_69 : decode cX7_reduce 69 = .ok (.iload_n 2, 1) := by decide +kernel
theorem dX7_reduce_70 : decode cX7_reduce 70 = .ok (.ireturn, 1) := by decide +kernel
theorem dX7_leg_0 : decode cX7_leg 0 = .ok (.iconst 0, 1) := by decide +kernel
theorem dX7_leg_1 : decode cX7_leg 1 = .ok (.istore_n 3, 1) := by decide +kernel
theorem dX7_leg_2 : decode cX7_leg 2 = .ok (.iconst 0, 1) := by decide +kernel
theorem dX7_leg_3 : decode cX7_leg 3 = .ok (.istore 4, 2) := by decide +kernel
theorem dX7_leg_5 : decode cX7_leg 5 = .ok (.iload 4, 2) := by decide +kernel
theorem dX7_leg_7 : decode cX7_leg 7 = .ok (.iconst 4, 1) := by decide +kernel
theorem dX7_leg_8 : decode cX7_leg 8 = .ok (.if_icmp .ge 47, 3) := by decide +kernel
theorem dX7_leg_11 : decode cX7_leg 11 = .ok (.aload_n 0, 1) := by decide +kernel
theorem dX7_leg_12 : decode cX7_leg 12 = .ok (.iload_n 1, 1) := by decide +kernel
theorem dX7_leg_13 : decode cX7_leg 13 = .ok (.iload 4, 2) := by decide +kernel
theorem dX7_leg_15 : decode cX7_leg 15 = .ok (.iconst 2, 1) := by decide +kernel
theorem dX7_leg_16 : decode cX7_leg 16 = .ok (.idiv, 1) := by decide +kernel
theorem dX7_leg_17 : decode cX7_leg 17 = .ok (.invokevirtual 73, 3) := by decide +kernel
theorem dX7_leg_20 : decode cX7_leg 20 = .ok (.istore 5, 2) := by decide +kernel
theorem dX7_leg_22 : decode cX7_leg 22 = .ok (.aload_n 0, 1) := by decide +kernel
theorem dX7_leg_23 : decode cX7_leg 23 = .ok (.iload_n 2, 1) := by decide +kernel
theorem dX7_leg_24 : decode cX7_leg 24 = .ok (.iload 4, 2) := by decide +kernel
theorem dX7_leg_26 : decode cX7_leg 26 = .ok (.iconst 2, 1) := by decide +kernel
theorem dX7_leg_27 : decode cX7_leg 27 = .ok (.irem, 1) := by decide +kernel
theorem dX7_leg_28 : decode cX7_leg 28 = .ok (.invokevirtual 73, 3) := by decide +kernel
theorem dX7_leg_31 : decode cX7_leg 31 = .ok (.istore 6, 2) := by decide +kernel
theorem dX7_leg_33 : decode cX7_leg 33 = .ok (.iload 5, 2) := by decide +kernel
theorem dX7_leg_35 : decode cX7_leg 35 = .ok (.iload 6, 2) := by decide +kernel
theorem dX7_leg_37 : decode cX7_leg 37 = .ok (.if_icmp .ne 12, 3) := by decide +kernel
theorem dX7_leg_40 : decode cX7_leg 40 = .ok (.iload 5, 2) := by decide +kernel
theorem dX7_leg_42 : decode cX7_leg 42 = .ok (.iload_n 3, 1) := by decide +kernel
theorem dX7_leg_43 : decode cX7_leg 43 = .ok (.if_icmp .le 6, 3) := by decide +kernel
theorem dX7_leg_46 : decode cX7_leg 46 = .ok (.iload 5, 2) := by decide +kernel
theorem dX7_leg_48 : decode cX7_leg 48 = .ok (.istore_n 3, 1) := by decide +kernel
theorem dX7_leg_49 : decode cX7_leg 49 = .ok (.iinc 4 1, 3) := by decide +kernel
theorem dX7_leg_52 : decode cX7_leg 52 = .ok (.goto (-47), 3) := by decide +kernel
theorem dX7_leg_55 : decode cX7_leg 55 = .ok (.iload_n 3, 1) := by decide +kernel
theorem dX7_leg_56 : decode cX7_leg 56 = .ok (.ireturn, 1) := by decide +kernel
theorem dX7_wide_0 : decode cX7_wide 0 = .ok (.aload_n 0, 1) := by decide +kernel
theorem dX7_wide_1 : decode cX7_wide 1 = .ok (.iload_n 1, 1) := by decide +kernel
theorem dX7_wide_2 : decode cX7_wide 2 = .ok (.iload_n 2, 1) := by decide +kernel
theorem dX7_wide_3 : decode cX7_wide 3 = .ok (.invokevirtual 82, 3) := by decide +kernel
theorem dX7_wide_6 : decode cX7_wide 6 = .ok (.istore_n 3, 1) := by decide +kernel
theorem dX7_wide_7 : decode cX7_wide 7 = .ok (.aload_n 0, 1) := by decide +kernel
theorem dX7_wide_8 : decode cX7_wide 8 = .ok (.getfield 7, 3) := by decide +kernel
theorem dX7_wide_11 : decode cX7_wide 11 = .ok (.iload_n 1, 1) := by decide +kernel
theorem dX7_wide_12 : decode cX7_wide 12 = .ok (.iaload, 1) := by decide +kernel
theorem dX7_wide_13 : decode cX7_wide 13 = .ok (.aload_n 0, 1) := by decide +kernel
theorem dX7_wide_14 : decode cX7_wide 14 = .ok (.getfield 13, 3) := by decide +kernel
theorem dX7_wide_17 : decode cX7_wide 17 = .ok (.iload_n 1, 1) := by decide +kernel
theorem dX7_wide_18 : decode cX7_wide 18 = .ok (.iaload, 1) := by decide +kernel
theorem dX7_wide_19 : decode cX7_wide 19 = .ok (.iadd, 1) := by decide +kernel
theorem dX7_wide_20 : decode cX7_wide 20 = .ok (.iload_n 3, 1) := by decide +kernel
theorem dX7_wide_21 : decode cX7_wide 21 = .ok (.isub, 1) := by decide +kernel
theorem dX7_wide_22 : decode cX7_wide 22 = .ok (.aload_n 0, 1) := by decide +kernel
theorem dX7_wide_23 : decode cX7_wide 23 = .ok (.getfield 7, 3) := by decide +kernel
theorem dX7_wide_26 : decode cX7_wide 26 = .ok (.iload_n 2, 1) := by decide +kernel
theorem dX7_wide_27 : decode cX7_wide 27 = .ok (.iaload, 1) := by decide +kernel
theorem dX7_wide_28 : decode cX7_wide 28 = .ok (.iadd, 1) := by decide +kernel
theorem dX7_wide_29 : decode cX7_wide 29 = .ok (.aload_n 0, 1) := by decide +kernel
theorem dX7_wide_30 : decode cX7_wide 30 = .ok (.getfield 13, 3) := by decide +kernel
theorem dX7_wide_33 : decode cX7_wide 33 = .ok (.iload_n 2, 1) := by decide +kernel
theorem dX7_wide_34 : decode cX7_wide 34 = .ok (.iaload, 1) := by decide +kernel
theorem dX7_wide_35 : decode cX7_wide 35 = .ok (.iadd, 1) := by decide +kernel
theorem dX7_wide_36 : decode cX7_wide 36 = .ok (.iload_n 3, 1) := by decide +kernel
theorem dX7_wide_37 : decode cX7_wide 37 = .ok (.isub, 1) := by decide +kernel
theorem dX7_wide_38 : decode cX7_wide 38 = .ok (.ireturn, 1) := by decide +kernel
theorem dX7_join_0 : decode cX7_join 0 = .ok (.iload_n 1, 1) := by decide +kernel
theorem dX7_join_1 : decode cX7_join 1 = .ok (.invokestatic 41, 3) := by decide +kernel
theorem dX7_join_4 : decode cX7_join 4 = .ok (.ifCond .eq 17, 3) := by decide +kernel
theorem dX7_join_7 : decode cX7_join 7 = .ok (.iload_n 2, 1) := by decide +kernel
theorem dX7_join_8 : decode cX7_join 8 = .ok (.invokestatic 41, 3) := by decide +kernel
theorem dX7_join_11 : decode cX7_join 11 = .ok (.ifCond .eq 10, 3) := by decide +kernel
theorem dX7_join_14 : decode cX7_join 14 = .ok (.iload_n 3, 1) := by decide +kernel
theorem dX7_join_15 : decode cX7_join 15 = .ok (.invokestatic 41, 3) := by decide +kernel
theorem dX7_join_18 : decode cX7_join 18 = .ok (.ifCond .ne 7, 3) := by decide +kernel
theorem dX7_join_21 : decode cX7_join 21 = .ok (.iconst 1, 1) := by decide +kernel
theorem dX7_join_22 : decode cX7_join 22 = .ok (.goto 24, 3) := by decide +kernel
theorem dX7_join_25 : decode cX7_join 25 = .ok (.aload_n 0, 1) := by decide +kernel
theorem dX7_join_26 : decode cX7_join 26 = .ok (.iload_n 1, 1) := by decide +kernel
theorem dX7_join_27 : decode cX7_join 27 = .ok (.invokevirtual 45, 3) := by decide +kernel
theorem dX7_join_30 : decode cX7_join 30 = .ok (.ifCond .eq 11, 3) := by decide +kernel
theorem dX7_join_33 : decode cX7_join 33 = .ok (.aload_n 0, 1) := by decide +kernel
theorem dX7_join_34 : decode cX7_join 34 = .ok (.iload_n 2, 1) := by decide +kernel
theorem dX7_join_35 : decode cX7_join 35 = .ok (.invokevirtual 45, 3) := by decide +kernel
theorem dX7_join_38 : decode cX7_join 38 = .ok (.ifCond .ne 7, 3) := by decide +kernel
theorem dX7_join_41 : decode cX7_join 41 = .ok (.iconst 2, 1) := by decide +kernel
theorem dX7_join_42 : decode cX7_join 42 = .ok (.goto 4, 3) := by decide +kernel
theorem dX7_join_45 : decode cX7_join 45 = .ok (.iconst 0, 1) := by decide +kernel
theorem dX7_join_46 : decode cX7_join 46 = .ok (.istore 4, 2) := by decide +kernel
theorem dX7_join_48 : decode cX7_join 48 = .ok (.iload 4, 2) := by decide +kernel
theorem dX7_join_50 : decode cX7_join 50 = .ok (.ifCond .ne 42, 3) := by decide +kernel
theorem dX7_join_53 : decode cX7_join 53 = .ok (.aload_n 0, 1) := by decide +kernel
theorem dX7_join_54 : decode cX7_join 54 = .ok (.iload_n 1, 1) := by decide +kernel
theorem dX7_join_55 : decode cX7_join 55 = .ok (.invokevirtual 85, 3) := by decide +kernel
theorem dX7_join_58 : decode cX7_join 58 = .ok (.ifCond .ne 31, 3) := by decide +kernel
theorem dX7_join_61 : decode cX7_join 61 = .ok (.aload_n 0, 1) := by decide +kernel
theorem dX7_join_62 : decode cX7_join 62 = .ok (.iload_n 2, 1) := by decide +kernel
theorem dX7_join_63 : decode cX7_join 63 = .ok (.invokevirtual 85, 3) := by decide +kernel
theorem dX7_join_66 : decode cX7_join 66 = .ok (.ifCond .ne 23, 3) := by decide +kernel
theorem dX7_join_69 : decode cX7_join 69 = .ok (.aload_n 0, 1) := by decide +kernel
theorem dX7_join_70 : decode cX7_join 70 = .ok (.iload_n 1, 1) := by decide +kernel
theorem dX7_join_71 : decode cX7_join 71 = .ok (.iload_n 2, 1) := by decide +kernel
theorem dX7_join_72 : decode cX7_join 72 = .ok (.invokevirtual 82, 3) := by decide +kernel
theorem dX7_join_75 : decode cX7_join 75 = .ok (.ifCond .eq 14, 3) := by decide +kernel
theorem dX7_join_78 : decode cX7_join 78 = .ok (.aload_n 0, 1) := by decide +kernel
theorem dX7_join_79 : decode cX7_join 79 = .ok (.iload_n 1, 1) := by decide +kernel
theorem dX7_join_80 : decode cX7_join 80 = .ok (.iload_n 2, 1) := by decide +kernel
theorem dX7_join_81 : decode cX7_join 81 = .ok (.invokevirtual 89, 3) := by decide +kernel
theorem dX7_join_84 : decode cX7_join 84 = .ok (.ldc 78, 2) := by decide +kernel
theorem dX7_join_86 : decode cX7_join 86 = .ok (.if_icmp .le 6, 3) := by decide +kernel
theorem dX7_join_89 : decode cX7_join 89 = .ok (.iconst 3, 1) := by decide +kernel
theorem dX7_join_90 : decode cX7_join 90 = .ok (.istore 4, 2) := by decide +kernel
theorem dX7_join_92 : decode cX7_join 92 = .ok (.aload_n 0, 1) := by decide +kernel
theorem dX7_join_93 : decode cX7_join 93 = .ok (.iload 4, 2) := by decide +kernel
theorem dX7_join_95 : decode cX7_join 95 = .ok (.invokevirtual 57, 3) := by decide +kernel
theorem dX7_join_98 : decode cX7_join 98 = .ok (.ifCond .eq 5, 3) := by decide +kernel
theorem dX7_join_101 : decode cX7_join 101 = .ok (.iconst 0, 1) := by decide +kernel
theorem dX7_join_102 : decode cX7_join 102 = .ok (.ireturn, 1) := by decide +kernel
theorem dX7_join_103 : decode cX7_join 103 = .ok (.aload_n 0, 1) := by decide +kernel
theorem dX7_join_104 : decode cX7_join 104 = .ok (.iload_n 3, 1) := by decide +kernel
theorem dX7_join_105 : decode cX7_join 105 = .ok (.aload_n 0, 1) := by decide +kernel
theorem dX7_join_106 : decode cX7_join 106 = .ok (.getfield 16, 3) := by decide +kernel
theorem dX7_join_109 : decode cX7_join 109 = .ok (.iload_n 1, 1) := by decide +kernel
theorem dX7_join_110 : decode cX7_join 110 = .ok (.iaload, 1) := by decide +kernel
theorem dX7_join_111 : decode cX7_join 111 = .ok (.aload_n 0, 1) := by decide +kernel
theorem dX7_join_112 : decode cX7_join 112 = .ok (.getfield 16, 3) := by decide +kernel
theorem dX7_join_115 : decode cX7_join 115 = .ok (.iload_n 2, 1) := by decide +kernel
theorem dX7_join_116 : decode cX7_join 116 = .ok (.iaload, 1) := by decide +kernel
theorem dX7_join_117 : decode cX7_join 117 = .ok (.aload_n 0, 1) := by decide +kernel
theorem dX7_join_118 : decode cX7_join 118 = .ok (.iload_n 1, 1) := by decide +kernel
theorem dX7_join_119 : decode cX7_join 119 = .ok (.iload_n 2, 1) := by decide +kernel
theorem dX7_join_120 : decode cX7_join 120 = .ok (.invokevirtual 89, 3) := by decide +kernel
theorem dX7_join_123 : decode cX7_join 123 = .ok (.invokevirtual 60, 3) := by decide +kernel
theorem dX7_join_126 : decode cX7_join 126 = .ok (.aload_n 0, 1) := by decide +kernel
theorem dX7_join_127 : decode cX7_join 127 = .ok (.getfield 16, 3) := by decide +kernel
theorem dX7_join_130 : decode cX7_join 130 = .ok (.iload_n 3, 1) := by decide +kernel
theorem dX7_join_131 : decode cX7_join 131 = .ok (.iaload, 1) := by decide +kernel
theorem dX7_join_132 : decode cX7_join 132 = .ok (.ireturn, 1) := by decide +kernel
theorem dX7_squared_0 : decode cX7_squared 0 = .ok (.lload_n 0, 1) := by decide +kernel
theorem dX7_squared_1 : decode cX7_squared 1 = .ok (.lload_n 0, 1) := by decide +kernel
theorem dX7_squared_2 : decode cX7_squared 2 = .ok (.lmul, 1) := by decide +kernel
theorem dX7_squared_3 : decode cX7_squared 3 = .ok (.lreturn, 1) := by decide +kernel
theorem dX7_kindOf_0 : decode cX7_kindOf 0 = .ok (.aload_n 0, 1) := by decide +kernel
theorem dX7_kindOf_1 : decode cX7_kindOf 1 = .ok (.getfield 7, 3) := by decide +kernel
theorem dX7_kindOf_4 : decode cX7_kindOf 4 = .ok (.iload_n 1, 1) := by decide +kernel
theorem dX7_kindOf_5 : decode cX7_kindOf 5 = .ok (.iaload, 1) := by decide +kernel
theorem dX7_kindOf_6 : decode cX7_kindOf 6 = .ok (.i2l, 1) := by decide +kernel
theorem dX7_kindOf_7 : decode cX7_kindOf 7 = .ok (.invokestatic 92, 3) := by decide +kernel
theorem dX7_kindOf_10 : decode cX7_kindOf 10 = .ok (.aload_n 0, 1) := by decide +kernel
theorem dX7_kindOf_11 : decode cX7_kindOf 11 = .ok (.getfield 13, 3) := by decide +kernel
theorem dX7_kindOf_14 : decode cX7_kindOf 14 = .ok (.iload_n 1, 1) := by decide +kernel
theorem dX7_kindOf_15 : decode cX7_kindOf 15 = .ok (.iaload, 1) := by decide +kernel
theorem dX7_kindOf_16 : decode cX7_kindOf 16 = .ok (.i2l, 1) := by decide +kernel
theorem dX7_kindOf_17 : decode cX7_kindOf 17 = .ok (.invokestatic 92, 3) := by decide +kernel
theorem dX7_kindOf_20 : decode cX7_kindOf 20 = .ok (.ladd, 1) := by decide +kernel
theorem dX7_kindOf_21 : decode cX7_kindOf 21 = .ok (.lstore_n 2, 1) := by decide +kernel
theorem dX7_kindOf_22 : decode cX7_kindOf 22 = .ok (.aload_n 0, 1) := by decide +kernel
theorem dX7_kindOf_23 : decode cX7_kindOf 23 = .ok (.getfield 16, 3) := by decide +kernel
theorem dX7_kindOf_26 : decode cX7_kindOf 26 = .ok (.iload_n 1, 1) := by decide +kernel
theorem dX7_kindOf_27 : decode cX7_kindOf 27 = .ok (.iaload, 1) := by decide +kernel
theorem dX7_kindOf_28 : decode cX7_kindOf 28 = .ok (.i2l, 1) := by decide +kernel
theorem dX7_kindOf_29 : decode cX7_kindOf 29 = .ok (.invokestatic 92, 3) := by decide +kernel
theorem dX7_kindOf_32 : decode cX7_kindOf 32 = .ok (.lstore 4, 2) := by decide +kernel
theorem dX7_kindOf_34 : decode cX7_kindOf 34 = .ok (.lload_n 2, 1) := by decide +kernel
theorem dX7_kindOf_35 : decode cX7_kindOf 35 = .ok (.lload 4, 2) := by decide +kernel
theorem dX7_kindOf_37 : decode cX7_kindOf 37 = .ok (.lcmp, 1) := by decide +kernel
theorem dX7_kindOf_38 : decode cX7_kindOf 38 = .ok (.ifCond .ge 7, 3) := by decide +kernel
theorem dX7_kindOf_41 : decode cX7_kindOf 41 = .ok (.iconst (-1), 1) := by decide +kernel
theorem dX7_kindOf_42 : decode cX7_kindOf 42 = .ok (.goto 15, 3) := by decide +kernel
theorem dX7_kindOf_45 : decode cX7_kindOf 45 = .ok (.lload_n 2, 1) := by decide +kernel
theorem dX7_kindOf_46 : decode cX7_kindOf 46 = .ok (.lload 4, 2) := by decide +kernel
theorem dX7_kindOf_48 : decode cX7_kindOf 48 = .ok (.lcmp, 1) := by decide +kernel
theorem dX7_kindOf_49 : decode cX7_kindOf 49 = .ok (.ifCond .le 7, 3) := by decide +kernel
theorem dX7_kindOf_52 : decode cX7_kindOf 52 = .ok (.iconst 1, 1) := by decide +kernel
theorem dX7_kindOf_53 : decode cX7_kindOf 53 = .ok (.goto 4, 3) := by decide +kernel
theorem dX7_kindOf_56 : decode cX7_kindOf 56 = .ok (.iconst 0, 1) := by decide +kernel
theorem dX7_kindOf_57 : decode cX7_kindOf 57 = .ok (.ireturn, 1) := by decide +kernel
theorem dX7_kind_0 : decode cX7_kind 0 = .ok (.aload_n 0, 1) := by decide +kernel
theorem dX7_kind_1 : decode cX7_kind 1 = .ok (.aload_n 0, 1) := by decide +kernel
theorem dX7_kind_2 : decode cX7_kind 2 = .ok (.iload_n 1, 1) := by decide +kernel
theorem dX7_kind_3 : decode cX7_kind 3 = .ok (.iconst 2, 1) := by decide +kernel
theorem dX7_kind_4 : decode cX7_kind 4 = .ok (.invokevirtual 68, 3) := by decide +kernel
theorem dX7_kind_7 : decode cX7_kind 7 = .ok (.invokevirtual 57, 3) := by decide +kernel
theorem dX7_kind_10 : decode cX7_kind 10 = .ok (.ifCond .eq 7, 3) := by decide +kernel
theorem dX7_kind_13 : decode cX7_kind 13 = .ok (.iconst 0, 1) := by decide +kernel
theorem dX7_kind_14 : decode cX7_kind 14 = .ok (.goto 8, 3) := by decide +kernel
theorem dX7_kind_17 : decode cX7_kind 17 = .ok (.aload_n 0, 1) := by decide +kernel
theorem dX7_kind_18 : decode cX7_kind 18 = .ok (.iload_n 1, 1) := by decide +kernel
theorem dX7_kind_19 : decode cX7_kind 19 = .ok (.invokevirtual 85, 3) := by decide +kernel
theorem dX7_kind_22 : decode cX7_kind 22 = .ok (.ireturn, 1) := by decide +kernel
theorem dX7_angle_0 : decode cX7_angle 0 = .ok (.aload_n 0, 1) := by decide +kernel
theorem dX7_angle_1 : decode cX7_angle 1 = .ok (.iload_n 2, 1) := by decide +kernel
theorem dX7_angle_2 : decode cX7_angle 2 = .ok (.i2l, 1) := by decide +kernel
theorem dX7_angle_3 : decode cX7_angle 3 = .ok (.lconst 0, 1) := by decide +kernel
theorem dX7_angle_4 : decode cX7_angle 4 = .ok (.ldc2_w 71, 3) := by decide +kernel
theorem dX7_angle_7 : decode cX7_angle 7 = .ok (.invokestatic 37, 3) := by decide +kernel
theorem dX7_angle_10 : decode cX7_angle 10 = .ok (.ifCond .ne 7, 3) := by decide +kernel
theorem dX7_angle_13 : decode cX7_angle 13 = .ok (.iconst 1, 1) := by decide +kernel
theorem dX7_angle_14 : decode cX7_angle 14 = .ok (.goto 9, 3) := by decide +kernel
theorem dX7_angle_17 : decode cX7_angle 17 = .ok (.aload_n 0, 1) := by decide +kernel
theorem dX7_angle_18 : decode cX7_angle 18 = .ok (.iload_n 1, 1) := by decide +kernel
theorem dX7_angle_19 : decode cX7_angle 19 = .ok (.iconst 2, 1) := by decide +kernel
theorem dX7_angle_20 : decode cX7_angle 20 = .ok (.invokevirtual 68, 3) := by decide +kernel
theorem dX7_angle_23 : decode cX7_angle 23 = .ok (.invokevirtual 57, 3) := by decide +kernel
theorem dX7_angle_26 : decode cX7_angle 26 = .ok (.ifCond .eq 5, 3) := by decide +kernel
theorem dX7_angle_29 : decode cX7_angle 29 = .ok (.iconst 0, 1) := by decide +kernel
theorem dX7_angle_30 : decode cX7_angle 30 = .ok (.ireturn, 1) := by decide +kernel
theorem dX7_angle_31 : decode cX7_angle 31 = .ok (.aload_n 0, 1) := by decide +kernel
theorem dX7_angle_32 : decode cX7_angle 32 = .ok (.iload_n 1, 1) := by decide +kernel
theorem dX7_angle_33 : decode cX7_angle 33 = .ok (.iload_n 2, 1) := by decide +kernel
theorem dX7_angle_34 : decode cX7_angle 34 = .ok (.ifCond .ne 7, 3) := by decide +kernel
theorem dX7_angle_37 : decode cX7_angle 37 = .ok (.iconst 1, 1) := by decide +kernel
theorem dX7_angle_38 : decode cX7_angle 38 = .ok (.goto 4, 3) := by decide +kernel
theorem dX7_angle_41 : decode cX7_angle 41 = .ok (.iconst 0, 1) := by decide +kernel
theorem dX7_angle_42 : decode cX7_angle 42 = .ok (.invokevirtual 73, 3) := by decide +kernel
theorem dX7_angle_45 : decode cX7_angle 45 = .ok (.i2l, 1) := by decide +kernel
theorem dX7_angle_46 : decode cX7_angle 46 = .ok (.lstore_n 3, 1) := by decide +kernel
theorem dX7_angle_47 : decode cX7_angle 47 = .ok (.aload_n 0, 1) := by decide +kernel
theorem dX7_angle_48 : decode cX7_angle 48 = .ok (.iload_n 1, 1) := by decide +kernel
theorem dX7_angle_49 : decode cX7_angle 49 = .ok (.iload_n 2, 1) := by decide +kernel
theorem dX7_angle_50 : decode cX7_angle 50 = .ok (.iconst 2, 1) := by decide +kernel
theorem dX7_angle_51 : decode cX7_angle 51 = .ok (.if_icmp .ne 7, 3) := by decide +kernel
theorem dX7_angle_54 : decode cX7_angle 54 = .ok (.iconst 1, 1) := by decide +kernel
theorem dX7_angle_55 : decode cX7_angle 55 = .ok (.goto 4, 3) := by decide +kernel
theorem dX7_angle_58 : decode cX7_angle 58 = .ok (.iconst 2, 1) := by decide +kernel
theorem dX7_angle_59 : decode cX7_angle 59 = .ok (.invokevirtual 73, 3) := by decide +kernel
theorem dX7_angle_62 : decode cX7_angle 62 = .ok (.i2l, 1) := by decide +kernel
theorem dX7_angle_63 : decode cX7_angle 63 = .ok (.lstore 5, 2) := by decide +kernel
theorem dX7_angle_65 : decode cX7_angle 65 = .ok (.aload_n 0, 1) := by decide +kernel
theorem dX7_angle_66 : decode cX7_angle 66 = .ok (.iload_n 1, 1) := by decide +kernel
theorem dX7_angle_67 : decode cX7_angle 67 = .ok (.iload_n 2, 1) := by decide +kernel
theorem dX7_angle_68 : decode cX7_angle 68 = .ok (.invokevirtual 73, 3) := by decide +kernel
theorem dX7_angle_71 : decode cX7_angle 71 = .ok (.i2l, 1) := by decide +kernel
theorem dX7_angle_72 : decode cX7_angle 72 = .ok (.lstore 7, 2) := by decide +kernel
theorem dX7_angle_74 : decode cX7_angle 74 = .ok (.lload_n 3, 1) := by decide +kernel
theorem dX7_angle_75 : decode cX7_angle 75 = .ok (.lload_n 3, 1) := by decide +kernel
theorem dX7_angle_76 : decode cX7_angle 76 = .ok (.lmul, 1) := by decide +kernel
theorem dX7_angle_77 : decode cX7_angle 77 = .ok (.lload 5, 2) := by decide +kernel
theorem dX7_angle_79 : decode cX7_angle 79 = .ok (.lload 5, 2) := by decide +kernel
theorem dX7_angle_81 : decode cX7_angle 81 = .ok (.lmul, 1) := by decide +kernel
theorem dX7_angle_82 : decode cX7_angle 82 = .ok (.ladd, 1) := by decide +kernel
theorem dX7_angle_83 : decode cX7_angle 83 = .ok (.lload 7, 2) := by decide +kernel
theorem dX7_angle_85 : decode cX7_angle 85 = .ok (.lload 7, 2) := by decide +kernel
theorem dX7_angle_87 : decode cX7_angle 87 = .ok (.lmul, 1) := by decide +kernel
theorem dX7_angle_88 : decode cX7_angle 88 = .ok (.lsub, 1) := by decide +kernel
theorem dX7_angle_89 : decode cX7_angle 89 = .ok (.lstore 9, 2) := by decide +kernel
theorem dX7_angle_91 : decode cX7_angle 91 = .ok (.lload 9, 2) := by decide +kernel
theorem dX7_angle_93 : decode cX7_angle 93 = .ok (.lconst 0, 1) := by decide +kernel
theorem dX7_angle_94 : decode cX7_angle 94 = .ok (.lcmp, 1) := by decide +kernel
theorem dX7_angle_95 : decode cX7_angle 95 = .ok (.ifCond .ne 8, 3) := by decide +kernel
theorem dX7_angle_98 : decode cX7_angle 98 = .ok (.bipush 90, 2) := by decide +kernel
theorem dX7_angle_100 : decode cX7_angle 100 = .ok (.goto 35, 3) := by decide +kernel
theorem dX7_angle_103 : decode cX7_angle 103 = .ok (.lload 9, 2) := by decide +kernel
theorem dX7_angle_105 : decode cX7_angle 105 = .ok (.lload_n 3, 1) := by decide +kernel
theorem dX7_angle_106 : decode cX7_angle 106 = .ok (.lload 5, 2) := by decide +kernel
theorem dX7_angle_108 : decode cX7_angle 108 = .ok (.lmul, 1) := by decide +kernel
theorem dX7_angle_109 : decode cX7_angle 109 = .ok (.lcmp, 1) := by decide +kernel
theorem dX7_angle_110 : decode cX7_angle 110 = .ok (.ifCond .ne 8, 3) := by decide +kernel
theorem dX7_angle_113 : decode cX7_angle 113 = .ok (.bipush 60, 2) := by decide +kernel
theorem dX7_angle_115 : decode cX7_angle 115 = .ok (.goto 20, 3) := by decide +kernel
theorem dX7_angle_118 : decode cX7_angle 118 = .ok (.lload 9, 2) := by decide +kernel
theorem dX7_angle_120 : decode cX7_angle 120 = .ok (.lload_n 3, 1) := by decide +kernel
theorem dX7_angle_121 : decode cX7_angle 121 = .ok (.lneg, 1) := by decide +kernel
theorem dX7_angle_122 : decode cX7_angle 122 = .ok (.lload 5, 2) := by decide +kernel
theorem dX7_angle_124 : decode cX7_angle 124 = .ok (.lmul, 1) := by decide +kernel
theorem dX7_angle_125 : decode cX7_angle 125 = .ok (.lcmp, 1) := by decide +kernel
theorem dX7_angle_126 : decode cX7_angle 126 = .ok (.ifCond .ne 8, 3) := by decide +kernel
theorem dX7_angle_129 : decode cX7_angle 129 = .ok (.bipush 120, 2) := by decide +kernel
theorem dX7_angle_131 : decode cX7_angle 131 = .ok (.goto 4, 3) := by decide +kernel
theorem dX7_angle_134 : decode cX7_angle 134 = .ok (.iconst 0, 1) := by decide +kernel
theorem dX7_angle_135 : decode cX7_angle 135 = .ok (.ireturn, 1) := by decide +kernel
theorem dX7_around_0 : decode cX7_around 0 = .ok (.aload_n 0, 1) := by decide +kernel
theorem dX7_around_1 : decode cX7_around 1 = .ok (.getfield 7, 3) := by decide +kernel
theorem dX7_around_4 : decode cX7_around 4 = .ok (.iload_n 1, 1) := by decide +kernel
theorem dX7_around_5 : decode cX7_around 5 = .ok (.iaload, 1) := by decide +kernel
theorem dX7_around_6 : decode cX7_around 6 = .ok (.aload_n 0, 1) := by decide +kernel
theorem dX7_around_7 : decode cX7_around 7 = .ok (.getfield 13, 3) := by decide +kernel
theorem dX7_around_10 : decode cX7_around 10 = .ok (.iload_n 1, 1) := by decide +kernel
theorem dX7_around_11 : decode cX7_around 11 = .ok (.iaload, 1) := by decide +kernel
theorem dX7_around_12 : decode cX7_around 12 = .ok (.iadd, 1) := by decide +kernel
theorem dX7_around_13 : decode cX7_around 13 = .ok (.aload_n 0, 1) := by decide +kernel
theorem dX7_around_14 : decode cX7_around 14 = .ok (.getfield 16, 3) := by decide +kernel
theorem dX7_around_17 : decode cX7_around 17 = .ok (.iload_n 1, 1) := by decide +kernel
theorem dX7_around_18 : decode cX7_around 18 = .ok (.iaload, 1) := by decide +kernel
theorem dX7_around_19 : decode cX7_around 19 = .ok (.iadd, 1) := by decide +kernel
theorem dX7_around_20 : decode cX7_around 20 = .ok (.ireturn, 1) := by decide +kernel
theorem dX7_makeS_0 : decode cX7_makeS 0 = .ok (.aload_n 0, 1) := by decide +kernel
theorem dX7_makeS_1 : decode cX7_makeS 1 = .ok (.iload_n 1, 1) := by decide +kernel
theorem dX7_makeS_2 : decode cX7_makeS 2 = .ok (.invokevirtual 96, 3) := by decide +kernel
theorem dX7_makeS_5 : decode cX7_makeS 5 = .ok (.i2l, 1) := by decide +kernel
theorem dX7_makeS_6 : decode cX7_makeS 6 = .ok (.lstore_n 2, 1) := by decide +kernel
theorem dX7_makeS_7 : decode cX7_makeS 7 = .ok (.lload_n 2, 1) := by decide +kernel
theorem dX7_makeS_8 : decode cX7_makeS 8 = .ok (.lload_n 2, 1) := by decide +kernel
theorem dX7_makeS_9 : decode cX7_makeS 9 = .ok (.ldc2_w 71, 3) := by decide +kernel
theorem dX7_makeS_12 : decode cX7_makeS 12 = .ok (.aload_n 0, 1) := by decide +kernel
theorem dX7_makeS_13 : decode cX7_makeS 13 = .ok (.getfield 16, 3) := by decide +kernel
theorem dX7_makeS_16 : decode cX7_makeS 16 = .ok (.iload_n 1, 1) := by decide +kernel
theorem dX7_makeS_17 : decode cX7_makeS 17 = .ok (.iaload, 1) := by decide +kernel
theorem dX7_makeS_18 : decode cX7_makeS 18 = .ok (.i2l, 1) := by decide +kernel
theorem dX7_makeS_19 : decode cX7_makeS 19 = .ok (.lmul, 1) := by decide +kernel
theorem dX7_makeS_20 : decode cX7_makeS 20 = .ok (.lsub, 1) := by decide +kernel
theorem dX7_makeS_21 : decode cX7_makeS 21 = .ok (.lmul, 1) := by decide +kernel
theorem dX7_makeS_22 : decode cX7_makeS 22 = .ok (.lstore 4, 2) := by decide +kernel
theorem dX7_makeS_24 : decode cX7_makeS 24 = .ok (.lload_n 2, 1) := by decide +kernel
theorem dX7_makeS_25 : decode cX7_makeS 25 = .ok (.ldc2_w 71, 3) := by decide +kernel
theorem dX7_makeS_28 : decode cX7_makeS 28 = .ok (.aload_n 0, 1) := by decide +kernel
theorem dX7_makeS_29 : decode cX7_makeS 29 = .ok (.getfield 7, 3) := by decide +kernel
theorem dX7_makeS_32 : decode cX7_makeS 32 = .ok (.iload_n 1, 1) := by decide +kernel
theorem dX7_makeS_33 : decode cX7_makeS 33 = .ok (.iaload, 1) := by decide +kernel
theorem dX7_makeS_34 : decode cX7_makeS 34 = .ok (.i2l, 1) := by decide +kernel
theorem dX7_makeS_35 : decode cX7_makeS 35 = .ok (.lmul, 1) := by decide +kernel
theorem dX7_makeS_36 : decode cX7_makeS 36 = .ok (.lsub, 1) := by decide +kernel
theorem dX7_makeS_37 : decode cX7_makeS 37 = .ok (.lload_n 2, 1) := by decide +kernel
theorem dX7_makeS_38 : decode cX7_makeS 38 = .ok (.ldc2_w 71, 3) := by decide +kernel
theorem dX7_makeS_41 : decode cX7_makeS 41 = .ok (.aload_n 0, 1) := by decide +kernel
theorem dX7_makeS_42 : decode cX7_makeS 42 = .ok (.getfield 13, 3) := by decide +kernel
theorem dX7_makeS_45 : decode cX7_makeS 45 = .ok (.iload_n 1, 1) := by decide +kernel
theorem dX7_makeS_46 : decode cX7_makeS 46 = .ok (.iaload, 1) := by decide +kernel
theorem dX7_makeS_47 : decode cX7_makeS 47 = .ok (.i2l, 1) := by decide +kernel
theorem dX7_makeS_48 : decode cX7_makeS 48 = .ok (.lmul, 1) := by decide +kernel
theorem dX7_makeS_49 : decode cX7_makeS 49 = .ok (.lsub, 1) := by decide +kernel
theorem dX7_makeS_50 : decode cX7_makeS 50 = .ok (.lmul, 1) := by decide +kernel
theorem dX7_makeS_51 : decode cX7_makeS 51 = .ok (.lstore 6, 2) := by decide +kernel
theorem dX7_makeS_53 : decode cX7_makeS 53 = .ok (.lload 4, 2) := by decide +kernel
theorem dX7_makeS_55 : decode cX7_makeS 55 = .ok (.bipush 17, 2) := by decide +kernel
theorem dX7_makeS_57 : decode cX7_makeS 57 = .ok (.lshr, 1) := by decide +kernel
theorem dX7_makeS_58 : decode cX7_makeS 58 = .ok (.lload 6, 2) := by decide +kernel
theorem dX7_makeS_60 : decode cX7_makeS 60 = .ok (.lmul, 1) := by decide +kernel
theorem dX7_makeS_61 : decode cX7_makeS 61 = .ok (.lstore 8, 2) := by decide +kernel
theorem dX7_makeS_63 : decode cX7_makeS 63 = .ok (.lload 4, 2) := by decide +kernel
theorem dX7_makeS_65 : decode cX7_makeS 65 = .ok (.ldc2_w 99, 3) := by decide +kernel
theorem dX7_makeS_68 : decode cX7_makeS 68 = .ok (.land, 1) := by decide +kernel
theorem dX7_makeS_69 : decode cX7_makeS 69 = .ok (.lload 6, 2) := by decide +kernel
theorem dX7_makeS_71 : decode cX7_makeS 71 = .ok (.lmul, 1) := by decide +kernel
theorem dX7_makeS_72 : decode cX7_makeS 72 = .ok (.lstore 10, 2) := by decide +kernel
theorem dX7_makeS_74 : decode cX7_makeS 74 = .ok (.lload 8, 2) := by decide +kernel
theorem dX7_makeS_76 : decode cX7_makeS 76 = .ok (.ldc2_w 101, 3) := by decide +kernel
theorem dX7_makeS_79 : decode cX7_makeS 79 = .ok (.land, 1) := by decide +kernel
theorem dX7_makeS_80 : decode cX7_makeS 80 = .ok (.bipush 17, 2) := by decide +kernel
theorem dX7_makeS_82 : decode cX7_makeS 82 = .ok (.lshl, 1) := by decide +kernel
theorem dX7_makeS_83 : decode cX7_makeS 83 = .ok (.lload 10, 2) := by decide +kernel
theorem dX7_makeS_85 : decode cX7_makeS 85 = .ok (.ldc2_w 103, 3) := by decide +kernel
theorem dX7_makeS_88 : decode cX7_makeS 88 = .ok (.land, 1) := by decide +kernel
theorem dX7_makeS_89 : decode cX7_makeS 89 = .ok (.ladd, 1) := by decide +kernel
theorem dX7_makeS_90 : decode cX7_makeS 90 = .ok (.lstore 12, 2) := by decide +kernel
theorem dX7_makeS_92 : decode cX7_makeS 92 = .ok (.aload_n 0, 1) := by decide +kernel
theorem dX7_makeS_93 : decode cX7_makeS 93 = .ok (.lload 12, 2) := by decide +kernel
theorem dX7_makeS_95 : decode cX7_makeS 95 = .ok (.ldc2_w 103, 3) := by decide +kernel
theorem dX7_makeS_98 : decode cX7_makeS 98 = .ok (.land, 1) := by decide +kernel
theorem dX7_makeS_99 : decode cX7_makeS 99 = .ok (.putfield 105, 3) := by decide +kernel
theorem dX7_makeS_102 : decode cX7_makeS 102 = .ok (.aload_n 0, 1) := by decide +kernel
theorem dX7_makeS_103 : decode cX7_makeS 103 = .ok (.lload 8, 2) := by decide +kernel
theorem dX7_makeS_105 : decode cX7_makeS 105 = .ok (.bipush 15, 2) := by decide +kernel
theorem dX7_makeS_107 : decode cX7_makeS 107 = .ok (.lshr, 1) := by decide +kernel
theorem dX7_makeS_108 : decode cX7_makeS 108 = .ok (.lload 10, 2) := by decide +kernel
theorem dX7_makeS_110 : decode cX7_makeS 110 = .ok (.bipush 32, 2) := by decide +kernel
theorem dX7_makeS_112 : decode cX7_makeS 112 = .ok (.lshr, 1) := by decide +kernel
theorem dX7_makeS_113 : decode cX7_makeS 113 = .ok (.ladd, 1) := by decide +kernel
theorem dX7_makeS_114 : decode cX7_makeS 114 = .ok (.lload 12, 2) := by decide +kernel
theorem dX7_makeS_116 : decode cX7_makeS 116 = .ok (.bipush 32, 2) := by decide +kernel
theorem dX7_makeS_118 : decode cX7_makeS 118 = .ok (.lshr, 1) := by decide +kernel
theorem dX7_makeS_119 : decode cX7_makeS 119 = .ok (.ladd, 1) := by decide +kernel
theorem dX7_makeS_120 : decode cX7_makeS 120 = .ok (.putfield 109, 3) := by decide +kernel
theorem dX7_makeS_123 : decode cX7_makeS 123 = .ok (.return_, 1) := by decide +kernel
theorem dX7_findRoot_0 : decode cX7_findRoot 0 = .ok (.aload_n 0, 1) := by decide +kernel
theorem dX7_findRoot_1 : decode cX7_findRoot 1 = .ok (.iload_n 1, 1) := by decide +kernel
theorem dX7_findRoot_2 : decode cX7_findRoot 2 = .ok (.invokevirtual 112, 3) := by decide +kernel
theorem dX7_findRoot_5 : decode cX7_findRoot 5 = .ok (.lconst 0, 1) := by decide +kernel
theorem dX7_findRoot_6 : decode cX7_findRoot 6 = .ok (.lstore_n 2, 1) := by decide +kernel
theorem dX7_findRoot_7 : decode cX7_findRoot 7 = .ok (.aload_n 0, 1) := by decide +kernel
theorem dX7_findRoot_8 : decode cX7_findRoot 8 = .ok (.lconst 0, 1) := by decide +kernel
theorem dX7_findRoot_9 : decode cX7_findRoot 9 = .ok (.putfield 116, 3) := by decide +kernel
theorem dX7_findRoot_12 : decode cX7_findRoot 12 = .ok (.bipush 33, 2) := by decide +kernel
theorem dX7_findRoot_14 : decode cX7_findRoot 14 = .ok (.istore 4, 2) := by decide +kernel
theorem dX7_findRoot_16 : decode cX7_findRoot 16 = .ok (.iload 4, 2) := by decide +kernel
theorem dX7_findRoot_18 : decode cX7_findRoot 18 = .ok (.ifCond .lt 101, 3) := by decide +kernel
theorem dX7_findRoot_21 : decode cX7_findRoot 21 = .ok (.iload 4, 2) := by decide +kernel
theorem dX7_findRoot_23 : decode cX7_findRoot 23 = .ok (.bipush 16, 2) := by decide +kernel
theorem dX7_findRoot_25 : decode cX7_findRoot 25 = .ok (.if_icmp .lt 18, 3) := by decide +kernel
theorem dX7_findRoot_28 : decode cX7_findRoot 28 = .ok (.aload_n 0, 1) := by decide +kernel
theorem dX7_findRoot_29 : decode cX7_findRoot 29 = .ok (.getfield 109, 3) := by decide +kernel
theorem dX7_findRoot_32 : decode cX7_findRoot 32 = .ok (.iconst 2, 1) := by decide +kernel
theorem dX7_findRoot_33 : decode cX7_findRoot 33 = .ok (.iload 4, 2) := by decide +kernel
theorem dX7_findRoot_35 : decode cX7_findRoot 35 = .ok (.bipush 16, 2) := by decide +kernel
theorem dX7_findRoot_37 : decode cX7_findRoot 37 = .ok (.isub, 1) := by decide +kernel
theorem dX7_findRoot_38 : decode cX7_findRoot 38 = .ok (.imul, 1) := by decide +kernel
theorem dX7_findRoot_39 : decode cX7_findRoot 39 = .ok (.lshr, 1) := by decide +kernel
theorem dX7_findRoot_40 : decode cX7_findRoot 40 = .ok (.goto 12, 3) := by decide +kernel
theorem dX7_findRoot_43 : decode cX7_findRoot 43 = .ok (.aload_n 0, 1) := by decide +kernel
theorem dX7_findRoot_44 : decode cX7_findRoot 44 = .ok (.getfield 105, 3) := by decide +kernel
theorem dX7_findRoot_47 : decode cX7_findRoot 47 = .ok (.iconst 2, 1) := by decide +kernel
theorem dX7_findRoot_48 : decode cX7_findRoot 48 = .ok (.iload 4, 2) := by decide +kernel
theorem dX7_findRoot_50 : decode cX7_findRoot 50 = .ok (.imul, 1) := by decide +kernel
theorem dX7_findRoot_51 : decode cX7_findRoot 51 = .ok (.lshr, 1) := by decide +kernel
theorem dX7_findRoot_52 : decode cX7_findRoot 52 = .ok (.ldc2_w 119, 3) := by decide +kernel
theorem dX7_findRoot_55 : decode cX7_findRoot 55 = .ok (.land, 1) := by decide +kernel
theorem dX7_findRoot_56 : decode cX7_findRoot 56 = .ok (.lstore 5, 2) := by decide +kernel
theorem dX7_findRoot_58 : decode cX7_findRoot 58 = .ok (.lload_n 2, 1) := by decide +kernel
theorem dX7_findRoot_59 : decode cX7_findRoot 59 = .ok (.ldc2_w 121, 3) := by decide +kernel
theorem dX7_findRoot_62 : decode cX7_findRoot 62 = .ok (.lmul, 1) := by decide +kernel
theorem dX7_findRoot_63 : decode cX7_findRoot 63 = .ok (.lload 5, 2) := by decide +kernel
theorem dX7_findRoot_65 : decode cX7_findRoot 65 = .ok (.ladd, 1) := by decide +kernel
theorem dX7_findRoot_66 : decode cX7_findRoot 66 = .ok (.lstore_n 2, 1) := by decide +kernel
theorem dX7_findRoot_67 : decode cX7_findRoot 67 = .ok (.aload_n 0, 1) := by decide +kernel
theorem dX7_findRoot_68 : decode cX7_findRoot 68 = .ok (.getfield 116, 3) := by decide +kernel
theorem dX7_findRoot_71 : decode cX7_findRoot 71 = .ok (.ldc2_w 121, 3) := by decide +kernel
theorem dX7_findRoot_74 : decode cX7_findRoot 74 = .ok (.lmul, 1) := by decide +kernel
theorem dX7_findRoot_75 : decode cX7_findRoot 75 = .ok (.lconst 1, 1) := by decide +kernel
theorem dX7_findRoot_76 : decode cX7_findRoot 76 = .ok (.ladd, 1) := by decide +kernel
theorem dX7_findRoot_77 : decode cX7_findRoot 77 = .ok (.lstore 7, 2) := by decide +kernel
theorem dX7_findRoot_79 : decode cX7_findRoot 79 = .ok (.aload_n 0, 1) := by decide +kernel
theorem dX7_findRoot_80 : decode cX7_findRoot 80 = .ok (.aload_n 0, 1) := by decide +kernel
theorem dX7_findRoot_81 : decode cX7_findRoot 81 = .ok (.getfield 116, 3) := by decide +kernel
theorem dX7_findRoot_84 : decode cX7_findRoot 84 = .ok (.ldc2_w 71, 3) := by decide +kernel
theorem dX7_findRoot_87 : decode cX7_findRoot 87 = .ok (.lmul, 1) := by decide +kernel
theorem dX7_findRoot_88 : decode cX7_findRoot 88 = .ok (.putfield 116, 3) := by decide +kernel
theorem dX7_findRoot_91 : decode cX7_findRoot 91 = .ok (.lload_n 2, 1) := by decide +kernel
theorem dX7_findRoot_92 : decode cX7_findRoot 92 = .ok (.lload 7, 2) := by decide +kernel
theorem dX7_findRoot_94 : decode cX7_findRoot 94 = .ok (.lcmp, 1) := by decide +kernel
theorem dX7_findRoot_95 : decode cX7_findRoot 95 = .ok (.ifCond .lt 18, 3) := by decide +kernel
theorem dX7_findRoot_98 : decode cX7_findRoot 98 = .ok (.lload_n 2, 1) := by decide +kernel
theorem dX7_findRoot_99 : decode cX7_findRoot 99 = .ok (.lload 7, 2) := by decide +kernel
theorem dX7_findRoot_101 : decode cX7_findRoot 101 = .ok (.lsub, 1) := by decide +kernel
theorem dX7_findRoot_102 : decode cX7_findRoot 102 = .ok (.lstore_n 2, 1) := by decide +kernel
theorem dX7_findRoot_103 : decode cX7_findRoot 103 = .ok (.aload_n 0, 1) := by decide +kernel
theorem dX7_findRoot_104 : decode cX7_findRoot 104 = .ok (.dup, 1) := by decide +kernel
theorem dX7_findRoot_105 : decode cX7_findRoot 105 = .ok (.getfield 116, 3) := by decide +kernel
theorem dX7_findRoot_108 : decode cX7_findRoot 108 = .ok (.lconst 1, 1) := by decide +kernel
theorem dX7_findRoot_109 : decode cX7_findRoot 109 = .ok (.ladd, 1) := by decide +kernel
theorem dX7_findRoot_110 : decode cX7_findRoot 110 = .ok (.putfield 116, 3) := by decide +kernel
theorem dX7_findRoot_113 : decode cX7_findRoot 113 = .ok (.iinc 4 (-1), 3) := by decide +kernel
theorem dX7_findRoot_116 : decode cX7_findRoot 116 = .ok (.goto (-100), 3) := by decide +kernel
theorem dX7_findRoot_119 : decode cX7_findRoot 119 = .ok (.aload_n 0, 1) := by decide +kernel
theorem dX7_findRoot_120 : decode cX7_findRoot 120 = .ok (.lload_n 2, 1) := by decide +kernel
theorem dX7_findRoot_121 : decode cX7_findRoot 121 = .ok (.lconst 0, 1) := by decide +kernel
theorem dX7_findRoot_122 : decode cX7_findRoot 122 = .ok (.lcmp, 1) := by decide +kernel
theorem dX7_findRoot_123 : decode cX7_findRoot 123 = .ok (.ifCond .ne 7, 3) := by decide +kernel
theorem dX7_findRoot_126 : decode cX7_findRoot 126 = .ok (.iconst 1, 1) := by decide +kernel
theorem dX7_findRoot_127 : decode cX7_findRoot 127 = .ok (.goto 4, 3) := by decide +kernel
theorem dX7_findRoot_130 : decode cX7_findRoot 130 = .ok (.iconst 0, 1) := by decide +kernel
theorem dX7_findRoot_131 : decode cX7_findRoot 131 = .ok (.putfield 123, 3) := by decide +kernel
theorem dX7_findRoot_134 : decode cX7_findRoot 134 = .ok (.return_, 1) := by decide +kernel
theorem dX7_hasArea_0 : decode cX7_hasArea 0 = .ok (.aload_n 0, 1) := by decide +kernel
theorem dX7_hasArea_1 : decode cX7_hasArea 1 = .ok (.iload_n 1, 1) := by decide +kernel
theorem dX7_hasArea_2 : decode cX7_hasArea 2 = .ok (.invokevirtual 127, 3) := by decide +kernel
theorem dX7_hasArea_5 : decode cX7_hasArea 5 = .ok (.aload_n 0, 1) := by decide +kernel
theorem dX7_hasArea_6 : decode cX7_hasArea 6 = .ok (.getfield 123, 3) := by decide +kernel
theorem dX7_hasArea_9 : decode cX7_hasArea 9 = .ok (.ifCond .eq 20, 3) := by decide +kernel
theorem dX7_hasArea_12 : decode cX7_hasArea 12 = .ok (.aload_n 0, 1) := by decide +kernel
theorem dX7_hasArea_13 : decode cX7_hasArea 13 = .ok (.getfield 116, 3) := by decide +kernel
theorem dX7_hasArea_16 : decode cX7_hasArea 16 = .ok (.ldc2_w 121, 3) := by decide +kernel
theorem dX7_hasArea_19 : decode cX7_hasArea 19 = .ok (.lrem, 1) := by decide +kernel
theorem dX7_hasArea_20 : decode cX7_hasArea 20 = .ok (.lconst 0, 1) := by decide +kernel
theorem dX7_hasArea_21 : decode cX7_hasArea 21 = .ok (.lcmp, 1) := by decide +kernel
theorem dX7_hasArea_22 : decode cX7_hasArea 22 = .ok (.ifCond .ne 7, 3) := by decide +kernel
theorem dX7_hasArea_25 : decode cX7_hasArea 25 = .ok (.iconst 1, 1) := by decide +kernel
theorem dX7_hasArea_26 : decode cX7_hasArea 26 = .ok (.goto 4, 3) := by decide +kernel
theorem dX7_hasArea_29 : decode cX7_hasArea 29 = .ok (.iconst 0, 1) := by decide +kernel
theorem dX7_hasArea_30 : decode cX7_hasArea 30 = .ok (.ireturn, 1) := by decide +kernel
theorem dX7_areaIsWhole_0 : decode cX7_areaIsWhole 0 = .ok (.aload_n 0, 1) := by decide +kernel
theorem dX7_areaIsWhole_1 : decode cX7_areaIsWhole 1 = .ok (.aload_n 0, 1) := by decide +kernel
theorem dX7_areaIsWhole_2 : decode cX7_areaIsWhole 2 = .ok (.iload_n 1, 1) := by decide +kernel
theorem dX7_areaIsWhole_3 : decode cX7_areaIsWhole 3 = .ok (.iconst 2, 1) := by decide +kernel
theorem dX7_areaIsWhole_4 : decode cX7_areaIsWhole 4 = .ok (.invokevirtual 68, 3) := by decide +kernel
theorem dX7_areaIsWhole_7 : decode cX7_areaIsWhole 7 = .ok (.invokevirtual 57, 3) := by decide +kernel
theorem dX7_areaIsWhole_10 : decode cX7_areaIsWhole 10 = .ok (.ifCond .ne 15, 3) := by decide +kernel
theorem dX7_areaIsWhole_13 : decode cX7_areaIsWhole 13 = .ok (.aload_n 0, 1) := by decide +kernel
theorem dX7_areaIsWhole_14 : decode cX7_areaIsWhole 14 = .ok (.iload_n 1, 1) := by decide +kernel
theorem dX7_areaIsWhole_15 : decode cX7_areaIsWhole 15 = .ok (.invokevirtual 130, 3) := by decide +kernel
theorem dX7_areaIsWhole_18 : decode cX7_areaIsWhole 18 = .ok (.ifCond .eq 7, 3) := by decide +kernel
theorem dX7_areaIsWhole_21 : decode cX7_areaIsWhole 21 = .ok (.iconst 1, 1) := by decide +kernel
theorem dX7_areaIsWhole_22 : decode cX7_areaIsWhole 22 = .ok (.goto 4, 3) := by decide +kernel
theorem dX7_areaIsWhole_25 : decode cX7_areaIsWhole 25 = .ok (.iconst 0, 1) := by decide +kernel
theorem dX7_areaIsWhole_26 : decode cX7_areaIsWhole 26 = .ok (.ireturn, 1) := by decide +kernel
theorem dX7_area_0 : decode cX7_area 0 = .ok (.aload_n 0, 1) := by decide +kernel
theorem dX7_area_1 : decode cX7_area 1 = .ok (.iload_n 1, 1) := by decide +kernel
theorem dX7_area_2 : decode cX7_area 2 = .ok (.iconst 2, 1) := by decide +kernel
theorem dX7_area_3 : decode cX7_area 3 = .ok (.invokevirtual 68, 3) := by decide +kernel
theorem dX7_area_6 : decode cX7_area 6 = .ok (.istore_n 2, 1) := by decide +kernel
theorem dX7_area_7 : decode cX7_area 7 = .ok (.aload_n 0, 1) := by decide +kernel
theorem dX7_area_8 : decode cX7_area 8 = .ok (.iload_n 2, 1) := by decide +kernel
theorem dX7_area_9 : decode cX7_area 9 = .ok (.ifCond .eq 7, 3) := by decide +kernel
theorem dX7_area_12 : decode cX7_area 12 = .ok (.iload_n 2, 1) := by decide +kernel
theorem dX7_area_13 : decode cX7_area 13 = .ok (.goto 16, 3) := by decide +kernel
theorem dX7_area_16 : decode cX7_area 16 = .ok (.aload_n 0, 1) := by decide +kernel
theorem dX7_area_17 : decode cX7_area 17 = .ok (.iload_n 1, 1) := by decide +kernel
theorem dX7_area_18 : decode cX7_area 18 = .ok (.invokevirtual 130, 3) := by decide +kernel
theorem dX7_area_21 : decode cX7_area 21 = .ok (.ifCond .eq 7, 3) := by decide +kernel
theorem dX7_area_24 : decode cX7_area 24 = .ok (.iconst 0, 1) := by decide +kernel
theorem dX7_area_25 : decode cX7_area 25 = .ok (.goto 4, 3) := by decide +kernel
theorem dX7_area_28 : decode cX7_area 28 = .ok (.iconst 3, 1) := by decide +kernel
theorem dX7_area_29 : decode cX7_area 29 = .ok (.invokevirtual 57, 3) := by decide +kernel
theorem dX7_area_32 : decode cX7_area 32 = .ok (.ifCond .eq 5, 3) := by decide +kernel
theorem dX7_area_35 : decode cX7_area 35 = .ok (.lconst 0, 1) := by decide +kernel
theorem dX7_area_36 : decode cX7_area 36 = .ok (.lreturn, 1) := by decide +kernel
theorem dX7_area_37 : decode cX7_area 37 = .ok (.aload_n 0, 1) := by decide +kernel
theorem dX7_area_38 : decode cX7_area 38 = .ok (.getfield 116, 3) := by decide +kernel
theorem dX7_area_41 : decode cX7_area 41 = .ok (.ldc2_w 121, 3) := by decide +kernel
theorem dX7_area_44 : decode cX7_area 44 = .ok (.ldiv, 1) := by decide +kernel
theorem dX7_area_45 : decode cX7_area 45 = .ok (.lreturn, 1) := by decide +kernel
theorem dX7_ratio_0 : decode cX7_ratio 0 = .ok (.iload_n 2, 1) := by decide +kernel
theorem dX7_ratio_1 : decode cX7_ratio 1 = .ok (.ifCond .eq 7, 3) := by decide +kernel
theorem dX7_ratio_4 : decode cX7_ratio 4 = .ok (.lload_n 3, 1) := by decide +kernel
theorem dX7_ratio_5 : decode cX7_ratio 5 = .ok (.goto 30, 3) := by decide +kernel
theorem dX7_ratio_8 : decode cX7_ratio 8 = .ok (.ldc2_w 71, 3) := by decide +kernel
theorem dX7_ratio_11 : decode cX7_ratio 11 = .ok (.aload_n 0, 1) := by decide +kernel
theorem dX7_ratio_12 : decode cX7_ratio 12 = .ok (.getfield 7, 3) := by decide +kernel
theorem dX7_ratio_15 : decode cX7_ratio 15 = .ok (.iload_n 1, 1) := by decide +kernel
theorem dX7_ratio_16 : decode cX7_ratio 16 = .ok (.iaload, 1) := by decide +kernel
theorem dX7_ratio_17 : decode cX7_ratio 17 = .ok (.i2l, 1) := by decide +kernel
theorem dX7_ratio_18 : decode cX7_ratio 18 = .ok (.lmul, 1) := by decide +kernel
theorem dX7_ratio_19 : decode cX7_ratio 19 = .ok (.aload_n 0, 1) := by decide +kernel
theorem dX7_ratio_20 : decode cX7_ratio 20 = .ok (.getfield 13, 3) := by decide +kernel
theorem dX7_ratio_23 : decode cX7_ratio 23 = .ok (.iload_n 1, 1) := by decide +kernel
theorem dX7_ratio_24 : decode cX7_ratio 24 = .ok (.iaload, 1) := by decide +kernel
theorem dX7_ratio_25 : decode cX7_ratio 25 = .ok (.i2l, 1) := by decide +kernel
theorem dX7_ratio_26 : decode cX7_ratio 26 = .ok (.lmul, 1) := by decide +kernel
theorem dX7_ratio_27 : decode cX7_ratio 27 = .ok (.aload_n 0, 1) := by decide +kernel
theorem dX7_ratio_28 : decode cX7_ratio 28 = .ok (.getfield 16, 3) := by decide +kernel
theorem dX7_ratio_31 : decode cX7_ratio 31 = .ok (.iload_n 1, 1) := by decide +kernel
theorem dX7_ratio_32 : decode cX7_ratio 32 = .ok (.iaload, 1) := by decide +kernel
theorem dX7_ratio_33 : decode cX7_ratio 33 = .ok (.i2l, 1) := by decide +kernel
theorem dX7_ratio_34 : decode cX7_ratio 34 = .ok (.lmul, 1) := by decide +kernel
theorem dX7_ratio_35 : decode cX7_ratio 35 = .ok (.lstore 5, 2) := by decide +kernel
theorem dX7_ratio_37 : decode cX7_ratio 37 = .ok (.iload_n 2, 1) := by decide +kernel
theorem dX7_ratio_38 : decode cX7_ratio 38 = .ok (.ifCond .eq 16, 3) := by decide +kernel
theorem dX7_ratio_41 : decode cX7_ratio 41 = .ok (.ldc2_w 71, 3) := by decide +kernel
theorem dX7_ratio_44 : decode cX7_ratio 44 = .ok (.aload_n 0, 1) := by decide +kernel
theorem dX7_ratio_45 : decode cX7_ratio 45 = .ok (.iload_n 1, 1) := by decide +kernel
theorem dX7_ratio_46 : decode cX7_ratio 46 = .ok (.invokevirtual 96, 3) := by decide +kernel
theorem dX7_ratio_49 : decode cX7_ratio 49 = .ok (.i2l, 1) := by decide +kernel
theorem dX7_ratio_50 : decode cX7_ratio 50 = .ok (.lmul, 1) := by decide +kernel
theorem dX7_ratio_51 : decode cX7_ratio 51 = .ok (.goto 4, 3) := by decide +kernel
theorem dX7_ratio_54 : decode cX7_ratio 54 = .ok (.lload_n 3, 1) := by decide +kernel
theorem dX7_ratio_55 : decode cX7_ratio 55 = .ok (.lstore 7, 2) := by decide +kernel
theorem dX7_ratio_57 : decode cX7_ratio 57 = .ok (.aload_n 0, 1) := by decide +kernel
theorem dX7_ratio_58 : decode cX7_ratio 58 = .ok (.getfield 123, 3) := by decide +kernel
theorem dX7_ratio_61 : decode cX7_ratio 61 = .ok (.ifCond .eq 21, 3) := by decide +kernel
theorem dX7_ratio_64 : decode cX7_ratio 64 = .ok (.lload 5, 2) := by decide +kernel
theorem dX7_ratio_66 : decode cX7_ratio 66 = .ok (.lload 7, 2) := by decide +kernel
theorem dX7_ratio_68 : decode cX7_ratio 68 = .ok (.lrem, 1) := by decide +kernel
theorem dX7_ratio_69 : decode cX7_ratio 69 = .ok (.lconst 0, 1) := by decide +kernel
theorem dX7_ratio_70 : decode cX7_ratio 70 = .ok (.lcmp, 1) := by decide +kernel
theorem dX7_ratio_71 : decode cX7_ratio 71 = .ok (.ifCond .ne 11, 3) := by decide +kernel
theorem dX7_ratio_74 : decode cX7_ratio 74 = .ok (.lload 5, 2) := by decide +kernel
theorem dX7_ratio_76 : decode cX7_ratio 76 = .ok (.lload 7, 2) := by decide +kernel
theorem dX7_ratio_78 : decode cX7_ratio 78 = .ok (.ldiv, 1) := by decide +kernel
theorem dX7_ratio_79 : decode cX7_ratio 79 = .ok (.goto 6, 3) := by decide +kernel
theorem dX7_ratio_82 : decode cX7_ratio 82 = .ok (.ldc2_w 133, 3) := by decide +kernel
theorem dX7_ratio_85 : decode cX7_ratio 85 = .ok (.lreturn, 1) := by decide +kernel
theorem dX7_round_0 : decode cX7_round 0 = .ok (.aload_n 0, 1) := by decide +kernel
theorem dX7_round_1 : decode cX7_round 1 = .ok (.iload_n 1, 1) := by decide +kernel
theorem dX7_round_2 : decode cX7_round 2 = .ok (.invokevirtual 127, 3) := by decide +kernel
theorem dX7_round_5 : decode cX7_round 5 = .ok (.aload_n 0, 1) := by decide +kernel
theorem dX7_round_6 : decode cX7_round 6 = .ok (.iload_n 1, 1) := by decide +kernel
theorem dX7_round_7 : decode cX7_round 7 = .ok (.iload_n 2, 1) := by decide +kernel
theorem dX7_round_8 : decode cX7_round 8 = .ok (.bipush 105, 2) := by decide +kernel
theorem dX7_round_10 : decode cX7_round 10 = .ok (.if_icmp .ne 7, 3) := by decide +kernel
theorem dX7_round_13 : decode cX7_round 13 = .ok (.iconst 1, 1) := by decide +kernel
theorem dX7_round_14 : decode cX7_round 14 = .ok (.goto 4, 3) := by decide +kernel
theorem dX7_round_17 : decode cX7_round 17 = .ok (.iconst 0, 1) := by decide +kernel
theorem dX7_round_18 : decode cX7_round 18 = .ok (.aload_n 0, 1) := by decide +kernel
theorem dX7_round_19 : decode cX7_round 19 = .ok (.getfield 116, 3) := by decide +kernel
theorem dX7_round_22 : decode cX7_round 22 = .ok (.invokevirtual 135, 3) := by decide +kernel
theorem dX7_round_25 : decode cX7_round 25 = .ok (.lreturn, 1) := by decide +kernel
theorem dX7_circle_0 : decode cX7_circle 0 = .ok (.iload_n 2, 1) := by decide +kernel
theorem dX7_circle_1 : decode cX7_circle 1 = .ok (.bipush 105, 2) := by decide +kernel
theorem dX7_circle_3 : decode cX7_circle 3 = .ok (.if_icmp .eq 9, 3) := by decide +kernel
theorem dX7_circle_6 : decode cX7_circle 6 = .ok (.iload_n 2, 1) := by decide +kernel
theorem dX7_circle_7 : decode cX7_circle 7 = .ok (.bipush 111, 2) := by decide +kernel
theorem dX7_circle_9 : decode cX7_circle 9 = .ok (.if_icmp .ne 7, 3) := by decide +kernel
theorem dX7_circle_12 : decode cX7_circle 12 = .ok (.iconst 1, 1) := by decide +kernel
theorem dX7_circle_13 : decode cX7_circle 13 = .ok (.goto 4, 3) := by decide +kernel
theorem dX7_circle_16 : decode cX7_circle 16 = .ok (.iconst 0, 1) := by decide +kernel
theorem dX7_circle_17 : decode cX7_circle 17 = .ok (.istore_n 3, 1) := by decide +kernel
theorem dX7_circle_18 : decode cX7_circle 18 = .ok (.aload_n 0, 1) := by decide +kernel
theorem dX7_circle_19 : decode cX7_circle 19 = .ok (.iload_n 1, 1) := by decide +kernel
theorem dX7_circle_20 : decode cX7_circle 20 = .ok (.invokestatic 41, 3) := by decide +kernel
theorem dX7_circle_23 : decode cX7_circle 23 = .ok (.ifCond .ne 7, 3) := by decide +kernel
theorem dX7_circle_26 : decode cX7_circle 26 = .ok (.iconst 1, 1) := by decide +kernel
theorem dX7_circle_27 : decode cX7_circle 27 = .ok (.goto 39, 3) := by decide +kernel
theorem dX7_circle_30 : decode cX7_circle 30 = .ok (.iload_n 3, 1) := by decide +kernel
theorem dX7_circle_31 : decode cX7_circle 31 = .ok (.ifCond .ne 7, 3) := by decide +kernel
theorem dX7_circle_34 : decode cX7_circle 34 = .ok (.iconst 2, 1) := by decide +kernel
theorem dX7_circle_35 : decode cX7_circle 35 = .ok (.goto 31, 3) := by decide +kernel
theorem dX7_circle_38 : decode cX7_circle 38 = .ok (.aload_n 0, 1) := by decide +kernel
theorem dX7_circle_39 : decode cX7_circle 39 = .ok (.iload_n 1, 1) := by decide +kernel
theorem dX7_circle_40 : decode cX7_circle 40 = .ok (.invokevirtual 45, 3) := by decide +kernel
theorem dX7_circle_43 : decode cX7_circle 43 = .ok (.ifCond .ne 7, 3) := by decide +kernel
theorem dX7_circle_46 : decode cX7_circle 46 = .ok (.iconst 3, 1) := by decide +kernel
theorem dX7_circle_47 : decode cX7_circle 47 = .ok (.goto 19, 3) := by decide +kernel
theorem dX7_circle_50 : decode cX7_circle 50 = .ok (.aload_n 0, 1) := by decide +kernel
theorem dX7_circle_51 : decode cX7_circle 51 = .ok (.iload_n 1, 1) := by decide +kernel
theorem dX7_circle_52 : decode cX7_circle 52 = .ok (.iload_n 2, 1) := by decide +kernel
theorem dX7_circle_53 : decode cX7_circle 53 = .ok (.invokevirtual 139, 3) := by decide +kernel
theorem dX7_circle_56 : decode cX7_circle 56 = .ok (.lconst 0, 1) := by decide +kernel
theorem dX7_circle_57 : decode cX7_circle 57 = .ok (.lcmp, 1) := by decide +kernel
theorem dX7_circle_58 : decode cX7_circle 58 = .ok (.ifCond .ge 7, 3) := by decide +kernel
theorem dX7_circle_61 : decode cX7_circle 61 = .ok (.iconst 4, 1) := by decide +kernel
theorem dX7_circle_62 : decode cX7_circle 62 = .ok (.goto 4, 3) := by decide +kernel
theorem dX7_circle_65 : decode cX7_circle 65 = .ok (.iconst 0, 1) := by decide +kernel
theorem dX7_circle_66 : decode cX7_circle 66 = .ok (.invokevirtual 57, 3) := by decide +kernel
theorem dX7_circle_69 : decode cX7_circle 69 = .ok (.ifCond .eq 5, 3) := by decide +kernel
theorem dX7_circle_72 : decode cX7_circle 72 = .ok (.lconst 0, 1) := by decide +kernel
theorem dX7_circle_73 : decode cX7_circle 73 = .ok (.lreturn, 1) := by decide +kernel
theorem dX7_circle_74 : decode cX7_circle 74 = .ok (.aload_n 0, 1) := by decide +kernel
theorem dX7_circle_75 : decode cX7_circle 75 = .ok (.iload_n 1, 1) := by decide +kernel
theorem dX7_circle_76 : decode cX7_circle 76 = .ok (.iload_n 2, 1) := by decide +kernel
theorem dX7_circle_77 : decode cX7_circle 77 = .ok (.invokevirtual 139, 3) := by decide +kernel
theorem dX7_circle_80 : decode cX7_circle 80 = .ok (.lreturn, 1) := by decide +kernel
theorem dX7_compared_0 : decode cX7_compared 0 = .ok (.aload_n 0, 1) := by decide +kernel
theorem dX7_compared_1 : decode cX7_compared 1 = .ok (.iload_n 1, 1) := by decide +kernel
theorem dX7_compared_2 : decode cX7_compared 2 = .ok (.invokevirtual 112, 3) := by decide +kernel
theorem dX7_compared_5 : decode cX7_compared 5 = .ok (.aload_n 0, 1) := by decide +kernel
theorem dX7_compared_6 : decode cX7_compared 6 = .ok (.getfield 109, 3) := by decide +kernel
theorem dX7_compared_9 : decode cX7_compared 9 = .ok (.lstore_n 3, 1) := by decide +kernel
theorem dX7_compared_10 : decode cX7_compared 10 = .ok (.aload_n 0, 1) := by decide +kernel
theorem dX7_compared_11 : decode cX7_compared 11 = .ok (.getfield 105, 3) := by decide +kernel
theorem dX7_compared_14 : decode cX7_compared 14 = .ok (.lstore 5, 2) := by decide +kernel
theorem dX7_compared_16 : decode cX7_compared 16 = .ok (.aload_n 0, 1) := by decide +kernel
theorem dX7_compared_17 : decode cX7_compared 17 = .ok (.iload_n 2, 1) := by decide +kernel
theorem dX7_compared_18 : decode cX7_compared 18 = .ok (.invokevirtual 112, 3) := by decide +kernel
theorem dX7_compared_21 : decode cX7_compared 21 = .ok (.lload_n 3, 1) := by decide +kernel
theorem dX7_compared_22 : decode cX7_compared 22 = .ok (.aload_n 0, 1) := by decide +kernel
theorem dX7_compared_23 : decode cX7_compared 23 = .ok (.getfield 109, 3) := by decide +kernel
theorem dX7_compared_26 : decode cX7_compared 26 = .ok (.lcmp, 1) := by decide +kernel
theorem dX7_compared_27 : decode cX7_compared 27 = .ok (.ifCond .eq 20, 3) := by decide +kernel
theorem dX7_compared_30 : decode cX7_compared 30 = .ok (.lload_n 3, 1) := by decide +kernel
theorem dX7_compared_31 : decode cX7_compared 31 = .ok (.aload_n 0, 1) := by decide +kernel
theorem dX7_compared_32 : decode cX7_compared 32 = .ok (.getfield 109, 3) := by decide +kernel
theorem dX7_compared_35 : decode cX7_compared 35 = .ok (.lcmp, 1) := by decide +kernel
theorem dX7_compared_36 : decode cX7_compared 36 = .ok (.ifCond .ge 7, 3) := by decide +kernel
theorem dX7_compared_39 : decode cX7_compared 39 = .ok (.iconst (-1), 1) := by decide +kernel
theorem dX7_compared_40 : decode cX7_compared 40 = .ok (.goto 36, 3) := by decide +kernel
theorem dX7_compared_43 : decode cX7_compared 43 = .ok (.iconst 1, 1) := by decide +kernel
theorem dX7_compared_44 : decode cX7_compared 44 = .ok (.goto 32, 3) := by decide +kernel
theorem dX7_compared_47 : decode cX7_compared 47 = .ok (.lload 5, 2) := by decide +kernel
theorem dX7_compared_49 : decode cX7_compared 49 = .ok (.aload_n 0, 1) := by decide +kernel
theorem dX7_compared_50 : decode cX7_compared 50 = .ok (.getfield 105, 3) := by decide +kernel
theorem dX7_compared_53 : decode cX7_compared 53 = .ok (.lcmp, 1) := by decide +kernel
theorem dX7_compared_54 : decode cX7_compared 54 = .ok (.ifCond .ge 7, 3) := by decide +kernel
theorem dX7_compared_57 : decode cX7_compared 57 = .ok (.iconst (-1), 1) := by decide +kernel
theorem dX7_compared_58 : decode cX7_compared 58 = .ok (.goto 18, 3) := by decide +kernel
theorem dX7_compared_61 : decode cX7_compared 61 = .ok (.lload 5, 2) := by decide +kernel
theorem dX7_compared_63 : decode cX7_compared 63 = .ok (.aload_n 0, 1) := by decide +kernel
theorem dX7_compared_64 : decode cX7_compared 64 = .ok (.getfield 105, 3) := by decide +kernel
theorem dX7_compared_67 : decode cX7_compared 67 = .ok (.lcmp, 1) := by decide +kernel
theorem dX7_compared_68 : decode cX7_compared 68 = .ok (.ifCond .le 7, 3) := by decide +kernel
theorem dX7_compared_71 : decode cX7_compared 71 = .ok (.iconst 1, 1) := by decide +kernel
theorem dX7_compared_72 : decode cX7_compared 72 = .ok (.goto 4, 3) := by decide +kernel
theorem dX7_compared_75 : decode cX7_compared 75 = .ok (.iconst 0, 1) := by decide +kernel
theorem dX7_compared_76 : decode cX7_compared 76 = .ok (.ireturn, 1) := by decide +kernel
theorem dX7_compareAreas_0 : decode cX7_compareAreas 0 = .ok (.aload_n 0, 1) := by decide +kernel
theorem dX7_compareAreas_1 : decode cX7_compareAreas 1 = .ok (.iload_n 1, 1) := by decide +kernel
theorem dX7_compareAreas_2 : decode cX7_compareAreas 2 = .ok (.invokestatic 41, 3) := by decide +kernel
theorem dX7_compareAreas_5 : decode cX7_compareAreas 5 = .ok (.ifCond .eq 10, 3) := by decide +kernel
theorem dX7_compareAreas_8 : decode cX7_compareAreas 8 = .ok (.iload_n 2, 1) := by decide +kernel
theorem dX7_compareAreas_9 : decode cX7_compareAreas 9 = .ok (.invokestatic 41, 3) := by decide +kernel
theorem dX7_compareAreas_12 : decode cX7_compareAreas 12 = .ok (.ifCond .ne 7, 3) := by decide +kernel
theorem dX7_compareAreas_15 : decode cX7_compareAreas 15 = .ok (.iconst 1, 1) := by decide +kernel
theorem dX7_compareAreas_16 : decode cX7_compareAreas 16 = .ok (.goto 24, 3) := by decide +kernel
theorem dX7_compareAreas_19 : decode cX7_compareAreas 19 = .ok (.aload_n 0, 1) := by decide +kernel
theorem dX7_compareAreas_20 : decode cX7_compareAreas 20 = .ok (.iload_n 1, 1) := by decide +kernel
theorem dX7_compareAreas_21 : decode cX7_compareAreas 21 = .ok (.invokevirtual 45, 3) := by decide +kernel
theorem dX7_compareAreas_24 : decode cX7_compareAreas 24 = .ok (.ifCond .eq 11, 3) := by decide +kernel
theorem dX7_compareAreas_27 : decode cX7_compareAreas 27 = .ok (.aload_n 0, 1) := by decide +kernel
theorem dX7_compareAreas_28 : decode cX7_compareAreas 28 = .ok (.iload_n 2, 1) := by decide +kernel
theorem dX7_compareAreas_29 : decode cX7_compareAreas 29 = .ok (.invokevirtual 45, 3) := by decide +kernel
theorem dX7_compareAreas_32 : decode cX7_compareAreas 32 = .ok (.ifCond .ne 7, 3) := by decide +kernel
theorem dX7_compareAreas_35 : decode cX7_compareAreas 35 = .ok (.iconst 2, 1) := by decide +kernel
theorem dX7_compareAreas_36 : decode cX7_compareAreas 36 = .ok (.goto 4, 3) := by decide +kernel
theorem dX7_compareAreas_39 : decode cX7_compareAreas 39 = .ok (.iconst 0, 1) := by decide +kernel
theorem dX7_compareAreas_40 : decode cX7_compareAreas 40 = .ok (.invokevirtual 57, 3) := by decide +kernel
theorem dX7_compareAreas_43 : decode cX7_compareAreas 43 = .ok (.ifCond .eq 5, 3) := by decide +kernel
theorem dX7_compareAreas_46 : decode cX7_compareAreas 46 = .ok (.iconst 0, 1) := by decide +kernel
theorem dX7_compareAreas_47 : decode cX7_compareAreas 47 = .ok (.ireturn, 1) := by decide +kernel
theorem dX7_compareAreas_48 : decode cX7_compareAreas 48 = .ok (.aload_n 0, 1) := by decide +kernel
theorem dX7_compareAreas_49 : decode cX7_compareAreas 49 = .ok (.iload_n 1, 1) := by decide +kernel
theorem dX7_compareAreas_50 : decode cX7_compareAreas 50 = .ok (.iload_n 2, 1) := by decide +kernel
theorem dX7_compareAreas_51 : decode cX7_compareAreas 51 = .ok (.invokevirtual 143, 3) := by decide +kernel
theorem dX7_compareAreas_54 : decode cX7_compareAreas 54 = .ok (.ireturn, 1) := by decide +kernel
theorem dX7_product_0 : decode cX7_product 0 = .ok (.aload_n 0, 1) := by decide +kernel
theorem dX7_product_1 : decode cX7_product 1 = .ok (.aload_n 0, 1) := by decide +kernel
theorem dX7_product_2 : decode cX7_product 2 = .ok (.iload_n 1, 1) := by decide +kernel
theorem dX7_product_3 : decode cX7_product 3 = .ok (.iconst 2, 1) := by decide +kernel
theorem dX7_product_4 : decode cX7_product 4 = .ok (.invokevirtual 68, 3) := by decide +kernel
theorem dX7_product_7 : decode cX7_product 7 = .ok (.invokevirtual 57, 3) := by decide +kernel
theorem dX7_product_10 : decode cX7_product 10 = .ok (.ifCond .eq 5, 3) := by decide +kernel
theorem dX7_product_13 : decode cX7_product 13 = .ok (.lconst 0, 1) := by decide +kernel
theorem dX7_product_14 : decode cX7_product 14 = .ok (.lreturn, 1) := by decide +kernel
theorem dX7_product_15 : decode cX7_product 15 = .ok (.aload_n 0, 1) := by decide +kernel
theorem dX7_product_16 : decode cX7_product 16 = .ok (.iload_n 1, 1) := by decide +kernel
theorem dX7_product_17 : decode cX7_product 17 = .ok (.invokevirtual 112, 3) := by decide +kernel
theorem dX7_product_20 : decode cX7_product 20 = .ok (.aload_n 0, 1) := by decide +kernel
theorem dX7_product_21 : decode cX7_product 21 = .ok (.getfield 109, 3) := by decide +kernel
theorem dX7_product_24 : decode cX7_product 24 = .ok (.bipush 32, 2) := by decide +kernel
theorem dX7_product_26 : decode cX7_product 26 = .ok (.lshl, 1) := by decide +kernel
theorem dX7_product_27 : decode cX7_product 27 = .ok (.aload_n 0, 1) := by decide +kernel
theorem dX7_product_28 : decode cX7_product 28 = .ok (.getfield 105, 3) := by decide +kernel
theorem dX7_product_31 : decode cX7_product 31 = .ok (.ladd, 1) := by decide +kernel
theorem dX7_product_32 : decode cX7_product 32 = .ok (.lreturn, 1) := by decide +kernel
theorem dX7_bits_0 : decode cX7_bits 0 = .ok (.aload_n 0, 1) := by decide +kernel
theorem dX7_bits_1 : decode cX7_bits 1 = .ok (.aload_n 0, 1) := by decide +kernel
theorem dX7_bits_2 : decode cX7_bits 2 = .ok (.iload_n 1, 1) := by decide +kernel
theorem dX7_bits_3 : decode cX7_bits 3 = .ok (.iconst 2, 1) := by decide +kernel
theorem dX7_bits_4 : decode cX7_bits 4 = .ok (.invokevirtual 68, 3) := by decide +kernel
theorem dX7_bits_7 : decode cX7_bits 7 = .ok (.invokevirtual 57, 3) := by decide +kernel
theorem dX7_bits_10 : decode cX7_bits 10 = .ok (.ifCond .eq 5, 3) := by decide +kernel
theorem dX7_bits_13 : decode cX7_bits 13 = .ok (.iconst 0, 1) := by decide +kernel
theorem dX7_bits_14 : decode cX7_bits 14 = .ok (.ireturn, 1) := by decide +kernel
theorem dX7_bits_15 : decode cX7_bits 15 = .ok (.aload_n 0, 1) := by decide +kernel
theorem dX7_bits_16 : decode cX7_bits 16 = .ok (.iload_n 1, 1) := by decide +kernel
theorem dX7_bits_17 : decode cX7_bits 17 = .ok (.invokevirtual 112, 3) := by decide +kernel
theorem dX7_bits_20 : decode cX7_bits 20 = .ok (.aload_n 0, 1) := by decide +kernel
theorem dX7_bits_21 : decode cX7_bits 21 = .ok (.getfield 109, 3) := by decide +kernel
theorem dX7_bits_24 : decode cX7_bits 24 = .ok (.lconst 0, 1) := by decide +kernel
theorem dX7_bits_25 : decode cX7_bits 25 = .ok (.lcmp, 1) := by decide +kernel
theorem dX7_bits_26 : decode cX7_bits 26 = .ok (.ifCond .le 8, 3) := by decide +kernel
theorem dX7_bits_29 : decode cX7_bits 29 = .ok (.bipush 32, 2) := by decide +kernel
theorem dX7_bits_31 : decode cX7_bits 31 = .ok (.goto 4, 3) := by decide +kernel
theorem dX7_bits_34 : decode cX7_bits 34 = .ok (.iconst 0, 1) := by decide +kernel
theorem dX7_bits_35 : decode cX7_bits 35 = .ok (.istore_n 2, 1) := by decide +kernel
theorem dX7_bits_36 : decode cX7_bits 36 = .ok (.aload_n 0, 1) := by decide +kernel
theorem dX7_bits_37 : decode cX7_bits 37 = .ok (.getfield 109, 3) := by decide +kernel
theorem dX7_bits_40 : decode cX7_bits 40 = .ok (.lconst 0, 1) := by decide +kernel
theorem dX7_bits_41 : decode cX7_bits 41 = .ok (.lcmp, 1) := by decide +kernel
theorem dX7_bits_42 : decode cX7_bits 42 = .ok (.ifCond .le 10, 3) := by decide +kernel
theorem dX7_bits_45 : decode cX7_bits 45 = .ok (.aload_n 0, 1) := by decide +kernel
theorem dX7_bits_46 : decode cX7_bits 46 = .ok (.getfield 109, 3) := by decide +kernel
theorem dX7_bits_49 : decode cX7_bits 49 = .ok (.goto 7, 3) := by decide +kernel
theorem dX7_bits_52 : decode cX7_bits 52 = .ok (.aload_n 0, 1) := by decide +kernel
theorem dX7_bits_53 : decode cX7_bits 53 = .ok (.getfield 105, 3) := by decide +kernel
theorem dX7_bits_56 : decode cX7_bits 56 = .ok (.lstore_n 3, 1) := by decide +kernel
theorem dX7_bits_57 : decode cX7_bits 57 = .ok (.lload_n 3, 1) := by decide +kernel
theorem dX7_bits_58 : decode cX7_bits 58 = .ok (.lconst 0, 1) := by decide +kernel
theorem dX7_bits_59 : decode cX7_bits 59 = .ok (.lcmp, 1) := by decide +kernel
theorem dX7_bits_60 : decode cX7_bits 60 = .ok (.ifCond .le 13, 3) := by decide +kernel
theorem dX7_bits_63 : decode cX7_bits 63 = .ok (.iinc 2 1, 3) := by decide +kernel
theorem dX7_bits_66 : decode cX7_bits 66 = .ok (.lload_n 3, 1) := by decide +kernel
theorem dX7_bits_67 : decode cX7_bits 67 = .ok (.iconst 1, 1) := by decide +kernel
theorem dX7_bits_68 : decode cX7_bits 68 = .ok (.lshr, 1) := by decide +kernel
theorem dX7_bits_69 : decode cX7_bits 69 = .ok (.lstore_n 3, 1) := by decide +kernel
theorem dX7_bits_70 : decode cX7_bits 70 = .ok (.goto (-13), 3) := by decide +kernel
theorem dX7_bits_73 : decode cX7_bits 73 = .ok (.iload_n 2, 1) := by decide +kernel
theorem dX7_bits_74 : decode cX7_bits 74 = .ok (.ireturn, 1) := by decide +kernel
theorem dX7_rootOf_0 : decode cX7_rootOf 0 = .ok (.lload_n 0, 1) := by decide +kernel
theorem dX7_rootOf_1 : decode cX7_rootOf 1 = .ok (.lconst 0, 1) := by decide +kernel
theorem dX7_rootOf_2 : decode cX7_rootOf 2 = .ok (.lcmp, 1) := by decide +kernel
theorem dX7_rootOf_3 : decode cX7_rootOf 3 = .ok (.ifCond .ne 5, 3) := by decide +kernel
theorem dX7_rootOf_6 : decode cX7_rootOf 6 = .ok (.dconst 0, 1) := by decide +kernel
theorem dX7_rootOf_7 : decode cX7_rootOf 7 = .ok (.dreturn, 1) := by decide +kernel
theorem dX7_rootOf_8 : decode cX7_rootOf 8 = .ok (.lconst 0, 1) := by decide +kernel
theorem dX7_rootOf_9 : decode cX7_rootOf 9 = .ok (.lstore_n 2, 1) := by decide +kernel
theorem dX7_rootOf_10 : decode cX7_rootOf 10 = .ok (.lconst 0, 1) := by decide +kernel
theorem dX7_rootOf_11 : decode cX7_rootOf 11 = .ok (.lstore 4, 2) := by decide +kernel

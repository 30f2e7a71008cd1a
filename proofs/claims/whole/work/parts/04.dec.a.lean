theorem dX0_asLongest_0 : decode cX0_asLongest 0 = .ok (.iconst 0, 1) := by decide +kernel
theorem dX0_asLongest_1 : decode cX0_asLongest 1 = .ok (.istore_n 1, 1) := by decide +kernel
theorem dX0_asLongest_2 : decode cX0_asLongest 2 = .ok (.iconst 1, 1) := by decide +kernel
theorem dX0_asLongest_3 : decode cX0_asLongest 3 = .ok (.istore_n 2, 1) := by decide +kernel
theorem dX0_asLongest_4 : decode cX0_asLongest 4 = .ok (.iload_n 0, 1) := by decide +kernel
theorem dX0_asLongest_5 : decode cX0_asLongest 5 = .ok (.iconst 1, 1) := by decide +kernel
theorem dX0_asLongest_6 : decode cX0_asLongest 6 = .ok (.isub, 1) := by decide +kernel
theorem dX0_asLongest_7 : decode cX0_asLongest 7 = .ok (.istore_n 3, 1) := by decide +kernel
theorem dX0_asLongest_8 : decode cX0_asLongest 8 = .ok (.iconst 0, 1) := by decide +kernel
theorem dX0_asLongest_9 : decode cX0_asLongest 9 = .ok (.istore 4, 2) := by decide +kernel
theorem dX0_asLongest_11 : decode cX0_asLongest 11 = .ok (.iload 4, 2) := by decide +kernel
theorem dX0_asLongest_13 : decode cX0_asLongest 13 = .ok (.iload_n 0, 1) := by decide +kernel
theorem dX0_asLongest_14 : decode cX0_asLongest 14 = .ok (.if_icmp .ge 54, 3) := by decide +kernel
theorem dX0_asLongest_17 : decode cX0_asLongest 17 = .ok (.iload_n 2, 1) := by decide +kernel
theorem dX0_asLongest_18 : decode cX0_asLongest 18 = .ok (.iload_n 3, 1) := by decide +kernel
theorem dX0_asLongest_19 : decode cX0_asLongest 19 = .ok (.if_icmp .ge 49, 3) := by decide +kernel
theorem dX0_asLongest_22 : decode cX0_asLongest 22 = .ok (.iload_n 2, 1) := by decide +kernel
theorem dX0_asLongest_23 : decode cX0_asLongest 23 = .ok (.iload_n 2, 1) := by decide +kernel
theorem dX0_asLongest_24 : decode cX0_asLongest 24 = .ok (.imul, 1) := by decide +kernel
theorem dX0_asLongest_25 : decode cX0_asLongest 25 = .ok (.iload_n 3, 1) := by decide +kernel
theorem dX0_asLongest_26 : decode cX0_asLongest 26 = .ok (.iload_n 3, 1) := by decide +kernel
theorem dX0_asLongest_27 : decode cX0_asLongest 27 = .ok (.imul, 1) := by decide +kernel
theorem dX0_asLongest_28 : decode cX0_asLongest 28 = .ok (.iadd, 1) := by decide +kernel
theorem dX0_asLongest_29 : decode cX0_asLongest 29 = .ok (.iload_n 0, 1) := by decide +kernel
theorem dX0_asLongest_30 : decode cX0_asLongest 30 = .ok (.iload_n 0, 1) := by decide +kernel
theorem dX0_asLongest_31 : decode cX0_asLongest 31 = .ok (.imul, 1) := by decide +kernel
theorem dX0_asLongest_32 : decode cX0_asLongest 32 = .ok (.isub, 1) := by decide +kernel
theorem dX0_asLongest_33 : decode cX0_asLongest 33 = .ok (.istore 5, 2) := by decide +kernel
theorem dX0_asLongest_35 : decode cX0_asLongest 35 = .ok (.iload_n 1, 1) := by decide +kernel
theorem dX0_asLongest_36 : decode cX0_asLongest 36 = .ok (.iload 5, 2) := by decide +kernel
theorem dX0_asLongest_38 : decode cX0_asLongest 38 = .ok (.ifCond .ne 7, 3) := by decide +kernel
theorem dX0_asLongest_41 : decode cX0_asLongest 41 = .ok (.iconst 1, 1) := by decide +kernel
theorem dX0_asLongest_42 : decode cX0_asLongest 42 = .ok (.goto 4, 3) := by decide +kernel
theorem dX0_asLongest_45 : decode cX0_asLongest 45 = .ok (.iconst 0, 1) := by decide +kernel
theorem dX0_asLongest_46 : decode cX0_asLongest 46 = .ok (.iadd, 1) := by decide +kernel
theorem dX0_asLongest_47 : decode cX0_asLongest 47 = .ok (.istore_n 1, 1) := by decide +kernel
theorem dX0_asLongest_48 : decode cX0_asLongest 48 = .ok (.iload 5, 2) := by decide +kernel
theorem dX0_asLongest_50 : decode cX0_asLongest 50 = .ok (.ifCond .gt 9, 3) := by decide +kernel
theorem dX0_asLongest_53 : decode cX0_asLongest 53 = .ok (.iinc 2 1, 3) := by decide +kernel
theorem dX0_asLongest_56 : decode cX0_asLongest 56 = .ok (.goto 6, 3) := by decide +kernel
theorem dX0_asLongest_59 : decode cX0_asLongest 59 = .ok (.iinc 3 (-1), 3) := by decide +kernel
theorem dX0_asLongest_62 : decode cX0_asLongest 62 = .ok (.iinc 4 1, 3) := by decide +kernel
theorem dX0_asLongest_65 : decode cX0_asLongest 65 = .ok (.goto (-54), 3) := by decide +kernel
theorem dX0_asLongest_68 : decode cX0_asLongest 68 = .ok (.iload_n 1, 1) := by decide +kernel
theorem dX0_asLongest_69 : decode cX0_asLongest 69 = .ok (.ireturn, 1) := by decide +kernel
theorem dX0_asLeg_0 : decode cX0_asLeg 0 = .ok (.iconst 0, 1) := by decide +kernel
theorem dX0_asLeg_1 : decode cX0_asLeg 1 = .ok (.istore_n 1, 1) := by decide +kernel
theorem dX0_asLeg_2 : decode cX0_asLeg 2 = .ok (.iconst 1, 1) := by decide +kernel
theorem dX0_asLeg_3 : decode cX0_asLeg 3 = .ok (.istore_n 2, 1) := by decide +kernel
theorem dX0_asLeg_4 : decode cX0_asLeg 4 = .ok (.iload_n 2, 1) := by decide +kernel
theorem dX0_asLeg_5 : decode cX0_asLeg 5 = .ok (.iload_n 0, 1) := by decide +kernel
theorem dX0_asLeg_6 : decode cX0_asLeg 6 = .ok (.if_icmp .ge 35, 3) := by decide +kernel
theorem dX0_asLeg_9 : decode cX0_asLeg 9 = .ok (.iload_n 0, 1) := by decide +kernel
theorem dX0_asLeg_10 : decode cX0_asLeg 10 = .ok (.iload_n 0, 1) := by decide +kernel
theorem dX0_asLeg_11 : decode cX0_asLeg 11 = .ok (.imul, 1) := by decide +kernel
theorem dX0_asLeg_12 : decode cX0_asLeg 12 = .ok (.i2l, 1) := by decide +kernel
theorem dX0_asLeg_13 : decode cX0_asLeg 13 = .ok (.iload_n 2, 1) := by decide +kernel
theorem dX0_asLeg_14 : decode cX0_asLeg 14 = .ok (.i2l, 1) := by decide +kernel
theorem dX0_asLeg_15 : decode cX0_asLeg 15 = .ok (.invokestatic 7, 3) := by decide +kernel
theorem dX0_asLeg_18 : decode cX0_asLeg 18 = .ok (.l2i, 1) := by decide +kernel
theorem dX0_asLeg_19 : decode cX0_asLeg 19 = .ok (.istore_n 3, 1) := by decide +kernel
theorem dX0_asLeg_20 : decode cX0_asLeg 20 = .ok (.iload_n 3, 1) := by decide +kernel
theorem dX0_asLeg_21 : decode cX0_asLeg 21 = .ok (.ifCond .le 14, 3) := by decide +kernel
theorem dX0_asLeg_24 : decode cX0_asLeg 24 = .ok (.iload_n 3, 1) := by decide +kernel
theorem dX0_asLeg_25 : decode cX0_asLeg 25 = .ok (.iload_n 2, 1) := by decide +kernel
theorem dX0_asLeg_26 : decode cX0_asLeg 26 = .ok (.isub, 1) := by decide +kernel
theorem dX0_asLeg_27 : decode cX0_asLeg 27 = .ok (.iconst 2, 1) := by decide +kernel
theorem dX0_asLeg_28 : decode cX0_asLeg 28 = .ok (.irem, 1) := by decide +kernel
theorem dX0_asLeg_29 : decode cX0_asLeg 29 = .ok (.ifCond .ne 6, 3) := by decide +kernel
theorem dX0_asLeg_32 : decode cX0_asLeg 32 = .ok (.iinc 1 1, 3) := by decide +kernel
theorem dX0_asLeg_35 : decode cX0_asLeg 35 = .ok (.iinc 2 1, 3) := by decide +kernel
theorem dX0_asLeg_38 : decode cX0_asLeg 38 = .ok (.goto (-34), 3) := by decide +kernel
theorem dX0_asLeg_41 : decode cX0_asLeg 41 = .ok (.iload_n 1, 1) := by decide +kernel
theorem dX0_asLeg_42 : decode cX0_asLeg 42 = .ok (.ireturn, 1) := by decide +kernel
theorem dX0_productOverPrimes_0 : decode cX0_productOverPrimes 0 = .ok (.iconst 1, 1) := by decide +kernel
theorem dX0_productOverPrimes_1 : decode cX0_productOverPrimes 1 = .ok (.istore_n 2, 1) := by decide +kernel
theorem dX0_productOverPrimes_2 : decode cX0_productOverPrimes 2 = .ok (.iload_n 0, 1) := by decide +kernel
theorem dX0_productOverPrimes_3 : decode cX0_productOverPrimes 3 = .ok (.istore_n 3, 1) := by decide +kernel
theorem dX0_productOverPrimes_4 : decode cX0_productOverPrimes 4 = .ok (.iconst 2, 1) := by decide +kernel
theorem dX0_productOverPrimes_5 : decode cX0_productOverPrimes 5 = .ok (.istore 4, 2) := by decide +kernel
theorem dX0_productOverPrimes_7 : decode cX0_productOverPrimes 7 = .ok (.iload 4, 2) := by decide +kernel
theorem dX0_productOverPrimes_9 : decode cX0_productOverPrimes 9 = .ok (.iload_n 0, 1) := by decide +kernel
theorem dX0_productOverPrimes_10 : decode cX0_productOverPrimes 10 = .ok (.if_icmp .gt 63, 3) := by decide +kernel
theorem dX0_productOverPrimes_13 : decode cX0_productOverPrimes 13 = .ok (.iload_n 3, 1) := by decide +kernel
theorem dX0_productOverPrimes_14 : decode cX0_productOverPrimes 14 = .ok (.iconst 1, 1) := by decide +kernel
theorem dX0_productOverPrimes_15 : decode cX0_productOverPrimes 15 = .ok (.if_icmp .le 58, 3) := by decide +kernel
theorem dX0_productOverPrimes_18 : decode cX0_productOverPrimes 18 = .ok (.iconst 0, 1) := by decide +kernel
theorem dX0_productOverPrimes_19 : decode cX0_productOverPrimes 19 = .ok (.istore 5, 2) := by decide +kernel
theorem dX0_productOverPrimes_21 : decode cX0_productOverPrimes 21 = .ok (.iload 5, 2) := by decide +kernel
theorem dX0_productOverPrimes_23 : decode cX0_productOverPrimes 23 = .ok (.bipush 32, 2) := by decide +kernel
theorem dX0_productOverPrimes_25 : decode cX0_productOverPrimes 25 = .ok (.if_icmp .ge 21, 3) := by decide +kernel
theorem dX0_productOverPrimes_28 : decode cX0_productOverPrimes 28 = .ok (.iload_n 3, 1) := by decide +kernel
theorem dX0_productOverPrimes_29 : decode cX0_productOverPrimes 29 = .ok (.iload 4, 2) := by decide +kernel
theorem dX0_productOverPrimes_31 : decode cX0_productOverPrimes 31 = .ok (.irem, 1) := by decide +kernel
theorem dX0_productOverPrimes_32 : decode cX0_productOverPrimes 32 = .ok (.ifCond .ne 14, 3) := by decide +kernel
theorem dX0_productOverPrimes_35 : decode cX0_productOverPrimes 35 = .ok (.iload_n 3, 1) := by decide +kernel
theorem dX0_productOverPrimes_36 : decode cX0_productOverPrimes 36 = .ok (.iload 4, 2) := by decide +kernel
theorem dX0_productOverPrimes_38 : decode cX0_productOverPrimes 38 = .ok (.idiv, 1) := by decide +kernel
theorem dX0_productOverPrimes_39 : decode cX0_productOverPrimes 39 = .ok (.istore_n 3, 1) := by decide +kernel
theorem dX0_productOverPrimes_40 : decode cX0_productOverPrimes 40 = .ok (.iinc 5 1, 3) := by decide +kernel
theorem dX0_productOverPrimes_43 : decode cX0_productOverPrimes 43 = .ok (.goto (-22), 3) := by decide +kernel
theorem dX0_productOverPrimes_46 : decode cX0_productOverPrimes 46 = .ok (.iload_n 1, 1) := by decide +kernel
theorem dX0_productOverPrimes_47 : decode cX0_productOverPrimes 47 = .ok (.ifCond .eq 11, 3) := by decide +kernel
theorem dX0_productOverPrimes_50 : decode cX0_productOverPrimes 50 = .ok (.iload 4, 2) := by decide +kernel
theorem dX0_productOverPrimes_52 : decode cX0_productOverPrimes 52 = .ok (.iconst 4, 1) := by decide +kernel
theorem dX0_productOverPrimes_53 : decode cX0_productOverPrimes 53 = .ok (.irem, 1) := by decide +kernel
theorem dX0_productOverPrimes_54 : decode cX0_productOverPrimes 54 = .ok (.iconst 1, 1) := by decide +kernel
theorem dX0_productOverPrimes_55 : decode cX0_productOverPrimes 55 = .ok (.if_icmp .ne 12, 3) := by decide +kernel
theorem dX0_productOverPrimes_58 : decode cX0_productOverPrimes 58 = .ok (.iload_n 2, 1) := by decide +kernel
theorem dX0_productOverPrimes_59 : decode cX0_productOverPrimes 59 = .ok (.iconst 2, 1) := by decide +kernel
theorem dX0_productOverPrimes_60 : decode cX0_productOverPrimes 60 = .ok (.iload 5, 2) := by decide +kernel
theorem dX0_productOverPrimes_62 : decode cX0_productOverPrimes 62 = .ok (.imul, 1) := by decide +kernel
theorem dX0_productOverPrimes_63 : decode cX0_productOverPrimes 63 = .ok (.iconst 1, 1) := by decide +kernel
theorem dX0_productOverPrimes_64 : decode cX0_productOverPrimes 64 = .ok (.iadd, 1) := by decide +kernel
theorem dX0_productOverPrimes_65 : decode cX0_productOverPrimes 65 = .ok (.imul, 1) := by decide +kernel
theorem dX0_productOverPrimes_66 : decode cX0_productOverPrimes 66 = .ok (.istore_n 2, 1) := by decide +kernel
theorem dX0_productOverPrimes_67 : decode cX0_productOverPrimes 67 = .ok (.iinc 4 1, 3) := by decide +kernel
theorem dX0_productOverPrimes_70 : decode cX0_productOverPrimes 70 = .ok (.goto (-63), 3) := by decide +kernel
theorem dX0_productOverPrimes_73 : decode cX0_productOverPrimes 73 = .ok (.iload_n 2, 1) := by decide +kernel
theorem dX0_productOverPrimes_74 : decode cX0_productOverPrimes 74 = .ok (.ireturn, 1) := by decide +kernel
theorem dX1_high_0 : decode cX1_high 0 = .ok (.lload_n 0, 1) := by decide +kernel
theorem dX1_high_1 : decode cX1_high 1 = .ok (.bipush 18, 2) := by decide +kernel
theorem dX1_high_3 : decode cX1_high 3 = .ok (.lshr, 1) := by decide +kernel
theorem dX1_high_4 : decode cX1_high 4 = .ok (.lload_n 2, 1) := by decide +kernel
theorem dX1_high_5 : decode cX1_high 5 = .ok (.lmul, 1) := by decide +kernel
theorem dX1_high_6 : decode cX1_high 6 = .ok (.lload_n 0, 1) := by decide +kernel
theorem dX1_high_7 : decode cX1_high 7 = .ok (.ldc2_w 9, 3) := by decide +kernel
theorem dX1_high_10 : decode cX1_high 10 = .ok (.land, 1) := by decide +kernel
theorem dX1_high_11 : decode cX1_high 11 = .ok (.lload_n 2, 1) := by decide +kernel
theorem dX1_high_12 : decode cX1_high 12 = .ok (.lmul, 1) := by decide +kernel
theorem dX1_high_13 : decode cX1_high 13 = .ok (.bipush 18, 2) := by decide +kernel
theorem dX1_high_15 : decode cX1_high 15 = .ok (.lshr, 1) := by decide +kernel
theorem dX1_high_16 : decode cX1_high 16 = .ok (.ladd, 1) := by decide +kernel
theorem dX1_high_17 : decode cX1_high 17 = .ok (.lreturn, 1) := by decide +kernel
theorem dX1_low_0 : decode cX1_low 0 = .ok (.lload_n 0, 1) := by decide +kernel
theorem dX1_low_1 : decode cX1_low 1 = .ok (.lload_n 2, 1) := by decide +kernel
theorem dX1_low_2 : decode cX1_low 2 = .ok (.lmul, 1) := by decide +kernel
theorem dX1_low_3 : decode cX1_low 3 = .ok (.ldc2_w 9, 3) := by decide +kernel
theorem dX1_low_6 : decode cX1_low 6 = .ok (.land, 1) := by decide +kernel
theorem dX1_low_7 : decode cX1_low 7 = .ok (.lreturn, 1) := by decide +kernel
theorem dX1_digits_0 : decode cX1_digits 0 = .ok (.iconst 0, 1) := by decide +kernel
theorem dX1_digits_1 : decode cX1_digits 1 = .ok (.istore_n 2, 1) := by decide +kernel
theorem dX1_digits_2 : decode cX1_digits 2 = .ok (.lload_n 0, 1) := by decide +kernel
theorem dX1_digits_3 : decode cX1_digits 3 = .ok (.lstore_n 3, 1) := by decide +kernel
theorem dX1_digits_4 : decode cX1_digits 4 = .ok (.lload_n 3, 1) := by decide +kernel
theorem dX1_digits_5 : decode cX1_digits 5 = .ok (.lconst 0, 1) := by decide +kernel
theorem dX1_digits_6 : decode cX1_digits 6 = .ok (.lcmp, 1) := by decide +kernel
theorem dX1_digits_7 : decode cX1_digits 7 = .ok (.ifCond .le 19, 3) := by decide +kernel
theorem dX1_digits_10 : decode cX1_digits 10 = .ok (.iload_n 2, 1) := by decide +kernel
theorem dX1_digits_11 : decode cX1_digits 11 = .ok (.bipush 64, 2) := by decide +kernel
theorem dX1_digits_13 : decode cX1_digits 13 = .ok (.if_icmp .ge 13, 3) := by decide +kernel
theorem dX1_digits_16 : decode cX1_digits 16 = .ok (.iinc 2 1, 3) := by decide +kernel
theorem dX1_digits_19 : decode cX1_digits 19 = .ok (.lload_n 3, 1) := by decide +kernel
theorem dX1_digits_20 : decode cX1_digits 20 = .ok (.iconst 1, 1) := by decide +kernel
theorem dX1_digits_21 : decode cX1_digits 21 = .ok (.lshr, 1) := by decide +kernel
theorem dX1_digits_22 : decode cX1_digits 22 = .ok (.lstore_n 3, 1) := by decide +kernel
theorem dX1_digits_23 : decode cX1_digits 23 = .ok (.goto (-19), 3) := by decide +kernel
theorem dX1_digits_26 : decode cX1_digits 26 = .ok (.iload_n 2, 1) := by decide +kernel
theorem dX1_digits_27 : decode cX1_digits 27 = .ok (.ireturn, 1) := by decide +kernel
theorem dX1_commonDivisor_0 : decode cX1_commonDivisor 0 = .ok (.lload_n 0, 1) := by decide +kernel
theorem dX1_commonDivisor_1 : decode cX1_commonDivisor 1 = .ok (.lstore 4, 2) := by decide +kernel
theorem dX1_commonDivisor_3 : decode cX1_commonDivisor 3 = .ok (.lload_n 2, 1) := by decide +kernel
theorem dX1_commonDivisor_4 : decode cX1_commonDivisor 4 = .ok (.lstore 6, 2) := by decide +kernel
theorem dX1_commonDivisor_6 : decode cX1_commonDivisor 6 = .ok (.iconst 0, 1) := by decide +kernel
theorem dX1_commonDivisor_7 : decode cX1_commonDivisor 7 = .ok (.istore 8, 2) := by decide +kernel
theorem dX1_commonDivisor_9 : decode cX1_commonDivisor 9 = .ok (.iload 8, 2) := by decide +kernel
theorem dX1_commonDivisor_11 : decode cX1_commonDivisor 11 = .ok (.bipush 100, 2) := by decide +kernel
theorem dX1_commonDivisor_13 : decode cX1_commonDivisor 13 = .ok (.if_icmp .ge 31, 3) := by decide +kernel
theorem dX1_commonDivisor_16 : decode cX1_commonDivisor 16 = .ok (.lload 6, 2) := by decide +kernel
theorem dX1_commonDivisor_18 : decode cX1_commonDivisor 18 = .ok (.lconst 0, 1) := by decide +kernel
theorem dX1_commonDivisor_19 : decode cX1_commonDivisor 19 = .ok (.lcmp, 1) := by decide +kernel
theorem dX1_commonDivisor_20 : decode cX1_commonDivisor 20 = .ok (.ifCond .eq 24, 3) := by decide +kernel
theorem dX1_commonDivisor_23 : decode cX1_commonDivisor 23 = .ok (.lload 4, 2) := by decide +kernel
theorem dX1_commonDivisor_25 : decode cX1_commonDivisor 25 = .ok (.lload 6, 2) := by decide +kernel
theorem dX1_commonDivisor_27 : decode cX1_commonDivisor 27 = .ok (.lrem, 1) := by decide +kernel
theorem dX1_commonDivisor_28 : decode cX1_commonDivisor 28 = .ok (.lstore 9, 2) := by decide +kernel
theorem dX1_commonDivisor_30 : decode cX1_commonDivisor 30 = .ok (.lload 6, 2) := by decide +kernel
theorem dX1_commonDivisor_32 : decode cX1_commonDivisor 32 = .ok (.lstore 4, 2) := by decide +kernel
theorem dX1_commonDivisor_34 : decode cX1_commonDivisor 34 = .ok (.lload 9, 2) := by decide +kernel
theorem dX1_commonDivisor_36 : decode cX1_commonDivisor 36 = .ok (.lstore 6, 2) := by decide +kernel
theorem dX1_commonDivisor_38 : decode cX1_commonDivisor 38 = .ok (.iinc 8 1, 3) := by decide +kernel
theorem dX1_commonDivisor_41 : decode cX1_commonDivisor 41 = .ok (.goto (-32), 3) := by decide +kernel
theorem dX1_commonDivisor_44 : decode cX1_commonDivisor 44 = .ok (.lload 4, 2) := by decide +kernel
theorem dX1_commonDivisor_46 : decode cX1_commonDivisor 46 = .ok (.lreturn, 1) := by decide +kernel
theorem dX1_wholeQuotient_0 : decode cX1_wholeQuotient 0 = .ok (.lload_n 2, 1) := by decide +kernel
theorem dX1_wholeQuotient_1 : decode cX1_wholeQuotient 1 = .ok (.lconst 0, 1) := by decide +kernel
theorem dX1_wholeQuotient_2 : decode cX1_wholeQuotient 2 = .ok (.lcmp, 1) := by decide +kernel
theorem dX1_wholeQuotient_3 : decode cX1_wholeQuotient 3 = .ok (.ifCond .le 17, 3) := by decide +kernel
theorem dX1_wholeQuotient_6 : decode cX1_wholeQuotient 6 = .ok (.lload_n 0, 1) := by decide +kernel
theorem dX1_wholeQuotient_7 : decode cX1_wholeQuotient 7 = .ok (.lload_n 2, 1) := by decide +kernel
theorem dX1_wholeQuotient_8 : decode cX1_wholeQuotient 8 = .ok (.lrem, 1) := by decide +kernel
theorem dX1_wholeQuotient_9 : decode cX1_wholeQuotient 9 = .ok (.lconst 0, 1) := by decide +kernel
theorem dX1_wholeQuotient_10 : decode cX1_wholeQuotient 10 = .ok (.lcmp, 1) := by decide +kernel
theorem dX1_wholeQuotient_11 : decode cX1_wholeQuotient 11 = .ok (.ifCond .ne 9, 3) := by decide +kernel
theorem dX1_wholeQuotient_14 : decode cX1_wholeQuotient 14 = .ok (.lload_n 0, 1) := by decide +kernel
theorem dX1_wholeQuotient_15 : decode cX1_wholeQuotient 15 = .ok (.lload_n 2, 1) := by decide +kernel
theorem dX1_wholeQuotient_16 : decode cX1_wholeQuotient 16 = .ok (.ldiv, 1) := by decide +kernel
theorem dX1_wholeQuotient_17 : decode cX1_wholeQuotient 17 = .ok (.goto 4, 3) := by decide +kernel
theorem dX1_wholeQuotient_20 : decode cX1_wholeQuotient 20 = .ok (.lconst 0, 1) := by decide +kernel
theorem dX1_wholeQuotient_21 : decode cX1_wholeQuotient 21 = .ok (.lreturn, 1) := by decide +kernel
theorem dX1_wholeRoot_0 : decode cX1_wholeRoot 0 = .ok (.lconst 0, 1) := by decide +kernel
theorem dX1_wholeRoot_1 : decode cX1_wholeRoot 1 = .ok (.lstore_n 2, 1) := by decide +kernel
theorem dX1_wholeRoot_2 : decode cX1_wholeRoot 2 = .ok (.ldc2_w 11, 3) := by decide +kernel
theorem dX1_wholeRoot_5 : decode cX1_wholeRoot 5 = .ok (.lstore 4, 2) := by decide +kernel
theorem dX1_wholeRoot_7 : decode cX1_wholeRoot 7 = .ok (.lload 4, 2) := by decide +kernel
theorem dX1_wholeRoot_9 : decode cX1_wholeRoot 9 = .ok (.lconst 0, 1) := by decide +kernel
theorem dX1_wholeRoot_10 : decode cX1_wholeRoot 10 = .ok (.lcmp, 1) := by decide +kernel
theorem dX1_wholeRoot_11 : decode cX1_wholeRoot 11 = .ok (.ifCond .le 31, 3) := by decide +kernel
theorem dX1_wholeRoot_14 : decode cX1_wholeRoot 14 = .ok (.lload_n 2, 1) := by decide +kernel
theorem dX1_wholeRoot_15 : decode cX1_wholeRoot 15 = .ok (.lload 4, 2) := by decide +kernel
theorem dX1_wholeRoot_17 : decode cX1_wholeRoot 17 = .ok (.ladd, 1) := by decide +kernel
theorem dX1_wholeRoot_18 : decode cX1_wholeRoot 18 = .ok (.lstore 6, 2) := by decide +kernel
theorem dX1_wholeRoot_20 : decode cX1_wholeRoot 20 = .ok (.lload 6, 2) := by decide +kernel
theorem dX1_wholeRoot_22 : decode cX1_wholeRoot 22 = .ok (.lload 6, 2) := by decide +kernel
theorem dX1_wholeRoot_24 : decode cX1_wholeRoot 24 = .ok (.lmul, 1) := by decide +kernel
theorem dX1_wholeRoot_25 : decode cX1_wholeRoot 25 = .ok (.lload_n 0, 1) := by decide +kernel
theorem dX1_wholeRoot_26 : decode cX1_wholeRoot 26 = .ok (.lcmp, 1) := by decide +kernel
theorem dX1_wholeRoot_27 : decode cX1_wholeRoot 27 = .ok (.ifCond .gt 6, 3) := by decide +kernel
theorem dX1_wholeRoot_30 : decode cX1_wholeRoot 30 = .ok (.lload 6, 2) := by decide +kernel
theorem dX1_wholeRoot_32 : decode cX1_wholeRoot 32 = .ok (.lstore_n 2, 1) := by decide +kernel
theorem dX1_wholeRoot_33 : decode cX1_wholeRoot 33 = .ok (.lload 4, 2) := by decide +kernel
theorem dX1_wholeRoot_35 : decode cX1_wholeRoot 35 = .ok (.iconst 1, 1) := by decide +kernel
theorem dX1_wholeRoot_36 : decode cX1_wholeRoot 36 = .ok (.lshr, 1) := by decide +kernel
theorem dX1_wholeRoot_37 : decode cX1_wholeRoot 37 = .ok (.lstore 4, 2) := by decide +kernel
theorem dX1_wholeRoot_39 : decode cX1_wholeRoot 39 = .ok (.goto (-32), 3) := by decide +kernel
theorem dX1_wholeRoot_42 : decode cX1_wholeRoot 42 = .ok (.lload_n 2, 1) := by decide +kernel
theorem dX1_wholeRoot_43 : decode cX1_wholeRoot 43 = .ok (.lreturn, 1) := by decide +kernel
theorem dX1_isSquare_0 : decode cX1_isSquare 0 = .ok (.lload_n 0, 1) := by decide +kernel
theorem dX1_isSquare_1 : decode cX1_isSquare 1 = .ok (.invokestatic 13, 3) := by decide +kernel
theorem dX1_isSquare_4 : decode cX1_isSquare 4 = .ok (.lstore_n 2, 1) := by decide +kernel
theorem dX1_isSquare_5 : decode cX1_isSquare 5 = .ok (.lload_n 2, 1) := by decide +kernel
theorem dX1_isSquare_6 : decode cX1_isSquare 6 = .ok (.lload_n 2, 1) := by decide +kernel
theorem dX1_isSquare_7 : decode cX1_isSquare 7 = .ok (.lmul, 1) := by decide +kernel
theorem dX1_isSquare_8 : decode cX1_isSquare 8 = .ok (.lload_n 0, 1) := by decide +kernel
theorem dX1_isSquare_9 : decode cX1_isSquare 9 = .ok (.lcmp, 1) := by decide +kernel
theorem dX1_isSquare_10 : decode cX1_isSquare 10 = .ok (.ifCond .ne 7, 3) := by decide +kernel
theorem dX1_isSquare_13 : decode cX1_isSquare 13 = .ok (.iconst 1, 1) := by decide +kernel
theorem dX1_isSquare_14 : decode cX1_isSquare 14 = .ok (.goto 4, 3) := by decide +kernel
theorem dX1_isSquare_17 : decode cX1_isSquare 17 = .ok (.iconst 0, 1) := by decide +kernel
theorem dX1_isSquare_18 : decode cX1_isSquare 18 = .ok (.ireturn, 1) := by decide +kernel
theorem dX1_nearestRoot_0 : decode cX1_nearestRoot 0 = .ok (.lconst 0, 1) := by decide +kernel
theorem dX1_nearestRoot_1 : decode cX1_nearestRoot 1 = .ok (.lstore_n 2, 1) := by decide +kernel
theorem dX1_nearestRoot_2 : decode cX1_nearestRoot 2 = .ok (.lconst 0, 1) := by decide +kernel
theorem dX1_nearestRoot_3 : decode cX1_nearestRoot 3 = .ok (.lstore 4, 2) := by decide +kernel
theorem dX1_nearestRoot_5 : decode cX1_nearestRoot 5 = .ok (.iconst 0, 1) := by decide +kernel
theorem dX1_nearestRoot_6 : decode cX1_nearestRoot 6 = .ok (.istore 6, 2) := by decide +kernel
theorem dX1_nearestRoot_8 : decode cX1_nearestRoot 8 = .ok (.bipush 16, 2) := by decide +kernel
theorem dX1_nearestRoot_10 : decode cX1_nearestRoot 10 = .ok (.istore 7, 2) := by decide +kernel
theorem dX1_nearestRoot_12 : decode cX1_nearestRoot 12 = .ok (.iload 7, 2) := by decide +kernel
theorem dX1_nearestRoot_14 : decode cX1_nearestRoot 14 = .ok (.bipush (-64), 2) := by decide +kernel
theorem dX1_nearestRoot_16 : decode cX1_nearestRoot 16 = .ok (.if_icmp .le 94, 3) := by decide +kernel
theorem dX1_nearestRoot_19 : decode cX1_nearestRoot 19 = .ok (.lload_n 2, 1) := by decide +kernel
theorem dX1_nearestRoot_20 : decode cX1_nearestRoot 20 = .ok (.bipush 53, 2) := by decide +kernel
theorem dX1_nearestRoot_22 : decode cX1_nearestRoot 22 = .ok (.lshr, 1) := by decide +kernel
theorem dX1_nearestRoot_23 : decode cX1_nearestRoot 23 = .ok (.lconst 0, 1) := by decide +kernel
theorem dX1_nearestRoot_24 : decode cX1_nearestRoot 24 = .ok (.lcmp, 1) := by decide +kernel
theorem dX1_nearestRoot_25 : decode cX1_nearestRoot 25 = .ok (.ifCond .ne 85, 3) := by decide +kernel
theorem dX1_nearestRoot_28 : decode cX1_nearestRoot 28 = .ok (.ldc2_w 17, 3) := by decide +kernel
theorem dX1_nearestRoot_31 : decode cX1_nearestRoot 31 = .ok (.lload 4, 2) := by decide +kernel
theorem dX1_nearestRoot_33 : decode cX1_nearestRoot 33 = .ok (.lmul, 1) := by decide +kernel
theorem dX1_nearestRoot_34 : decode cX1_nearestRoot 34 = .ok (.iload 7, 2) := by decide +kernel
theorem dX1_nearestRoot_36 : decode cX1_nearestRoot 36 = .ok (.ifCond .ge 7, 3) := by decide +kernel
theorem dX1_nearestRoot_39 : decode cX1_nearestRoot 39 = .ok (.lconst 0, 1) := by decide +kernel
theorem dX1_nearestRoot_40 : decode cX1_nearestRoot 40 = .ok (.goto 13, 3) := by decide +kernel
theorem dX1_nearestRoot_43 : decode cX1_nearestRoot 43 = .ok (.lload_n 0, 1) := by decide +kernel
theorem dX1_nearestRoot_44 : decode cX1_nearestRoot 44 = .ok (.iconst 2, 1) := by decide +kernel
theorem dX1_nearestRoot_45 : decode cX1_nearestRoot 45 = .ok (.iload 7, 2) := by decide +kernel
theorem dX1_nearestRoot_47 : decode cX1_nearestRoot 47 = .ok (.imul, 1) := by decide +kernel
theorem dX1_nearestRoot_48 : decode cX1_nearestRoot 48 = .ok (.lshr, 1) := by decide +kernel
theorem dX1_nearestRoot_49 : decode cX1_nearestRoot 49 = .ok (.ldc2_w 19, 3) := by decide +kernel
theorem dX1_nearestRoot_52 : decode cX1_nearestRoot 52 = .ok (.land, 1) := by decide +kernel
theorem dX1_nearestRoot_53 : decode cX1_nearestRoot 53 = .ok (.ladd, 1) := by decide +kernel
theorem dX1_nearestRoot_54 : decode cX1_nearestRoot 54 = .ok (.lstore 4, 2) := by decide +kernel
theorem dX1_nearestRoot_56 : decode cX1_nearestRoot 56 = .ok (.ldc2_w 21, 3) := by decide +kernel
theorem dX1_nearestRoot_59 : decode cX1_nearestRoot 59 = .ok (.lload_n 2, 1) := by decide +kernel
theorem dX1_nearestRoot_60 : decode cX1_nearestRoot 60 = .ok (.lmul, 1) := by decide +kernel
theorem dX1_nearestRoot_61 : decode cX1_nearestRoot 61 = .ok (.lstore_n 2, 1) := by decide +kernel
theorem dX1_nearestRoot_62 : decode cX1_nearestRoot 62 = .ok (.lload 4, 2) := by decide +kernel
theorem dX1_nearestRoot_64 : decode cX1_nearestRoot 64 = .ok (.ldc2_w 21, 3) := by decide +kernel
theorem dX1_nearestRoot_67 : decode cX1_nearestRoot 67 = .ok (.lload_n 2, 1) := by decide +kernel
theorem dX1_nearestRoot_68 : decode cX1_nearestRoot 68 = .ok (.lmul, 1) := by decide +kernel
theorem dX1_nearestRoot_69 : decode cX1_nearestRoot 69 = .ok (.lcmp, 1) := by decide +kernel
theorem dX1_nearestRoot_70 : decode cX1_nearestRoot 70 = .ok (.ifCond .le 19, 3) := by decide +kernel
theorem dX1_nearestRoot_73 : decode cX1_nearestRoot 73 = .ok (.lload 4, 2) := by decide +kernel
theorem dX1_nearestRoot_75 : decode cX1_nearestRoot 75 = .ok (.ldc2_w 21, 3) := by decide +kernel
theorem dX1_nearestRoot_78 : decode cX1_nearestRoot 78 = .ok (.lload_n 2, 1) := by decide +kernel
theorem dX1_nearestRoot_79 : decode cX1_nearestRoot 79 = .ok (.lmul, 1) := by decide +kernel
theorem dX1_nearestRoot_80 : decode cX1_nearestRoot 80 = .ok (.lconst 1, 1) := by decide +kernel
theorem dX1_nearestRoot_81 : decode cX1_nearestRoot 81 = .ok (.ladd, 1) := by decide +kernel
theorem dX1_nearestRoot_82 : decode cX1_nearestRoot 82 = .ok (.lsub, 1) := by decide +kernel
theorem dX1_nearestRoot_83 : decode cX1_nearestRoot 83 = .ok (.lstore 4, 2) := by decide +kernel
theorem dX1_nearestRoot_85 : decode cX1_nearestRoot 85 = .ok (.lload_n 2, 1) := by decide +kernel
theorem dX1_nearestRoot_86 : decode cX1_nearestRoot 86 = .ok (.lconst 1, 1) := by decide +kernel
theorem dX1_nearestRoot_87 : decode cX1_nearestRoot 87 = .ok (.ladd, 1) := by decide +kernel
theorem dX1_nearestRoot_88 : decode cX1_nearestRoot 88 = .ok (.lstore_n 2, 1) := by decide +kernel
theorem dX1_nearestRoot_89 : decode cX1_nearestRoot 89 = .ok (.iload 6, 2) := by decide +kernel
theorem dX1_nearestRoot_91 : decode cX1_nearestRoot 91 = .ok (.iload 7, 2) := by decide +kernel
theorem dX1_nearestRoot_93 : decode cX1_nearestRoot 93 = .ok (.ifCond .ge 7, 3) := by decide +kernel
theorem dX1_nearestRoot_96 : decode cX1_nearestRoot 96 = .ok (.iconst 1, 1) := by decide +kernel
theorem dX1_nearestRoot_97 : decode cX1_nearestRoot 97 = .ok (.goto 4, 3) := by decide +kernel
theorem dX1_nearestRoot_100 : decode cX1_nearestRoot 100 = .ok (.iconst 0, 1) := by decide +kernel
theorem dX1_nearestRoot_101 : decode cX1_nearestRoot 101 = .ok (.iadd, 1) := by decide +kernel
theorem dX1_nearestRoot_102 : decode cX1_nearestRoot 102 = .ok (.istore 6, 2) := by decide +kernel
theorem dX1_nearestRoot_104 : decode cX1_nearestRoot 104 = .ok (.iinc 7 (-1), 3) := by decide +kernel
theorem dX1_nearestRoot_107 : decode cX1_nearestRoot 107 = .ok (.goto (-95), 3) := by decide +kernel
theorem dX1_nearestRoot_110 : decode cX1_nearestRoot 110 = .ok (.lload_n 2, 1) := by decide +kernel
theorem dX1_nearestRoot_111 : decode cX1_nearestRoot 111 = .ok (.lconst 0, 1) := by decide +kernel
theorem dX1_nearestRoot_112 : decode cX1_nearestRoot 112 = .ok (.lcmp, 1) := by decide +kernel
theorem dX1_nearestRoot_113 : decode cX1_nearestRoot 113 = .ok (.ifCond .ne 5, 3) := by decide +kernel
theorem dX1_nearestRoot_116 : decode cX1_nearestRoot 116 = .ok (.dconst 0, 1) := by decide +kernel
theorem dX1_nearestRoot_117 : decode cX1_nearestRoot 117 = .ok (.dreturn, 1) := by decide +kernel
theorem dX1_nearestRoot_118 : decode cX1_nearestRoot 118 = .ok (.lload_n 2, 1) := by decide +kernel
theorem dX1_nearestRoot_119 : decode cX1_nearestRoot 119 = .ok (.lconst 1, 1) := by decide +kernel
theorem dX1_nearestRoot_120 : decode cX1_nearestRoot 120 = .ok (.ladd, 1) := by decide +kernel
theorem dX1_nearestRoot_121 : decode cX1_nearestRoot 121 = .ok (.iconst 1, 1) := by decide +kernel
theorem dX1_nearestRoot_122 : decode cX1_nearestRoot 122 = .ok (.lshr, 1) := by decide +kernel
theorem dX1_nearestRoot_123 : decode cX1_nearestRoot 123 = .ok (.l2d, 1) := by decide +kernel
theorem dX1_nearestRoot_124 : decode cX1_nearestRoot 124 = .ok (.lconst 1, 1) := by decide +kernel
theorem dX1_nearestRoot_125 : decode cX1_nearestRoot 125 = .ok (.iload 6, 2) := by decide +kernel
theorem dX1_nearestRoot_127 : decode cX1_nearestRoot 127 = .ok (.iconst 1, 1) := by decide +kernel
theorem dX1_nearestRoot_128 : decode cX1_nearestRoot 128 = .ok (.isub, 1) := by decide +kernel
theorem dX1_nearestRoot_129 : decode cX1_nearestRoot 129 = .ok (.lshl, 1) := by decide +kernel
theorem dX1_nearestRoot_130 : decode cX1_nearestRoot 130 = .ok (.l2d, 1) := by decide +kernel
theorem dX1_nearestRoot_131 : decode cX1_nearestRoot 131 = .ok (.ddiv, 1) := by decide +kernel
theorem dX1_nearestRoot_132 : decode cX1_nearestRoot 132 = .ok (.dreturn, 1) := by decide +kernel
theorem dX1_nearestHypot_0 : decode cX1_nearestHypot 0 = .ok (.iload_n 0, 1) := by decide +kernel
theorem dX1_nearestHypot_1 : decode cX1_nearestHypot 1 = .ok (.iload_n 1, 1) := by decide +kernel
theorem dX1_nearestHypot_2 : decode cX1_nearestHypot 2 = .ok (.invokestatic 23, 3) := by decide +kernel
theorem dX1_nearestHypot_5 : decode cX1_nearestHypot 5 = .ok (.i2d, 1) := by decide +kernel
theorem dX1_nearestHypot_6 : decode cX1_nearestHypot 6 = .ok (.dstore_n 2, 1) := by decide +kernel
theorem dX1_nearestHypot_7 : decode cX1_nearestHypot 7 = .ok (.iload_n 0, 1) := by decide +kernel
theorem dX1_nearestHypot_8 : decode cX1_nearestHypot 8 = .ok (.iload_n 1, 1) := by decide +kernel
theorem dX1_nearestHypot_9 : decode cX1_nearestHypot 9 = .ok (.invokestatic 29, 3) := by decide +kernel
theorem dX1_nearestHypot_12 : decode cX1_nearestHypot 12 = .ok (.i2d, 1) := by decide +kernel
theorem dX1_nearestHypot_13 : decode cX1_nearestHypot 13 = .ok (.dstore 4, 2) := by decide +kernel
theorem dX1_nearestHypot_15 : decode cX1_nearestHypot 15 = .ok (.dload_n 2, 1) := by decide +kernel
theorem dX1_nearestHypot_16 : decode cX1_nearestHypot 16 = .ok (.dload 4, 2) := by decide +kernel
theorem dX1_nearestHypot_18 : decode cX1_nearestHypot 18 = .ok (.dsub, 1) := by decide +kernel
theorem dX1_nearestHypot_19 : decode cX1_nearestHypot 19 = .ok (.dstore 6, 2) := by decide +kernel
theorem dX1_nearestHypot_21 : decode cX1_nearestHypot 21 = .ok (.dload 6, 2) := by decide +kernel
theorem dX1_nearestHypot_23 : decode cX1_nearestHypot 23 = .ok (.dload 4, 2) := by decide +kernel
theorem dX1_nearestHypot_25 : decode cX1_nearestHypot 25 = .ok (.dcmp .l, 1) := by decide +kernel
theorem dX1_nearestHypot_26 : decode cX1_nearestHypot 26 = .ok (.ifCond .le 15, 3) := by decide +kernel
theorem dX1_nearestHypot_29 : decode cX1_nearestHypot 29 = .ok (.dload_n 2, 1) := by decide +kernel
theorem dX1_nearestHypot_30 : decode cX1_nearestHypot 30 = .ok (.dload_n 2, 1) := by decide +kernel
theorem dX1_nearestHypot_31 : decode cX1_nearestHypot 31 = .ok (.dmul, 1) := by decide +kernel
theorem dX1_nearestHypot_32 : decode cX1_nearestHypot 32 = .ok (.dload 4, 2) := by decide +kernel
theorem dX1_nearestHypot_34 : decode cX1_nearestHypot 34 = .ok (.dload 4, 2) := by decide +kernel
theorem dX1_nearestHypot_36 : decode cX1_nearestHypot 36 = .ok (.dmul, 1) := by decide +kernel
theorem dX1_nearestHypot_37 : decode cX1_nearestHypot 37 = .ok (.dadd, 1) := by decide +kernel
theorem dX1_nearestHypot_38 : decode cX1_nearestHypot 38 = .ok (.goto 17, 3) := by decide +kernel
theorem dX1_nearestHypot_41 : decode cX1_nearestHypot 41 = .ok (.dload 6, 2) := by decide +kernel
theorem dX1_nearestHypot_43 : decode cX1_nearestHypot 43 = .ok (.dload 6, 2) := by decide +kernel
theorem dX1_nearestHypot_45 : decode cX1_nearestHypot 45 = .ok (.dmul, 1) := by decide +kernel
theorem dX1_nearestHypot_46 : decode cX1_nearestHypot 46 = .ok (.ldc2_w 32, 3) := by decide +kernel
theorem dX1_nearestHypot_49 : decode cX1_nearestHypot 49 = .ok (.dload_n 2, 1) := by decide +kernel
theorem dX1_nearestHypot_50 : decode cX1_nearestHypot 50 = .ok (.dmul, 1) := by decide +kernel
theorem dX1_nearestHypot_51 : decode cX1_nearestHypot 51 = .ok (.dload 4, 2) := by decide +kernel
theorem dX1_nearestHypot_53 : decode cX1_nearestHypot 53 = .ok (.dmul, 1) := by decide +kernel
theorem dX1_nearestHypot_54 : decode cX1_nearestHypot 54 = .ok (.dadd, 1) := by decide +kernel
theorem dX1_nearestHypot_55 : decode cX1_nearestHypot 55 = .ok (.dstore 8, 2) := by decide +kernel
theorem dX1_nearestHypot_57 : decode cX1_nearestHypot 57 = .ok (.dload 8, 2) := by decide +kernel
theorem dX1_nearestHypot_59 : decode cX1_nearestHypot 59 = .ok (.d2l, 1) := by decide +kernel
theorem dX1_nearestHypot_60 : decode cX1_nearestHypot 60 = .ok (.invokestatic 34, 3) := by decide +kernel
theorem dX1_nearestHypot_63 : decode cX1_nearestHypot 63 = .ok (.dreturn, 1) := by decide +kernel
theorem dX1_isWhole_0 : decode cX1_isWhole 0 = .ok (.dload_n 0, 1) := by decide +kernel
theorem dX1_isWhole_1 : decode cX1_isWhole 1 = .ok (.dload_n 0, 1) := by decide +kernel
theorem dX1_isWhole_2 : decode cX1_isWhole 2 = .ok (.d2l, 1) := by decide +kernel
theorem dX1_isWhole_3 : decode cX1_isWhole 3 = .ok (.l2d, 1) := by decide +kernel
theorem dX1_isWhole_4 : decode cX1_isWhole 4 = .ok (.dcmp .l, 1) := by decide +kernel
theorem dX1_isWhole_5 : decode cX1_isWhole 5 = .ok (.ifCond .ne 7, 3) := by decide +kernel
theorem dX1_isWhole_8 : decode cX1_isWhole 8 = .ok (.iconst 1, 1) := by decide +kernel
theorem dX1_isWhole_9 : decode cX1_isWhole 9 = .ok (.goto 4, 3) := by decide +kernel
theorem dX1_isWhole_12 : decode cX1_isWhole 12 = .ok (.iconst 0, 1) := by decide +kernel
theorem dX1_isWhole_13 : decode cX1_isWhole 13 = .ok (.ireturn, 1) := by decide +kernel
theorem dX2_init_0 : decode cX2_init 0 = .ok (.aload_n 0, 1) := by decide +kernel
theorem dX2_init_1 : decode cX2_init 1 = .ok (.invokespecial 5, 3) := by decide +kernel
theorem dX2_init_4 : decode cX2_init 4 = .ok (.aload_n 0, 1) := by decide +kernel
theorem dX2_init_5 : decode cX2_init 5 = .ok (.bipush 64, 2) := by decide +kernel
theorem dX2_init_7 : decode cX2_init 7 = .ok (.newarray .int, 2) := by decide +kernel
theorem dX2_init_9 : decode cX2_init 9 = .ok (.putfield 11, 3) := by decide +kernel
theorem dX2_init_12 : decode cX2_init 12 = .ok (.aload_n 0, 1) := by decide +kernel
theorem dX2_init_13 : decode cX2_init 13 = .ok (.iconst 0, 1) := by decide +kernel
theorem dX2_init_14 : decode cX2_init 14 = .ok (.putfield 15, 3) := by decide +kernel
theorem dX2_init_17 : decode cX2_init 17 = .ok (.return_, 1) := by decide +kernel
theorem dX2_fill_0 : decode cX2_fill 0 = .ok (.aload_n 0, 1) := by decide +kernel
theorem dX2_fill_1 : decode cX2_fill 1 = .ok (.iconst 0, 1) := by decide +kernel
theorem dX2_fill_2 : decode cX2_fill 2 = .ok (.putfield 15, 3) := by decide +kernel
theorem dX2_fill_5 : decode cX2_fill 5 = .ok (.iload_n 1, 1) := by decide +kernel
theorem dX2_fill_6 : decode cX2_fill 6 = .ok (.bipush 101, 2) := by decide +kernel
theorem dX2_fill_8 : decode cX2_fill 8 = .ok (.if_icmp .ne 11, 3) := by decide +kernel
theorem dX2_fill_11 : decode cX2_fill 11 = .ok (.aload_n 0, 1) := by decide +kernel
theorem dX2_fill_12 : decode cX2_fill 12 = .ok (.iload_n 2, 1) := by decide +kernel
theorem dX2_fill_13 : decode cX2_fill 13 = .ok (.invokevirtual 19, 3) := by decide +kernel
theorem dX2_fill_16 : decode cX2_fill 16 = .ok (.goto 22, 3) := by decide +kernel
theorem dX2_fill_19 : decode cX2_fill 19 = .ok (.iload_n 1, 1) := by decide +kernel
theorem dX2_fill_20 : decode cX2_fill 20 = .ok (.bipush 116, 2) := by decide +kernel
theorem dX2_fill_22 : decode cX2_fill 22 = .ok (.if_icmp .ne 11, 3) := by decide +kernel
theorem dX2_fill_25 : decode cX2_fill 25 = .ok (.aload_n 0, 1) := by decide +kernel
theorem dX2_fill_26 : decode cX2_fill 26 = .ok (.iload_n 2, 1) := by decide +kernel
theorem dX2_fill_27 : decode cX2_fill 27 = .ok (.invokevirtual 23, 3) := by decide +kernel
theorem dX2_fill_30 : decode cX2_fill 30 = .ok (.goto 8, 3) := by decide +kernel
theorem dX2_fill_33 : decode cX2_fill 33 = .ok (.aload_n 0, 1) := by decide +kernel
theorem dX2_fill_34 : decode cX2_fill 34 = .ok (.iload_n 2, 1) := by decide +kernel
theorem dX2_fill_35 : decode cX2_fill 35 = .ok (.invokevirtual 26, 3) := by decide +kernel
theorem dX2_fill_38 : decode cX2_fill 38 = .ok (.return_, 1) := by decide +kernel
theorem dX2_length_0 : decode cX2_length 0 = .ok (.iload_n 1, 1) := by decide +kernel
theorem dX2_length_1 : decode cX2_length 1 = .ok (.ifCond .lt 17, 3) := by decide +kernel
theorem dX2_length_4 : decode cX2_length 4 = .ok (.iload_n 1, 1) := by decide +kernel
theorem dX2_length_5 : decode cX2_length 5 = .ok (.aload_n 0, 1) := by decide +kernel
theorem dX2_length_6 : decode cX2_length 6 = .ok (.getfield 15, 3) := by decide +kernel
theorem dX2_length_9 : decode cX2_length 9 = .ok (.if_icmp .ge 9, 3) := by decide +kernel
theorem dX2_length_12 : decode cX2_length 12 = .ok (.iload_n 1, 1) := by decide +kernel
theorem dX2_length_13 : decode cX2_length 13 = .ok (.bipush 64, 2) := by decide +kernel
theorem dX2_length_15 : decode cX2_length 15 = .ok (.if_icmp .lt 5, 3) := by decide +kernel
theorem dX2_length_18 : decode cX2_length 18 = .ok (.iconst 0, 1) := by decide +kernel
theorem dX2_length_19 : decode cX2_length 19 = .ok (.ireturn, 1) := by decide +kernel
theorem dX2_length_20 : decode cX2_length 20 = .ok (.aload_n 0, 1) := by decide +kernel
theorem dX2_length_21 : decode cX2_length 21 = .ok (.getfield 11, 3) := by decide +kernel
theorem dX2_length_24 : decode cX2_length 24 = .ok (.iload_n 1, 1) := by decide +kernel
theorem dX2_length_25 : decode cX2_length 25 = .ok (.iaload, 1) := by decide +kernel
theorem dX2_length_26 : decode cX2_length 26 = .ok (.istore_n 3, 1) := by decide +kernel
theorem dX2_length_27 : decode cX2_length 27 = .ok (.iload_n 2, 1) := by decide +kernel
theorem dX2_length_28 : decode cX2_length 28 = .ok (.ifCond .ne 12, 3) := by decide +kernel
theorem dX2_length_31 : decode cX2_length 31 = .ok (.iload_n 3, 1) := by decide +kernel
theorem dX2_length_32 : decode cX2_length 32 = .ok (.bipush 9, 2) := by decide +kernel
theorem dX2_length_34 : decode cX2_length 34 = .ok (.ishr, 1) := by decide +kernel
theorem dX2_length_35 : decode cX2_length 35 = .ok (.sipush 511, 3) := by decide +kernel
theorem dX2_length_38 : decode cX2_length 38 = .ok (.iand, 1) := by decide +kernel
theorem dX2_length_39 : decode cX2_length 39 = .ok (.ireturn, 1) := by decide +kernel
theorem dX2_length_40 : decode cX2_length 40 = .ok (.iload_n 2, 1) := by decide +kernel
theorem dX2_length_41 : decode cX2_length 41 = .ok (.iconst 1, 1) := by decide +kernel
theorem dX2_length_42 : decode cX2_length 42 = .ok (.if_icmp .ne 11, 3) := by decide +kernel
theorem dX2_length_45 : decode cX2_length 45 = .ok (.iload_n 3, 1) := by decide +kernel
theorem dX2_length_46 : decode cX2_length 46 = .ok (.sipush 511, 3) := by decide +kernel
theorem dX2_length_49 : decode cX2_length 49 = .ok (.iand, 1) := by decide +kernel
theorem dX2_length_50 : decode cX2_length 50 = .ok (.goto 7, 3) := by decide +kernel
theorem dX2_length_53 : decode cX2_length 53 = .ok (.iload_n 3, 1) := by decide +kernel
theorem dX2_length_54 : decode cX2_length 54 = .ok (.bipush 18, 2) := by decide +kernel
theorem dX2_length_56 : decode cX2_length 56 = .ok (.ishr, 1) := by decide +kernel
theorem dX2_length_57 : decode cX2_length 57 = .ok (.ireturn, 1) := by decide +kernel
theorem dX2_areEachOnce_0 : decode cX2_areEachOnce 0 = .ok (.iconst 1, 1) := by decide +kernel
theorem dX2_areEachOnce_1 : decode cX2_areEachOnce 1 = .ok (.istore_n 1, 1) := by decide +kernel
theorem dX2_areEachOnce_2 : decode cX2_areEachOnce 2 = .ok (.iload_n 1, 1) := by decide +kernel
theorem dX2_areEachOnce_3 : decode cX2_areEachOnce 3 = .ok (.aload_n 0, 1) := by decide +kernel
theorem dX2_areEachOnce_4 : decode cX2_areEachOnce 4 = .ok (.getfield 15, 3) := by decide +kernel
theorem dX2_areEachOnce_7 : decode cX2_areEachOnce 7 = .ok (.if_icmp .ge 34, 3) := by decide +kernel
theorem dX2_areEachOnce_10 : decode cX2_areEachOnce 10 = .ok (.iload_n 1, 1) := by decide +kernel
theorem dX2_areEachOnce_11 : decode cX2_areEachOnce 11 = .ok (.bipush 64, 2) := by decide +kernel
theorem dX2_areEachOnce_13 : decode cX2_areEachOnce 13 = .ok (.if_icmp .ge 28, 3) := by decide +kernel
theorem dX2_areEachOnce_16 : decode cX2_areEachOnce 16 = .ok (.aload_n 0, 1) := by decide +kernel
theorem dX2_areEachOnce_17 : decode cX2_areEachOnce 17 = .ok (.getfield 11, 3) := by decide +kernel
theorem dX2_areEachOnce_20 : decode cX2_areEachOnce 20 = .ok (.iload_n 1, 1) := by decide +kernel
theorem dX2_areEachOnce_21 : decode cX2_areEachOnce 21 = .ok (.iconst 1, 1) := by decide +kernel
theorem dX2_areEachOnce_22 : decode cX2_areEachOnce 22 = .ok (.isub, 1) := by decide +kernel
theorem dX2_areEachOnce_23 : decode cX2_areEachOnce 23 = .ok (.iaload, 1) := by decide +kernel
theorem dX2_areEachOnce_24 : decode cX2_areEachOnce 24 = .ok (.aload_n 0, 1) := by decide +kernel
theorem dX2_areEachOnce_25 : decode cX2_areEachOnce 25 = .ok (.getfield 11, 3) := by decide +kernel
theorem dX2_areEachOnce_28 : decode cX2_areEachOnce 28 = .ok (.iload_n 1, 1) := by decide +kernel
theorem dX2_areEachOnce_29 : decode cX2_areEachOnce 29 = .ok (.iaload, 1) := by decide +kernel
theorem dX2_areEachOnce_30 : decode cX2_areEachOnce 30 = .ok (.if_icmp .lt 5, 3) := by decide +kernel
theorem dX2_areEachOnce_33 : decode cX2_areEachOnce 33 = .ok (.iconst 0, 1) := by decide +kernel
theorem dX2_areEachOnce_34 : decode cX2_areEachOnce 34 = .ok (.ireturn, 1) := by decide +kernel
theorem dX2_areEachOnce_35 : decode cX2_areEachOnce 35 = .ok (.iinc 1 1, 3) := by decide +kernel
theorem dX2_areEachOnce_38 : decode cX2_areEachOnce 38 = .ok (.goto (-36), 3) := by decide +kernel
theorem dX2_areEachOnce_41 : decode cX2_areEachOnce 41 = .ok (.iconst 1, 1) := by decide +kernel
theorem dX2_areEachOnce_42 : decode cX2_areEachOnce 42 = .ok (.ireturn, 1) := by decide +kernel
theorem dX2_areThoseOf_0 : decode cX2_areThoseOf 0 = .ok (.aload_n 0, 1) := by decide +kernel
theorem dX2_areThoseOf_1 : decode cX2_areThoseOf 1 = .ok (.getfield 15, 3) := by decide +kernel
theorem dX2_areThoseOf_4 : decode cX2_areThoseOf 4 = .ok (.aload_n 1, 1) := by decide +kernel
theorem dX2_areThoseOf_5 : decode cX2_areThoseOf 5 = .ok (.getfield 15, 3) := by decide +kernel
theorem dX2_areThoseOf_8 : decode cX2_areThoseOf 8 = .ok (.if_icmp .eq 5, 3) := by decide +kernel
theorem dX2_areThoseOf_11 : decode cX2_areThoseOf 11 = .ok (.iconst 0, 1) := by decide +kernel
theorem dX2_areThoseOf_12 : decode cX2_areThoseOf 12 = .ok (.ireturn, 1) := by decide +kernel
theorem dX2_areThoseOf_13 : decode cX2_areThoseOf 13 = .ok (.iconst 0, 1) := by decide +kernel
theorem dX2_areThoseOf_14 : decode cX2_areThoseOf 14 = .ok (.istore_n 2, 1) := by decide +kernel
theorem dX2_areThoseOf_15 : decode cX2_areThoseOf 15 = .ok (.iload_n 2, 1) := by decide +kernel
theorem dX2_areThoseOf_16 : decode cX2_areThoseOf 16 = .ok (.aload_n 0, 1) := by decide +kernel
theorem dX2_areThoseOf_17 : decode cX2_areThoseOf 17 = .ok (.getfield 15, 3) := by decide +kernel
theorem dX2_areThoseOf_20 : decode cX2_areThoseOf 20 = .ok (.if_icmp .ge 32, 3) := by decide +kernel
theorem dX2_areThoseOf_23 : decode cX2_areThoseOf 23 = .ok (.iload_n 2, 1) := by decide +kernel
theorem dX2_areThoseOf_24 : decode cX2_areThoseOf 24 = .ok (.bipush 64, 2) := by decide +kernel
theorem dX2_areThoseOf_26 : decode cX2_areThoseOf 26 = .ok (.if_icmp .ge 26, 3) := by decide +kernel
theorem dX2_areThoseOf_29 : decode cX2_areThoseOf 29 = .ok (.aload_n 0, 1) := by decide +kernel
theorem dX2_areThoseOf_30 : decode cX2_areThoseOf 30 = .ok (.getfield 11, 3) := by decide +kernel
theorem dX2_areThoseOf_33 : decode cX2_areThoseOf 33 = .ok (.iload_n 2, 1) := by decide +kernel
theorem dX2_areThoseOf_34 : decode cX2_areThoseOf 34 = .ok (.iaload, 1) := by decide +kernel
theorem dX2_areThoseOf_35 : decode cX2_areThoseOf 35 = .ok (.aload_n 1, 1) := by decide +kernel
theorem dX2_areThoseOf_36 : decode cX2_areThoseOf 36 = .ok (.getfield 11, 3) := by decide +kernel
theorem dX2_areThoseOf_39 : decode cX2_areThoseOf 39 = .ok (.iload_n 2, 1) := by decide +kernel
theorem dX2_areThoseOf_40 : decode cX2_areThoseOf 40 = .ok (.iaload, 1) := by decide +kernel
theorem dX2_areThoseOf_41 : decode cX2_areThoseOf 41 = .ok (.if_icmp .eq 5, 3) := by decide +kernel
theorem dX2_areThoseOf_44 : decode cX2_areThoseOf 44 = .ok (.iconst 0, 1) := by decide +kernel
theorem dX2_areThoseOf_45 : decode cX2_areThoseOf 45 = .ok (.ireturn, 1) := by decide +kernel
theorem dX2_areThoseOf_46 : decode cX2_areThoseOf 46 = .ok (.iinc 2 1, 3) := by decide +kernel
theorem dX2_areThoseOf_49 : decode cX2_areThoseOf 49 = .ok (.goto (-34), 3) := by decide +kernel
theorem dX2_areThoseOf_52 : decode cX2_areThoseOf 52 = .ok (.iconst 1, 1) := by decide +kernel
theorem dX2_areThoseOf_53 : decode cX2_areThoseOf 53 = .ok (.ireturn, 1) := by decide +kernel
theorem dX2_add_0 : decode cX2_add 0 = .ok (.iload_n 1, 1) := by decide +kernel
theorem dX2_add_1 : decode cX2_add 1 = .ok (.iload_n 2, 1) := by decide +kernel
theorem dX2_add_2 : decode cX2_add 2 = .ok (.invokestatic 29, 3) := by decide +kernel
theorem dX2_add_5 : decode cX2_add 5 = .ok (.bipush 9, 2) := by decide +kernel
theorem dX2_add_7 : decode cX2_add 7 = .ok (.ishl, 1) := by decide +kernel
theorem dX2_add_8 : decode cX2_add 8 = .ok (.iload_n 1, 1) := by decide +kernel
theorem dX2_add_9 : decode cX2_add 9 = .ok (.iload_n 2, 1) := by decide +kernel
theorem dX2_add_10 : decode cX2_add 10 = .ok (.invokestatic 35, 3) := by decide +kernel
theorem dX2_add_13 : decode cX2_add 13 = .ok (.ior, 1) := by decide +kernel
theorem dX2_add_14 : decode cX2_add 14 = .ok (.istore 4, 2) := by decide +kernel
theorem dX2_add_16 : decode cX2_add 16 = .ok (.iload_n 3, 1) := by decide +kernel
theorem dX2_add_17 : decode cX2_add 17 = .ok (.bipush 18, 2) := by decide +kernel
theorem dX2_add_19 : decode cX2_add 19 = .ok (.ishl, 1) := by decide +kernel
theorem dX2_add_20 : decode cX2_add 20 = .ok (.iload 4, 2) := by decide +kernel
theorem dX2_add_22 : decode cX2_add 22 = .ok (.ior, 1) := by decide +kernel
theorem dX2_add_23 : decode cX2_add 23 = .ok (.istore 5, 2) := by decide +kernel
theorem dX2_add_25 : decode cX2_add 25 = .ok (.aload_n 0, 1) := by decide +kernel
theorem dX2_add_26 : decode cX2_add 26 = .ok (.getfield 15, 3) := by decide +kernel
theorem dX2_add_29 : decode cX2_add 29 = .ok (.istore 6, 2) := by decide +kernel
theorem dX2_add_31 : decode cX2_add 31 = .ok (.iload 6, 2) := by decide +kernel
theorem dX2_add_33 : decode cX2_add 33 = .ok (.ifCond .le 46, 3) := by decide +kernel
theorem dX2_add_36 : decode cX2_add 36 = .ok (.iload 6, 2) := by decide +kernel
theorem dX2_add_38 : decode cX2_add 38 = .ok (.bipush 64, 2) := by decide +kernel
theorem dX2_add_40 : decode cX2_add 40 = .ok (.if_icmp .ge 39, 3) := by decide +kernel
theorem dX2_add_43 : decode cX2_add 43 = .ok (.aload_n 0, 1) := by decide +kernel
theorem dX2_add_44 : decode cX2_add 44 = .ok (.getfield 11, 3) := by decide +kernel
theorem dX2_add_47 : decode cX2_add 47 = .ok (.iload 6, 2) := by decide +kernel
theorem dX2_add_49 : decode cX2_add 49 = .ok (.iconst 1, 1) := by decide +kernel
theorem dX2_add_50 : decode cX2_add 50 = .ok (.isub, 1) := by decide +kernel
theorem dX2_add_51 : decode cX2_add 51 = .ok (.iaload, 1) := by decide +kernel
theorem dX2_add_52 : decode cX2_add 52 = .ok (.iload 5, 2) := by decide +kernel
theorem dX2_add_54 : decode cX2_add 54 = .ok (.if_icmp .le 25, 3) := by decide +kernel
theorem dX2_add_57 : decode cX2_add 57 = .ok (.aload_n 0, 1) := by decide +kernel
theorem dX2_add_58 : decode cX2_add 58 = .ok (.getfield 11, 3) := by decide +kernel
theorem dX2_add_61 : decode cX2_add 61 = .ok (.iload 6, 2) := by decide +kernel
theorem dX2_add_63 : decode cX2_add 63 = .ok (.aload_n 0, 1) := by decide +kernel
theorem dX2_add_64 : decode cX2_add 64 = .ok (.getfield 11, 3) := by decide +kernel
theorem dX2_add_67 : decode cX2_add 67 = .ok (.iload 6, 2) := by decide +kernel
theorem dX2_add_69 : decode cX2_add 69 = .ok (.iconst 1, 1) := by decide +kernel
theorem dX2_add_70 : decode cX2_add 70 = .ok (.isub, 1) := by decide +kernel
theorem dX2_add_71 : decode cX2_add 71 = .ok (.iaload, 1) := by decide +kernel
theorem dX2_add_72 : decode cX2_add 72 = .ok (.iastore, 1) := by decide +kernel
theorem dX2_add_73 : decode cX2_add 73 = .ok (.iinc 6 (-1), 3) := by decide +kernel
theorem dX2_add_76 : decode cX2_add 76 = .ok (.goto (-45), 3) := by decide +kernel
theorem dX2_add_79 : decode cX2_add 79 = .ok (.iload 6, 2) := by decide +kernel
theorem dX2_add_81 : decode cX2_add 81 = .ok (.ifCond .lt 29, 3) := by decide +kernel
theorem dX2_add_84 : decode cX2_add 84 = .ok (.iload 6, 2) := by decide +kernel
theorem dX2_add_86 : decode cX2_add 86 = .ok (.bipush 64, 2) := by decide +kernel
theorem dX2_add_88 : decode cX2_add 88 = .ok (.if_icmp .ge 22, 3) := by decide +kernel
theorem dX2_add_91 : decode cX2_add 91 = .ok (.aload_n 0, 1) := by decide +kernel
theorem dX2_add_92 : decode cX2_add 92 = .ok (.getfield 11, 3) := by decide +kernel
theorem dX2_add_95 : decode cX2_add 95 = .ok (.iload 6, 2) := by decide +kernel
theorem dX2_add_97 : decode cX2_add 97 = .ok (.iload 5, 2) := by decide +kernel
theorem dX2_add_99 : decode cX2_add 99 = .ok (.iastore, 1) := by decide +kernel
theorem dX2_add_100 : decode cX2_add 100 = .ok (.aload_n 0, 1) := by decide +kernel
theorem dX2_add_101 : decode cX2_add 101 = .ok (.dup, 1) := by decide +kernel
theorem dX2_add_102 : decode cX2_add 102 = .ok (.getfield 15, 3) := by decide +kernel
theorem dX2_add_105 : decode cX2_add 105 = .ok (.iconst 1, 1) := by decide +kernel
theorem dX2_add_106 : decode cX2_add 106 = .ok (.iadd, 1) := by decide +kernel
theorem dX2_add_107 : decode cX2_add 107 = .ok (.putfield 15, 3) := by decide +kernel
theorem dX2_add_110 : decode cX2_add 110 = .ok (.return_, 1) := by decide +kernel
theorem dX2_fillByNumbers_0 : decode cX2_fillByNumbers 0 = .ok (.iconst 2, 1) := by decide +kernel
theorem dX2_fillByNumbers_1 : decode cX2_fillByNumbers 1 = .ok (.istore_n 2, 1) := by decide +kernel
theorem dX2_fillByNumbers_2 : decode cX2_fillByNumbers 2 = .ok (.iload_n 2, 1) := by decide +kernel
theorem dX2_fillByNumbers_3 : decode cX2_fillByNumbers 3 = .ok (.iload_n 2, 1) := by decide +kernel
theorem dX2_fillByNumbers_4 : decode cX2_fillByNumbers 4 = .ok (.imul, 1) := by decide +kernel
theorem dX2_fillByNumbers_5 : decode cX2_fillByNumbers 5 = .ok (.iload_n 1, 1) := by decide +kernel
theorem dX2_fillByNumbers_6 : decode cX2_fillByNumbers 6 = .ok (.if_icmp .gt 84, 3) := by decide +kernel
theorem dX2_fillByNumbers_9 : decode cX2_fillByNumbers 9 = .ok (.iload_n 2, 1) := by decide +kernel
theorem dX2_fillByNumbers_10 : decode cX2_fillByNumbers 10 = .ok (.sipush 255, 3) := by decide +kernel
theorem dX2_fillByNumbers_13 : decode cX2_fillByNumbers 13 = .ok (.if_icmp .gt 77, 3) := by decide +kernel
theorem dX2_fillByNumbers_16 : decode cX2_fillByNumbers 16 = .ok (.iconst 1, 1) := by decide +kernel
theorem dX2_fillByNumbers_17 : decode cX2_fillByNumbers 17 = .ok (.istore_n 3, 1) := by decide +kernel
theorem dX2_fillByNumbers_18 : decode cX2_fillByNumbers 18 = .ok (.iload_n 3, 1) := by decide +kernel
theorem dX2_fillByNumbers_19 : decode cX2_fillByNumbers 19 = .ok (.iload_n 2, 1) := by decide +kernel
theorem dX2_fillByNumbers_20 : decode cX2_fillByNumbers 20 = .ok (.if_icmp .ge 64, 3) := by decide +kernel
theorem dX2_fillByNumbers_23 : decode cX2_fillByNumbers 23 = .ok (.iload_n 2, 1) := by decide +kernel
theorem dX2_fillByNumbers_24 : decode cX2_fillByNumbers 24 = .ok (.iload_n 2, 1) := by decide +kernel
theorem dX2_fillByNumbers_25 : decode cX2_fillByNumbers 25 = .ok (.imul, 1) := by decide +kernel
theorem dX2_fillByNumbers_26 : decode cX2_fillByNumbers 26 = .ok (.iload_n 3, 1) := by decide +kernel
theorem dX2_fillByNumbers_27 : decode cX2_fillByNumbers 27 = .ok (.iload_n 3, 1) := by decide +kernel
theorem dX2_fillByNumbers_28 : decode cX2_fillByNumbers 28 = .ok (.imul, 1) := by decide +kernel
theorem dX2_fillByNumbers_29 : decode cX2_fillByNumbers 29 = .ok (.iadd, 1) := by decide +kernel
theorem dX2_fillByNumbers_30 : decode cX2_fillByNumbers 30 = .ok (.iload_n 1, 1) := by decide +kernel
theorem dX2_fillByNumbers_31 : decode cX2_fillByNumbers 31 = .ok (.if_icmp .gt 53, 3) := by decide +kernel
theorem dX2_fillByNumbers_34 : decode cX2_fillByNumbers 34 = .ok (.iload_n 2, 1) := by decide +kernel
theorem dX2_fillByNumbers_35 : decode cX2_fillByNumbers 35 = .ok (.iload_n 3, 1) := by decide +kernel
theorem dX2_fillByNumbers_36 : decode cX2_fillByNumbers 36 = .ok (.iadd, 1) := by decide +kernel
theorem dX2_fillByNumbers_37 : decode cX2_fillByNumbers 37 = .ok (.iconst 2, 1) := by decide +kernel
theorem dX2_fillByNumbers_38 : decode cX2_fillByNumbers 38 = .ok (.irem, 1) := by decide +kernel
theorem dX2_fillByNumbers_39 : decode cX2_fillByNumbers 39 = .ok (.iconst 1, 1) := by decide +kernel
theorem dX2_fillByNumbers_40 : decode cX2_fillByNumbers 40 = .ok (.if_icmp .ne 38, 3) := by decide +kernel
theorem dX2_fillByNumbers_43 : decode cX2_fillByNumbers 43 = .ok (.iload_n 2, 1) := by decide +kernel
theorem dX2_fillByNumbers_44 : decode cX2_fillByNumbers 44 = .ok (.i2l, 1) := by decide +kernel
theorem dX2_fillByNumbers_45 : decode cX2_fillByNumbers 45 = .ok (.iload_n 3, 1) := by decide +kernel
theorem dX2_fillByNumbers_46 : decode cX2_fillByNumbers 46 = .ok (.i2l, 1) := by decide +kernel
theorem dX2_fillByNumbers_47 : decode cX2_fillByNumbers 47 = .ok (.invokestatic 38, 3) := by decide +kernel
theorem dX2_fillByNumbers_50 : decode cX2_fillByNumbers 50 = .ok (.lconst 1, 1) := by decide +kernel
theorem dX2_fillByNumbers_51 : decode cX2_fillByNumbers 51 = .ok (.lcmp, 1) := by decide +kernel
theorem dX2_fillByNumbers_52 : decode cX2_fillByNumbers 52 = .ok (.ifCond .ne 26, 3) := by decide +kernel
theorem dX2_fillByNumbers_55 : decode cX2_fillByNumbers 55 = .ok (.aload_n 0, 1) := by decide +kernel
theorem dX2_fillByNumbers_56 : decode cX2_fillByNumbers 56 = .ok (.iload_n 2, 1) := by decide +kernel
theorem dX2_fillByNumbers_57 : decode cX2_fillByNumbers 57 = .ok (.iload_n 2, 1) := by decide +kernel
theorem dX2_fillByNumbers_58 : decode cX2_fillByNumbers 58 = .ok (.imul, 1) := by decide +kernel
theorem dX2_fillByNumbers_59 : decode cX2_fillByNumbers 59 = .ok (.iload_n 3, 1) := by decide +kernel
theorem dX2_fillByNumbers_60 : decode cX2_fillByNumbers 60 = .ok (.iload_n 3, 1) := by decide +kernel
theorem dX2_fillByNumbers_61 : decode cX2_fillByNumbers 61 = .ok (.imul, 1) := by decide +kernel
theorem dX2_fillByNumbers_62 : decode cX2_fillByNumbers 62 = .ok (.isub, 1) := by decide +kernel
theorem dX2_fillByNumbers_63 : decode cX2_fillByNumbers 63 = .ok (.iconst 2, 1) := by decide +kernel
theorem dX2_fillByNumbers_64 : decode cX2_fillByNumbers 64 = .ok (.iload_n 2, 1) := by decide +kernel
theorem dX2_fillByNumbers_65 : decode cX2_fillByNumbers 65 = .ok (.imul, 1) := by decide +kernel
theorem dX2_fillByNumbers_66 : decode cX2_fillByNumbers 66 = .ok (.iload_n 3, 1) := by decide +kernel
theorem dX2_fillByNumbers_67 : decode cX2_fillByNumbers 67 = .ok (.imul, 1) := by decide +kernel
theorem dX2_fillByNumbers_68 : decode cX2_fillByNumbers 68 = .ok (.iload_n 2, 1) := by decide +kernel
theorem dX2_fillByNumbers_69 : decode cX2_fillByNumbers 69 = .ok (.iload_n 2, 1) := by decide +kernel
theorem dX2_fillByNumbers_70 : decode cX2_fillByNumbers 70 = .ok (.imul, 1) := by decide +kernel
theorem dX2_fillByNumbers_71 : decode cX2_fillByNumbers 71 = .ok (.iload_n 3, 1) := by decide +kernel
theorem dX2_fillByNumbers_72 : decode cX2_fillByNumbers 72 = .ok (.iload_n 3, 1) := by decide +kernel
theorem dX2_fillByNumbers_73 : decode cX2_fillByNumbers 73 = .ok (.imul, 1) := by decide +kernel
theorem dX2_fillByNumbers_74 : decode cX2_fillByNumbers 74 = .ok (.iadd, 1) := by decide +kernel
theorem dX2_fillByNumbers_75 : decode cX2_fillByNumbers 75 = .ok (.invokevirtual 44, 3) := by decide +kernel
theorem dX2_fillByNumbers_78 : decode cX2_fillByNumbers 78 = .ok (.iinc 3 1, 3) := by decide +kernel
theorem dX2_fillByNumbers_81 : decode cX2_fillByNumbers 81 = .ok (.goto (-63), 3) := by decide +kernel
theorem dX2_fillByNumbers_84 : decode cX2_fillByNumbers 84 = .ok (.iinc 2 1, 3) := by decide +kernel
theorem dX2_fillByNumbers_87 : decode cX2_fillByNumbers 87 = .ok (.goto (-85), 3) := by decide +kernel
theorem dX2_fillByNumbers_90 : decode cX2_fillByNumbers 90 = .ok (.return_, 1) := by decide +kernel
theorem dX2_fillBySteps_0 : decode cX2_fillBySteps 0 = .ok (.iload_n 1, 1) := by decide +kernel
theorem dX2_fillBySteps_1 : decode cX2_fillBySteps 1 = .ok (.iconst 5, 1) := by decide +kernel
theorem dX2_fillBySteps_2 : decode cX2_fillBySteps 2 = .ok (.if_icmp .ge 4, 3) := by decide +kernel
theorem dX2_fillBySteps_5 : decode cX2_fillBySteps 5 = .ok (.return_, 1) := by decide +kernel
theorem dX2_fillBySteps_6 : decode cX2_fillBySteps 6 = .ok (.aload_n 0, 1) := by decide +kernel
theorem dX2_fillBySteps_7 : decode cX2_fillBySteps 7 = .ok (.iconst 3, 1) := by decide +kernel
theorem dX2_fillBySteps_8 : decode cX2_fillBySteps 8 = .ok (.iconst 4, 1) := by decide +kernel
theorem dX2_fillBySteps_9 : decode cX2_fillBySteps 9 = .ok (.iconst 5, 1) := by decide +kernel
theorem dX2_fillBySteps_10 : decode cX2_fillBySteps 10 = .ok (.invokevirtual 44, 3) := by decide +kernel
theorem dX2_fillBySteps_13 : decode cX2_fillBySteps 13 = .ok (.iconst 0, 1) := by decide +kernel
theorem dX2_fillBySteps_14 : decode cX2_fillBySteps 14 = .ok (.istore_n 2, 1) := by decide +kernel
theorem dX2_fillBySteps_15 : decode cX2_fillBySteps 15 = .ok (.iload_n 2, 1) := by decide +kernel
theorem dX2_fillBySteps_16 : decode cX2_fillBySteps 16 = .ok (.aload_n 0, 1) := by decide +kernel
theorem dX2_fillBySteps_17 : decode cX2_fillBySteps 17 = .ok (.getfield 15, 3) := by decide +kernel
theorem dX2_fillBySteps_20 : decode cX2_fillBySteps 20 = .ok (.if_icmp .ge 21, 3) := by decide +kernel
theorem dX2_fillBySteps_23 : decode cX2_fillBySteps 23 = .ok (.iload_n 2, 1) := by decide +kernel
theorem dX2_fillBySteps_24 : decode cX2_fillBySteps 24 = .ok (.bipush 64, 2) := by decide +kernel
theorem dX2_fillBySteps_26 : decode cX2_fillBySteps 26 = .ok (.if_icmp .ge 15, 3) := by decide +kernel
theorem dX2_fillBySteps_29 : decode cX2_fillBySteps 29 = .ok (.aload_n 0, 1) := by decide +kernel
theorem dX2_fillBySteps_30 : decode cX2_fillBySteps 30 = .ok (.iload_n 2, 1) := by decide +kernel
theorem dX2_fillBySteps_31 : decode cX2_fillBySteps 31 = .ok (.iload_n 1, 1) := by decide +kernel
theorem dX2_fillBySteps_32 : decode cX2_fillBySteps 32 = .ok (.invokevirtual 50, 3) := by decide +kernel
theorem dX2_fillBySteps_35 : decode cX2_fillBySteps 35 = .ok (.iinc 2 1, 3) := by decide +kernel
theorem dX2_fillBySteps_38 : decode cX2_fillBySteps 38 = .ok (.goto (-23), 3) := by decide +kernel
theorem dX2_fillBySteps_41 : decode cX2_fillBySteps 41 = .ok (.return_, 1) := by decide +kernel
theorem dX2_addStepsOf_0 : decode cX2_addStepsOf 0 = .ok (.aload_n 0, 1) := by decide +kernel
theorem dX2_addStepsOf_1 : decode cX2_addStepsOf 1 = .ok (.iload_n 1, 1) := by decide +kernel
theorem dX2_addStepsOf_2 : decode cX2_addStepsOf 2 = .ok (.iconst 0, 1) := by decide +kernel
theorem dX2_addStepsOf_3 : decode cX2_addStepsOf 3 = .ok (.invokevirtual 54, 3) := by decide +kernel
theorem dX2_addStepsOf_6 : decode cX2_addStepsOf 6 = .ok (.istore_n 3, 1) := by decide +kernel
theorem dX2_addStepsOf_7 : decode cX2_addStepsOf 7 = .ok (.aload_n 0, 1) := by decide +kernel
theorem dX2_addStepsOf_8 : decode cX2_addStepsOf 8 = .ok (.iload_n 1, 1) := by decide +kernel
theorem dX2_addStepsOf_9 : decode cX2_addStepsOf 9 = .ok (.iconst 1, 1) := by decide +kernel
theorem dX2_addStepsOf_10 : decode cX2_addStepsOf 10 = .ok (.invokevirtual 54, 3) := by decide +kernel
theorem dX2_addStepsOf_13 : decode cX2_addStepsOf 13 = .ok (.istore 4, 2) := by decide +kernel
theorem dX2_addStepsOf_15 : decode cX2_addStepsOf 15 = .ok (.aload_n 0, 1) := by decide +kernel
theorem dX2_addStepsOf_16 : decode cX2_addStepsOf 16 = .ok (.iload_n 1, 1) := by decide +kernel
theorem dX2_addStepsOf_17 : decode cX2_addStepsOf 17 = .ok (.iconst 2, 1) := by decide +kernel
theorem dX2_addStepsOf_18 : decode cX2_addStepsOf 18 = .ok (.invokevirtual 54, 3) := by decide +kernel
theorem dX2_addStepsOf_21 : decode cX2_addStepsOf 21 = .ok (.istore 5, 2) := by decide +kernel
theorem dX2_addStepsOf_23 : decode cX2_addStepsOf 23 = .ok (.iload_n 3, 1) := by decide +kernel
theorem dX2_addStepsOf_24 : decode cX2_addStepsOf 24 = .ok (.iconst 1, 1) := by decide +kernel
theorem dX2_addStepsOf_25 : decode cX2_addStepsOf 25 = .ok (.iand, 1) := by decide +kernel
theorem dX2_addStepsOf_26 : decode cX2_addStepsOf 26 = .ok (.iconst 1, 1) := by decide +kernel
theorem dX2_addStepsOf_27 : decode cX2_addStepsOf 27 = .ok (.if_icmp .ne 7, 3) := by decide +kernel
theorem dX2_addStepsOf_30 : decode cX2_addStepsOf 30 = .ok (.iload_n 3, 1) := by decide +kernel
theorem dX2_addStepsOf_31 : decode cX2_addStepsOf 31 = .ok (.goto 5, 3) := by decide +kernel
theorem dX2_addStepsOf_34 : decode cX2_addStepsOf 34 = .ok (.iload 4, 2) := by decide +kernel
theorem dX2_addStepsOf_36 : decode cX2_addStepsOf 36 = .ok (.istore 6, 2) := by decide +kernel
theorem dX2_addStepsOf_38 : decode cX2_addStepsOf 38 = .ok (.iload_n 3, 1) := by decide +kernel
theorem dX2_addStepsOf_39 : decode cX2_addStepsOf 39 = .ok (.iconst 1, 1) := by decide +kernel
theorem dX2_addStepsOf_40 : decode cX2_addStepsOf 40 = .ok (.iand, 1) := by decide +kernel
theorem dX2_addStepsOf_41 : decode cX2_addStepsOf 41 = .ok (.iconst 1, 1) := by decide +kernel
theorem dX2_addStepsOf_42 : decode cX2_addStepsOf 42 = .ok (.if_icmp .ne 8, 3) := by decide +kernel
theorem dX2_addStepsOf_45 : decode cX2_addStepsOf 45 = .ok (.iload 4, 2) := by decide +kernel
theorem dX2_addStepsOf_47 : decode cX2_addStepsOf 47 = .ok (.goto 4, 3) := by decide +kernel
theorem dX2_addStepsOf_50 : decode cX2_addStepsOf 50 = .ok (.iload_n 3, 1) := by decide +kernel
theorem dX2_addStepsOf_51 : decode cX2_addStepsOf 51 = .ok (.istore 7, 2) := by decide +kernel
theorem dX2_addStepsOf_53 : decode cX2_addStepsOf 53 = .ok (.aload_n 0, 1) := by decide +kernel
theorem dX2_addStepsOf_54 : decode cX2_addStepsOf 54 = .ok (.bipush 97, 2) := by decide +kernel
theorem dX2_addStepsOf_56 : decode cX2_addStepsOf 56 = .ok (.iload 6, 2) := by decide +kernel
theorem dX2_addStepsOf_58 : decode cX2_addStepsOf 58 = .ok (.iload 7, 2) := by decide +kernel
theorem dX2_addStepsOf_60 : decode cX2_addStepsOf 60 = .ok (.iload 5, 2) := by decide +kernel
theorem dX2_addStepsOf_62 : decode cX2_addStepsOf 62 = .ok (.iload_n 2, 1) := by decide +kernel
theorem dX2_addStepsOf_63 : decode cX2_addStepsOf 63 = .ok (.invokevirtual 57, 3) := by decide +kernel
theorem dX2_addStepsOf_66 : decode cX2_addStepsOf 66 = .ok (.aload_n 0, 1) := by decide +kernel
theorem dX2_addStepsOf_67 : decode cX2_addStepsOf 67 = .ok (.bipush 98, 2) := by decide +kernel
theorem dX2_addStepsOf_69 : decode cX2_addStepsOf 69 = .ok (.iload 6, 2) := by decide +kernel
theorem dX2_addStepsOf_71 : decode cX2_addStepsOf 71 = .ok (.iload 7, 2) := by decide +kernel
theorem dX2_addStepsOf_73 : decode cX2_addStepsOf 73 = .ok (.iload 5, 2) := by decide +kernel
theorem dX2_addStepsOf_75 : decode cX2_addStepsOf 75 = .ok (.iload_n 2, 1) := by decide +kernel
theorem dX2_addStepsOf_76 : decode cX2_addStepsOf 76 = .ok (.invokevirtual 57, 3) := by decide +kernel
theorem dX2_addStepsOf_79 : decode cX2_addStepsOf 79 = .ok (.aload_n 0, 1) := by decide +kernel
theorem dX2_addStepsOf_80 : decode cX2_addStepsOf 80 = .ok (.bipush 99, 2) := by decide +kernel
theorem dX2_addStepsOf_82 : decode cX2_addStepsOf 82 = .ok (.iload 6, 2) := by decide +kernel
theorem dX2_addStepsOf_84 : decode cX2_addStepsOf 84 = .ok (.iload 7, 2) := by decide +kernel
theorem dX2_addStepsOf_86 : decode cX2_addStepsOf 86 = .ok (.iload 5, 2) := by decide +kernel
theorem dX2_addStepsOf_88 : decode cX2_addStepsOf 88 = .ok (.iload_n 2, 1) := by decide +kernel
theorem dX2_addStepsOf_89 : decode cX2_addStepsOf 89 = .ok (.invokevirtual 57, 3) := by decide +kernel
theorem dX2_addStepsOf_92 : decode cX2_addStepsOf 92 = .ok (.return_, 1) := by decide +kernel
theorem dX2_addStep_0 : decode cX2_addStep 0 = .ok (.iload_n 1, 1) := by decide +kernel
theorem dX2_addStep_1 : decode cX2_addStep 1 = .ok (.iload_n 2, 1) := by decide +kernel
theorem dX2_addStep_2 : decode cX2_addStep 2 = .ok (.iload_n 3, 1) := by decide +kernel
theorem dX2_addStep_3 : decode cX2_addStep 3 = .ok (.iload 4, 2) := by decide +kernel
theorem dX2_addStep_5 : decode cX2_addStep 5 = .ok (.invokestatic 61, 3) := by decide +kernel
theorem dX2_addStep_8 : decode cX2_addStep 8 = .ok (.istore 6, 2) := by decide +kernel
theorem dX2_addStep_10 : decode cX2_addStep 10 = .ok (.iload 6, 2) := by decide +kernel
theorem dX2_addStep_12 : decode cX2_addStep 12 = .ok (.iload 5, 2) := by decide +kernel
theorem dX2_addStep_14 : decode cX2_addStep 14 = .ok (.if_icmp .gt 25, 3) := by decide +kernel
theorem dX2_addStep_17 : decode cX2_addStep 17 = .ok (.aload_n 0, 1) := by decide +kernel
theorem dX2_addStep_18 : decode cX2_addStep 18 = .ok (.iload_n 1, 1) := by decide +kernel
theorem dX2_addStep_19 : decode cX2_addStep 19 = .ok (.iload_n 2, 1) := by decide +kernel
theorem dX2_addStep_20 : decode cX2_addStep 20 = .ok (.iload_n 3, 1) := by decide +kernel
theorem dX2_addStep_21 : decode cX2_addStep 21 = .ok (.iload 4, 2) := by decide +kernel
theorem dX2_addStep_23 : decode cX2_addStep 23 = .ok (.invokestatic 65, 3) := by decide +kernel
theorem dX2_addStep_26 : decode cX2_addStep 26 = .ok (.iload_n 1, 1) := by decide +kernel
theorem dX2_addStep_27 : decode cX2_addStep 27 = .ok (.iload_n 2, 1) := by decide +kernel
theorem dX2_addStep_28 : decode cX2_addStep 28 = .ok (.iload_n 3, 1) := by decide +kernel
theorem dX2_addStep_29 : decode cX2_addStep 29 = .ok (.iload 4, 2) := by decide +kernel
theorem dX2_addStep_31 : decode cX2_addStep 31 = .ok (.invokestatic 68, 3) := by decide +kernel
theorem dX2_addStep_34 : decode cX2_addStep 34 = .ok (.iload 6, 2) := by decide +kernel
theorem dX2_addStep_36 : decode cX2_addStep 36 = .ok (.invokevirtual 44, 3) := by decide +kernel
theorem dX2_addStep_39 : decode cX2_addStep 39 = .ok (.return_, 1) := by decide +kernel
theorem dX2_fillByHypot_0 : decode cX2_fillByHypot 0 = .ok (.iconst 1, 1) := by decide +kernel
theorem dX2_fillByHypot_1 : decode cX2_fillByHypot 1 = .ok (.istore_n 2, 1) := by decide +kernel
theorem dX2_fillByHypot_2 : decode cX2_fillByHypot 2 = .ok (.iload_n 2, 1) := by decide +kernel
theorem dX2_fillByHypot_3 : decode cX2_fillByHypot 3 = .ok (.iload_n 1, 1) := by decide +kernel
theorem dX2_fillByHypot_4 : decode cX2_fillByHypot 4 = .ok (.if_icmp .ge 15, 3) := by decide +kernel
theorem dX2_fillByHypot_7 : decode cX2_fillByHypot 7 = .ok (.aload_n 0, 1) := by decide +kernel
theorem dX2_fillByHypot_8 : decode cX2_fillByHypot 8 = .ok (.iload_n 2, 1) := by decide +kernel
theorem dX2_fillByHypot_9 : decode cX2_fillByHypot 9 = .ok (.iload_n 1, 1) := by decide +kernel
theorem dX2_fillByHypot_10 : decode cX2_fillByHypot 10 = .ok (.invokevirtual 71, 3) := by decide +kernel
theorem dX2_fillByHypot_13 : decode cX2_fillByHypot 13 = .ok (.iinc 2 2, 3) := by decide +kernel
theorem dX2_fillByHypot_16 : decode cX2_fillByHypot 16 = .ok (.goto (-14), 3) := by decide +kernel
theorem dX2_fillByHypot_19 : decode cX2_fillByHypot 19 = .ok (.return_, 1) := by decide +kernel
theorem dX2_addByHypot_0 : decode cX2_addByHypot 0 = .ok (.iload_n 1, 1) := by decide +kernel
theorem dX2_addByHypot_1 : decode cX2_addByHypot 1 = .ok (.istore_n 3, 1) := by decide +kernel
theorem dX2_addByHypot_2 : decode cX2_addByHypot 2 = .ok (.iconst 2, 1) := by decide +kernel
theorem dX2_addByHypot_3 : decode cX2_addByHypot 3 = .ok (.istore 4, 2) := by decide +kernel
theorem dX2_addByHypot_5 : decode cX2_addByHypot 5 = .ok (.iload 4, 2) := by decide +kernel
theorem dX2_addByHypot_7 : decode cX2_addByHypot 7 = .ok (.iload_n 2, 1) := by decide +kernel
theorem dX2_addByHypot_8 : decode cX2_addByHypot 8 = .ok (.if_icmp .ge 86, 3) := by decide +kernel
theorem dX2_addByHypot_11 : decode cX2_addByHypot 11 = .ok (.iload_n 1, 1) := by decide +kernel
theorem dX2_addByHypot_12 : decode cX2_addByHypot 12 = .ok (.iload_n 1, 1) := by decide +kernel
theorem dX2_addByHypot_13 : decode cX2_addByHypot 13 = .ok (.imul, 1) := by decide +kernel
theorem dX2_addByHypot_14 : decode cX2_addByHypot 14 = .ok (.iload 4, 2) := by decide +kernel
theorem dX2_addByHypot_16 : decode cX2_addByHypot 16 = .ok (.iload 4, 2) := by decide +kernel
theorem dX2_addByHypot_18 : decode cX2_addByHypot 18 = .ok (.imul, 1) := by decide +kernel
theorem dX2_addByHypot_19 : decode cX2_addByHypot 19 = .ok (.iadd, 1) := by decide +kernel
theorem dX2_addByHypot_20 : decode cX2_addByHypot 20 = .ok (.istore 5, 2) := by decide +kernel
theorem dX2_addByHypot_22 : decode cX2_addByHypot 22 = .ok (.iload_n 3, 1) := by decide +kernel
theorem dX2_addByHypot_23 : decode cX2_addByHypot 23 = .ok (.iload_n 2, 1) := by decide +kernel
theorem dX2_addByHypot_24 : decode cX2_addByHypot 24 = .ok (.if_icmp .gt 17, 3) := by decide +kernel
theorem dX2_addByHypot_27 : decode cX2_addByHypot 27 = .ok (.iload_n 3, 1) := by decide +kernel
theorem dX2_addByHypot_28 : decode cX2_addByHypot 28 = .ok (.iload_n 3, 1) := by decide +kernel
theorem dX2_addByHypot_29 : decode cX2_addByHypot 29 = .ok (.imul, 1) := by decide +kernel
theorem dX2_addByHypot_30 : decode cX2_addByHypot 30 = .ok (.iload 5, 2) := by decide +kernel
theorem dX2_addByHypot_32 : decode cX2_addByHypot 32 = .ok (.if_icmp .ge 9, 3) := by decide +kernel
theorem dX2_addByHypot_35 : decode cX2_addByHypot 35 = .ok (.iinc 3 1, 3) := by decide +kernel
theorem dX2_addByHypot_38 : decode cX2_addByHypot 38 = .ok (.goto (-16), 3) := by decide +kernel
theorem dX2_addByHypot_41 : decode cX2_addByHypot 41 = .ok (.iload_n 3, 1) := by decide +kernel
theorem dX2_addByHypot_42 : decode cX2_addByHypot 42 = .ok (.iload_n 2, 1) := by decide +kernel
theorem dX2_addByHypot_43 : decode cX2_addByHypot 43 = .ok (.if_icmp .le 4, 3) := by decide +kernel
theorem dX2_addByHypot_46 : decode cX2_addByHypot 46 = .ok (.return_, 1) := by decide +kernel
theorem dX2_addByHypot_47 : decode cX2_addByHypot 47 = .ok (.iload_n 3, 1) := by decide +kernel
theorem dX2_addByHypot_48 : decode cX2_addByHypot 48 = .ok (.iload_n 3, 1) := by decide +kernel
theorem dX2_addByHypot_49 : decode cX2_addByHypot 49 = .ok (.imul, 1) := by decide +kernel
theorem dX2_addByHypot_50 : decode cX2_addByHypot 50 = .ok (.iload 5, 2) := by decide +kernel
theorem dX2_addByHypot_52 : decode cX2_addByHypot 52 = .ok (.if_icmp .ne 36, 3) := by decide +kernel
theorem dX2_addByHypot_55 : decode cX2_addByHypot 55 = .ok (.iload_n 1, 1) := by decide +kernel
theorem dX2_addByHypot_56 : decode cX2_addByHypot 56 = .ok (.iload 4, 2) := by decide +kernel
theorem dX2_addByHypot_58 : decode cX2_addByHypot 58 = .ok (.invokestatic 74, 3) := by decide +kernel
theorem dX2_addByHypot_61 : decode cX2_addByHypot 61 = .ok (.iload_n 3, 1) := by decide +kernel
theorem dX2_addByHypot_62 : decode cX2_addByHypot 62 = .ok (.i2d, 1) := by decide +kernel
theorem dX2_addByHypot_63 : decode cX2_addByHypot 63 = .ok (.dcmp .l, 1) := by decide +kernel
theorem dX2_addByHypot_64 : decode cX2_addByHypot 64 = .ok (.ifCond .ne 24, 3) := by decide +kernel
theorem dX2_addByHypot_67 : decode cX2_addByHypot 67 = .ok (.iload_n 1, 1) := by decide +kernel
theorem dX2_addByHypot_68 : decode cX2_addByHypot 68 = .ok (.i2l, 1) := by decide +kernel
theorem dX2_addByHypot_69 : decode cX2_addByHypot 69 = .ok (.iload 4, 2) := by decide +kernel
theorem dX2_addByHypot_71 : decode cX2_addByHypot 71 = .ok (.i2l, 1) := by decide +kernel
theorem dX2_addByHypot_72 : decode cX2_addByHypot 72 = .ok (.invokestatic 38, 3) := by decide +kernel
theorem dX2_addByHypot_75 : decode cX2_addByHypot 75 = .ok (.lconst 1, 1) := by decide +kernel
theorem dX2_addByHypot_76 : decode cX2_addByHypot 76 = .ok (.lcmp, 1) := by decide +kernel
theorem dX2_addByHypot_77 : decode cX2_addByHypot 77 = .ok (.ifCond .ne 11, 3) := by decide +kernel
theorem dX2_addByHypot_80 : decode cX2_addByHypot 80 = .ok (.aload_n 0, 1) := by decide +kernel
theorem dX2_addByHypot_81 : decode cX2_addByHypot 81 = .ok (.iload_n 1, 1) := by decide +kernel
theorem dX2_addByHypot_82 : decode cX2_addByHypot 82 = .ok (.iload 4, 2) := by decide +kernel
theorem dX2_addByHypot_84 : decode cX2_addByHypot 84 = .ok (.iload_n 3, 1) := by decide +kernel
theorem dX2_addByHypot_85 : decode cX2_addByHypot 85 = .ok (.invokevirtual 44, 3) := by decide +kernel
theorem dX2_addByHypot_88 : decode cX2_addByHypot 88 = .ok (.iinc 4 2, 3) := by decide +kernel
theorem dX2_addByHypot_91 : decode cX2_addByHypot 91 = .ok (.goto (-86), 3) := by decide +kernel
theorem dX2_addByHypot_94 : decode cX2_addByHypot 94 = .ok (.return_, 1) := by decide +kernel
theorem dX3_signedOdd_0 : decode cX3_signedOdd 0 = .ok (.iload_n 0, 1) := by decide +kernel
theorem dX3_signedOdd_1 : decode cX3_signedOdd 1 = .ok (.bipush 99, 2) := by decide +kernel
theorem dX3_signedOdd_3 : decode cX3_signedOdd 3 = .ok (.if_icmp .ne 8, 3) := by decide +kernel
theorem dX3_signedOdd_6 : decode cX3_signedOdd 6 = .ok (.iload_n 1, 1) := by decide +kernel
theorem dX3_signedOdd_7 : decode cX3_signedOdd 7 = .ok (.ineg, 1) := by decide +kernel
theorem dX3_signedOdd_8 : decode cX3_signedOdd 8 = .ok (.goto 4, 3) := by decide +kernel
theorem dX3_signedOdd_11 : decode cX3_signedOdd 11 = .ok (.iload_n 1, 1) := by decide +kernel
theorem dX3_signedOdd_12 : decode cX3_signedOdd 12 = .ok (.ireturn, 1) := by decide +kernel
theorem dX3_signedEven_0 : decode cX3_signedEven 0 = .ok (.iload_n 0, 1) := by decide +kernel
theorem dX3_signedEven_1 : decode cX3_signedEven 1 = .ok (.bipush 97, 2) := by decide +kernel
theorem dX3_signedEven_3 : decode cX3_signedEven 3 = .ok (.if_icmp .ne 8, 3) := by decide +kernel
theorem dX3_signedEven_6 : decode cX3_signedEven 6 = .ok (.iload_n 1, 1) := by decide +kernel
theorem dX3_signedEven_7 : decode cX3_signedEven 7 = .ok (.ineg, 1) := by decide +kernel
theorem dX3_signedEven_8 : decode cX3_signedEven 8 = .ok (.goto 4, 3) := by decide +kernel
theorem dX3_signedEven_11 : decode cX3_signedEven 11 = .ok (.iload_n 1, 1) := by decide +kernel
theorem dX3_signedEven_12 : decode cX3_signedEven 12 = .ok (.ireturn, 1) := by decide +kernel
theorem dX3_oddLeg_0 : decode cX3_oddLeg 0 = .ok (.iload_n 0, 1) := by decide +kernel
theorem dX3_oddLeg_1 : decode cX3_oddLeg 1 = .ok (.iload_n 1, 1) := by decide +kernel
theorem dX3_oddLeg_2 : decode cX3_oddLeg 2 = .ok (.invokestatic 7, 3) := by decide +kernel
theorem dX3_oddLeg_5 : decode cX3_oddLeg 5 = .ok (.iconst 2, 1) := by decide +kernel
theorem dX3_oddLeg_6 : decode cX3_oddLeg 6 = .ok (.iload_n 0, 1) := by decide +kernel
theorem dX3_oddLeg_7 : decode cX3_oddLeg 7 = .ok (.iload_n 2, 1) := by decide +kernel
theorem dX3_oddLeg_8 : decode cX3_oddLeg 8 = .ok (.invokestatic 13, 3) := by decide +kernel
theorem dX3_oddLeg_11 : decode cX3_oddLeg 11 = .ok (.imul, 1) := by decide +kernel
theorem dX3_oddLeg_12 : decode cX3_oddLeg 12 = .ok (.iadd, 1) := by decide +kernel
theorem dX3_oddLeg_13 : decode cX3_oddLeg 13 = .ok (.iconst 2, 1) := by decide +kernel
theorem dX3_oddLeg_14 : decode cX3_oddLeg 14 = .ok (.iload_n 3, 1) := by decide +kernel
theorem dX3_oddLeg_15 : decode cX3_oddLeg 15 = .ok (.imul, 1) := by decide +kernel
theorem dX3_oddLeg_16 : decode cX3_oddLeg 16 = .ok (.iadd, 1) := by decide +kernel
theorem dX3_oddLeg_17 : decode cX3_oddLeg 17 = .ok (.ireturn, 1) := by decide +kernel
theorem dX3_evenLeg_0 : decode cX3_evenLeg 0 = .ok (.iconst 2, 1) := by decide +kernel
theorem dX3_evenLeg_1 : decode cX3_evenLeg 1 = .ok (.iload_n 0, 1) := by decide +kernel
theorem dX3_evenLeg_2 : decode cX3_evenLeg 2 = .ok (.iload_n 1, 1) := by decide +kernel
theorem dX3_evenLeg_3 : decode cX3_evenLeg 3 = .ok (.invokestatic 7, 3) := by decide +kernel
theorem dX3_evenLeg_6 : decode cX3_evenLeg 6 = .ok (.imul, 1) := by decide +kernel
theorem dX3_evenLeg_7 : decode cX3_evenLeg 7 = .ok (.iload_n 0, 1) := by decide +kernel
theorem dX3_evenLeg_8 : decode cX3_evenLeg 8 = .ok (.iload_n 2, 1) := by decide +kernel
theorem dX3_evenLeg_9 : decode cX3_evenLeg 9 = .ok (.invokestatic 13, 3) := by decide +kernel
theorem dX3_evenLeg_12 : decode cX3_evenLeg 12 = .ok (.iadd, 1) := by decide +kernel
theorem dX3_evenLeg_13 : decode cX3_evenLeg 13 = .ok (.iconst 2, 1) := by decide +kernel
theorem dX3_evenLeg_14 : decode cX3_evenLeg 14 = .ok (.iload_n 3, 1) := by decide +kernel
theorem dX3_evenLeg_15 : decode cX3_evenLeg 15 = .ok (.imul, 1) := by decide +kernel
theorem dX3_evenLeg_16 : decode cX3_evenLeg 16 = .ok (.iadd, 1) := by decide +kernel
theorem dX3_evenLeg_17 : decode cX3_evenLeg 17 = .ok (.ireturn, 1) := by decide +kernel
theorem dX3_longest_0 : decode cX3_longest 0 = .ok (.iconst 2, 1) := by decide +kernel
theorem dX3_longest_1 : decode cX3_longest 1 = .ok (.iload_n 0, 1) := by decide +kernel
theorem dX3_longest_2 : decode cX3_longest 2 = .ok (.iload_n 1, 1) := by decide +kernel
theorem dX3_longest_3 : decode cX3_longest 3 = .ok (.invokestatic 7, 3) := by decide +kernel
theorem dX3_longest_6 : decode cX3_longest 6 = .ok (.imul, 1) := by decide +kernel
theorem dX3_longest_7 : decode cX3_longest 7 = .ok (.iconst 2, 1) := by decide +kernel
theorem dX3_longest_8 : decode cX3_longest 8 = .ok (.iload_n 0, 1) := by decide +kernel
theorem dX3_longest_9 : decode cX3_longest 9 = .ok (.iload_n 2, 1) := by decide +kernel
theorem dX3_longest_10 : decode cX3_longest 10 = .ok (.invokestatic 13, 3) := by decide +kernel
theorem dX3_longest_13 : decode cX3_longest 13 = .ok (.imul, 1) := by decide +kernel
theorem dX3_longest_14 : decode cX3_longest 14 = .ok (.iadd, 1) := by decide +kernel
theorem dX3_longest_15 : decode cX3_longest 15 = .ok (.iconst 3, 1) := by decide +kernel
theorem dX3_longest_16 : decode cX3_longest 16 = .ok (.iload_n 3, 1) := by decide +kernel
theorem dX3_longest_17 : decode cX3_longest 17 = .ok (.imul, 1) := by decide +kernel
theorem dX3_longest_18 : decode cX3_longest 18 = .ok (.iadd, 1) := by decide +kernel
theorem dX3_longest_19 : decode cX3_longest 19 = .ok (.ireturn, 1) := by decide +kernel
theorem dX3_backOdd_0 : decode cX3_backOdd 0 = .ok (.iload_n 0, 1) := by decide +kernel
theorem dX3_backOdd_1 : decode cX3_backOdd 1 = .ok (.iconst 2, 1) := by decide +kernel
theorem dX3_backOdd_2 : decode cX3_backOdd 2 = .ok (.iload_n 1, 1) := by decide +kernel
theorem dX3_backOdd_3 : decode cX3_backOdd 3 = .ok (.imul, 1) := by decide +kernel
theorem dX3_backOdd_4 : decode cX3_backOdd 4 = .ok (.iadd, 1) := by decide +kernel
theorem dX3_backOdd_5 : decode cX3_backOdd 5 = .ok (.iconst 2, 1) := by decide +kernel
theorem dX3_backOdd_6 : decode cX3_backOdd 6 = .ok (.iload_n 2, 1) := by decide +kernel
theorem dX3_backOdd_7 : decode cX3_backOdd 7 = .ok (.imul, 1) := by decide +kernel
theorem dX3_backOdd_8 : decode cX3_backOdd 8 = .ok (.isub, 1) := by decide +kernel
theorem dX3_backOdd_9 : decode cX3_backOdd 9 = .ok (.ireturn, 1) := by decide +kernel
theorem dX3_backEven_0 : decode cX3_backEven 0 = .ok (.iconst 2, 1) := by decide +kernel
theorem dX3_backEven_1 : decode cX3_backEven 1 = .ok (.iload_n 0, 1) := by decide +kernel
theorem dX3_backEven_2 : decode cX3_backEven 2 = .ok (.imul, 1) := by decide +kernel
theorem dX3_backEven_3 : decode cX3_backEven 3 = .ok (.iload_n 1, 1) := by decide +kernel
theorem dX3_backEven_4 : decode cX3_backEven 4 = .ok (.iadd, 1) := by decide +kernel
theorem dX3_backEven_5 : decode cX3_backEven 5 = .ok (.iconst 2, 1) := by decide +kernel
theorem dX3_backEven_6 : decode cX3_backEven 6 = .ok (.iload_n 2, 1) := by decide +kernel
theorem dX3_backEven_7 : decode cX3_backEven 7 = .ok (.imul, 1) := by decide +kernel
theorem dX3_backEven_8 : decode cX3_backEven 8 = .ok (.isub, 1) := by decide +kernel
theorem dX3_backEven_9 : decode cX3_backEven 9 = .ok (.ireturn, 1) := by decide +kernel
theorem dX3_backLongest_0 : decode cX3_backLongest 0 = .ok (.iconst 3, 1) := by decide +kernel
theorem dX3_backLongest_1 : decode cX3_backLongest 1 = .ok (.iload_n 2, 1) := by decide +kernel
theorem dX3_backLongest_2 : decode cX3_backLongest 2 = .ok (.imul, 1) := by decide +kernel
theorem dX3_backLongest_3 : decode cX3_backLongest 3 = .ok (.iconst 2, 1) := by decide +kernel
theorem dX3_backLongest_4 : decode cX3_backLongest 4 = .ok (.iload_n 0, 1) := by decide +kernel
theorem dX3_backLongest_5 : decode cX3_backLongest 5 = .ok (.imul, 1) := by decide +kernel
theorem dX3_backLongest_6 : decode cX3_backLongest 6 = .ok (.isub, 1) := by decide +kernel
theorem dX3_backLongest_7 : decode cX3_backLongest 7 = .ok (.iconst 2, 1) := by decide +kernel
theorem dX3_backLongest_8 : decode cX3_backLongest 8 = .ok (.iload_n 1, 1) := by decide +kernel
theorem dX3_backLongest_9 : decode cX3_backLongest 9 = .ok (.imul, 1) := by decide +kernel
theorem dX3_backLongest_10 : decode cX3_backLongest 10 = .ok (.isub, 1) := by decide +kernel
theorem dX3_backLongest_11 : decode cX3_backLongest 11 = .ok (.ireturn, 1) := by decide +kernel
theorem dX3_stepsFromFirst_0 : decode cX3_stepsFromFirst 0 = .ok (.iload_n 0, 1) := by decide +kernel
theorem dX3_stepsFromFirst_1 : decode cX3_stepsFromFirst 1 = .ok (.istore_n 3, 1) := by decide +kernel
theorem dX3_stepsFromFirst_2 : decode cX3_stepsFromFirst 2 = .ok (.iload_n 1, 1) := by decide +kernel
theorem dX3_stepsFromFirst_3 : decode cX3_stepsFromFirst 3 = .ok (.istore 4, 2) := by decide +kernel
theorem dX3_stepsFromFirst_5 : decode cX3_stepsFromFirst 5 = .ok (.iload_n 2, 1) := by decide +kernel
theorem dX3_stepsFromFirst_6 : decode cX3_stepsFromFirst 6 = .ok (.istore 5, 2) := by decide +kernel
theorem dX3_stepsFromFirst_8 : decode cX3_stepsFromFirst 8 = .ok (.iconst 0, 1) := by decide +kernel
theorem dX3_stepsFromFirst_9 : decode cX3_stepsFromFirst 9 = .ok (.istore 6, 2) := by decide +kernel
theorem dX3_stepsFromFirst_11 : decode cX3_stepsFromFirst 11 = .ok (.iload 6, 2) := by decide +kernel
theorem dX3_stepsFromFirst_13 : decode cX3_stepsFromFirst 13 = .ok (.sipush 1000, 3) := by decide +kernel
theorem dX3_stepsFromFirst_16 : decode cX3_stepsFromFirst 16 = .ok (.if_icmp .ge 80, 3) := by decide +kernel
theorem dX3_stepsFromFirst_19 : decode cX3_stepsFromFirst 19 = .ok (.iload 5, 2) := by decide +kernel
theorem dX3_stepsFromFirst_21 : decode cX3_stepsFromFirst 21 = .ok (.iconst 5, 1) := by decide +kernel
theorem dX3_stepsFromFirst_22 : decode cX3_stepsFromFirst 22 = .ok (.if_icmp .le 74, 3) := by decide +kernel
theorem dX3_stepsFromFirst_25 : decode cX3_stepsFromFirst 25 = .ok (.iload_n 3, 1) := by decide +kernel
theorem dX3_stepsFromFirst_26 : decode cX3_stepsFromFirst 26 = .ok (.iload 4, 2) := by decide +kernel
theorem dX3_stepsFromFirst_28 : decode cX3_stepsFromFirst 28 = .ok (.iload 5, 2) := by decide +kernel
theorem dX3_stepsFromFirst_30 : decode cX3_stepsFromFirst 30 = .ok (.invokestatic 16, 3) := by decide +kernel
theorem dX3_stepsFromFirst_33 : decode cX3_stepsFromFirst 33 = .ok (.istore 7, 2) := by decide +kernel
theorem dX3_stepsFromFirst_35 : decode cX3_stepsFromFirst 35 = .ok (.iload_n 3, 1) := by decide +kernel
theorem dX3_stepsFromFirst_36 : decode cX3_stepsFromFirst 36 = .ok (.iload 4, 2) := by decide +kernel
theorem dX3_stepsFromFirst_38 : decode cX3_stepsFromFirst 38 = .ok (.iload 5, 2) := by decide +kernel
theorem dX3_stepsFromFirst_40 : decode cX3_stepsFromFirst 40 = .ok (.invokestatic 20, 3) := by decide +kernel
theorem dX3_stepsFromFirst_43 : decode cX3_stepsFromFirst 43 = .ok (.istore 8, 2) := by decide +kernel
theorem dX3_stepsFromFirst_45 : decode cX3_stepsFromFirst 45 = .ok (.iload 7, 2) := by decide +kernel
theorem dX3_stepsFromFirst_47 : decode cX3_stepsFromFirst 47 = .ok (.ifCond .eq 18, 3) := by decide +kernel
theorem dX3_stepsFromFirst_50 : decode cX3_stepsFromFirst 50 = .ok (.iload 8, 2) := by decide +kernel
theorem dX3_stepsFromFirst_52 : decode cX3_stepsFromFirst 52 = .ok (.ifCond .eq 13, 3) := by decide +kernel
theorem dX3_stepsFromFirst_55 : decode cX3_stepsFromFirst 55 = .ok (.iload 7, 2) := by decide +kernel
theorem dX3_stepsFromFirst_57 : decode cX3_stepsFromFirst 57 = .ok (.ifCond .ge 10, 3) := by decide +kernel
theorem dX3_stepsFromFirst_60 : decode cX3_stepsFromFirst 60 = .ok (.iload 8, 2) := by decide +kernel
theorem dX3_stepsFromFirst_62 : decode cX3_stepsFromFirst 62 = .ok (.ifCond .ge 5, 3) := by decide +kernel
theorem dX3_stepsFromFirst_65 : decode cX3_stepsFromFirst 65 = .ok (.iconst (-1), 1) := by decide +kernel
theorem dX3_stepsFromFirst_66 : decode cX3_stepsFromFirst 66 = .ok (.ireturn, 1) := by decide +kernel
theorem dX3_stepsFromFirst_67 : decode cX3_stepsFromFirst 67 = .ok (.iload_n 3, 1) := by decide +kernel
theorem dX3_stepsFromFirst_68 : decode cX3_stepsFromFirst 68 = .ok (.iload 4, 2) := by decide +kernel
theorem dX3_stepsFromFirst_70 : decode cX3_stepsFromFirst 70 = .ok (.iload 5, 2) := by decide +kernel
theorem dX3_stepsFromFirst_72 : decode cX3_stepsFromFirst 72 = .ok (.invokestatic 23, 3) := by decide +kernel
theorem dX3_stepsFromFirst_75 : decode cX3_stepsFromFirst 75 = .ok (.istore 5, 2) := by decide +kernel
theorem dX3_stepsFromFirst_77 : decode cX3_stepsFromFirst 77 = .ok (.iload 7, 2) := by decide +kernel
theorem dX3_stepsFromFirst_79 : decode cX3_stepsFromFirst 79 = .ok (.invokestatic 26, 3) := by decide +kernel
theorem dX3_stepsFromFirst_82 : decode cX3_stepsFromFirst 82 = .ok (.istore_n 3, 1) := by decide +kernel
theorem dX3_stepsFromFirst_83 : decode cX3_stepsFromFirst 83 = .ok (.iload 8, 2) := by decide +kernel
theorem dX3_stepsFromFirst_85 : decode cX3_stepsFromFirst 85 = .ok (.invokestatic 26, 3) := by decide +kernel
theorem dX3_stepsFromFirst_88 : decode cX3_stepsFromFirst 88 = .ok (.istore 4, 2) := by decide +kernel
theorem dX3_stepsFromFirst_90 : decode cX3_stepsFromFirst 90 = .ok (.iinc 6 1, 3) := by decide +kernel
theorem dX3_stepsFromFirst_93 : decode cX3_stepsFromFirst 93 = .ok (.goto (-82), 3) := by decide +kernel
theorem dX3_stepsFromFirst_96 : decode cX3_stepsFromFirst 96 = .ok (.iload_n 3, 1) := by decide +kernel
theorem dX3_stepsFromFirst_97 : decode cX3_stepsFromFirst 97 = .ok (.iconst 3, 1) := by decide +kernel
theorem dX3_stepsFromFirst_98 : decode cX3_stepsFromFirst 98 = .ok (.if_icmp .ne 20, 3) := by decide +kernel
theorem dX3_stepsFromFirst_101 : decode cX3_stepsFromFirst 101 = .ok (.iload 4, 2) := by decide +kernel
theorem dX3_stepsFromFirst_103 : decode cX3_stepsFromFirst 103 = .ok (.iconst 4, 1) := by decide +kernel
theorem dX3_stepsFromFirst_104 : decode cX3_stepsFromFirst 104 = .ok (.if_icmp .ne 14, 3) := by decide +kernel
theorem dX3_stepsFromFirst_107 : decode cX3_stepsFromFirst 107 = .ok (.iload 5, 2) := by decide +kernel
theorem dX3_stepsFromFirst_109 : decode cX3_stepsFromFirst 109 = .ok (.iconst 5, 1) := by decide +kernel
theorem dX3_stepsFromFirst_110 : decode cX3_stepsFromFirst 110 = .ok (.if_icmp .ne 8, 3) := by decide +kernel
theorem dX3_stepsFromFirst_113 : decode cX3_stepsFromFirst 113 = .ok (.iload 6, 2) := by decide +kernel
theorem dX3_stepsFromFirst_115 : decode cX3_stepsFromFirst 115 = .ok (.goto 4, 3) := by decide +kernel
theorem dX3_stepsFromFirst_118 : decode cX3_stepsFromFirst 118 = .ok (.iconst (-1), 1) := by decide +kernel
theorem dX3_stepsFromFirst_119 : decode cX3_stepsFromFirst 119 = .ok (.ireturn, 1) := by decide +kernel
theorem dJ9_abs_0f7a4_0 : decode cJ9_abs_0f7a4 0 = .ok (.iload_n 0, 1) := by decide +kernel
theorem dJ9_abs_0f7a4_1 : decode cJ9_abs_0f7a4 1 = .ok (.ifCond .ge 8, 3) := by decide +kernel
theorem dJ9_abs_0f7a4_4 : decode cJ9_abs_0f7a4 4 = .ok (.iload_n 0, 1) := by decide +kernel
theorem dJ9_abs_0f7a4_5 : decode cJ9_abs_0f7a4 5 = .ok (.ineg, 1) := by decide +kernel
theorem dJ9_abs_0f7a4_6 : decode cJ9_abs_0f7a4 6 = .ok (.goto 4, 3) := by decide +kernel
theorem dJ9_abs_0f7a4_9 : decode cJ9_abs_0f7a4 9 = .ok (.iload_n 0, 1) := by decide +kernel
theorem dJ9_abs_0f7a4_10 : decode cJ9_abs_0f7a4 10 = .ok (.ireturn, 1) := by decide +kernel
theorem dJ9_abs_067f4_0 : decode cJ9_abs_067f4 0 = .ok (.lload_n 0, 1) := by decide +kernel
theorem dJ9_abs_067f4_1 : decode cJ9_abs_067f4 1 = .ok (.lconst 0, 1) := by decide +kernel
theorem dJ9_abs_067f4_2 : decode cJ9_abs_067f4 2 = .ok (.lcmp, 1) := by decide +kernel
theorem dJ9_abs_067f4_3 : decode cJ9_abs_067f4 3 = .ok (.ifCond .ge 8, 3) := by decide +kernel
theorem dJ9_abs_067f4_6 : decode cJ9_abs_067f4 6 = .ok (.lload_n 0, 1) := by decide +kernel
theorem dJ9_abs_067f4_7 : decode cJ9_abs_067f4 7 = .ok (.lneg, 1) := by decide +kernel
theorem dJ9_abs_067f4_8 : decode cJ9_abs_067f4 8 = .ok (.goto 4, 3) := by decide +kernel
theorem dJ9_abs_067f4_11 : decode cJ9_abs_067f4 11 = .ok (.lload_n 0, 1) := by decide +kernel
theorem dJ9_abs_067f4_12 : decode cJ9_abs_067f4 12 = .ok (.lreturn, 1) := by decide +kernel
theorem dJ9_max_7cf53_0 : decode cJ9_max_7cf53 0 = .ok (.iload_n 0, 1) := by decide +kernel
theorem dJ9_max_7cf53_1 : decode cJ9_max_7cf53 1 = .ok (.iload_n 1, 1) := by decide +kernel
theorem dJ9_max_7cf53_2 : decode cJ9_max_7cf53 2 = .ok (.if_icmp .lt 7, 3) := by decide +kernel
theorem dJ9_max_7cf53_5 : decode cJ9_max_7cf53 5 = .ok (.iload_n 0, 1) := by decide +kernel
theorem dJ9_max_7cf53_6 : decode cJ9_max_7cf53 6 = .ok (.goto 4, 3) := by decide +kernel
theorem dJ9_max_7cf53_9 : decode cJ9_max_7cf53 9 = .ok (.iload_n 1, 1) := by decide +kernel
theorem dJ9_max_7cf53_10 : decode cJ9_max_7cf53 10 = .ok (.ireturn, 1) := by decide +kernel
theorem dJ9_min_7cf53_0 : decode cJ9_min_7cf53 0 = .ok (.iload_n 0, 1) := by decide +kernel
theorem dJ9_min_7cf53_1 : decode cJ9_min_7cf53 1 = .ok (.iload_n 1, 1) := by decide +kernel
theorem dJ9_min_7cf53_2 : decode cJ9_min_7cf53 2 = .ok (.if_icmp .gt 7, 3) := by decide +kernel
theorem dJ9_min_7cf53_5 : decode cJ9_min_7cf53 5 = .ok (.iload_n 0, 1) := by decide +kernel
theorem dJ9_min_7cf53_6 : decode cJ9_min_7cf53 6 = .ok (.goto 4, 3) := by decide +kernel
theorem dJ9_min_7cf53_9 : decode cJ9_min_7cf53 9 = .ok (.iload_n 1, 1) := by decide +kernel
theorem dJ9_min_7cf53_10 : decode cJ9_min_7cf53 10 = .ok (.ireturn, 1) := by decide +kernel
theorem dJ13_compare_74951_0 : decode cJ13_compare_74951 0 = .ok (.lload_n 0, 1) := by decide +kernel
theorem dJ13_compare_74951_1 : decode cJ13_compare_74951 1 = .ok (.lload_n 2, 1) := by decide +kernel
theorem dJ13_compare_74951_2 : decode cJ13_compare_74951 2 = .ok (.lcmp, 1) := by decide +kernel
theorem dJ13_compare_74951_3 : decode cJ13_compare_74951 3 = .ok (.ifCond .ge 7, 3) := by decide +kernel
theorem dJ13_compare_74951_6 : decode cJ13_compare_74951 6 = .ok (.iconst (-1), 1) := by decide +kernel
theorem dJ13_compare_74951_7 : decode cJ13_compare_74951 7 = .ok (.goto 14, 3) := by decide +kernel
theorem dJ13_compare_74951_10 : decode cJ13_compare_74951 10 = .ok (.lload_n 0, 1) := by decide +kernel
theorem dJ13_compare_74951_11 : decode cJ13_compare_74951 11 = .ok (.lload_n 2, 1) := by decide +kernel
theorem dJ13_compare_74951_12 : decode cJ13_compare_74951 12 = .ok (.lcmp, 1) := by decide +kernel
theorem dJ13_compare_74951_13 : decode cJ13_compare_74951 13 = .ok (.ifCond .ne 7, 3) := by decide +kernel
theorem dJ13_compare_74951_16 : decode cJ13_compare_74951 16 = .ok (.iconst 0, 1) := by decide +kernel
theorem dJ13_compare_74951_17 : decode cJ13_compare_74951 17 = .ok (.goto 4, 3) := by decide +kernel
theorem dJ13_compare_74951_20 : decode cJ13_compare_74951 20 = .ok (.iconst 1, 1) := by decide +kernel
theorem dJ13_compare_74951_21 : decode cJ13_compare_74951 21 = .ok (.ireturn, 1) := by decide +kernel

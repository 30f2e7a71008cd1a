theorem dX4_ofRoot_0 : decode cX4_ofRoot 0 = .ok (.lload_n 0, 1) := by decide +kernel
theorem dX4_ofRoot_1 : decode cX4_ofRoot 1 = .ok (.invokestatic 9, 3) := by decide +kernel
theorem dX4_ofRoot_4 : decode cX4_ofRoot 4 = .ok (.lstore_n 2, 1) := by decide +kernel
theorem dX4_ofRoot_5 : decode cX4_ofRoot 5 = .ok (.lload_n 0, 1) := by decide +kernel
theorem dX4_ofRoot_6 : decode cX4_ofRoot 6 = .ok (.invokestatic 15, 3) := by decide +kernel
theorem dX4_ofRoot_9 : decode cX4_ofRoot 9 = .ok (.dstore 4, 2) := by decide +kernel
theorem dX4_ofRoot_11 : decode cX4_ofRoot 11 = .ok (.lload_n 2, 1) := by decide +kernel
theorem dX4_ofRoot_12 : decode cX4_ofRoot 12 = .ok (.lload_n 2, 1) := by decide +kernel
theorem dX4_ofRoot_13 : decode cX4_ofRoot 13 = .ok (.lmul, 1) := by decide +kernel
theorem dX4_ofRoot_14 : decode cX4_ofRoot 14 = .ok (.lload_n 0, 1) := by decide +kernel
theorem dX4_ofRoot_15 : decode cX4_ofRoot 15 = .ok (.lcmp, 1) := by decide +kernel
theorem dX4_ofRoot_16 : decode cX4_ofRoot 16 = .ok (.ifCond .gt 19, 3) := by decide +kernel
theorem dX4_ofRoot_19 : decode cX4_ofRoot 19 = .ok (.lload_n 2, 1) := by decide +kernel
theorem dX4_ofRoot_20 : decode cX4_ofRoot 20 = .ok (.lconst 1, 1) := by decide +kernel
theorem dX4_ofRoot_21 : decode cX4_ofRoot 21 = .ok (.ladd, 1) := by decide +kernel
theorem dX4_ofRoot_22 : decode cX4_ofRoot 22 = .ok (.lload_n 2, 1) := by decide +kernel
theorem dX4_ofRoot_23 : decode cX4_ofRoot 23 = .ok (.lconst 1, 1) := by decide +kernel
theorem dX4_ofRoot_24 : decode cX4_ofRoot 24 = .ok (.ladd, 1) := by decide +kernel
theorem dX4_ofRoot_25 : decode cX4_ofRoot 25 = .ok (.lmul, 1) := by decide +kernel
theorem dX4_ofRoot_26 : decode cX4_ofRoot 26 = .ok (.lload_n 0, 1) := by decide +kernel
theorem dX4_ofRoot_27 : decode cX4_ofRoot 27 = .ok (.lcmp, 1) := by decide +kernel
theorem dX4_ofRoot_28 : decode cX4_ofRoot 28 = .ok (.ifCond .le 7, 3) := by decide +kernel
theorem dX4_ofRoot_31 : decode cX4_ofRoot 31 = .ok (.iconst 1, 1) := by decide +kernel
theorem dX4_ofRoot_32 : decode cX4_ofRoot 32 = .ok (.goto 4, 3) := by decide +kernel
theorem dX4_ofRoot_35 : decode cX4_ofRoot 35 = .ok (.iconst 0, 1) := by decide +kernel
theorem dX4_ofRoot_36 : decode cX4_ofRoot 36 = .ok (.istore 6, 2) := by decide +kernel
theorem dX4_ofRoot_38 : decode cX4_ofRoot 38 = .ok (.dload 4, 2) := by decide +kernel
theorem dX4_ofRoot_40 : decode cX4_ofRoot 40 = .ok (.invokestatic 19, 3) := by decide +kernel
theorem dX4_ofRoot_43 : decode cX4_ofRoot 43 = .ok (.lload_n 2, 1) := by decide +kernel
theorem dX4_ofRoot_44 : decode cX4_ofRoot 44 = .ok (.lload_n 2, 1) := by decide +kernel
theorem dX4_ofRoot_45 : decode cX4_ofRoot 45 = .ok (.lmul, 1) := by decide +kernel
theorem dX4_ofRoot_46 : decode cX4_ofRoot 46 = .ok (.lload_n 0, 1) := by decide +kernel
theorem dX4_ofRoot_47 : decode cX4_ofRoot 47 = .ok (.lcmp, 1) := by decide +kernel
theorem dX4_ofRoot_48 : decode cX4_ofRoot 48 = .ok (.ifCond .ne 7, 3) := by decide +kernel
theorem dX4_ofRoot_51 : decode cX4_ofRoot 51 = .ok (.iconst 1, 1) := by decide +kernel
theorem dX4_ofRoot_52 : decode cX4_ofRoot 52 = .ok (.goto 4, 3) := by decide +kernel
theorem dX4_ofRoot_55 : decode cX4_ofRoot 55 = .ok (.iconst 0, 1) := by decide +kernel
theorem dX4_ofRoot_56 : decode cX4_ofRoot 56 = .ok (.if_icmp .ne 7, 3) := by decide +kernel
theorem dX4_ofRoot_59 : decode cX4_ofRoot 59 = .ok (.iconst 1, 1) := by decide +kernel
theorem dX4_ofRoot_60 : decode cX4_ofRoot 60 = .ok (.goto 4, 3) := by decide +kernel
theorem dX4_ofRoot_63 : decode cX4_ofRoot 63 = .ok (.iconst 0, 1) := by decide +kernel
theorem dX4_ofRoot_64 : decode cX4_ofRoot 64 = .ok (.istore 7, 2) := by decide +kernel
theorem dX4_ofRoot_66 : decode cX4_ofRoot 66 = .ok (.iload 6, 2) := by decide +kernel
theorem dX4_ofRoot_68 : decode cX4_ofRoot 68 = .ok (.ifCond .eq 20, 3) := by decide +kernel
theorem dX4_ofRoot_71 : decode cX4_ofRoot 71 = .ok (.iload 7, 2) := by decide +kernel
theorem dX4_ofRoot_73 : decode cX4_ofRoot 73 = .ok (.ifCond .eq 15, 3) := by decide +kernel
theorem dX4_ofRoot_76 : decode cX4_ofRoot 76 = .ok (.dload 4, 2) := by decide +kernel
theorem dX4_ofRoot_78 : decode cX4_ofRoot 78 = .ok (.d2l, 1) := by decide +kernel
theorem dX4_ofRoot_79 : decode cX4_ofRoot 79 = .ok (.lload_n 2, 1) := by decide +kernel
theorem dX4_ofRoot_80 : decode cX4_ofRoot 80 = .ok (.lcmp, 1) := by decide +kernel
theorem dX4_ofRoot_81 : decode cX4_ofRoot 81 = .ok (.ifCond .ne 7, 3) := by decide +kernel
theorem dX4_ofRoot_84 : decode cX4_ofRoot 84 = .ok (.iconst 1, 1) := by decide +kernel
theorem dX4_ofRoot_85 : decode cX4_ofRoot 85 = .ok (.goto 4, 3) := by decide +kernel
theorem dX4_ofRoot_88 : decode cX4_ofRoot 88 = .ok (.iconst 0, 1) := by decide +kernel
theorem dX4_ofRoot_89 : decode cX4_ofRoot 89 = .ok (.ireturn, 1) := by decide +kernel
theorem dX4_ofHypot_0 : decode cX4_ofHypot 0 = .ok (.iload_n 0, 1) := by decide +kernel
theorem dX4_ofHypot_1 : decode cX4_ofHypot 1 = .ok (.i2l, 1) := by decide +kernel
theorem dX4_ofHypot_2 : decode cX4_ofHypot 2 = .ok (.iload_n 0, 1) := by decide +kernel
theorem dX4_ofHypot_3 : decode cX4_ofHypot 3 = .ok (.i2l, 1) := by decide +kernel
theorem dX4_ofHypot_4 : decode cX4_ofHypot 4 = .ok (.lmul, 1) := by decide +kernel
theorem dX4_ofHypot_5 : decode cX4_ofHypot 5 = .ok (.iload_n 1, 1) := by decide +kernel
theorem dX4_ofHypot_6 : decode cX4_ofHypot 6 = .ok (.i2l, 1) := by decide +kernel
theorem dX4_ofHypot_7 : decode cX4_ofHypot 7 = .ok (.iload_n 1, 1) := by decide +kernel
theorem dX4_ofHypot_8 : decode cX4_ofHypot 8 = .ok (.i2l, 1) := by decide +kernel
theorem dX4_ofHypot_9 : decode cX4_ofHypot 9 = .ok (.lmul, 1) := by decide +kernel
theorem dX4_ofHypot_10 : decode cX4_ofHypot 10 = .ok (.ladd, 1) := by decide +kernel
theorem dX4_ofHypot_11 : decode cX4_ofHypot 11 = .ok (.lstore_n 2, 1) := by decide +kernel
theorem dX4_ofHypot_12 : decode cX4_ofHypot 12 = .ok (.iload_n 0, 1) := by decide +kernel
theorem dX4_ofHypot_13 : decode cX4_ofHypot 13 = .ok (.iload_n 1, 1) := by decide +kernel
theorem dX4_ofHypot_14 : decode cX4_ofHypot 14 = .ok (.invokestatic 23, 3) := by decide +kernel
theorem dX4_ofHypot_17 : decode cX4_ofHypot 17 = .ok (.dstore 4, 2) := by decide +kernel
theorem dX4_ofHypot_19 : decode cX4_ofHypot 19 = .ok (.dload 4, 2) := by decide +kernel
theorem dX4_ofHypot_21 : decode cX4_ofHypot 21 = .ok (.lload_n 2, 1) := by decide +kernel
theorem dX4_ofHypot_22 : decode cX4_ofHypot 22 = .ok (.invokestatic 15, 3) := by decide +kernel
theorem dX4_ofHypot_25 : decode cX4_ofHypot 25 = .ok (.dcmp .l, 1) := by decide +kernel
theorem dX4_ofHypot_26 : decode cX4_ofHypot 26 = .ok (.ifCond .ne 30, 3) := by decide +kernel
theorem dX4_ofHypot_29 : decode cX4_ofHypot 29 = .ok (.dload 4, 2) := by decide +kernel
theorem dX4_ofHypot_31 : decode cX4_ofHypot 31 = .ok (.iload_n 1, 1) := by decide +kernel
theorem dX4_ofHypot_32 : decode cX4_ofHypot 32 = .ok (.iload_n 0, 1) := by decide +kernel
theorem dX4_ofHypot_33 : decode cX4_ofHypot 33 = .ok (.invokestatic 23, 3) := by decide +kernel
theorem dX4_ofHypot_36 : decode cX4_ofHypot 36 = .ok (.dcmp .l, 1) := by decide +kernel
theorem dX4_ofHypot_37 : decode cX4_ofHypot 37 = .ok (.ifCond .ne 19, 3) := by decide +kernel
theorem dX4_ofHypot_40 : decode cX4_ofHypot 40 = .ok (.dload 4, 2) := by decide +kernel
theorem dX4_ofHypot_42 : decode cX4_ofHypot 42 = .ok (.invokestatic 19, 3) := by decide +kernel
theorem dX4_ofHypot_45 : decode cX4_ofHypot 45 = .ok (.lload_n 2, 1) := by decide +kernel
theorem dX4_ofHypot_46 : decode cX4_ofHypot 46 = .ok (.invokestatic 27, 3) := by decide +kernel
theorem dX4_ofHypot_49 : decode cX4_ofHypot 49 = .ok (.if_icmp .ne 7, 3) := by decide +kernel
theorem dX4_ofHypot_52 : decode cX4_ofHypot 52 = .ok (.iconst 1, 1) := by decide +kernel
theorem dX4_ofHypot_53 : decode cX4_ofHypot 53 = .ok (.goto 4, 3) := by decide +kernel
theorem dX4_ofHypot_56 : decode cX4_ofHypot 56 = .ok (.iconst 0, 1) := by decide +kernel
theorem dX4_ofHypot_57 : decode cX4_ofHypot 57 = .ok (.ireturn, 1) := by decide +kernel
theorem dX4_ofTriangle_0 : decode cX4_ofTriangle 0 = .ok (.aload_n 0, 1) := by decide +kernel
theorem dX4_ofTriangle_1 : decode cX4_ofTriangle 1 = .ok (.getfield 31, 3) := by decide +kernel
theorem dX4_ofTriangle_4 : decode cX4_ofTriangle 4 = .ok (.aload_n 0, 1) := by decide +kernel
theorem dX4_ofTriangle_5 : decode cX4_ofTriangle 5 = .ok (.getfield 37, 3) := by decide +kernel
theorem dX4_ofTriangle_8 : decode cX4_ofTriangle 8 = .ok (.invokestatic 40, 3) := by decide +kernel
theorem dX4_ofTriangle_11 : decode cX4_ofTriangle 11 = .ok (.ifCond .eq 49, 3) := by decide +kernel
theorem dX4_ofTriangle_14 : decode cX4_ofTriangle 14 = .ok (.aload_n 0, 1) := by decide +kernel
theorem dX4_ofTriangle_15 : decode cX4_ofTriangle 15 = .ok (.getfield 31, 3) := by decide +kernel
theorem dX4_ofTriangle_18 : decode cX4_ofTriangle 18 = .ok (.aload_n 0, 1) := by decide +kernel
theorem dX4_ofTriangle_19 : decode cX4_ofTriangle 19 = .ok (.getfield 46, 3) := by decide +kernel
theorem dX4_ofTriangle_22 : decode cX4_ofTriangle 22 = .ok (.invokestatic 40, 3) := by decide +kernel
theorem dX4_ofTriangle_25 : decode cX4_ofTriangle 25 = .ok (.ifCond .eq 35, 3) := by decide +kernel
theorem dX4_ofTriangle_28 : decode cX4_ofTriangle 28 = .ok (.aload_n 0, 1) := by decide +kernel
theorem dX4_ofTriangle_29 : decode cX4_ofTriangle 29 = .ok (.getfield 37, 3) := by decide +kernel
theorem dX4_ofTriangle_32 : decode cX4_ofTriangle 32 = .ok (.aload_n 0, 1) := by decide +kernel
theorem dX4_ofTriangle_33 : decode cX4_ofTriangle 33 = .ok (.getfield 46, 3) := by decide +kernel
theorem dX4_ofTriangle_36 : decode cX4_ofTriangle 36 = .ok (.invokestatic 40, 3) := by decide +kernel
theorem dX4_ofTriangle_39 : decode cX4_ofTriangle 39 = .ok (.ifCond .eq 21, 3) := by decide +kernel
theorem dX4_ofTriangle_42 : decode cX4_ofTriangle 42 = .ok (.aload_n 0, 1) := by decide +kernel
theorem dX4_ofTriangle_43 : decode cX4_ofTriangle 43 = .ok (.invokestatic 49, 3) := by decide +kernel
theorem dX4_ofTriangle_46 : decode cX4_ofTriangle 46 = .ok (.ifCond .eq 14, 3) := by decide +kernel
theorem dX4_ofTriangle_49 : decode cX4_ofTriangle 49 = .ok (.aload_n 0, 1) := by decide +kernel
theorem dX4_ofTriangle_50 : decode cX4_ofTriangle 50 = .ok (.invokestatic 53, 3) := by decide +kernel
theorem dX4_ofTriangle_53 : decode cX4_ofTriangle 53 = .ok (.ifCond .eq 7, 3) := by decide +kernel
theorem dX4_ofTriangle_56 : decode cX4_ofTriangle 56 = .ok (.iconst 1, 1) := by decide +kernel
theorem dX4_ofTriangle_57 : decode cX4_ofTriangle 57 = .ok (.goto 4, 3) := by decide +kernel
theorem dX4_ofTriangle_60 : decode cX4_ofTriangle 60 = .ok (.iconst 0, 1) := by decide +kernel
theorem dX4_ofTriangle_61 : decode cX4_ofTriangle 61 = .ok (.istore_n 1, 1) := by decide +kernel
theorem dX4_ofTriangle_62 : decode cX4_ofTriangle 62 = .ok (.iload_n 1, 1) := by decide +kernel
theorem dX4_ofTriangle_63 : decode cX4_ofTriangle 63 = .ok (.ifCond .eq 10, 3) := by decide +kernel
theorem dX4_ofTriangle_66 : decode cX4_ofTriangle 66 = .ok (.aload_n 0, 1) := by decide +kernel
theorem dX4_ofTriangle_67 : decode cX4_ofTriangle 67 = .ok (.invokevirtual 56, 3) := by decide +kernel
theorem dX4_ofTriangle_70 : decode cX4_ofTriangle 70 = .ok (.ifCond .eq 5, 3) := by decide +kernel
theorem dX4_ofTriangle_73 : decode cX4_ofTriangle 73 = .ok (.iload_n 1, 1) := by decide +kernel
theorem dX4_ofTriangle_74 : decode cX4_ofTriangle 74 = .ok (.ireturn, 1) := by decide +kernel
theorem dX4_ofTriangle_75 : decode cX4_ofTriangle 75 = .ok (.aload_n 0, 1) := by decide +kernel
theorem dX4_ofTriangle_76 : decode cX4_ofTriangle 76 = .ok (.invokestatic 60, 3) := by decide +kernel
theorem dX4_ofTriangle_79 : decode cX4_ofTriangle 79 = .ok (.ifCond .eq 21, 3) := by decide +kernel
theorem dX4_ofTriangle_82 : decode cX4_ofTriangle 82 = .ok (.aload_n 0, 1) := by decide +kernel
theorem dX4_ofTriangle_83 : decode cX4_ofTriangle 83 = .ok (.invokevirtual 63, 3) := by decide +kernel
theorem dX4_ofTriangle_86 : decode cX4_ofTriangle 86 = .ok (.ifCond .eq 10, 3) := by decide +kernel
theorem dX4_ofTriangle_89 : decode cX4_ofTriangle 89 = .ok (.aload_n 0, 1) := by decide +kernel
theorem dX4_ofTriangle_90 : decode cX4_ofTriangle 90 = .ok (.invokestatic 67, 3) := by decide +kernel
theorem dX4_ofTriangle_93 : decode cX4_ofTriangle 93 = .ok (.ifCond .eq 7, 3) := by decide +kernel
theorem dX4_ofTriangle_96 : decode cX4_ofTriangle 96 = .ok (.iconst 1, 1) := by decide +kernel
theorem dX4_ofTriangle_97 : decode cX4_ofTriangle 97 = .ok (.goto 4, 3) := by decide +kernel
theorem dX4_ofTriangle_100 : decode cX4_ofTriangle 100 = .ok (.iconst 0, 1) := by decide +kernel
theorem dX4_ofTriangle_101 : decode cX4_ofTriangle 101 = .ok (.ireturn, 1) := by decide +kernel
theorem dX4_ofCounts_0 : decode cX4_ofCounts 0 = .ok (.iload_n 0, 1) := by decide +kernel
theorem dX4_ofCounts_1 : decode cX4_ofCounts 1 = .ok (.iconst 1, 1) := by decide +kernel
theorem dX4_ofCounts_2 : decode cX4_ofCounts 2 = .ok (.invokestatic 70, 3) := by decide +kernel
theorem dX4_ofCounts_5 : decode cX4_ofCounts 5 = .ok (.istore_n 1, 1) := by decide +kernel
theorem dX4_ofCounts_6 : decode cX4_ofCounts 6 = .ok (.iload_n 0, 1) := by decide +kernel
theorem dX4_ofCounts_7 : decode cX4_ofCounts 7 = .ok (.iconst 2, 1) := by decide +kernel
theorem dX4_ofCounts_8 : decode cX4_ofCounts 8 = .ok (.irem, 1) := by decide +kernel
theorem dX4_ofCounts_9 : decode cX4_ofCounts 9 = .ok (.ifCond .ne 9, 3) := by decide +kernel
theorem dX4_ofCounts_12 : decode cX4_ofCounts 12 = .ok (.iload_n 0, 1) := by decide +kernel
theorem dX4_ofCounts_13 : decode cX4_ofCounts 13 = .ok (.iconst 2, 1) := by decide +kernel
theorem dX4_ofCounts_14 : decode cX4_ofCounts 14 = .ok (.idiv, 1) := by decide +kernel
theorem dX4_ofCounts_15 : decode cX4_ofCounts 15 = .ok (.goto 4, 3) := by decide +kernel
theorem dX4_ofCounts_18 : decode cX4_ofCounts 18 = .ok (.iload_n 0, 1) := by decide +kernel
theorem dX4_ofCounts_19 : decode cX4_ofCounts 19 = .ok (.iconst 0, 1) := by decide +kernel
theorem dX4_ofCounts_20 : decode cX4_ofCounts 20 = .ok (.invokestatic 70, 3) := by decide +kernel
theorem dX4_ofCounts_23 : decode cX4_ofCounts 23 = .ok (.istore_n 2, 1) := by decide +kernel
theorem dX4_ofCounts_24 : decode cX4_ofCounts 24 = .ok (.iload_n 0, 1) := by decide +kernel
theorem dX4_ofCounts_25 : decode cX4_ofCounts 25 = .ok (.invokestatic 76, 3) := by decide +kernel
theorem dX4_ofCounts_28 : decode cX4_ofCounts 28 = .ok (.iload_n 1, 1) := by decide +kernel
theorem dX4_ofCounts_29 : decode cX4_ofCounts 29 = .ok (.iconst 1, 1) := by decide +kernel
theorem dX4_ofCounts_30 : decode cX4_ofCounts 30 = .ok (.isub, 1) := by decide +kernel
theorem dX4_ofCounts_31 : decode cX4_ofCounts 31 = .ok (.iconst 2, 1) := by decide +kernel
theorem dX4_ofCounts_32 : decode cX4_ofCounts 32 = .ok (.idiv, 1) := by decide +kernel
theorem dX4_ofCounts_33 : decode cX4_ofCounts 33 = .ok (.if_icmp .ne 19, 3) := by decide +kernel
theorem dX4_ofCounts_36 : decode cX4_ofCounts 36 = .ok (.iload_n 0, 1) := by decide +kernel
theorem dX4_ofCounts_37 : decode cX4_ofCounts 37 = .ok (.invokestatic 80, 3) := by decide +kernel
theorem dX4_ofCounts_40 : decode cX4_ofCounts 40 = .ok (.iload_n 2, 1) := by decide +kernel
theorem dX4_ofCounts_41 : decode cX4_ofCounts 41 = .ok (.iconst 1, 1) := by decide +kernel
theorem dX4_ofCounts_42 : decode cX4_ofCounts 42 = .ok (.isub, 1) := by decide +kernel
theorem dX4_ofCounts_43 : decode cX4_ofCounts 43 = .ok (.iconst 2, 1) := by decide +kernel
theorem dX4_ofCounts_44 : decode cX4_ofCounts 44 = .ok (.idiv, 1) := by decide +kernel
theorem dX4_ofCounts_45 : decode cX4_ofCounts 45 = .ok (.if_icmp .ne 7, 3) := by decide +kernel
theorem dX4_ofCounts_48 : decode cX4_ofCounts 48 = .ok (.iconst 1, 1) := by decide +kernel
theorem dX4_ofCounts_49 : decode cX4_ofCounts 49 = .ok (.goto 4, 3) := by decide +kernel
theorem dX4_ofCounts_52 : decode cX4_ofCounts 52 = .ok (.iconst 0, 1) := by decide +kernel
theorem dX4_ofCounts_53 : decode cX4_ofCounts 53 = .ok (.ireturn, 1) := by decide +kernel
theorem dX4_ofSharpness_0 : decode cX4_ofSharpness 0 = .ok (.aload_n 0, 1) := by decide +kernel
theorem dX4_ofSharpness_1 : decode cX4_ofSharpness 1 = .ok (.getfield 31, 3) := by decide +kernel
theorem dX4_ofSharpness_4 : decode cX4_ofSharpness 4 = .ok (.aload_n 0, 1) := by decide +kernel
theorem dX4_ofSharpness_5 : decode cX4_ofSharpness 5 = .ok (.getfield 37, 3) := by decide +kernel
theorem dX4_ofSharpness_8 : decode cX4_ofSharpness 8 = .ok (.invokestatic 23, 3) := by decide +kernel
theorem dX4_ofSharpness_11 : decode cX4_ofSharpness 11 = .ok (.dstore_n 1, 1) := by decide +kernel
theorem dX4_ofSharpness_12 : decode cX4_ofSharpness 12 = .ok (.dload_n 1, 1) := by decide +kernel
theorem dX4_ofSharpness_13 : decode cX4_ofSharpness 13 = .ok (.aload_n 0, 1) := by decide +kernel
theorem dX4_ofSharpness_14 : decode cX4_ofSharpness 14 = .ok (.getfield 46, 3) := by decide +kernel
theorem dX4_ofSharpness_17 : decode cX4_ofSharpness 17 = .ok (.i2d, 1) := by decide +kernel
theorem dX4_ofSharpness_18 : decode cX4_ofSharpness 18 = .ok (.dcmp .g, 1) := by decide +kernel
theorem dX4_ofSharpness_19 : decode cX4_ofSharpness 19 = .ok (.ifCond .ge 17, 3) := by decide +kernel
theorem dX4_ofSharpness_22 : decode cX4_ofSharpness 22 = .ok (.aload_n 0, 1) := by decide +kernel
theorem dX4_ofSharpness_23 : decode cX4_ofSharpness 23 = .ok (.invokevirtual 56, 3) := by decide +kernel
theorem dX4_ofSharpness_26 : decode cX4_ofSharpness 26 = .ok (.iconst (-1), 1) := by decide +kernel
theorem dX4_ofSharpness_27 : decode cX4_ofSharpness 27 = .ok (.if_icmp .ne 7, 3) := by decide +kernel
theorem dX4_ofSharpness_30 : decode cX4_ofSharpness 30 = .ok (.iconst 1, 1) := by decide +kernel
theorem dX4_ofSharpness_31 : decode cX4_ofSharpness 31 = .ok (.goto 4, 3) := by decide +kernel
theorem dX4_ofSharpness_34 : decode cX4_ofSharpness 34 = .ok (.iconst 0, 1) := by decide +kernel
theorem dX4_ofSharpness_35 : decode cX4_ofSharpness 35 = .ok (.ireturn, 1) := by decide +kernel
theorem dX4_ofSharpness_36 : decode cX4_ofSharpness 36 = .ok (.dload_n 1, 1) := by decide +kernel
theorem dX4_ofSharpness_37 : decode cX4_ofSharpness 37 = .ok (.aload_n 0, 1) := by decide +kernel
theorem dX4_ofSharpness_38 : decode cX4_ofSharpness 38 = .ok (.getfield 46, 3) := by decide +kernel
theorem dX4_ofSharpness_41 : decode cX4_ofSharpness 41 = .ok (.i2d, 1) := by decide +kernel
theorem dX4_ofSharpness_42 : decode cX4_ofSharpness 42 = .ok (.dcmp .l, 1) := by decide +kernel
theorem dX4_ofSharpness_43 : decode cX4_ofSharpness 43 = .ok (.ifCond .le 19, 3) := by decide +kernel
theorem dX4_ofSharpness_46 : decode cX4_ofSharpness 46 = .ok (.aload_n 0, 1) := by decide +kernel
theorem dX4_ofSharpness_47 : decode cX4_ofSharpness 47 = .ok (.invokevirtual 56, 3) := by decide +kernel
theorem dX4_ofSharpness_50 : decode cX4_ofSharpness 50 = .ok (.iconst 1, 1) := by decide +kernel
theorem dX4_ofSharpness_51 : decode cX4_ofSharpness 51 = .ok (.if_icmp .ne 7, 3) := by decide +kernel
theorem dX4_ofSharpness_54 : decode cX4_ofSharpness 54 = .ok (.iconst 1, 1) := by decide +kernel
theorem dX4_ofSharpness_55 : decode cX4_ofSharpness 55 = .ok (.goto 19, 3) := by decide +kernel
theorem dX4_ofSharpness_58 : decode cX4_ofSharpness 58 = .ok (.iconst 0, 1) := by decide +kernel
theorem dX4_ofSharpness_59 : decode cX4_ofSharpness 59 = .ok (.goto 15, 3) := by decide +kernel
theorem dX4_ofSharpness_62 : decode cX4_ofSharpness 62 = .ok (.aload_n 0, 1) := by decide +kernel
theorem dX4_ofSharpness_63 : decode cX4_ofSharpness 63 = .ok (.invokevirtual 56, 3) := by decide +kernel
theorem dX4_ofSharpness_66 : decode cX4_ofSharpness 66 = .ok (.ifCond .ne 7, 3) := by decide +kernel
theorem dX4_ofSharpness_69 : decode cX4_ofSharpness 69 = .ok (.iconst 1, 1) := by decide +kernel
theorem dX4_ofSharpness_70 : decode cX4_ofSharpness 70 = .ok (.goto 4, 3) := by decide +kernel
theorem dX4_ofSharpness_73 : decode cX4_ofSharpness 73 = .ok (.iconst 0, 1) := by decide +kernel
theorem dX4_ofSharpness_74 : decode cX4_ofSharpness 74 = .ok (.ireturn, 1) := by decide +kernel
theorem dX4_ofS_0 : decode cX4_ofS 0 = .ok (.aload_n 0, 1) := by decide +kernel
theorem dX4_ofS_1 : decode cX4_ofS 1 = .ok (.invokevirtual 83, 3) := by decide +kernel
theorem dX4_ofS_4 : decode cX4_ofS 4 = .ok (.lstore_n 1, 1) := by decide +kernel
theorem dX4_ofS_5 : decode cX4_ofS 5 = .ok (.lload_n 1, 1) := by decide +kernel
theorem dX4_ofS_6 : decode cX4_ofS 6 = .ok (.lconst 0, 1) := by decide +kernel
theorem dX4_ofS_7 : decode cX4_ofS 7 = .ok (.lcmp, 1) := by decide +kernel
theorem dX4_ofS_8 : decode cX4_ofS 8 = .ok (.ifCond .eq 36, 3) := by decide +kernel
theorem dX4_ofS_11 : decode cX4_ofS 11 = .ok (.aload_n 0, 1) := by decide +kernel
theorem dX4_ofS_12 : decode cX4_ofS 12 = .ok (.invokevirtual 87, 3) := by decide +kernel
theorem dX4_ofS_15 : decode cX4_ofS 15 = .ok (.iconst 2, 1) := by decide +kernel
theorem dX4_ofS_16 : decode cX4_ofS 16 = .ok (.irem, 1) := by decide +kernel
theorem dX4_ofS_17 : decode cX4_ofS 17 = .ok (.ifCond .ne 31, 3) := by decide +kernel
theorem dX4_ofS_20 : decode cX4_ofS 20 = .ok (.lload_n 1, 1) := by decide +kernel
theorem dX4_ofS_21 : decode cX4_ofS 21 = .ok (.ldc2_w 90, 3) := by decide +kernel
theorem dX4_ofS_24 : decode cX4_ofS 24 = .ok (.lrem, 1) := by decide +kernel
theorem dX4_ofS_25 : decode cX4_ofS 25 = .ok (.lconst 0, 1) := by decide +kernel
theorem dX4_ofS_26 : decode cX4_ofS 26 = .ok (.lcmp, 1) := by decide +kernel
theorem dX4_ofS_27 : decode cX4_ofS 27 = .ok (.ifCond .ne 21, 3) := by decide +kernel
theorem dX4_ofS_30 : decode cX4_ofS 30 = .ok (.lload_n 1, 1) := by decide +kernel
theorem dX4_ofS_31 : decode cX4_ofS 31 = .ok (.ldc2_w 90, 3) := by decide +kernel
theorem dX4_ofS_34 : decode cX4_ofS 34 = .ok (.ldiv, 1) := by decide +kernel
theorem dX4_ofS_35 : decode cX4_ofS 35 = .ok (.ldc2_w 92, 3) := by decide +kernel
theorem dX4_ofS_38 : decode cX4_ofS 38 = .ok (.lrem, 1) := by decide +kernel
theorem dX4_ofS_39 : decode cX4_ofS 39 = .ok (.lconst 0, 1) := by decide +kernel
theorem dX4_ofS_40 : decode cX4_ofS 40 = .ok (.lcmp, 1) := by decide +kernel
theorem dX4_ofS_41 : decode cX4_ofS 41 = .ok (.ifCond .ne 7, 3) := by decide +kernel
theorem dX4_ofS_44 : decode cX4_ofS 44 = .ok (.iconst 1, 1) := by decide +kernel
theorem dX4_ofS_45 : decode cX4_ofS 45 = .ok (.goto 4, 3) := by decide +kernel
theorem dX4_ofS_48 : decode cX4_ofS 48 = .ok (.iconst 0, 1) := by decide +kernel
theorem dX4_ofS_49 : decode cX4_ofS 49 = .ok (.istore_n 3, 1) := by decide +kernel
theorem dX4_ofS_50 : decode cX4_ofS 50 = .ok (.aload_n 0, 1) := by decide +kernel
theorem dX4_ofS_51 : decode cX4_ofS 51 = .ok (.getfield 94, 3) := by decide +kernel
theorem dX4_ofS_54 : decode cX4_ofS 54 = .ok (.lconst 0, 1) := by decide +kernel
theorem dX4_ofS_55 : decode cX4_ofS 55 = .ok (.lcmp, 1) := by decide +kernel
theorem dX4_ofS_56 : decode cX4_ofS 56 = .ok (.ifCond .gt 12, 3) := by decide +kernel
theorem dX4_ofS_59 : decode cX4_ofS 59 = .ok (.aload_n 0, 1) := by decide +kernel
theorem dX4_ofS_60 : decode cX4_ofS 60 = .ok (.getfield 98, 3) := by decide +kernel
theorem dX4_ofS_63 : decode cX4_ofS 63 = .ok (.lconst 0, 1) := by decide +kernel
theorem dX4_ofS_64 : decode cX4_ofS 64 = .ok (.lcmp, 1) := by decide +kernel
theorem dX4_ofS_65 : decode cX4_ofS 65 = .ok (.ifCond .le 25, 3) := by decide +kernel
theorem dX4_ofS_68 : decode cX4_ofS 68 = .ok (.aload_n 0, 1) := by decide +kernel
theorem dX4_ofS_69 : decode cX4_ofS 69 = .ok (.invokestatic 101, 3) := by decide +kernel
theorem dX4_ofS_72 : decode cX4_ofS 72 = .ok (.ifCond .eq 18, 3) := by decide +kernel
theorem dX4_ofS_75 : decode cX4_ofS 75 = .ok (.aload_n 0, 1) := by decide +kernel
theorem dX4_ofS_76 : decode cX4_ofS 76 = .ok (.invokestatic 104, 3) := by decide +kernel
theorem dX4_ofS_79 : decode cX4_ofS 79 = .ok (.ifCond .eq 11, 3) := by decide +kernel
theorem dX4_ofS_82 : decode cX4_ofS 82 = .ok (.iload_n 3, 1) := by decide +kernel
theorem dX4_ofS_83 : decode cX4_ofS 83 = .ok (.ifCond .eq 7, 3) := by decide +kernel
theorem dX4_ofS_86 : decode cX4_ofS 86 = .ok (.iconst 1, 1) := by decide +kernel
theorem dX4_ofS_87 : decode cX4_ofS 87 = .ok (.goto 4, 3) := by decide +kernel
theorem dX4_ofS_90 : decode cX4_ofS 90 = .ok (.iconst 0, 1) := by decide +kernel
theorem dX4_ofS_91 : decode cX4_ofS 91 = .ok (.ireturn, 1) := by decide +kernel
theorem dX4_isSIfSquaresAreTaken_0 : decode cX4_isSIfSquaresAreTaken 0 = .ok (.ldc2_w 107, 3) := by decide +kernel
theorem dX4_isSIfSquaresAreTaken_3 : decode cX4_isSIfSquaresAreTaken 3 = .ok (.aload_n 0, 1) := by decide +kernel
theorem dX4_isSIfSquaresAreTaken_4 : decode cX4_isSIfSquaresAreTaken 4 = .ok (.getfield 31, 3) := by decide +kernel
theorem dX4_isSIfSquaresAreTaken_7 : decode cX4_isSIfSquaresAreTaken 7 = .ok (.i2l, 1) := by decide +kernel
theorem dX4_isSIfSquaresAreTaken_8 : decode cX4_isSIfSquaresAreTaken 8 = .ok (.lmul, 1) := by decide +kernel
theorem dX4_isSIfSquaresAreTaken_9 : decode cX4_isSIfSquaresAreTaken 9 = .ok (.aload_n 0, 1) := by decide +kernel
theorem dX4_isSIfSquaresAreTaken_10 : decode cX4_isSIfSquaresAreTaken 10 = .ok (.getfield 37, 3) := by decide +kernel
theorem dX4_isSIfSquaresAreTaken_13 : decode cX4_isSIfSquaresAreTaken 13 = .ok (.i2l, 1) := by decide +kernel
theorem dX4_isSIfSquaresAreTaken_14 : decode cX4_isSIfSquaresAreTaken 14 = .ok (.lmul, 1) := by decide +kernel
theorem dX4_isSIfSquaresAreTaken_15 : decode cX4_isSIfSquaresAreTaken 15 = .ok (.lstore_n 1, 1) := by decide +kernel
theorem dX4_isSIfSquaresAreTaken_16 : decode cX4_isSIfSquaresAreTaken 16 = .ok (.aload_n 0, 1) := by decide +kernel
theorem dX4_isSIfSquaresAreTaken_17 : decode cX4_isSIfSquaresAreTaken 17 = .ok (.iconst 2, 1) := by decide +kernel
theorem dX4_isSIfSquaresAreTaken_18 : decode cX4_isSIfSquaresAreTaken 18 = .ok (.invokevirtual 109, 3) := by decide +kernel
theorem dX4_isSIfSquaresAreTaken_21 : decode cX4_isSIfSquaresAreTaken 21 = .ok (.invokestatic 113, 3) := by decide +kernel
theorem dX4_isSIfSquaresAreTaken_24 : decode cX4_isSIfSquaresAreTaken 24 = .ok (.lstore_n 3, 1) := by decide +kernel
theorem dX4_isSIfSquaresAreTaken_25 : decode cX4_isSIfSquaresAreTaken 25 = .ok (.aload_n 0, 1) := by decide +kernel
theorem dX4_isSIfSquaresAreTaken_26 : decode cX4_isSIfSquaresAreTaken 26 = .ok (.getfield 98, 3) := by decide +kernel
theorem dX4_isSIfSquaresAreTaken_29 : decode cX4_isSIfSquaresAreTaken 29 = .ok (.lload_n 3, 1) := by decide +kernel
theorem dX4_isSIfSquaresAreTaken_30 : decode cX4_isSIfSquaresAreTaken 30 = .ok (.lload_n 3, 1) := by decide +kernel
theorem dX4_isSIfSquaresAreTaken_31 : decode cX4_isSIfSquaresAreTaken 31 = .ok (.invokestatic 118, 3) := by decide +kernel
theorem dX4_isSIfSquaresAreTaken_34 : decode cX4_isSIfSquaresAreTaken 34 = .ok (.ladd, 1) := by decide +kernel
theorem dX4_isSIfSquaresAreTaken_35 : decode cX4_isSIfSquaresAreTaken 35 = .ok (.lstore 5, 2) := by decide +kernel
theorem dX4_isSIfSquaresAreTaken_37 : decode cX4_isSIfSquaresAreTaken 37 = .ok (.aload_n 0, 1) := by decide +kernel
theorem dX4_isSIfSquaresAreTaken_38 : decode cX4_isSIfSquaresAreTaken 38 = .ok (.getfield 94, 3) := by decide +kernel
theorem dX4_isSIfSquaresAreTaken_41 : decode cX4_isSIfSquaresAreTaken 41 = .ok (.lload_n 3, 1) := by decide +kernel
theorem dX4_isSIfSquaresAreTaken_42 : decode cX4_isSIfSquaresAreTaken 42 = .ok (.lload_n 3, 1) := by decide +kernel
theorem dX4_isSIfSquaresAreTaken_43 : decode cX4_isSIfSquaresAreTaken 43 = .ok (.invokestatic 122, 3) := by decide +kernel
theorem dX4_isSIfSquaresAreTaken_46 : decode cX4_isSIfSquaresAreTaken 46 = .ok (.ladd, 1) := by decide +kernel
theorem dX4_isSIfSquaresAreTaken_47 : decode cX4_isSIfSquaresAreTaken 47 = .ok (.lload 5, 2) := by decide +kernel
theorem dX4_isSIfSquaresAreTaken_49 : decode cX4_isSIfSquaresAreTaken 49 = .ok (.bipush 18, 2) := by decide +kernel
theorem dX4_isSIfSquaresAreTaken_51 : decode cX4_isSIfSquaresAreTaken 51 = .ok (.lshr, 1) := by decide +kernel
theorem dX4_isSIfSquaresAreTaken_52 : decode cX4_isSIfSquaresAreTaken 52 = .ok (.ladd, 1) := by decide +kernel
theorem dX4_isSIfSquaresAreTaken_53 : decode cX4_isSIfSquaresAreTaken 53 = .ok (.lstore 7, 2) := by decide +kernel
theorem dX4_isSIfSquaresAreTaken_55 : decode cX4_isSIfSquaresAreTaken 55 = .ok (.lload 7, 2) := by decide +kernel
theorem dX4_isSIfSquaresAreTaken_57 : decode cX4_isSIfSquaresAreTaken 57 = .ok (.lload_n 1, 1) := by decide +kernel
theorem dX4_isSIfSquaresAreTaken_58 : decode cX4_isSIfSquaresAreTaken 58 = .ok (.lload_n 1, 1) := by decide +kernel
theorem dX4_isSIfSquaresAreTaken_59 : decode cX4_isSIfSquaresAreTaken 59 = .ok (.invokestatic 122, 3) := by decide +kernel
theorem dX4_isSIfSquaresAreTaken_62 : decode cX4_isSIfSquaresAreTaken 62 = .ok (.lcmp, 1) := by decide +kernel
theorem dX4_isSIfSquaresAreTaken_63 : decode cX4_isSIfSquaresAreTaken 63 = .ok (.ifCond .ne 22, 3) := by decide +kernel
theorem dX4_isSIfSquaresAreTaken_66 : decode cX4_isSIfSquaresAreTaken 66 = .ok (.lload 5, 2) := by decide +kernel
theorem dX4_isSIfSquaresAreTaken_68 : decode cX4_isSIfSquaresAreTaken 68 = .ok (.ldc2_w 125, 3) := by decide +kernel
theorem dX4_isSIfSquaresAreTaken_71 : decode cX4_isSIfSquaresAreTaken 71 = .ok (.land, 1) := by decide +kernel
theorem dX4_isSIfSquaresAreTaken_72 : decode cX4_isSIfSquaresAreTaken 72 = .ok (.lload_n 1, 1) := by decide +kernel
theorem dX4_isSIfSquaresAreTaken_73 : decode cX4_isSIfSquaresAreTaken 73 = .ok (.lload_n 1, 1) := by decide +kernel
theorem dX4_isSIfSquaresAreTaken_74 : decode cX4_isSIfSquaresAreTaken 74 = .ok (.invokestatic 118, 3) := by decide +kernel
theorem dX4_isSIfSquaresAreTaken_77 : decode cX4_isSIfSquaresAreTaken 77 = .ok (.lcmp, 1) := by decide +kernel
theorem dX4_isSIfSquaresAreTaken_78 : decode cX4_isSIfSquaresAreTaken 78 = .ok (.ifCond .ne 7, 3) := by decide +kernel
theorem dX4_isSIfSquaresAreTaken_81 : decode cX4_isSIfSquaresAreTaken 81 = .ok (.iconst 1, 1) := by decide +kernel
theorem dX4_isSIfSquaresAreTaken_82 : decode cX4_isSIfSquaresAreTaken 82 = .ok (.goto 4, 3) := by decide +kernel
theorem dX4_isSIfSquaresAreTaken_85 : decode cX4_isSIfSquaresAreTaken 85 = .ok (.iconst 0, 1) := by decide +kernel
theorem dX4_isSIfSquaresAreTaken_86 : decode cX4_isSIfSquaresAreTaken 86 = .ok (.ireturn, 1) := by decide +kernel
theorem dX4_isSBelowSides_0 : decode cX4_isSBelowSides 0 = .ok (.aload_n 0, 1) := by decide +kernel
theorem dX4_isSBelowSides_1 : decode cX4_isSBelowSides 1 = .ok (.getfield 31, 3) := by decide +kernel
theorem dX4_isSBelowSides_4 : decode cX4_isSBelowSides 4 = .ok (.i2l, 1) := by decide +kernel
theorem dX4_isSBelowSides_5 : decode cX4_isSBelowSides 5 = .ok (.aload_n 0, 1) := by decide +kernel
theorem dX4_isSBelowSides_6 : decode cX4_isSBelowSides 6 = .ok (.getfield 37, 3) := by decide +kernel
theorem dX4_isSBelowSides_9 : decode cX4_isSBelowSides 9 = .ok (.i2l, 1) := by decide +kernel
theorem dX4_isSBelowSides_10 : decode cX4_isSBelowSides 10 = .ok (.lmul, 1) := by decide +kernel
theorem dX4_isSBelowSides_11 : decode cX4_isSBelowSides 11 = .ok (.aload_n 0, 1) := by decide +kernel
theorem dX4_isSBelowSides_12 : decode cX4_isSBelowSides 12 = .ok (.getfield 46, 3) := by decide +kernel
theorem dX4_isSBelowSides_15 : decode cX4_isSBelowSides 15 = .ok (.i2l, 1) := by decide +kernel
theorem dX4_isSBelowSides_16 : decode cX4_isSBelowSides 16 = .ok (.lmul, 1) := by decide +kernel
theorem dX4_isSBelowSides_17 : decode cX4_isSBelowSides 17 = .ok (.lstore_n 1, 1) := by decide +kernel
theorem dX4_isSBelowSides_18 : decode cX4_isSBelowSides 18 = .ok (.lload_n 1, 1) := by decide +kernel
theorem dX4_isSBelowSides_19 : decode cX4_isSBelowSides 19 = .ok (.aload_n 0, 1) := by decide +kernel
theorem dX4_isSBelowSides_20 : decode cX4_isSBelowSides 20 = .ok (.invokevirtual 87, 3) := by decide +kernel
theorem dX4_isSBelowSides_23 : decode cX4_isSBelowSides 23 = .ok (.i2l, 1) := by decide +kernel
theorem dX4_isSBelowSides_24 : decode cX4_isSBelowSides 24 = .ok (.invokestatic 122, 3) := by decide +kernel
theorem dX4_isSBelowSides_27 : decode cX4_isSBelowSides 27 = .ok (.lstore_n 3, 1) := by decide +kernel
theorem dX4_isSBelowSides_28 : decode cX4_isSBelowSides 28 = .ok (.lload_n 1, 1) := by decide +kernel
theorem dX4_isSBelowSides_29 : decode cX4_isSBelowSides 29 = .ok (.aload_n 0, 1) := by decide +kernel
theorem dX4_isSBelowSides_30 : decode cX4_isSBelowSides 30 = .ok (.invokevirtual 87, 3) := by decide +kernel
theorem dX4_isSBelowSides_33 : decode cX4_isSBelowSides 33 = .ok (.i2l, 1) := by decide +kernel
theorem dX4_isSBelowSides_34 : decode cX4_isSBelowSides 34 = .ok (.invokestatic 118, 3) := by decide +kernel
theorem dX4_isSBelowSides_37 : decode cX4_isSBelowSides 37 = .ok (.lstore 5, 2) := by decide +kernel
theorem dX4_isSBelowSides_39 : decode cX4_isSBelowSides 39 = .ok (.aload_n 0, 1) := by decide +kernel
theorem dX4_isSBelowSides_40 : decode cX4_isSBelowSides 40 = .ok (.getfield 94, 3) := by decide +kernel
theorem dX4_isSBelowSides_43 : decode cX4_isSBelowSides 43 = .ok (.lload_n 3, 1) := by decide +kernel
theorem dX4_isSBelowSides_44 : decode cX4_isSBelowSides 44 = .ok (.lcmp, 1) := by decide +kernel
theorem dX4_isSBelowSides_45 : decode cX4_isSBelowSides 45 = .ok (.ifCond .ne 17, 3) := by decide +kernel
theorem dX4_isSBelowSides_48 : decode cX4_isSBelowSides 48 = .ok (.aload_n 0, 1) := by decide +kernel
theorem dX4_isSBelowSides_49 : decode cX4_isSBelowSides 49 = .ok (.getfield 98, 3) := by decide +kernel
theorem dX4_isSBelowSides_52 : decode cX4_isSBelowSides 52 = .ok (.lload 5, 2) := by decide +kernel
theorem dX4_isSBelowSides_54 : decode cX4_isSBelowSides 54 = .ok (.lcmp, 1) := by decide +kernel
theorem dX4_isSBelowSides_55 : decode cX4_isSBelowSides 55 = .ok (.ifCond .ne 7, 3) := by decide +kernel
theorem dX4_isSBelowSides_58 : decode cX4_isSBelowSides 58 = .ok (.iconst 1, 1) := by decide +kernel
theorem dX4_isSBelowSides_59 : decode cX4_isSBelowSides 59 = .ok (.goto 4, 3) := by decide +kernel
theorem dX4_isSBelowSides_62 : decode cX4_isSBelowSides 62 = .ok (.iconst 0, 1) := by decide +kernel
theorem dX4_isSBelowSides_63 : decode cX4_isSBelowSides 63 = .ok (.istore 7, 2) := by decide +kernel
theorem dX4_isSBelowSides_65 : decode cX4_isSBelowSides 65 = .ok (.aload_n 0, 1) := by decide +kernel
theorem dX4_isSBelowSides_66 : decode cX4_isSBelowSides 66 = .ok (.getfield 94, 3) := by decide +kernel
theorem dX4_isSBelowSides_69 : decode cX4_isSBelowSides 69 = .ok (.lload_n 3, 1) := by decide +kernel
theorem dX4_isSBelowSides_70 : decode cX4_isSBelowSides 70 = .ok (.lcmp, 1) := by decide +kernel
theorem dX4_isSBelowSides_71 : decode cX4_isSBelowSides 71 = .ok (.ifCond .lt 22, 3) := by decide +kernel
theorem dX4_isSBelowSides_74 : decode cX4_isSBelowSides 74 = .ok (.aload_n 0, 1) := by decide +kernel
theorem dX4_isSBelowSides_75 : decode cX4_isSBelowSides 75 = .ok (.getfield 94, 3) := by decide +kernel
theorem dX4_isSBelowSides_78 : decode cX4_isSBelowSides 78 = .ok (.lload_n 3, 1) := by decide +kernel
theorem dX4_isSBelowSides_79 : decode cX4_isSBelowSides 79 = .ok (.lcmp, 1) := by decide +kernel
theorem dX4_isSBelowSides_80 : decode cX4_isSBelowSides 80 = .ok (.ifCond .ne 17, 3) := by decide +kernel
theorem dX4_isSBelowSides_83 : decode cX4_isSBelowSides 83 = .ok (.aload_n 0, 1) := by decide +kernel
theorem dX4_isSBelowSides_84 : decode cX4_isSBelowSides 84 = .ok (.getfield 98, 3) := by decide +kernel
theorem dX4_isSBelowSides_87 : decode cX4_isSBelowSides 87 = .ok (.lload 5, 2) := by decide +kernel
theorem dX4_isSBelowSides_89 : decode cX4_isSBelowSides 89 = .ok (.lcmp, 1) := by decide +kernel
theorem dX4_isSBelowSides_90 : decode cX4_isSBelowSides 90 = .ok (.ifCond .ge 7, 3) := by decide +kernel
theorem dX4_isSBelowSides_93 : decode cX4_isSBelowSides 93 = .ok (.iconst 1, 1) := by decide +kernel
theorem dX4_isSBelowSides_94 : decode cX4_isSBelowSides 94 = .ok (.goto 4, 3) := by decide +kernel
theorem dX4_isSBelowSides_97 : decode cX4_isSBelowSides 97 = .ok (.iconst 0, 1) := by decide +kernel
theorem dX4_isSBelowSides_98 : decode cX4_isSBelowSides 98 = .ok (.istore 8, 2) := by decide +kernel
theorem dX4_isSBelowSides_100 : decode cX4_isSBelowSides 100 = .ok (.aload_n 0, 1) := by decide +kernel
theorem dX4_isSBelowSides_101 : decode cX4_isSBelowSides 101 = .ok (.getfield 31, 3) := by decide +kernel
theorem dX4_isSBelowSides_104 : decode cX4_isSBelowSides 104 = .ok (.aload_n 0, 1) := by decide +kernel
theorem dX4_isSBelowSides_105 : decode cX4_isSBelowSides 105 = .ok (.getfield 46, 3) := by decide +kernel
theorem dX4_isSBelowSides_108 : decode cX4_isSBelowSides 108 = .ok (.if_icmp .ne 8, 3) := by decide +kernel
theorem dX4_isSBelowSides_111 : decode cX4_isSBelowSides 111 = .ok (.iload 7, 2) := by decide +kernel
theorem dX4_isSBelowSides_113 : decode cX4_isSBelowSides 113 = .ok (.goto 5, 3) := by decide +kernel
theorem dX4_isSBelowSides_116 : decode cX4_isSBelowSides 116 = .ok (.iload 8, 2) := by decide +kernel
theorem dX4_isSBelowSides_118 : decode cX4_isSBelowSides 118 = .ok (.ireturn, 1) := by decide +kernel
theorem dX4_ofRight_0 : decode cX4_ofRight 0 = .ok (.aload_n 0, 1) := by decide +kernel
theorem dX4_ofRight_1 : decode cX4_ofRight 1 = .ok (.getfield 31, 3) := by decide +kernel
theorem dX4_ofRight_4 : decode cX4_ofRight 4 = .ok (.aload_n 0, 1) := by decide +kernel
theorem dX4_ofRight_5 : decode cX4_ofRight 5 = .ok (.getfield 37, 3) := by decide +kernel
theorem dX4_ofRight_8 : decode cX4_ofRight 8 = .ok (.if_icmp .eq 25, 3) := by decide +kernel
theorem dX4_ofRight_11 : decode cX4_ofRight 11 = .ok (.aload_n 0, 1) := by decide +kernel
theorem dX4_ofRight_12 : decode cX4_ofRight 12 = .ok (.getfield 31, 3) := by decide +kernel
theorem dX4_ofRight_15 : decode cX4_ofRight 15 = .ok (.iconst 2, 1) := by decide +kernel
theorem dX4_ofRight_16 : decode cX4_ofRight 16 = .ok (.irem, 1) := by decide +kernel
theorem dX4_ofRight_17 : decode cX4_ofRight 17 = .ok (.ifCond .eq 12, 3) := by decide +kernel
theorem dX4_ofRight_20 : decode cX4_ofRight 20 = .ok (.aload_n 0, 1) := by decide +kernel
theorem dX4_ofRight_21 : decode cX4_ofRight 21 = .ok (.getfield 37, 3) := by decide +kernel
theorem dX4_ofRight_24 : decode cX4_ofRight 24 = .ok (.iconst 2, 1) := by decide +kernel
theorem dX4_ofRight_25 : decode cX4_ofRight 25 = .ok (.irem, 1) := by decide +kernel
theorem dX4_ofRight_26 : decode cX4_ofRight 26 = .ok (.ifCond .ne 7, 3) := by decide +kernel
theorem dX4_ofRight_29 : decode cX4_ofRight 29 = .ok (.iconst 1, 1) := by decide +kernel
theorem dX4_ofRight_30 : decode cX4_ofRight 30 = .ok (.goto 4, 3) := by decide +kernel
theorem dX4_ofRight_33 : decode cX4_ofRight 33 = .ok (.iconst 0, 1) := by decide +kernel
theorem dX4_ofRight_34 : decode cX4_ofRight 34 = .ok (.istore_n 1, 1) := by decide +kernel
theorem dX4_ofRight_35 : decode cX4_ofRight 35 = .ok (.aload_n 0, 1) := by decide +kernel
theorem dX4_ofRight_36 : decode cX4_ofRight 36 = .ok (.getfield 31, 3) := by decide +kernel
theorem dX4_ofRight_39 : decode cX4_ofRight 39 = .ok (.aload_n 0, 1) := by decide +kernel
theorem dX4_ofRight_40 : decode cX4_ofRight 40 = .ok (.getfield 37, 3) := by decide +kernel
theorem dX4_ofRight_43 : decode cX4_ofRight 43 = .ok (.iadd, 1) := by decide +kernel
theorem dX4_ofRight_44 : decode cX4_ofRight 44 = .ok (.aload_n 0, 1) := by decide +kernel
theorem dX4_ofRight_45 : decode cX4_ofRight 45 = .ok (.getfield 46, 3) := by decide +kernel
theorem dX4_ofRight_48 : decode cX4_ofRight 48 = .ok (.isub, 1) := by decide +kernel
theorem dX4_ofRight_49 : decode cX4_ofRight 49 = .ok (.istore_n 2, 1) := by decide +kernel
theorem dX4_ofRight_50 : decode cX4_ofRight 50 = .ok (.iload_n 1, 1) := by decide +kernel
theorem dX4_ofRight_51 : decode cX4_ofRight 51 = .ok (.ifCond .eq 47, 3) := by decide +kernel
theorem dX4_ofRight_54 : decode cX4_ofRight 54 = .ok (.aload_n 0, 1) := by decide +kernel
theorem dX4_ofRight_55 : decode cX4_ofRight 55 = .ok (.invokevirtual 83, 3) := by decide +kernel
theorem dX4_ofRight_58 : decode cX4_ofRight 58 = .ok (.lconst 0, 1) := by decide +kernel
theorem dX4_ofRight_59 : decode cX4_ofRight 59 = .ok (.lcmp, 1) := by decide +kernel
theorem dX4_ofRight_60 : decode cX4_ofRight 60 = .ok (.ifCond .le 38, 3) := by decide +kernel
theorem dX4_ofRight_63 : decode cX4_ofRight 63 = .ok (.iload_n 2, 1) := by decide +kernel
theorem dX4_ofRight_64 : decode cX4_ofRight 64 = .ok (.iconst 2, 1) := by decide +kernel
theorem dX4_ofRight_65 : decode cX4_ofRight 65 = .ok (.irem, 1) := by decide +kernel
theorem dX4_ofRight_66 : decode cX4_ofRight 66 = .ok (.ifCond .ne 32, 3) := by decide +kernel
theorem dX4_ofRight_69 : decode cX4_ofRight 69 = .ok (.aload_n 0, 1) := by decide +kernel
theorem dX4_ofRight_70 : decode cX4_ofRight 70 = .ok (.invokevirtual 127, 3) := by decide +kernel
theorem dX4_ofRight_73 : decode cX4_ofRight 73 = .ok (.iload_n 2, 1) := by decide +kernel
theorem dX4_ofRight_74 : decode cX4_ofRight 74 = .ok (.iconst 2, 1) := by decide +kernel
theorem dX4_ofRight_75 : decode cX4_ofRight 75 = .ok (.idiv, 1) := by decide +kernel
theorem dX4_ofRight_76 : decode cX4_ofRight 76 = .ok (.i2l, 1) := by decide +kernel
theorem dX4_ofRight_77 : decode cX4_ofRight 77 = .ok (.lcmp, 1) := by decide +kernel
theorem dX4_ofRight_78 : decode cX4_ofRight 78 = .ok (.ifCond .ne 20, 3) := by decide +kernel
theorem dX4_ofRight_81 : decode cX4_ofRight 81 = .ok (.aload_n 0, 1) := by decide +kernel
theorem dX4_ofRight_82 : decode cX4_ofRight 82 = .ok (.invokevirtual 130, 3) := by decide +kernel
theorem dX4_ofRight_85 : decode cX4_ofRight 85 = .ok (.aload_n 0, 1) := by decide +kernel
theorem dX4_ofRight_86 : decode cX4_ofRight 86 = .ok (.getfield 46, 3) := by decide +kernel
theorem dX4_ofRight_89 : decode cX4_ofRight 89 = .ok (.i2l, 1) := by decide +kernel
theorem dX4_ofRight_90 : decode cX4_ofRight 90 = .ok (.lcmp, 1) := by decide +kernel
theorem dX4_ofRight_91 : decode cX4_ofRight 91 = .ok (.ifCond .ne 7, 3) := by decide +kernel
theorem dX4_ofRight_94 : decode cX4_ofRight 94 = .ok (.iconst 1, 1) := by decide +kernel
theorem dX4_ofRight_95 : decode cX4_ofRight 95 = .ok (.goto 4, 3) := by decide +kernel
theorem dX4_ofRight_98 : decode cX4_ofRight 98 = .ok (.iconst 0, 1) := by decide +kernel
theorem dX4_ofRight_99 : decode cX4_ofRight 99 = .ok (.ireturn, 1) := by decide +kernel
theorem dX4_ofPrimitive_0 : decode cX4_ofPrimitive 0 = .ok (.iconst 0, 1) := by decide +kernel
theorem dX4_ofPrimitive_1 : decode cX4_ofPrimitive 1 = .ok (.istore_n 1, 1) := by decide +kernel
theorem dX4_ofPrimitive_2 : decode cX4_ofPrimitive 2 = .ok (.iconst 2, 1) := by decide +kernel
theorem dX4_ofPrimitive_3 : decode cX4_ofPrimitive 3 = .ok (.istore_n 2, 1) := by decide +kernel
theorem dX4_ofPrimitive_4 : decode cX4_ofPrimitive 4 = .ok (.iload_n 2, 1) := by decide +kernel
theorem dX4_ofPrimitive_5 : decode cX4_ofPrimitive 5 = .ok (.sipush 255, 3) := by decide +kernel
theorem dX4_ofPrimitive_8 : decode cX4_ofPrimitive 8 = .ok (.if_icmp .gt 25, 3) := by decide +kernel
theorem dX4_ofPrimitive_11 : decode cX4_ofPrimitive 11 = .ok (.iload_n 1, 1) := by decide +kernel
theorem dX4_ofPrimitive_12 : decode cX4_ofPrimitive 12 = .ok (.aload_n 0, 1) := by decide +kernel
theorem dX4_ofPrimitive_13 : decode cX4_ofPrimitive 13 = .ok (.iload_n 2, 1) := by decide +kernel
theorem dX4_ofPrimitive_14 : decode cX4_ofPrimitive 14 = .ok (.invokestatic 133, 3) := by decide +kernel
theorem dX4_ofPrimitive_17 : decode cX4_ofPrimitive 17 = .ok (.ifCond .eq 7, 3) := by decide +kernel
theorem dX4_ofPrimitive_20 : decode cX4_ofPrimitive 20 = .ok (.iconst 1, 1) := by decide +kernel
theorem dX4_ofPrimitive_21 : decode cX4_ofPrimitive 21 = .ok (.goto 4, 3) := by decide +kernel
theorem dX4_ofPrimitive_24 : decode cX4_ofPrimitive 24 = .ok (.iconst 0, 1) := by decide +kernel
theorem dX4_ofPrimitive_25 : decode cX4_ofPrimitive 25 = .ok (.iadd, 1) := by decide +kernel
theorem dX4_ofPrimitive_26 : decode cX4_ofPrimitive 26 = .ok (.istore_n 1, 1) := by decide +kernel
theorem dX4_ofPrimitive_27 : decode cX4_ofPrimitive 27 = .ok (.iinc 2 1, 3) := by decide +kernel
theorem dX4_ofPrimitive_30 : decode cX4_ofPrimitive 30 = .ok (.goto (-26), 3) := by decide +kernel
theorem dX4_ofPrimitive_33 : decode cX4_ofPrimitive 33 = .ok (.iload_n 1, 1) := by decide +kernel
theorem dX4_ofPrimitive_34 : decode cX4_ofPrimitive 34 = .ok (.iconst 1, 1) := by decide +kernel
theorem dX4_ofPrimitive_35 : decode cX4_ofPrimitive 35 = .ok (.if_icmp .ne 25, 3) := by decide +kernel
theorem dX4_ofPrimitive_38 : decode cX4_ofPrimitive 38 = .ok (.aload_n 0, 1) := by decide +kernel
theorem dX4_ofPrimitive_39 : decode cX4_ofPrimitive 39 = .ok (.invokevirtual 137, 3) := by decide +kernel
theorem dX4_ofPrimitive_42 : decode cX4_ofPrimitive 42 = .ok (.aload_n 0, 1) := by decide +kernel
theorem dX4_ofPrimitive_43 : decode cX4_ofPrimitive 43 = .ok (.invokevirtual 140, 3) := by decide +kernel
theorem dX4_ofPrimitive_46 : decode cX4_ofPrimitive 46 = .ok (.aload_n 0, 1) := by decide +kernel
theorem dX4_ofPrimitive_47 : decode cX4_ofPrimitive 47 = .ok (.getfield 46, 3) := by decide +kernel
theorem dX4_ofPrimitive_50 : decode cX4_ofPrimitive 50 = .ok (.invokestatic 143, 3) := by decide +kernel
theorem dX4_ofPrimitive_53 : decode cX4_ofPrimitive 53 = .ok (.ifCond .lt 7, 3) := by decide +kernel
theorem dX4_ofPrimitive_56 : decode cX4_ofPrimitive 56 = .ok (.iconst 1, 1) := by decide +kernel
theorem dX4_ofPrimitive_57 : decode cX4_ofPrimitive 57 = .ok (.goto 4, 3) := by decide +kernel
theorem dX4_ofPrimitive_60 : decode cX4_ofPrimitive 60 = .ok (.iconst 0, 1) := by decide +kernel
theorem dX4_ofPrimitive_61 : decode cX4_ofPrimitive 61 = .ok (.ireturn, 1) := by decide +kernel
theorem dX4_isByNumber_0 : decode cX4_isByNumber 0 = .ok (.aload_n 0, 1) := by decide +kernel
theorem dX4_isByNumber_1 : decode cX4_isByNumber 1 = .ok (.getfield 46, 3) := by decide +kernel
theorem dX4_isByNumber_4 : decode cX4_isByNumber 4 = .ok (.iload_n 1, 1) := by decide +kernel
theorem dX4_isByNumber_5 : decode cX4_isByNumber 5 = .ok (.iload_n 1, 1) := by decide +kernel
theorem dX4_isByNumber_6 : decode cX4_isByNumber 6 = .ok (.imul, 1) := by decide +kernel
theorem dX4_isByNumber_7 : decode cX4_isByNumber 7 = .ok (.isub, 1) := by decide +kernel
theorem dX4_isByNumber_8 : decode cX4_isByNumber 8 = .ok (.istore_n 2, 1) := by decide +kernel
theorem dX4_isByNumber_9 : decode cX4_isByNumber 9 = .ok (.iload_n 2, 1) := by decide +kernel
theorem dX4_isByNumber_10 : decode cX4_isByNumber 10 = .ok (.iconst 1, 1) := by decide +kernel
theorem dX4_isByNumber_11 : decode cX4_isByNumber 11 = .ok (.if_icmp .lt 11, 3) := by decide +kernel
theorem dX4_isByNumber_14 : decode cX4_isByNumber 14 = .ok (.iload_n 2, 1) := by decide +kernel
theorem dX4_isByNumber_15 : decode cX4_isByNumber 15 = .ok (.i2l, 1) := by decide +kernel
theorem dX4_isByNumber_16 : decode cX4_isByNumber 16 = .ok (.invokestatic 27, 3) := by decide +kernel
theorem dX4_isByNumber_19 : decode cX4_isByNumber 19 = .ok (.ifCond .ne 5, 3) := by decide +kernel
theorem dX4_isByNumber_22 : decode cX4_isByNumber 22 = .ok (.iconst 0, 1) := by decide +kernel
theorem dX4_isByNumber_23 : decode cX4_isByNumber 23 = .ok (.ireturn, 1) := by decide +kernel
theorem dX4_isByNumber_24 : decode cX4_isByNumber 24 = .ok (.iload_n 2, 1) := by decide +kernel
theorem dX4_isByNumber_25 : decode cX4_isByNumber 25 = .ok (.i2l, 1) := by decide +kernel
theorem dX4_isByNumber_26 : decode cX4_isByNumber 26 = .ok (.invokestatic 9, 3) := by decide +kernel
theorem dX4_isByNumber_29 : decode cX4_isByNumber 29 = .ok (.l2i, 1) := by decide +kernel
theorem dX4_isByNumber_30 : decode cX4_isByNumber 30 = .ok (.istore_n 3, 1) := by decide +kernel
theorem dX4_isByNumber_31 : decode cX4_isByNumber 31 = .ok (.iload_n 1, 1) := by decide +kernel
theorem dX4_isByNumber_32 : decode cX4_isByNumber 32 = .ok (.iload_n 3, 1) := by decide +kernel
theorem dX4_isByNumber_33 : decode cX4_isByNumber 33 = .ok (.if_icmp .le 52, 3) := by decide +kernel
theorem dX4_isByNumber_36 : decode cX4_isByNumber 36 = .ok (.iload_n 1, 1) := by decide +kernel
theorem dX4_isByNumber_37 : decode cX4_isByNumber 37 = .ok (.iload_n 3, 1) := by decide +kernel
theorem dX4_isByNumber_38 : decode cX4_isByNumber 38 = .ok (.iadd, 1) := by decide +kernel
theorem dX4_isByNumber_39 : decode cX4_isByNumber 39 = .ok (.iconst 2, 1) := by decide +kernel
theorem dX4_isByNumber_40 : decode cX4_isByNumber 40 = .ok (.irem, 1) := by decide +kernel
theorem dX4_isByNumber_41 : decode cX4_isByNumber 41 = .ok (.iconst 1, 1) := by decide +kernel
theorem dX4_isByNumber_42 : decode cX4_isByNumber 42 = .ok (.if_icmp .ne 43, 3) := by decide +kernel
theorem dX4_isByNumber_45 : decode cX4_isByNumber 45 = .ok (.iload_n 1, 1) := by decide +kernel
theorem dX4_isByNumber_46 : decode cX4_isByNumber 46 = .ok (.i2l, 1) := by decide +kernel
theorem dX4_isByNumber_47 : decode cX4_isByNumber 47 = .ok (.iload_n 3, 1) := by decide +kernel
theorem dX4_isByNumber_48 : decode cX4_isByNumber 48 = .ok (.i2l, 1) := by decide +kernel
theorem dX4_isByNumber_49 : decode cX4_isByNumber 49 = .ok (.invokestatic 149, 3) := by decide +kernel
theorem dX4_isByNumber_52 : decode cX4_isByNumber 52 = .ok (.lconst 1, 1) := by decide +kernel
theorem dX4_isByNumber_53 : decode cX4_isByNumber 53 = .ok (.lcmp, 1) := by decide +kernel
theorem dX4_isByNumber_54 : decode cX4_isByNumber 54 = .ok (.ifCond .ne 31, 3) := by decide +kernel
theorem dX4_isByNumber_57 : decode cX4_isByNumber 57 = .ok (.iload_n 1, 1) := by decide +kernel
theorem dX4_isByNumber_58 : decode cX4_isByNumber 58 = .ok (.iload_n 1, 1) := by decide +kernel
theorem dX4_isByNumber_59 : decode cX4_isByNumber 59 = .ok (.imul, 1) := by decide +kernel
theorem dX4_isByNumber_60 : decode cX4_isByNumber 60 = .ok (.iload_n 2, 1) := by decide +kernel
theorem dX4_isByNumber_61 : decode cX4_isByNumber 61 = .ok (.isub, 1) := by decide +kernel
theorem dX4_isByNumber_62 : decode cX4_isByNumber 62 = .ok (.aload_n 0, 1) := by decide +kernel
theorem dX4_isByNumber_63 : decode cX4_isByNumber 63 = .ok (.invokevirtual 137, 3) := by decide +kernel
theorem dX4_isByNumber_66 : decode cX4_isByNumber 66 = .ok (.if_icmp .ne 19, 3) := by decide +kernel
theorem dX4_isByNumber_69 : decode cX4_isByNumber 69 = .ok (.iconst 2, 1) := by decide +kernel
theorem dX4_isByNumber_70 : decode cX4_isByNumber 70 = .ok (.iload_n 1, 1) := by decide +kernel
theorem dX4_isByNumber_71 : decode cX4_isByNumber 71 = .ok (.imul, 1) := by decide +kernel
theorem dX4_isByNumber_72 : decode cX4_isByNumber 72 = .ok (.iload_n 3, 1) := by decide +kernel
theorem dX4_isByNumber_73 : decode cX4_isByNumber 73 = .ok (.imul, 1) := by decide +kernel
theorem dX4_isByNumber_74 : decode cX4_isByNumber 74 = .ok (.aload_n 0, 1) := by decide +kernel
theorem dX4_isByNumber_75 : decode cX4_isByNumber 75 = .ok (.invokevirtual 140, 3) := by decide +kernel
theorem dX4_isByNumber_78 : decode cX4_isByNumber 78 = .ok (.if_icmp .ne 7, 3) := by decide +kernel
theorem dX4_isByNumber_81 : decode cX4_isByNumber 81 = .ok (.iconst 1, 1) := by decide +kernel
theorem dX4_isByNumber_82 : decode cX4_isByNumber 82 = .ok (.goto 4, 3) := by decide +kernel
theorem dX4_isByNumber_85 : decode cX4_isByNumber 85 = .ok (.iconst 0, 1) := by decide +kernel
theorem dX4_isByNumber_86 : decode cX4_isByNumber 86 = .ok (.ireturn, 1) := by decide +kernel
theorem dX5_init_0 : decode cX5_init 0 = .ok (.aload_n 0, 1) := by decide +kernel
theorem dX5_init_1 : decode cX5_init 1 = .ok (.invokespecial 1, 3) := by decide +kernel
theorem dX5_init_4 : decode cX5_init 4 = .ok (.aload_n 0, 1) := by decide +kernel
theorem dX5_init_5 : decode cX5_init 5 = .ok (.iload_n 1, 1) := by decide +kernel
theorem dX5_init_6 : decode cX5_init 6 = .ok (.iload_n 2, 1) := by decide +kernel
theorem dX5_init_7 : decode cX5_init 7 = .ok (.iload_n 3, 1) := by decide +kernel
theorem dX5_init_8 : decode cX5_init 8 = .ok (.invokestatic 7, 3) := by decide +kernel
theorem dX5_init_11 : decode cX5_init 11 = .ok (.invokestatic 7, 3) := by decide +kernel
theorem dX5_init_14 : decode cX5_init 14 = .ok (.putfield 13, 3) := by decide +kernel
theorem dX5_init_17 : decode cX5_init 17 = .ok (.aload_n 0, 1) := by decide +kernel
theorem dX5_init_18 : decode cX5_init 18 = .ok (.iload_n 1, 1) := by decide +kernel
theorem dX5_init_19 : decode cX5_init 19 = .ok (.iload_n 2, 1) := by decide +kernel
theorem dX5_init_20 : decode cX5_init 20 = .ok (.iload_n 3, 1) := by decide +kernel
theorem dX5_init_21 : decode cX5_init 21 = .ok (.invokestatic 19, 3) := by decide +kernel
theorem dX5_init_24 : decode cX5_init 24 = .ok (.invokestatic 19, 3) := by decide +kernel
theorem dX5_init_27 : decode cX5_init 27 = .ok (.putfield 22, 3) := by decide +kernel
theorem dX5_init_30 : decode cX5_init 30 = .ok (.aload_n 0, 1) := by decide +kernel
theorem dX5_init_31 : decode cX5_init 31 = .ok (.iload_n 1, 1) := by decide +kernel
theorem dX5_init_32 : decode cX5_init 32 = .ok (.iload_n 2, 1) := by decide +kernel
theorem dX5_init_33 : decode cX5_init 33 = .ok (.iadd, 1) := by decide +kernel
theorem dX5_init_34 : decode cX5_init 34 = .ok (.iload_n 3, 1) := by decide +kernel
theorem dX5_init_35 : decode cX5_init 35 = .ok (.iadd, 1) := by decide +kernel
theorem dX5_init_36 : decode cX5_init 36 = .ok (.aload_n 0, 1) := by decide +kernel
theorem dX5_init_37 : decode cX5_init 37 = .ok (.getfield 13, 3) := by decide +kernel
theorem dX5_init_40 : decode cX5_init 40 = .ok (.isub, 1) := by decide +kernel
theorem dX5_init_41 : decode cX5_init 41 = .ok (.aload_n 0, 1) := by decide +kernel
theorem dX5_init_42 : decode cX5_init 42 = .ok (.getfield 22, 3) := by decide +kernel
theorem dX5_init_45 : decode cX5_init 45 = .ok (.isub, 1) := by decide +kernel
theorem dX5_init_46 : decode cX5_init 46 = .ok (.putfield 25, 3) := by decide +kernel
theorem dX5_init_49 : decode cX5_init 49 = .ok (.aload_n 0, 1) := by decide +kernel
theorem dX5_init_50 : decode cX5_init 50 = .ok (.getfield 13, 3) := by decide +kernel
theorem dX5_init_53 : decode cX5_init 53 = .ok (.i2l, 1) := by decide +kernel
theorem dX5_init_54 : decode cX5_init 54 = .ok (.aload_n 0, 1) := by decide +kernel
theorem dX5_init_55 : decode cX5_init 55 = .ok (.getfield 25, 3) := by decide +kernel
theorem dX5_init_58 : decode cX5_init 58 = .ok (.i2l, 1) := by decide +kernel
theorem dX5_init_59 : decode cX5_init 59 = .ok (.aload_n 0, 1) := by decide +kernel
theorem dX5_init_60 : decode cX5_init 60 = .ok (.getfield 22, 3) := by decide +kernel
theorem dX5_init_63 : decode cX5_init 63 = .ok (.i2l, 1) := by decide +kernel
theorem dX5_init_64 : decode cX5_init 64 = .ok (.invokestatic 28, 3) := by decide +kernel
theorem dX5_init_67 : decode cX5_init 67 = .ok (.lstore 4, 2) := by decide +kernel
theorem dX5_init_69 : decode cX5_init 69 = .ok (.aload_n 0, 1) := by decide +kernel
theorem dX5_init_70 : decode cX5_init 70 = .ok (.getfield 13, 3) := by decide +kernel
theorem dX5_init_73 : decode cX5_init 73 = .ok (.i2l, 1) := by decide +kernel
theorem dX5_init_74 : decode cX5_init 74 = .ok (.aload_n 0, 1) := by decide +kernel
theorem dX5_init_75 : decode cX5_init 75 = .ok (.getfield 25, 3) := by decide +kernel
theorem dX5_init_78 : decode cX5_init 78 = .ok (.i2l, 1) := by decide +kernel
theorem dX5_init_79 : decode cX5_init 79 = .ok (.aload_n 0, 1) := by decide +kernel
theorem dX5_init_80 : decode cX5_init 80 = .ok (.getfield 22, 3) := by decide +kernel
theorem dX5_init_83 : decode cX5_init 83 = .ok (.i2l, 1) := by decide +kernel
theorem dX5_init_84 : decode cX5_init 84 = .ok (.invokestatic 32, 3) := by decide +kernel
theorem dX5_init_87 : decode cX5_init 87 = .ok (.lstore 6, 2) := by decide +kernel
theorem dX5_init_89 : decode cX5_init 89 = .ok (.aload_n 0, 1) := by decide +kernel
theorem dX5_init_90 : decode cX5_init 90 = .ok (.lload 4, 2) := by decide +kernel
theorem dX5_init_92 : decode cX5_init 92 = .ok (.lload 6, 2) := by decide +kernel
theorem dX5_init_94 : decode cX5_init 94 = .ok (.invokestatic 35, 3) := by decide +kernel
theorem dX5_init_97 : decode cX5_init 97 = .ok (.putfield 41, 3) := by decide +kernel
theorem dX5_init_100 : decode cX5_init 100 = .ok (.aload_n 0, 1) := by decide +kernel
theorem dX5_init_101 : decode cX5_init 101 = .ok (.lload 4, 2) := by decide +kernel
theorem dX5_init_103 : decode cX5_init 103 = .ok (.lload 6, 2) := by decide +kernel
theorem dX5_init_105 : decode cX5_init 105 = .ok (.invokestatic 45, 3) := by decide +kernel
theorem dX5_init_108 : decode cX5_init 108 = .ok (.putfield 48, 3) := by decide +kernel
theorem dX5_init_111 : decode cX5_init 111 = .ok (.return_, 1) := by decide +kernel
theorem dX5_outerFactor_0 : decode cX5_outerFactor 0 = .ok (.lload_n 0, 1) := by decide +kernel
theorem dX5_outerFactor_1 : decode cX5_outerFactor 1 = .ok (.lload_n 2, 1) := by decide +kernel
theorem dX5_outerFactor_2 : decode cX5_outerFactor 2 = .ok (.ladd, 1) := by decide +kernel
theorem dX5_outerFactor_3 : decode cX5_outerFactor 3 = .ok (.lload 4, 2) := by decide +kernel
theorem dX5_outerFactor_5 : decode cX5_outerFactor 5 = .ok (.ladd, 1) := by decide +kernel
theorem dX5_outerFactor_6 : decode cX5_outerFactor 6 = .ok (.lload_n 0, 1) := by decide +kernel
theorem dX5_outerFactor_7 : decode cX5_outerFactor 7 = .ok (.lload_n 2, 1) := by decide +kernel
theorem dX5_outerFactor_8 : decode cX5_outerFactor 8 = .ok (.ladd, 1) := by decide +kernel
theorem dX5_outerFactor_9 : decode cX5_outerFactor 9 = .ok (.lload 4, 2) := by decide +kernel
theorem dX5_outerFactor_11 : decode cX5_outerFactor 11 = .ok (.lsub, 1) := by decide +kernel
theorem dX5_outerFactor_12 : decode cX5_outerFactor 12 = .ok (.lmul, 1) := by decide +kernel
theorem dX5_outerFactor_13 : decode cX5_outerFactor 13 = .ok (.lreturn, 1) := by decide +kernel
theorem dX5_innerFactor_0 : decode cX5_innerFactor 0 = .ok (.lload_n 2, 1) := by decide +kernel
theorem dX5_innerFactor_1 : decode cX5_innerFactor 1 = .ok (.lload 4, 2) := by decide +kernel
theorem dX5_innerFactor_3 : decode cX5_innerFactor 3 = .ok (.ladd, 1) := by decide +kernel
theorem dX5_innerFactor_4 : decode cX5_innerFactor 4 = .ok (.lload_n 0, 1) := by decide +kernel
theorem dX5_innerFactor_5 : decode cX5_innerFactor 5 = .ok (.lsub, 1) := by decide +kernel
theorem dX5_innerFactor_6 : decode cX5_innerFactor 6 = .ok (.lload_n 0, 1) := by decide +kernel
theorem dX5_innerFactor_7 : decode cX5_innerFactor 7 = .ok (.lload 4, 2) := by decide +kernel
theorem dX5_innerFactor_9 : decode cX5_innerFactor 9 = .ok (.ladd, 1) := by decide +kernel
theorem dX5_innerFactor_10 : decode cX5_innerFactor 10 = .ok (.lload_n 2, 1) := by decide +kernel
theorem dX5_innerFactor_11 : decode cX5_innerFactor 11 = .ok (.lsub, 1) := by decide +kernel
theorem dX5_innerFactor_12 : decode cX5_innerFactor 12 = .ok (.lmul, 1) := by decide +kernel
theorem dX5_innerFactor_13 : decode cX5_innerFactor 13 = .ok (.lreturn, 1) := by decide +kernel
theorem dX5_length_0 : decode cX5_length 0 = .ok (.iload_n 1, 1) := by decide +kernel
theorem dX5_length_1 : decode cX5_length 1 = .ok (.ifCond .ne 8, 3) := by decide +kernel
theorem dX5_length_4 : decode cX5_length 4 = .ok (.aload_n 0, 1) := by decide +kernel
theorem dX5_length_5 : decode cX5_length 5 = .ok (.getfield 13, 3) := by decide +kernel
theorem dX5_length_8 : decode cX5_length 8 = .ok (.ireturn, 1) := by decide +kernel
theorem dX5_length_9 : decode cX5_length 9 = .ok (.iload_n 1, 1) := by decide +kernel
theorem dX5_length_10 : decode cX5_length 10 = .ok (.iconst 1, 1) := by decide +kernel
theorem dX5_length_11 : decode cX5_length 11 = .ok (.if_icmp .ne 10, 3) := by decide +kernel
theorem dX5_length_14 : decode cX5_length 14 = .ok (.aload_n 0, 1) := by decide +kernel
theorem dX5_length_15 : decode cX5_length 15 = .ok (.getfield 25, 3) := by decide +kernel
theorem dX5_length_18 : decode cX5_length 18 = .ok (.goto 7, 3) := by decide +kernel
theorem dX5_length_21 : decode cX5_length 21 = .ok (.aload_n 0, 1) := by decide +kernel
theorem dX5_length_22 : decode cX5_length 22 = .ok (.getfield 22, 3) := by decide +kernel
theorem dX5_length_25 : decode cX5_length 25 = .ok (.ireturn, 1) := by decide +kernel
theorem dX5_around_0 : decode cX5_around 0 = .ok (.aload_n 0, 1) := by decide +kernel
theorem dX5_around_1 : decode cX5_around 1 = .ok (.getfield 13, 3) := by decide +kernel
theorem dX5_around_4 : decode cX5_around 4 = .ok (.aload_n 0, 1) := by decide +kernel
theorem dX5_around_5 : decode cX5_around 5 = .ok (.getfield 25, 3) := by decide +kernel
theorem dX5_around_8 : decode cX5_around 8 = .ok (.iadd, 1) := by decide +kernel
theorem dX5_around_9 : decode cX5_around 9 = .ok (.aload_n 0, 1) := by decide +kernel
theorem dX5_around_10 : decode cX5_around 10 = .ok (.getfield 22, 3) := by decide +kernel
theorem dX5_around_13 : decode cX5_around 13 = .ok (.iadd, 1) := by decide +kernel
theorem dX5_around_14 : decode cX5_around 14 = .ok (.ireturn, 1) := by decide +kernel
theorem dX5_commonDivisor_0 : decode cX5_commonDivisor 0 = .ok (.aload_n 0, 1) := by decide +kernel
theorem dX5_commonDivisor_1 : decode cX5_commonDivisor 1 = .ok (.getfield 13, 3) := by decide +kernel
theorem dX5_commonDivisor_4 : decode cX5_commonDivisor 4 = .ok (.i2l, 1) := by decide +kernel
theorem dX5_commonDivisor_5 : decode cX5_commonDivisor 5 = .ok (.aload_n 0, 1) := by decide +kernel
theorem dX5_commonDivisor_6 : decode cX5_commonDivisor 6 = .ok (.getfield 25, 3) := by decide +kernel
theorem dX5_commonDivisor_9 : decode cX5_commonDivisor 9 = .ok (.i2l, 1) := by decide +kernel
theorem dX5_commonDivisor_10 : decode cX5_commonDivisor 10 = .ok (.invokestatic 51, 3) := by decide +kernel
theorem dX5_commonDivisor_13 : decode cX5_commonDivisor 13 = .ok (.aload_n 0, 1) := by decide +kernel
theorem dX5_commonDivisor_14 : decode cX5_commonDivisor 14 = .ok (.getfield 22, 3) := by decide +kernel
theorem dX5_commonDivisor_17 : decode cX5_commonDivisor 17 = .ok (.i2l, 1) := by decide +kernel
theorem dX5_commonDivisor_18 : decode cX5_commonDivisor 18 = .ok (.invokestatic 51, 3) := by decide +kernel
theorem dX5_commonDivisor_21 : decode cX5_commonDivisor 21 = .ok (.l2i, 1) := by decide +kernel
theorem dX5_commonDivisor_22 : decode cX5_commonDivisor 22 = .ok (.ireturn, 1) := by decide +kernel
theorem dX5_code_0 : decode cX5_code 0 = .ok (.ldc2_w 54, 3) := by decide +kernel
theorem dX5_code_3 : decode cX5_code 3 = .ok (.aload_n 0, 1) := by decide +kernel
theorem dX5_code_4 : decode cX5_code 4 = .ok (.getfield 13, 3) := by decide +kernel
theorem dX5_code_7 : decode cX5_code 7 = .ok (.i2l, 1) := by decide +kernel
theorem dX5_code_8 : decode cX5_code 8 = .ok (.lmul, 1) := by decide +kernel
theorem dX5_code_9 : decode cX5_code 9 = .ok (.ldc2_w 56, 3) := by decide +kernel
theorem dX5_code_12 : decode cX5_code 12 = .ok (.aload_n 0, 1) := by decide +kernel
theorem dX5_code_13 : decode cX5_code 13 = .ok (.getfield 25, 3) := by decide +kernel
theorem dX5_code_16 : decode cX5_code 16 = .ok (.i2l, 1) := by decide +kernel
theorem dX5_code_17 : decode cX5_code 17 = .ok (.lmul, 1) := by decide +kernel
theorem dX5_code_18 : decode cX5_code 18 = .ok (.ladd, 1) := by decide +kernel
theorem dX5_code_19 : decode cX5_code 19 = .ok (.aload_n 0, 1) := by decide +kernel
theorem dX5_code_20 : decode cX5_code 20 = .ok (.getfield 22, 3) := by decide +kernel
theorem dX5_code_23 : decode cX5_code 23 = .ok (.i2l, 1) := by decide +kernel
theorem dX5_code_24 : decode cX5_code 24 = .ok (.ladd, 1) := by decide +kernel
theorem dX5_code_25 : decode cX5_code 25 = .ok (.lreturn, 1) := by decide +kernel
theorem dX5_squaresBeside_0 : decode cX5_squaresBeside 0 = .ok (.aload_n 0, 1) := by decide +kernel
theorem dX5_squaresBeside_1 : decode cX5_squaresBeside 1 = .ok (.iload_n 1, 1) := by decide +kernel
theorem dX5_squaresBeside_2 : decode cX5_squaresBeside 2 = .ok (.invokevirtual 58, 3) := by decide +kernel
theorem dX5_squaresBeside_5 : decode cX5_squaresBeside 5 = .ok (.i2l, 1) := by decide +kernel
theorem dX5_squaresBeside_6 : decode cX5_squaresBeside 6 = .ok (.lstore_n 2, 1) := by decide +kernel
theorem dX5_squaresBeside_7 : decode cX5_squaresBeside 7 = .ok (.aload_n 0, 1) := by decide +kernel
theorem dX5_squaresBeside_8 : decode cX5_squaresBeside 8 = .ok (.getfield 13, 3) := by decide +kernel
theorem dX5_squaresBeside_11 : decode cX5_squaresBeside 11 = .ok (.i2l, 1) := by decide +kernel
theorem dX5_squaresBeside_12 : decode cX5_squaresBeside 12 = .ok (.aload_n 0, 1) := by decide +kernel
theorem dX5_squaresBeside_13 : decode cX5_squaresBeside 13 = .ok (.getfield 13, 3) := by decide +kernel
theorem dX5_squaresBeside_16 : decode cX5_squaresBeside 16 = .ok (.i2l, 1) := by decide +kernel
theorem dX5_squaresBeside_17 : decode cX5_squaresBeside 17 = .ok (.lmul, 1) := by decide +kernel
theorem dX5_squaresBeside_18 : decode cX5_squaresBeside 18 = .ok (.aload_n 0, 1) := by decide +kernel
theorem dX5_squaresBeside_19 : decode cX5_squaresBeside 19 = .ok (.getfield 25, 3) := by decide +kernel
theorem dX5_squaresBeside_22 : decode cX5_squaresBeside 22 = .ok (.i2l, 1) := by decide +kernel
theorem dX5_squaresBeside_23 : decode cX5_squaresBeside 23 = .ok (.aload_n 0, 1) := by decide +kernel
theorem dX5_squaresBeside_24 : decode cX5_squaresBeside 24 = .ok (.getfield 25, 3) := by decide +kernel
theorem dX5_squaresBeside_27 : decode cX5_squaresBeside 27 = .ok (.i2l, 1) := by decide +kernel
theorem dX5_squaresBeside_28 : decode cX5_squaresBeside 28 = .ok (.lmul, 1) := by decide +kernel
theorem dX5_squaresBeside_29 : decode cX5_squaresBeside 29 = .ok (.ladd, 1) := by decide +kernel
theorem dX5_squaresBeside_30 : decode cX5_squaresBeside 30 = .ok (.aload_n 0, 1) := by decide +kernel
theorem dX5_squaresBeside_31 : decode cX5_squaresBeside 31 = .ok (.getfield 22, 3) := by decide +kernel
theorem dX5_squaresBeside_34 : decode cX5_squaresBeside 34 = .ok (.i2l, 1) := by decide +kernel
theorem dX5_squaresBeside_35 : decode cX5_squaresBeside 35 = .ok (.aload_n 0, 1) := by decide +kernel
theorem dX5_squaresBeside_36 : decode cX5_squaresBeside 36 = .ok (.getfield 22, 3) := by decide +kernel
theorem dX5_squaresBeside_39 : decode cX5_squaresBeside 39 = .ok (.i2l, 1) := by decide +kernel
theorem dX5_squaresBeside_40 : decode cX5_squaresBeside 40 = .ok (.lmul, 1) := by decide +kernel
theorem dX5_squaresBeside_41 : decode cX5_squaresBeside 41 = .ok (.ladd, 1) := by decide +kernel
theorem dX5_squaresBeside_42 : decode cX5_squaresBeside 42 = .ok (.ldc2_w 62, 3) := by decide +kernel
theorem dX5_squaresBeside_45 : decode cX5_squaresBeside 45 = .ok (.lload_n 2, 1) := by decide +kernel
theorem dX5_squaresBeside_46 : decode cX5_squaresBeside 46 = .ok (.lmul, 1) := by decide +kernel
theorem dX5_squaresBeside_47 : decode cX5_squaresBeside 47 = .ok (.lload_n 2, 1) := by decide +kernel
theorem dX5_squaresBeside_48 : decode cX5_squaresBeside 48 = .ok (.lmul, 1) := by decide +kernel
theorem dX5_squaresBeside_49 : decode cX5_squaresBeside 49 = .ok (.lsub, 1) := by decide +kernel
theorem dX5_squaresBeside_50 : decode cX5_squaresBeside 50 = .ok (.lreturn, 1) := by decide +kernel
theorem dX5_sharpness_0 : decode cX5_sharpness 0 = .ok (.aload_n 0, 1) := by decide +kernel
theorem dX5_sharpness_1 : decode cX5_sharpness 1 = .ok (.iconst 2, 1) := by decide +kernel
theorem dX5_sharpness_2 : decode cX5_sharpness 2 = .ok (.invokevirtual 64, 3) := by decide +kernel
theorem dX5_sharpness_5 : decode cX5_sharpness 5 = .ok (.lconst 0, 1) := by decide +kernel
theorem dX5_sharpness_6 : decode cX5_sharpness 6 = .ok (.invokestatic 68, 3) := by decide +kernel
theorem dX5_sharpness_9 : decode cX5_sharpness 9 = .ok (.ireturn, 1) := by decide +kernel
theorem dX5_degreesOpposite_0 : decode cX5_degreesOpposite 0 = .ok (.aload_n 0, 1) := by decide +kernel
theorem dX5_degreesOpposite_1 : decode cX5_degreesOpposite 1 = .ok (.iload_n 1, 1) := by decide +kernel
theorem dX5_degreesOpposite_2 : decode cX5_degreesOpposite 2 = .ok (.invokevirtual 64, 3) := by decide +kernel
theorem dX5_degreesOpposite_5 : decode cX5_degreesOpposite 5 = .ok (.lstore_n 2, 1) := by decide +kernel
theorem dX5_degreesOpposite_6 : decode cX5_degreesOpposite 6 = .ok (.aload_n 0, 1) := by decide +kernel
theorem dX5_degreesOpposite_7 : decode cX5_degreesOpposite 7 = .ok (.iload_n 1, 1) := by decide +kernel
theorem dX5_degreesOpposite_8 : decode cX5_degreesOpposite 8 = .ok (.ifCond .ne 7, 3) := by decide +kernel
theorem dX5_degreesOpposite_11 : decode cX5_degreesOpposite 11 = .ok (.iconst 1, 1) := by decide +kernel
theorem dX5_degreesOpposite_12 : decode cX5_degreesOpposite 12 = .ok (.goto 4, 3) := by decide +kernel
theorem dX5_degreesOpposite_15 : decode cX5_degreesOpposite 15 = .ok (.iconst 0, 1) := by decide +kernel
theorem dX5_degreesOpposite_16 : decode cX5_degreesOpposite 16 = .ok (.invokevirtual 58, 3) := by decide +kernel
theorem dX5_degreesOpposite_19 : decode cX5_degreesOpposite 19 = .ok (.i2l, 1) := by decide +kernel
theorem dX5_degreesOpposite_20 : decode cX5_degreesOpposite 20 = .ok (.aload_n 0, 1) := by decide +kernel
theorem dX5_degreesOpposite_21 : decode cX5_degreesOpposite 21 = .ok (.iload_n 1, 1) := by decide +kernel
theorem dX5_degreesOpposite_22 : decode cX5_degreesOpposite 22 = .ok (.iconst 2, 1) := by decide +kernel
theorem dX5_degreesOpposite_23 : decode cX5_degreesOpposite 23 = .ok (.if_icmp .ne 7, 3) := by decide +kernel
theorem dX5_degreesOpposite_26 : decode cX5_degreesOpposite 26 = .ok (.iconst 1, 1) := by decide +kernel
theorem dX5_degreesOpposite_27 : decode cX5_degreesOpposite 27 = .ok (.goto 4, 3) := by decide +kernel
theorem dX5_degreesOpposite_30 : decode cX5_degreesOpposite 30 = .ok (.iconst 2, 1) := by decide +kernel
theorem dX5_degreesOpposite_31 : decode cX5_degreesOpposite 31 = .ok (.invokevirtual 58, 3) := by decide +kernel
theorem dX5_degreesOpposite_34 : decode cX5_degreesOpposite 34 = .ok (.i2l, 1) := by decide +kernel
theorem dX5_degreesOpposite_35 : decode cX5_degreesOpposite 35 = .ok (.lmul, 1) := by decide +kernel
theorem dX5_degreesOpposite_36 : decode cX5_degreesOpposite 36 = .ok (.lstore 4, 2) := by decide +kernel
theorem dX5_degreesOpposite_38 : decode cX5_degreesOpposite 38 = .ok (.lload_n 2, 1) := by decide +kernel
theorem dX5_degreesOpposite_39 : decode cX5_degreesOpposite 39 = .ok (.lconst 0, 1) := by decide +kernel
theorem dX5_degreesOpposite_40 : decode cX5_degreesOpposite 40 = .ok (.lcmp, 1) := by decide +kernel
theorem dX5_degreesOpposite_41 : decode cX5_degreesOpposite 41 = .ok (.ifCond .ne 6, 3) := by decide +kernel
theorem dX5_degreesOpposite_44 : decode cX5_degreesOpposite 44 = .ok (.bipush 90, 2) := by decide +kernel
theorem dX5_degreesOpposite_46 : decode cX5_degreesOpposite 46 = .ok (.ireturn, 1) := by decide +kernel
theorem dX5_degreesOpposite_47 : decode cX5_degreesOpposite 47 = .ok (.lload_n 2, 1) := by decide +kernel
theorem dX5_degreesOpposite_48 : decode cX5_degreesOpposite 48 = .ok (.lload 4, 2) := by decide +kernel
theorem dX5_degreesOpposite_50 : decode cX5_degreesOpposite 50 = .ok (.lcmp, 1) := by decide +kernel
theorem dX5_degreesOpposite_51 : decode cX5_degreesOpposite 51 = .ok (.ifCond .ne 6, 3) := by decide +kernel
theorem dX5_degreesOpposite_54 : decode cX5_degreesOpposite 54 = .ok (.bipush 60, 2) := by decide +kernel
theorem dX5_degreesOpposite_56 : decode cX5_degreesOpposite 56 = .ok (.ireturn, 1) := by decide +kernel
theorem dX5_degreesOpposite_57 : decode cX5_degreesOpposite 57 = .ok (.lload_n 2, 1) := by decide +kernel
theorem dX5_degreesOpposite_58 : decode cX5_degreesOpposite 58 = .ok (.lload 4, 2) := by decide +kernel
theorem dX5_degreesOpposite_60 : decode cX5_degreesOpposite 60 = .ok (.lneg, 1) := by decide +kernel
theorem dX5_degreesOpposite_61 : decode cX5_degreesOpposite 61 = .ok (.lcmp, 1) := by decide +kernel
theorem dX5_degreesOpposite_62 : decode cX5_degreesOpposite 62 = .ok (.ifCond .ne 8, 3) := by decide +kernel
theorem dX5_degreesOpposite_65 : decode cX5_degreesOpposite 65 = .ok (.bipush 120, 2) := by decide +kernel
theorem dX5_degreesOpposite_67 : decode cX5_degreesOpposite 67 = .ok (.goto 4, 3) := by decide +kernel
theorem dX5_degreesOpposite_70 : decode cX5_degreesOpposite 70 = .ok (.iconst 0, 1) := by decide +kernel
theorem dX5_degreesOpposite_71 : decode cX5_degreesOpposite 71 = .ok (.ireturn, 1) := by decide +kernel
theorem dX5_hasLeg_0 : decode cX5_hasLeg 0 = .ok (.aload_n 0, 1) := by decide +kernel
theorem dX5_hasLeg_1 : decode cX5_hasLeg 1 = .ok (.getfield 13, 3) := by decide +kernel
theorem dX5_hasLeg_4 : decode cX5_hasLeg 4 = .ok (.iload_n 1, 1) := by decide +kernel
theorem dX5_hasLeg_5 : decode cX5_hasLeg 5 = .ok (.if_icmp .eq 11, 3) := by decide +kernel
theorem dX5_hasLeg_8 : decode cX5_hasLeg 8 = .ok (.aload_n 0, 1) := by decide +kernel
theorem dX5_hasLeg_9 : decode cX5_hasLeg 9 = .ok (.getfield 25, 3) := by decide +kernel
theorem dX5_hasLeg_12 : decode cX5_hasLeg 12 = .ok (.iload_n 1, 1) := by decide +kernel
theorem dX5_hasLeg_13 : decode cX5_hasLeg 13 = .ok (.if_icmp .ne 7, 3) := by decide +kernel
theorem dX5_hasLeg_16 : decode cX5_hasLeg 16 = .ok (.iconst 1, 1) := by decide +kernel
theorem dX5_hasLeg_17 : decode cX5_hasLeg 17 = .ok (.goto 4, 3) := by decide +kernel
theorem dX5_hasLeg_20 : decode cX5_hasLeg 20 = .ok (.iconst 0, 1) := by decide +kernel
theorem dX5_hasLeg_21 : decode cX5_hasLeg 21 = .ok (.ireturn, 1) := by decide +kernel
theorem dX5_otherLeg_0 : decode cX5_otherLeg 0 = .ok (.aload_n 0, 1) := by decide +kernel
theorem dX5_otherLeg_1 : decode cX5_otherLeg 1 = .ok (.getfield 13, 3) := by decide +kernel
theorem dX5_otherLeg_4 : decode cX5_otherLeg 4 = .ok (.iload_n 1, 1) := by decide +kernel
theorem dX5_otherLeg_5 : decode cX5_otherLeg 5 = .ok (.if_icmp .ne 10, 3) := by decide +kernel
theorem dX5_otherLeg_8 : decode cX5_otherLeg 8 = .ok (.aload_n 0, 1) := by decide +kernel
theorem dX5_otherLeg_9 : decode cX5_otherLeg 9 = .ok (.getfield 25, 3) := by decide +kernel
theorem dX5_otherLeg_12 : decode cX5_otherLeg 12 = .ok (.goto 7, 3) := by decide +kernel
theorem dX5_otherLeg_15 : decode cX5_otherLeg 15 = .ok (.aload_n 0, 1) := by decide +kernel
theorem dX5_otherLeg_16 : decode cX5_otherLeg 16 = .ok (.getfield 13, 3) := by decide +kernel
theorem dX5_otherLeg_19 : decode cX5_otherLeg 19 = .ok (.ireturn, 1) := by decide +kernel
theorem dX5_isPrimitive_0 : decode cX5_isPrimitive 0 = .ok (.aload_n 0, 1) := by decide +kernel
theorem dX5_isPrimitive_1 : decode cX5_isPrimitive 1 = .ok (.invokevirtual 74, 3) := by decide +kernel
theorem dX5_isPrimitive_4 : decode cX5_isPrimitive 4 = .ok (.ifCond .ne 15, 3) := by decide +kernel
theorem dX5_isPrimitive_7 : decode cX5_isPrimitive 7 = .ok (.aload_n 0, 1) := by decide +kernel
theorem dX5_isPrimitive_8 : decode cX5_isPrimitive 8 = .ok (.invokevirtual 78, 3) := by decide +kernel
theorem dX5_isPrimitive_11 : decode cX5_isPrimitive 11 = .ok (.iconst 1, 1) := by decide +kernel
theorem dX5_isPrimitive_12 : decode cX5_isPrimitive 12 = .ok (.if_icmp .ne 7, 3) := by decide +kernel
theorem dX5_isPrimitive_15 : decode cX5_isPrimitive 15 = .ok (.iconst 1, 1) := by decide +kernel
theorem dX5_isPrimitive_16 : decode cX5_isPrimitive 16 = .ok (.goto 4, 3) := by decide +kernel
theorem dX5_isPrimitive_19 : decode cX5_isPrimitive 19 = .ok (.iconst 0, 1) := by decide +kernel
theorem dX5_isPrimitive_20 : decode cX5_isPrimitive 20 = .ok (.ireturn, 1) := by decide +kernel
theorem dX5_oddLeg_0 : decode cX5_oddLeg 0 = .ok (.aload_n 0, 1) := by decide +kernel
theorem dX5_oddLeg_1 : decode cX5_oddLeg 1 = .ok (.getfield 13, 3) := by decide +kernel
theorem dX5_oddLeg_4 : decode cX5_oddLeg 4 = .ok (.iconst 1, 1) := by decide +kernel
theorem dX5_oddLeg_5 : decode cX5_oddLeg 5 = .ok (.iand, 1) := by decide +kernel
theorem dX5_oddLeg_6 : decode cX5_oddLeg 6 = .ok (.iconst 1, 1) := by decide +kernel
theorem dX5_oddLeg_7 : decode cX5_oddLeg 7 = .ok (.if_icmp .ne 10, 3) := by decide +kernel
theorem dX5_oddLeg_10 : decode cX5_oddLeg 10 = .ok (.aload_n 0, 1) := by decide +kernel
theorem dX5_oddLeg_11 : decode cX5_oddLeg 11 = .ok (.getfield 13, 3) := by decide +kernel
theorem dX5_oddLeg_14 : decode cX5_oddLeg 14 = .ok (.goto 7, 3) := by decide +kernel
theorem dX5_oddLeg_17 : decode cX5_oddLeg 17 = .ok (.aload_n 0, 1) := by decide +kernel
theorem dX5_oddLeg_18 : decode cX5_oddLeg 18 = .ok (.getfield 25, 3) := by decide +kernel
theorem dX5_oddLeg_21 : decode cX5_oddLeg 21 = .ok (.ireturn, 1) := by decide +kernel
theorem dX5_evenLeg_0 : decode cX5_evenLeg 0 = .ok (.aload_n 0, 1) := by decide +kernel
theorem dX5_evenLeg_1 : decode cX5_evenLeg 1 = .ok (.getfield 13, 3) := by decide +kernel
theorem dX5_evenLeg_4 : decode cX5_evenLeg 4 = .ok (.iconst 1, 1) := by decide +kernel
theorem dX5_evenLeg_5 : decode cX5_evenLeg 5 = .ok (.iand, 1) := by decide +kernel
theorem dX5_evenLeg_6 : decode cX5_evenLeg 6 = .ok (.iconst 1, 1) := by decide +kernel
theorem dX5_evenLeg_7 : decode cX5_evenLeg 7 = .ok (.if_icmp .ne 10, 3) := by decide +kernel
theorem dX5_evenLeg_10 : decode cX5_evenLeg 10 = .ok (.aload_n 0, 1) := by decide +kernel
theorem dX5_evenLeg_11 : decode cX5_evenLeg 11 = .ok (.getfield 25, 3) := by decide +kernel
theorem dX5_evenLeg_14 : decode cX5_evenLeg 14 = .ok (.goto 7, 3) := by decide +kernel
theorem dX5_evenLeg_17 : decode cX5_evenLeg 17 = .ok (.aload_n 0, 1) := by decide +kernel
theorem dX5_evenLeg_18 : decode cX5_evenLeg 18 = .ok (.getfield 13, 3) := by decide +kernel
theorem dX5_evenLeg_21 : decode cX5_evenLeg 21 = .ok (.ireturn, 1) := by decide +kernel
theorem dX5_wrappedS_0 : decode cX5_wrappedS 0 = .ok (.aload_n 0, 1) := by decide +kernel
theorem dX5_wrappedS_1 : decode cX5_wrappedS 1 = .ok (.getfield 13, 3) := by decide +kernel
theorem dX5_wrappedS_4 : decode cX5_wrappedS 4 = .ok (.i2l, 1) := by decide +kernel
theorem dX5_wrappedS_5 : decode cX5_wrappedS 5 = .ok (.aload_n 0, 1) := by decide +kernel
theorem dX5_wrappedS_6 : decode cX5_wrappedS 6 = .ok (.getfield 25, 3) := by decide +kernel
theorem dX5_wrappedS_9 : decode cX5_wrappedS 9 = .ok (.i2l, 1) := by decide +kernel
theorem dX5_wrappedS_10 : decode cX5_wrappedS 10 = .ok (.aload_n 0, 1) := by decide +kernel
theorem dX5_wrappedS_11 : decode cX5_wrappedS 11 = .ok (.getfield 22, 3) := by decide +kernel
theorem dX5_wrappedS_14 : decode cX5_wrappedS 14 = .ok (.i2l, 1) := by decide +kernel
theorem dX5_wrappedS_15 : decode cX5_wrappedS 15 = .ok (.invokestatic 28, 3) := by decide +kernel
theorem dX5_wrappedS_18 : decode cX5_wrappedS 18 = .ok (.aload_n 0, 1) := by decide +kernel
theorem dX5_wrappedS_19 : decode cX5_wrappedS 19 = .ok (.getfield 13, 3) := by decide +kernel
theorem dX5_wrappedS_22 : decode cX5_wrappedS 22 = .ok (.i2l, 1) := by decide +kernel
theorem dX5_wrappedS_23 : decode cX5_wrappedS 23 = .ok (.aload_n 0, 1) := by decide +kernel
theorem dX5_wrappedS_24 : decode cX5_wrappedS 24 = .ok (.getfield 25, 3) := by decide +kernel
theorem dX5_wrappedS_27 : decode cX5_wrappedS 27 = .ok (.i2l, 1) := by decide +kernel
theorem dX5_wrappedS_28 : decode cX5_wrappedS 28 = .ok (.aload_n 0, 1) := by decide +kernel
theorem dX5_wrappedS_29 : decode cX5_wrappedS 29 = .ok (.getfield 22, 3) := by decide +kernel
theorem dX5_wrappedS_32 : decode cX5_wrappedS 32 = .ok (.i2l, 1) := by decide +kernel
theorem dX5_wrappedS_33 : decode cX5_wrappedS 33 = .ok (.invokestatic 32, 3) := by decide +kernel
theorem dX5_wrappedS_36 : decode cX5_wrappedS 36 = .ok (.lmul, 1) := by decide +kernel
theorem dX5_wrappedS_37 : decode cX5_wrappedS 37 = .ok (.lreturn, 1) := by decide +kernel
theorem dX5_digitsOfS_0 : decode cX5_digitsOfS 0 = .ok (.aload_n 0, 1) := by decide +kernel
theorem dX5_digitsOfS_1 : decode cX5_digitsOfS 1 = .ok (.getfield 41, 3) := by decide +kernel
theorem dX5_digitsOfS_4 : decode cX5_digitsOfS 4 = .ok (.lconst 0, 1) := by decide +kernel
theorem dX5_digitsOfS_5 : decode cX5_digitsOfS 5 = .ok (.lcmp, 1) := by decide +kernel
theorem dX5_digitsOfS_6 : decode cX5_digitsOfS 6 = .ok (.ifCond .ne 13, 3) := by decide +kernel
theorem dX5_digitsOfS_9 : decode cX5_digitsOfS 9 = .ok (.aload_n 0, 1) := by decide +kernel
theorem dX5_digitsOfS_10 : decode cX5_digitsOfS 10 = .ok (.getfield 48, 3) := by decide +kernel
theorem dX5_digitsOfS_13 : decode cX5_digitsOfS 13 = .ok (.invokestatic 80, 3) := by decide +kernel
theorem dX5_digitsOfS_16 : decode cX5_digitsOfS 16 = .ok (.goto 13, 3) := by decide +kernel
theorem dX5_digitsOfS_19 : decode cX5_digitsOfS 19 = .ok (.bipush 18, 2) := by decide +kernel
theorem dX5_digitsOfS_21 : decode cX5_digitsOfS 21 = .ok (.aload_n 0, 1) := by decide +kernel
theorem dX5_digitsOfS_22 : decode cX5_digitsOfS 22 = .ok (.getfield 41, 3) := by decide +kernel
theorem dX5_digitsOfS_25 : decode cX5_digitsOfS 25 = .ok (.invokestatic 80, 3) := by decide +kernel
theorem dX5_digitsOfS_28 : decode cX5_digitsOfS 28 = .ok (.iadd, 1) := by decide +kernel
theorem dX5_digitsOfS_29 : decode cX5_digitsOfS 29 = .ok (.ireturn, 1) := by decide +kernel
theorem dX5_comparedByArea_0 : decode cX5_comparedByArea 0 = .ok (.aload_n 0, 1) := by decide +kernel
theorem dX5_comparedByArea_1 : decode cX5_comparedByArea 1 = .ok (.getfield 41, 3) := by decide +kernel
theorem dX5_comparedByArea_4 : decode cX5_comparedByArea 4 = .ok (.aload_n 1, 1) := by decide +kernel
theorem dX5_comparedByArea_5 : decode cX5_comparedByArea 5 = .ok (.getfield 41, 3) := by decide +kernel
theorem dX5_comparedByArea_8 : decode cX5_comparedByArea 8 = .ok (.lcmp, 1) := by decide +kernel
theorem dX5_comparedByArea_9 : decode cX5_comparedByArea 9 = .ok (.ifCond .ne 17, 3) := by decide +kernel
theorem dX5_comparedByArea_12 : decode cX5_comparedByArea 12 = .ok (.aload_n 0, 1) := by decide +kernel
theorem dX5_comparedByArea_13 : decode cX5_comparedByArea 13 = .ok (.getfield 48, 3) := by decide +kernel
theorem dX5_comparedByArea_16 : decode cX5_comparedByArea 16 = .ok (.aload_n 1, 1) := by decide +kernel
theorem dX5_comparedByArea_17 : decode cX5_comparedByArea 17 = .ok (.getfield 48, 3) := by decide +kernel
theorem dX5_comparedByArea_20 : decode cX5_comparedByArea 20 = .ok (.invokestatic 68, 3) := by decide +kernel
theorem dX5_comparedByArea_23 : decode cX5_comparedByArea 23 = .ok (.goto 14, 3) := by decide +kernel
theorem dX5_comparedByArea_26 : decode cX5_comparedByArea 26 = .ok (.aload_n 0, 1) := by decide +kernel
theorem dX5_comparedByArea_27 : decode cX5_comparedByArea 27 = .ok (.getfield 41, 3) := by decide +kernel
theorem dX5_comparedByArea_30 : decode cX5_comparedByArea 30 = .ok (.aload_n 1, 1) := by decide +kernel
theorem dX5_comparedByArea_31 : decode cX5_comparedByArea 31 = .ok (.getfield 41, 3) := by decide +kernel
theorem dX5_comparedByArea_34 : decode cX5_comparedByArea 34 = .ok (.invokestatic 68, 3) := by decide +kernel
theorem dX5_comparedByArea_37 : decode cX5_comparedByArea 37 = .ok (.ireturn, 1) := by decide +kernel
theorem dX5_wholeRootOfS_0 : decode cX5_wholeRootOfS 0 = .ok (.aload_n 0, 1) := by decide +kernel
theorem dX5_wholeRootOfS_1 : decode cX5_wholeRootOfS 1 = .ok (.getfield 13, 3) := by decide +kernel
theorem dX5_wholeRootOfS_4 : decode cX5_wholeRootOfS 4 = .ok (.i2l, 1) := by decide +kernel
theorem dX5_wholeRootOfS_5 : decode cX5_wholeRootOfS 5 = .ok (.aload_n 0, 1) := by decide +kernel
theorem dX5_wholeRootOfS_6 : decode cX5_wholeRootOfS 6 = .ok (.getfield 25, 3) := by decide +kernel
theorem dX5_wholeRootOfS_9 : decode cX5_wholeRootOfS 9 = .ok (.i2l, 1) := by decide +kernel
theorem dX5_wholeRootOfS_10 : decode cX5_wholeRootOfS 10 = .ok (.aload_n 0, 1) := by decide +kernel
theorem dX5_wholeRootOfS_11 : decode cX5_wholeRootOfS 11 = .ok (.getfield 22, 3) := by decide +kernel
theorem dX5_wholeRootOfS_14 : decode cX5_wholeRootOfS 14 = .ok (.i2l, 1) := by decide +kernel
theorem dX5_wholeRootOfS_15 : decode cX5_wholeRootOfS 15 = .ok (.invokestatic 28, 3) := by decide +kernel
theorem dX5_wholeRootOfS_18 : decode cX5_wholeRootOfS 18 = .ok (.lstore_n 1, 1) := by decide +kernel
theorem dX5_wholeRootOfS_19 : decode cX5_wholeRootOfS 19 = .ok (.aload_n 0, 1) := by decide +kernel
theorem dX5_wholeRootOfS_20 : decode cX5_wholeRootOfS 20 = .ok (.getfield 13, 3) := by decide +kernel
theorem dX5_wholeRootOfS_23 : decode cX5_wholeRootOfS 23 = .ok (.i2l, 1) := by decide +kernel
theorem dX5_wholeRootOfS_24 : decode cX5_wholeRootOfS 24 = .ok (.aload_n 0, 1) := by decide +kernel
theorem dX5_wholeRootOfS_25 : decode cX5_wholeRootOfS 25 = .ok (.getfield 25, 3) := by decide +kernel
theorem dX5_wholeRootOfS_28 : decode cX5_wholeRootOfS 28 = .ok (.i2l, 1) := by decide +kernel
theorem dX5_wholeRootOfS_29 : decode cX5_wholeRootOfS 29 = .ok (.aload_n 0, 1) := by decide +kernel
theorem dX5_wholeRootOfS_30 : decode cX5_wholeRootOfS 30 = .ok (.getfield 22, 3) := by decide +kernel
theorem dX5_wholeRootOfS_33 : decode cX5_wholeRootOfS 33 = .ok (.i2l, 1) := by decide +kernel
theorem dX5_wholeRootOfS_34 : decode cX5_wholeRootOfS 34 = .ok (.invokestatic 32, 3) := by decide +kernel
theorem dX5_wholeRootOfS_37 : decode cX5_wholeRootOfS 37 = .ok (.lstore_n 3, 1) := by decide +kernel
theorem dX5_wholeRootOfS_38 : decode cX5_wholeRootOfS 38 = .ok (.lload_n 1, 1) := by decide +kernel
theorem dX5_wholeRootOfS_39 : decode cX5_wholeRootOfS 39 = .ok (.lload_n 3, 1) := by decide +kernel
theorem dX5_wholeRootOfS_40 : decode cX5_wholeRootOfS 40 = .ok (.invokestatic 51, 3) := by decide +kernel
theorem dX5_wholeRootOfS_43 : decode cX5_wholeRootOfS 43 = .ok (.lstore 5, 2) := by decide +kernel
theorem dX5_wholeRootOfS_45 : decode cX5_wholeRootOfS 45 = .ok (.lload_n 1, 1) := by decide +kernel
theorem dX5_wholeRootOfS_46 : decode cX5_wholeRootOfS 46 = .ok (.lload 5, 2) := by decide +kernel
theorem dX5_wholeRootOfS_48 : decode cX5_wholeRootOfS 48 = .ok (.invokestatic 84, 3) := by decide +kernel
theorem dX5_wholeRootOfS_51 : decode cX5_wholeRootOfS 51 = .ok (.lstore 7, 2) := by decide +kernel
theorem dX5_wholeRootOfS_53 : decode cX5_wholeRootOfS 53 = .ok (.lload_n 3, 1) := by decide +kernel
theorem dX5_wholeRootOfS_54 : decode cX5_wholeRootOfS 54 = .ok (.lload 5, 2) := by decide +kernel
theorem dX5_wholeRootOfS_56 : decode cX5_wholeRootOfS 56 = .ok (.invokestatic 84, 3) := by decide +kernel
theorem dX5_wholeRootOfS_59 : decode cX5_wholeRootOfS 59 = .ok (.lstore 9, 2) := by decide +kernel
theorem dX5_wholeRootOfS_61 : decode cX5_wholeRootOfS 61 = .ok (.lload 7, 2) := by decide +kernel
theorem dX5_wholeRootOfS_63 : decode cX5_wholeRootOfS 63 = .ok (.invokestatic 87, 3) := by decide +kernel
theorem dX5_wholeRootOfS_66 : decode cX5_wholeRootOfS 66 = .ok (.ifCond .eq 11, 3) := by decide +kernel
theorem dX5_wholeRootOfS_69 : decode cX5_wholeRootOfS 69 = .ok (.lload 9, 2) := by decide +kernel
theorem dX5_wholeRootOfS_71 : decode cX5_wholeRootOfS 71 = .ok (.invokestatic 87, 3) := by decide +kernel
theorem dX5_wholeRootOfS_74 : decode cX5_wholeRootOfS 74 = .ok (.ifCond .ne 5, 3) := by decide +kernel
theorem dX5_wholeRootOfS_77 : decode cX5_wholeRootOfS 77 = .ok (.lconst 0, 1) := by decide +kernel
theorem dX5_wholeRootOfS_78 : decode cX5_wholeRootOfS 78 = .ok (.lreturn, 1) := by decide +kernel
theorem dX5_wholeRootOfS_79 : decode cX5_wholeRootOfS 79 = .ok (.lload 5, 2) := by decide +kernel
theorem dX5_wholeRootOfS_81 : decode cX5_wholeRootOfS 81 = .ok (.lload 7, 2) := by decide +kernel
theorem dX5_wholeRootOfS_83 : decode cX5_wholeRootOfS 83 = .ok (.invokestatic 91, 3) := by decide +kernel
theorem dX5_wholeRootOfS_86 : decode cX5_wholeRootOfS 86 = .ok (.lmul, 1) := by decide +kernel
theorem dX5_wholeRootOfS_87 : decode cX5_wholeRootOfS 87 = .ok (.lload 9, 2) := by decide +kernel
theorem dX5_wholeRootOfS_89 : decode cX5_wholeRootOfS 89 = .ok (.invokestatic 91, 3) := by decide +kernel
theorem dX5_wholeRootOfS_92 : decode cX5_wholeRootOfS 92 = .ok (.lmul, 1) := by decide +kernel
theorem dX5_wholeRootOfS_93 : decode cX5_wholeRootOfS 93 = .ok (.lreturn, 1) := by decide +kernel
theorem dX5_wholeArea_0 : decode cX5_wholeArea 0 = .ok (.aload_n 0, 1) := by decide +kernel
theorem dX5_wholeArea_1 : decode cX5_wholeArea 1 = .ok (.invokevirtual 95, 3) := by decide +kernel
theorem dX5_wholeArea_4 : decode cX5_wholeArea 4 = .ok (.ldc2_w 99, 3) := by decide +kernel
theorem dX5_wholeArea_7 : decode cX5_wholeArea 7 = .ok (.invokestatic 84, 3) := by decide +kernel
theorem dX5_wholeArea_10 : decode cX5_wholeArea 10 = .ok (.lreturn, 1) := by decide +kernel
theorem dX5_innerRadius_0 : decode cX5_innerRadius 0 = .ok (.aload_n 0, 1) := by decide +kernel
theorem dX5_innerRadius_1 : decode cX5_innerRadius 1 = .ok (.invokevirtual 95, 3) := by decide +kernel
theorem dX5_innerRadius_4 : decode cX5_innerRadius 4 = .ok (.ldc2_w 62, 3) := by decide +kernel
theorem dX5_innerRadius_7 : decode cX5_innerRadius 7 = .ok (.aload_n 0, 1) := by decide +kernel
theorem dX5_innerRadius_8 : decode cX5_innerRadius 8 = .ok (.invokevirtual 101, 3) := by decide +kernel
theorem dX5_innerRadius_11 : decode cX5_innerRadius 11 = .ok (.i2l, 1) := by decide +kernel
theorem dX5_innerRadius_12 : decode cX5_innerRadius 12 = .ok (.lmul, 1) := by decide +kernel
theorem dX5_innerRadius_13 : decode cX5_innerRadius 13 = .ok (.invokestatic 84, 3) := by decide +kernel
theorem dX5_innerRadius_16 : decode cX5_innerRadius 16 = .ok (.lreturn, 1) := by decide +kernel
theorem dX5_outerDiameter_0 : decode cX5_outerDiameter 0 = .ok (.ldc2_w 62, 3) := by decide +kernel
theorem dX5_outerDiameter_3 : decode cX5_outerDiameter 3 = .ok (.aload_n 0, 1) := by decide +kernel
theorem dX5_outerDiameter_4 : decode cX5_outerDiameter 4 = .ok (.getfield 13, 3) := by decide +kernel
theorem dX5_outerDiameter_7 : decode cX5_outerDiameter 7 = .ok (.i2l, 1) := by decide +kernel
theorem dX5_outerDiameter_8 : decode cX5_outerDiameter 8 = .ok (.lmul, 1) := by decide +kernel
theorem dX5_outerDiameter_9 : decode cX5_outerDiameter 9 = .ok (.aload_n 0, 1) := by decide +kernel
theorem dX5_outerDiameter_10 : decode cX5_outerDiameter 10 = .ok (.getfield 25, 3) := by decide +kernel
theorem dX5_outerDiameter_13 : decode cX5_outerDiameter 13 = .ok (.i2l, 1) := by decide +kernel
theorem dX5_outerDiameter_14 : decode cX5_outerDiameter 14 = .ok (.lmul, 1) := by decide +kernel
theorem dX5_outerDiameter_15 : decode cX5_outerDiameter 15 = .ok (.aload_n 0, 1) := by decide +kernel
theorem dX5_outerDiameter_16 : decode cX5_outerDiameter 16 = .ok (.getfield 22, 3) := by decide +kernel
theorem dX5_outerDiameter_19 : decode cX5_outerDiameter 19 = .ok (.i2l, 1) := by decide +kernel
theorem dX5_outerDiameter_20 : decode cX5_outerDiameter 20 = .ok (.lmul, 1) := by decide +kernel
theorem dX5_outerDiameter_21 : decode cX5_outerDiameter 21 = .ok (.aload_n 0, 1) := by decide +kernel
theorem dX5_outerDiameter_22 : decode cX5_outerDiameter 22 = .ok (.invokevirtual 95, 3) := by decide +kernel
theorem dX5_outerDiameter_25 : decode cX5_outerDiameter 25 = .ok (.invokestatic 84, 3) := by decide +kernel
theorem dX5_outerDiameter_28 : decode cX5_outerDiameter 28 = .ok (.lreturn, 1) := by decide +kernel

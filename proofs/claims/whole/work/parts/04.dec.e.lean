theorem dX7_rootOf_13 : decode cX7_rootOf 13 = .ok (.iconst 0, 1) := by decide +kernel
theorem dX7_rootOf_14 : decode cX7_rootOf 14 = .ok (.istore 6, 2) := by decide +kernel
theorem dX7_rootOf_16 : decode cX7_rootOf 16 = .ok (.bipush 16, 2) := by decide +kernel
theorem dX7_rootOf_18 : decode cX7_rootOf 18 = .ok (.istore 7, 2) := by decide +kernel
theorem dX7_rootOf_20 : decode cX7_rootOf 20 = .ok (.iload 7, 2) := by decide +kernel
theorem dX7_rootOf_22 : decode cX7_rootOf 22 = .ok (.ifCond .ge 12, 3) := by decide +kernel
theorem dX7_rootOf_25 : decode cX7_rootOf 25 = .ok (.lload_n 2, 1) := by decide +kernel
theorem dX7_rootOf_26 : decode cX7_rootOf 26 = .ok (.bipush 53, 2) := by decide +kernel
theorem dX7_rootOf_28 : decode cX7_rootOf 28 = .ok (.lshr, 1) := by decide +kernel
theorem dX7_rootOf_29 : decode cX7_rootOf 29 = .ok (.lconst 0, 1) := by decide +kernel
theorem dX7_rootOf_30 : decode cX7_rootOf 30 = .ok (.lcmp, 1) := by decide +kernel
theorem dX7_rootOf_31 : decode cX7_rootOf 31 = .ok (.ifCond .ne 79, 3) := by decide +kernel
theorem dX7_rootOf_34 : decode cX7_rootOf 34 = .ok (.lload 4, 2) := by decide +kernel
theorem dX7_rootOf_36 : decode cX7_rootOf 36 = .ok (.ldc2_w 121, 3) := by decide +kernel
theorem dX7_rootOf_39 : decode cX7_rootOf 39 = .ok (.lmul, 1) := by decide +kernel
theorem dX7_rootOf_40 : decode cX7_rootOf 40 = .ok (.iload 7, 2) := by decide +kernel
theorem dX7_rootOf_42 : decode cX7_rootOf 42 = .ok (.ifCond .lt 16, 3) := by decide +kernel
theorem dX7_rootOf_45 : decode cX7_rootOf 45 = .ok (.lload_n 0, 1) := by decide +kernel
theorem dX7_rootOf_46 : decode cX7_rootOf 46 = .ok (.iconst 2, 1) := by decide +kernel
theorem dX7_rootOf_47 : decode cX7_rootOf 47 = .ok (.iload 7, 2) := by decide +kernel
theorem dX7_rootOf_49 : decode cX7_rootOf 49 = .ok (.imul, 1) := by decide +kernel
theorem dX7_rootOf_50 : decode cX7_rootOf 50 = .ok (.lshr, 1) := by decide +kernel
theorem dX7_rootOf_51 : decode cX7_rootOf 51 = .ok (.ldc2_w 119, 3) := by decide +kernel
theorem dX7_rootOf_54 : decode cX7_rootOf 54 = .ok (.land, 1) := by decide +kernel
theorem dX7_rootOf_55 : decode cX7_rootOf 55 = .ok (.goto 4, 3) := by decide +kernel
theorem dX7_rootOf_58 : decode cX7_rootOf 58 = .ok (.lconst 0, 1) := by decide +kernel
theorem dX7_rootOf_59 : decode cX7_rootOf 59 = .ok (.ladd, 1) := by decide +kernel
theorem dX7_rootOf_60 : decode cX7_rootOf 60 = .ok (.lstore 4, 2) := by decide +kernel
theorem dX7_rootOf_62 : decode cX7_rootOf 62 = .ok (.lload_n 2, 1) := by decide +kernel
theorem dX7_rootOf_63 : decode cX7_rootOf 63 = .ok (.ldc2_w 121, 3) := by decide +kernel
theorem dX7_rootOf_66 : decode cX7_rootOf 66 = .ok (.lmul, 1) := by decide +kernel
theorem dX7_rootOf_67 : decode cX7_rootOf 67 = .ok (.lconst 1, 1) := by decide +kernel
theorem dX7_rootOf_68 : decode cX7_rootOf 68 = .ok (.ladd, 1) := by decide +kernel
theorem dX7_rootOf_69 : decode cX7_rootOf 69 = .ok (.lstore 8, 2) := by decide +kernel
theorem dX7_rootOf_71 : decode cX7_rootOf 71 = .ok (.lload_n 2, 1) := by decide +kernel
theorem dX7_rootOf_72 : decode cX7_rootOf 72 = .ok (.ldc2_w 71, 3) := by decide +kernel
theorem dX7_rootOf_75 : decode cX7_rootOf 75 = .ok (.lmul, 1) := by decide +kernel
theorem dX7_rootOf_76 : decode cX7_rootOf 76 = .ok (.lstore_n 2, 1) := by decide +kernel
theorem dX7_rootOf_77 : decode cX7_rootOf 77 = .ok (.lload 4, 2) := by decide +kernel
theorem dX7_rootOf_79 : decode cX7_rootOf 79 = .ok (.lload 8, 2) := by decide +kernel
theorem dX7_rootOf_81 : decode cX7_rootOf 81 = .ok (.lcmp, 1) := by decide +kernel
theorem dX7_rootOf_82 : decode cX7_rootOf 82 = .ok (.ifCond .lt 14, 3) := by decide +kernel
theorem dX7_rootOf_85 : decode cX7_rootOf 85 = .ok (.lload 4, 2) := by decide +kernel
theorem dX7_rootOf_87 : decode cX7_rootOf 87 = .ok (.lload 8, 2) := by decide +kernel
theorem dX7_rootOf_89 : decode cX7_rootOf 89 = .ok (.lsub, 1) := by decide +kernel
theorem dX7_rootOf_90 : decode cX7_rootOf 90 = .ok (.lstore 4, 2) := by decide +kernel
theorem dX7_rootOf_92 : decode cX7_rootOf 92 = .ok (.lload_n 2, 1) := by decide +kernel
theorem dX7_rootOf_93 : decode cX7_rootOf 93 = .ok (.lconst 1, 1) := by decide +kernel
theorem dX7_rootOf_94 : decode cX7_rootOf 94 = .ok (.ladd, 1) := by decide +kernel
theorem dX7_rootOf_95 : decode cX7_rootOf 95 = .ok (.lstore_n 2, 1) := by decide +kernel
theorem dX7_rootOf_96 : decode cX7_rootOf 96 = .ok (.iload 7, 2) := by decide +kernel
theorem dX7_rootOf_98 : decode cX7_rootOf 98 = .ok (.ifCond .ge 6, 3) := by decide +kernel
theorem dX7_rootOf_101 : decode cX7_rootOf 101 = .ok (.iinc 6 1, 3) := by decide +kernel
theorem dX7_rootOf_104 : decode cX7_rootOf 104 = .ok (.iinc 7 (-1), 3) := by decide +kernel
theorem dX7_rootOf_107 : decode cX7_rootOf 107 = .ok (.goto (-87), 3) := by decide +kernel
theorem dX7_rootOf_110 : decode cX7_rootOf 110 = .ok (.lload_n 2, 1) := by decide +kernel
theorem dX7_rootOf_111 : decode cX7_rootOf 111 = .ok (.iconst 1, 1) := by decide +kernel
theorem dX7_rootOf_112 : decode cX7_rootOf 112 = .ok (.lshr, 1) := by decide +kernel
theorem dX7_rootOf_113 : decode cX7_rootOf 113 = .ok (.lload_n 2, 1) := by decide +kernel
theorem dX7_rootOf_114 : decode cX7_rootOf 114 = .ok (.lconst 1, 1) := by decide +kernel
theorem dX7_rootOf_115 : decode cX7_rootOf 115 = .ok (.land, 1) := by decide +kernel
theorem dX7_rootOf_116 : decode cX7_rootOf 116 = .ok (.ladd, 1) := by decide +kernel
theorem dX7_rootOf_117 : decode cX7_rootOf 117 = .ok (.l2d, 1) := by decide +kernel
theorem dX7_rootOf_118 : decode cX7_rootOf 118 = .ok (.dstore 7, 2) := by decide +kernel
theorem dX7_rootOf_120 : decode cX7_rootOf 120 = .ok (.iconst 1, 1) := by decide +kernel
theorem dX7_rootOf_121 : decode cX7_rootOf 121 = .ok (.istore 9, 2) := by decide +kernel
theorem dX7_rootOf_123 : decode cX7_rootOf 123 = .ok (.iload 9, 2) := by decide +kernel
theorem dX7_rootOf_125 : decode cX7_rootOf 125 = .ok (.iload 6, 2) := by decide +kernel
theorem dX7_rootOf_127 : decode cX7_rootOf 127 = .ok (.if_icmp .ge 17, 3) := by decide +kernel
theorem dX7_rootOf_130 : decode cX7_rootOf 130 = .ok (.dload 7, 2) := by decide +kernel
theorem dX7_rootOf_132 : decode cX7_rootOf 132 = .ok (.ldc2_w 146, 3) := by decide +kernel
theorem dX7_rootOf_135 : decode cX7_rootOf 135 = .ok (.ddiv, 1) := by decide +kernel
theorem dX7_rootOf_136 : decode cX7_rootOf 136 = .ok (.dstore 7, 2) := by decide +kernel
theorem dX7_rootOf_138 : decode cX7_rootOf 138 = .ok (.iinc 9 1, 3) := by decide +kernel
theorem dX7_rootOf_141 : decode cX7_rootOf 141 = .ok (.goto (-18), 3) := by decide +kernel
theorem dX7_rootOf_144 : decode cX7_rootOf 144 = .ok (.dload 7, 2) := by decide +kernel
theorem dX7_rootOf_146 : decode cX7_rootOf 146 = .ok (.dreturn, 1) := by decide +kernel
theorem dX7_hypot_0 : decode cX7_hypot 0 = .ok (.aload_n 0, 1) := by decide +kernel
theorem dX7_hypot_1 : decode cX7_hypot 1 = .ok (.iload_n 2, 1) := by decide +kernel
theorem dX7_hypot_2 : decode cX7_hypot 2 = .ok (.i2l, 1) := by decide +kernel
theorem dX7_hypot_3 : decode cX7_hypot 3 = .ok (.lconst 0, 1) := by decide +kernel
theorem dX7_hypot_4 : decode cX7_hypot 4 = .ok (.ldc2_w 71, 3) := by decide +kernel
theorem dX7_hypot_7 : decode cX7_hypot 7 = .ok (.invokestatic 37, 3) := by decide +kernel
theorem dX7_hypot_10 : decode cX7_hypot 10 = .ok (.ifCond .eq 15, 3) := by decide +kernel
theorem dX7_hypot_13 : decode cX7_hypot 13 = .ok (.iload_n 3, 1) := by decide +kernel
theorem dX7_hypot_14 : decode cX7_hypot 14 = .ok (.i2l, 1) := by decide +kernel
theorem dX7_hypot_15 : decode cX7_hypot 15 = .ok (.lconst 0, 1) := by decide +kernel
theorem dX7_hypot_16 : decode cX7_hypot 16 = .ok (.ldc2_w 71, 3) := by decide +kernel
theorem dX7_hypot_19 : decode cX7_hypot 19 = .ok (.invokestatic 37, 3) := by decide +kernel
theorem dX7_hypot_22 : decode cX7_hypot 22 = .ok (.ifCond .ne 7, 3) := by decide +kernel
theorem dX7_hypot_25 : decode cX7_hypot 25 = .ok (.iconst 1, 1) := by decide +kernel
theorem dX7_hypot_26 : decode cX7_hypot 26 = .ok (.goto 9, 3) := by decide +kernel
theorem dX7_hypot_29 : decode cX7_hypot 29 = .ok (.aload_n 0, 1) := by decide +kernel
theorem dX7_hypot_30 : decode cX7_hypot 30 = .ok (.iload_n 1, 1) := by decide +kernel
theorem dX7_hypot_31 : decode cX7_hypot 31 = .ok (.iconst 2, 1) := by decide +kernel
theorem dX7_hypot_32 : decode cX7_hypot 32 = .ok (.invokevirtual 68, 3) := by decide +kernel
theorem dX7_hypot_35 : decode cX7_hypot 35 = .ok (.invokevirtual 57, 3) := by decide +kernel
theorem dX7_hypot_38 : decode cX7_hypot 38 = .ok (.ifCond .eq 5, 3) := by decide +kernel
theorem dX7_hypot_41 : decode cX7_hypot 41 = .ok (.dconst 0, 1) := by decide +kernel
theorem dX7_hypot_42 : decode cX7_hypot 42 = .ok (.dreturn, 1) := by decide +kernel
theorem dX7_hypot_43 : decode cX7_hypot 43 = .ok (.aload_n 0, 1) := by decide +kernel
theorem dX7_hypot_44 : decode cX7_hypot 44 = .ok (.iload_n 1, 1) := by decide +kernel
theorem dX7_hypot_45 : decode cX7_hypot 45 = .ok (.iload_n 2, 1) := by decide +kernel
theorem dX7_hypot_46 : decode cX7_hypot 46 = .ok (.invokevirtual 73, 3) := by decide +kernel
theorem dX7_hypot_49 : decode cX7_hypot 49 = .ok (.i2l, 1) := by decide +kernel
theorem dX7_hypot_50 : decode cX7_hypot 50 = .ok (.invokestatic 92, 3) := by decide +kernel
theorem dX7_hypot_53 : decode cX7_hypot 53 = .ok (.aload_n 0, 1) := by decide +kernel
theorem dX7_hypot_54 : decode cX7_hypot 54 = .ok (.iload_n 1, 1) := by decide +kernel
theorem dX7_hypot_55 : decode cX7_hypot 55 = .ok (.iload_n 3, 1) := by decide +kernel
theorem dX7_hypot_56 : decode cX7_hypot 56 = .ok (.invokevirtual 73, 3) := by decide +kernel
theorem dX7_hypot_59 : decode cX7_hypot 59 = .ok (.i2l, 1) := by decide +kernel
theorem dX7_hypot_60 : decode cX7_hypot 60 = .ok (.invokestatic 92, 3) := by decide +kernel
theorem dX7_hypot_63 : decode cX7_hypot 63 = .ok (.ladd, 1) := by decide +kernel
theorem dX7_hypot_64 : decode cX7_hypot 64 = .ok (.invokestatic 148, 3) := by decide +kernel
theorem dX7_hypot_67 : decode cX7_hypot 67 = .ok (.dreturn, 1) := by decide +kernel
theorem dX7_root_0 : decode cX7_root 0 = .ok (.aload_n 0, 1) := by decide +kernel
theorem dX7_root_1 : decode cX7_root 1 = .ok (.lload_n 1, 1) := by decide +kernel
theorem dX7_root_2 : decode cX7_root 2 = .ok (.lconst 0, 1) := by decide +kernel
theorem dX7_root_3 : decode cX7_root 3 = .ok (.ldc2_w 152, 3) := by decide +kernel
theorem dX7_root_6 : decode cX7_root 6 = .ok (.invokestatic 37, 3) := by decide +kernel
theorem dX7_root_9 : decode cX7_root 9 = .ok (.ifCond .eq 7, 3) := by decide +kernel
theorem dX7_root_12 : decode cX7_root 12 = .ok (.iconst 0, 1) := by decide +kernel
theorem dX7_root_13 : decode cX7_root 13 = .ok (.goto 4, 3) := by decide +kernel
theorem dX7_root_16 : decode cX7_root 16 = .ok (.iconst 1, 1) := by decide +kernel
theorem dX7_root_17 : decode cX7_root 17 = .ok (.invokevirtual 57, 3) := by decide +kernel
theorem dX7_root_20 : decode cX7_root 20 = .ok (.ifCond .eq 7, 3) := by decide +kernel
theorem dX7_root_23 : decode cX7_root 23 = .ok (.dconst 0, 1) := by decide +kernel
theorem dX7_root_24 : decode cX7_root 24 = .ok (.goto 7, 3) := by decide +kernel
theorem dX7_root_27 : decode cX7_root 27 = .ok (.lload_n 1, 1) := by decide +kernel
theorem dX7_root_28 : decode cX7_root 28 = .ok (.invokestatic 148, 3) := by decide +kernel
theorem dX7_root_31 : decode cX7_root 31 = .ok (.dreturn, 1) := by decide +kernel
theorem dX7_shape_0 : decode cX7_shape 0 = .ok (.aload_n 0, 1) := by decide +kernel
theorem dX7_shape_1 : decode cX7_shape 1 = .ok (.aload_n 0, 1) := by decide +kernel
theorem dX7_shape_2 : decode cX7_shape 2 = .ok (.iload_n 1, 1) := by decide +kernel
theorem dX7_shape_3 : decode cX7_shape 3 = .ok (.iconst 2, 1) := by decide +kernel
theorem dX7_shape_4 : decode cX7_shape 4 = .ok (.invokevirtual 68, 3) := by decide +kernel
theorem dX7_shape_7 : decode cX7_shape 7 = .ok (.invokevirtual 57, 3) := by decide +kernel
theorem dX7_shape_10 : decode cX7_shape 10 = .ok (.ifCond .eq 7, 3) := by decide +kernel
theorem dX7_shape_13 : decode cX7_shape 13 = .ok (.fconst 0, 1) := by decide +kernel
theorem dX7_shape_14 : decode cX7_shape 14 = .ok (.goto 18, 3) := by decide +kernel
theorem dX7_shape_17 : decode cX7_shape 17 = .ok (.aload_n 0, 1) := by decide +kernel
theorem dX7_shape_18 : decode cX7_shape 18 = .ok (.getfield 7, 3) := by decide +kernel
theorem dX7_shape_21 : decode cX7_shape 21 = .ok (.iload_n 1, 1) := by decide +kernel
theorem dX7_shape_22 : decode cX7_shape 22 = .ok (.iaload, 1) := by decide +kernel
theorem dX7_shape_23 : decode cX7_shape 23 = .ok (.i2f, 1) := by decide +kernel
theorem dX7_shape_24 : decode cX7_shape 24 = .ok (.aload_n 0, 1) := by decide +kernel
theorem dX7_shape_25 : decode cX7_shape 25 = .ok (.getfield 16, 3) := by decide +kernel
theorem dX7_shape_28 : decode cX7_shape 28 = .ok (.iload_n 1, 1) := by decide +kernel
theorem dX7_shape_29 : decode cX7_shape 29 = .ok (.iaload, 1) := by decide +kernel
theorem dX7_shape_30 : decode cX7_shape 30 = .ok (.i2f, 1) := by decide +kernel
theorem dX7_shape_31 : decode cX7_shape 31 = .ok (.fdiv, 1) := by decide +kernel
theorem dX7_shape_32 : decode cX7_shape 32 = .ok (.freturn, 1) := by decide +kernel
theorem dX7_mean_0 : decode cX7_mean 0 = .ok (.aload_n 0, 1) := by decide +kernel
theorem dX7_mean_1 : decode cX7_mean 1 = .ok (.iconst 0, 1) := by decide +kernel
theorem dX7_mean_2 : decode cX7_mean 2 = .ok (.putfield 31, 3) := by decide +kernel
theorem dX7_mean_5 : decode cX7_mean 5 = .ok (.iconst 0, 1) := by decide +kernel
theorem dX7_mean_6 : decode cX7_mean 6 = .ok (.istore_n 1, 1) := by decide +kernel
theorem dX7_mean_7 : decode cX7_mean 7 = .ok (.iconst 0, 1) := by decide +kernel
theorem dX7_mean_8 : decode cX7_mean 8 = .ok (.istore_n 2, 1) := by decide +kernel
theorem dX7_mean_9 : decode cX7_mean 9 = .ok (.iload_n 2, 1) := by decide +kernel
theorem dX7_mean_10 : decode cX7_mean 10 = .ok (.bipush 16, 2) := by decide +kernel
theorem dX7_mean_12 : decode cX7_mean 12 = .ok (.if_icmp .ge 17, 3) := by decide +kernel
theorem dX7_mean_15 : decode cX7_mean 15 = .ok (.iload_n 1, 1) := by decide +kernel
theorem dX7_mean_16 : decode cX7_mean 16 = .ok (.aload_n 0, 1) := by decide +kernel
theorem dX7_mean_17 : decode cX7_mean 17 = .ok (.iload_n 2, 1) := by decide +kernel
theorem dX7_mean_18 : decode cX7_mean 18 = .ok (.invokevirtual 96, 3) := by decide +kernel
theorem dX7_mean_21 : decode cX7_mean 21 = .ok (.iadd, 1) := by decide +kernel
theorem dX7_mean_22 : decode cX7_mean 22 = .ok (.istore_n 1, 1) := by decide +kernel
theorem dX7_mean_23 : decode cX7_mean 23 = .ok (.iinc 2 1, 3) := by decide +kernel
theorem dX7_mean_26 : decode cX7_mean 26 = .ok (.goto (-17), 3) := by decide +kernel
theorem dX7_mean_29 : decode cX7_mean 29 = .ok (.aload_n 0, 1) := by decide +kernel
theorem dX7_mean_30 : decode cX7_mean 30 = .ok (.invokevirtual 64, 3) := by decide +kernel
theorem dX7_mean_33 : decode cX7_mean 33 = .ok (.ifCond .ne 7, 3) := by decide +kernel
theorem dX7_mean_36 : decode cX7_mean 36 = .ok (.dconst 0, 1) := by decide +kernel
theorem dX7_mean_37 : decode cX7_mean 37 = .ok (.goto 11, 3) := by decide +kernel
theorem dX7_mean_40 : decode cX7_mean 40 = .ok (.iload_n 1, 1) := by decide +kernel
theorem dX7_mean_41 : decode cX7_mean 41 = .ok (.i2d, 1) := by decide +kernel
theorem dX7_mean_42 : decode cX7_mean 42 = .ok (.aload_n 0, 1) := by decide +kernel
theorem dX7_mean_43 : decode cX7_mean 43 = .ok (.invokevirtual 64, 3) := by decide +kernel
theorem dX7_mean_46 : decode cX7_mean 46 = .ok (.i2d, 1) := by decide +kernel
theorem dX7_mean_47 : decode cX7_mean 47 = .ok (.ddiv, 1) := by decide +kernel
theorem dX7_mean_48 : decode cX7_mean 48 = .ok (.dreturn, 1) := by decide +kernel
theorem dX7_euclid_0 : decode cX7_euclid 0 = .ok (.iload_n 2, 1) := by decide +kernel
theorem dX7_euclid_1 : decode cX7_euclid 1 = .ok (.i2l, 1) := by decide +kernel
theorem dX7_euclid_2 : decode cX7_euclid 2 = .ok (.ldc2_w 71, 3) := by decide +kernel
theorem dX7_euclid_5 : decode cX7_euclid 5 = .ok (.ldc2_w 154, 3) := by decide +kernel
theorem dX7_euclid_8 : decode cX7_euclid 8 = .ok (.invokestatic 37, 3) := by decide +kernel
theorem dX7_euclid_11 : decode cX7_euclid 11 = .ok (.ifCond .eq 20, 3) := by decide +kernel
theorem dX7_euclid_14 : decode cX7_euclid 14 = .ok (.iload_n 3, 1) := by decide +kernel
theorem dX7_euclid_15 : decode cX7_euclid 15 = .ok (.i2l, 1) := by decide +kernel
theorem dX7_euclid_16 : decode cX7_euclid 16 = .ok (.lconst 1, 1) := by decide +kernel
theorem dX7_euclid_17 : decode cX7_euclid 17 = .ok (.iload_n 2, 1) := by decide +kernel
theorem dX7_euclid_18 : decode cX7_euclid 18 = .ok (.i2l, 1) := by decide +kernel
theorem dX7_euclid_19 : decode cX7_euclid 19 = .ok (.lconst 1, 1) := by decide +kernel
theorem dX7_euclid_20 : decode cX7_euclid 20 = .ok (.lsub, 1) := by decide +kernel
theorem dX7_euclid_21 : decode cX7_euclid 21 = .ok (.invokestatic 37, 3) := by decide +kernel
theorem dX7_euclid_24 : decode cX7_euclid 24 = .ok (.ifCond .eq 7, 3) := by decide +kernel
theorem dX7_euclid_27 : decode cX7_euclid 27 = .ok (.iconst 1, 1) := by decide +kernel
theorem dX7_euclid_28 : decode cX7_euclid 28 = .ok (.goto 4, 3) := by decide +kernel
theorem dX7_euclid_31 : decode cX7_euclid 31 = .ok (.iconst 0, 1) := by decide +kernel
theorem dX7_euclid_32 : decode cX7_euclid 32 = .ok (.istore 4, 2) := by decide +kernel
theorem dX7_euclid_34 : decode cX7_euclid 34 = .ok (.aload_n 0, 1) := by decide +kernel
theorem dX7_euclid_35 : decode cX7_euclid 35 = .ok (.iload_n 1, 1) := by decide +kernel
theorem dX7_euclid_36 : decode cX7_euclid 36 = .ok (.invokestatic 41, 3) := by decide +kernel
theorem dX7_euclid_39 : decode cX7_euclid 39 = .ok (.ifCond .ne 7, 3) := by decide +kernel
theorem dX7_euclid_42 : decode cX7_euclid 42 = .ok (.iconst 1, 1) := by decide +kernel
theorem dX7_euclid_43 : decode cX7_euclid 43 = .ok (.goto 29, 3) := by decide +kernel
theorem dX7_euclid_46 : decode cX7_euclid 46 = .ok (.iload 4, 2) := by decide +kernel
theorem dX7_euclid_48 : decode cX7_euclid 48 = .ok (.ifCond .ne 7, 3) := by decide +kernel
theorem dX7_euclid_51 : decode cX7_euclid 51 = .ok (.iconst 2, 1) := by decide +kernel
theorem dX7_euclid_52 : decode cX7_euclid 52 = .ok (.goto 20, 3) := by decide +kernel
theorem dX7_euclid_55 : decode cX7_euclid 55 = .ok (.iload_n 2, 1) := by decide +kernel
theorem dX7_euclid_56 : decode cX7_euclid 56 = .ok (.iload_n 2, 1) := by decide +kernel
theorem dX7_euclid_57 : decode cX7_euclid 57 = .ok (.imul, 1) := by decide +kernel
theorem dX7_euclid_58 : decode cX7_euclid 58 = .ok (.iload_n 3, 1) := by decide +kernel
theorem dX7_euclid_59 : decode cX7_euclid 59 = .ok (.iload_n 3, 1) := by decide +kernel
theorem dX7_euclid_60 : decode cX7_euclid 60 = .ok (.imul, 1) := by decide +kernel
theorem dX7_euclid_61 : decode cX7_euclid 61 = .ok (.iadd, 1) := by decide +kernel
theorem dX7_euclid_62 : decode cX7_euclid 62 = .ok (.ldc 78, 2) := by decide +kernel
theorem dX7_euclid_64 : decode cX7_euclid 64 = .ok (.if_icmp .le 7, 3) := by decide +kernel
theorem dX7_euclid_67 : decode cX7_euclid 67 = .ok (.iconst 3, 1) := by decide +kernel
theorem dX7_euclid_68 : decode cX7_euclid 68 = .ok (.goto 4, 3) := by decide +kernel
theorem dX7_euclid_71 : decode cX7_euclid 71 = .ok (.iconst 0, 1) := by decide +kernel
theorem dX7_euclid_72 : decode cX7_euclid 72 = .ok (.invokevirtual 57, 3) := by decide +kernel
theorem dX7_euclid_75 : decode cX7_euclid 75 = .ok (.ifCond .eq 5, 3) := by decide +kernel
theorem dX7_euclid_78 : decode cX7_euclid 78 = .ok (.iconst 0, 1) := by decide +kernel
theorem dX7_euclid_79 : decode cX7_euclid 79 = .ok (.ireturn, 1) := by decide +kernel
theorem dX7_euclid_80 : decode cX7_euclid 80 = .ok (.aload_n 0, 1) := by decide +kernel
theorem dX7_euclid_81 : decode cX7_euclid 81 = .ok (.iload_n 1, 1) := by decide +kernel
theorem dX7_euclid_82 : decode cX7_euclid 82 = .ok (.iload_n 2, 1) := by decide +kernel
theorem dX7_euclid_83 : decode cX7_euclid 83 = .ok (.iload_n 2, 1) := by decide +kernel
theorem dX7_euclid_84 : decode cX7_euclid 84 = .ok (.imul, 1) := by decide +kernel
theorem dX7_euclid_85 : decode cX7_euclid 85 = .ok (.iload_n 3, 1) := by decide +kernel
theorem dX7_euclid_86 : decode cX7_euclid 86 = .ok (.iload_n 3, 1) := by decide +kernel
theorem dX7_euclid_87 : decode cX7_euclid 87 = .ok (.imul, 1) := by decide +kernel
theorem dX7_euclid_88 : decode cX7_euclid 88 = .ok (.isub, 1) := by decide +kernel
theorem dX7_euclid_89 : decode cX7_euclid 89 = .ok (.iconst 2, 1) := by decide +kernel
theorem dX7_euclid_90 : decode cX7_euclid 90 = .ok (.iload_n 2, 1) := by decide +kernel
theorem dX7_euclid_91 : decode cX7_euclid 91 = .ok (.imul, 1) := by decide +kernel
theorem dX7_euclid_92 : decode cX7_euclid 92 = .ok (.iload_n 3, 1) := by decide +kernel
theorem dX7_euclid_93 : decode cX7_euclid 93 = .ok (.imul, 1) := by decide +kernel
theorem dX7_euclid_94 : decode cX7_euclid 94 = .ok (.iload_n 2, 1) := by decide +kernel
theorem dX7_euclid_95 : decode cX7_euclid 95 = .ok (.iload_n 2, 1) := by decide +kernel
theorem dX7_euclid_96 : decode cX7_euclid 96 = .ok (.imul, 1) := by decide +kernel
theorem dX7_euclid_97 : decode cX7_euclid 97 = .ok (.iload_n 3, 1) := by decide +kernel
theorem dX7_euclid_98 : decode cX7_euclid 98 = .ok (.iload_n 3, 1) := by decide +kernel
theorem dX7_euclid_99 : decode cX7_euclid 99 = .ok (.imul, 1) := by decide +kernel
theorem dX7_euclid_100 : decode cX7_euclid 100 = .ok (.iadd, 1) := by decide +kernel
theorem dX7_euclid_101 : decode cX7_euclid 101 = .ok (.invokevirtual 60, 3) := by decide +kernel
theorem dX7_euclid_104 : decode cX7_euclid 104 = .ok (.aload_n 0, 1) := by decide +kernel
theorem dX7_euclid_105 : decode cX7_euclid 105 = .ok (.getfield 16, 3) := by decide +kernel
theorem dX7_euclid_108 : decode cX7_euclid 108 = .ok (.iload_n 1, 1) := by decide +kernel
theorem dX7_euclid_109 : decode cX7_euclid 109 = .ok (.iaload, 1) := by decide +kernel
theorem dX7_euclid_110 : decode cX7_euclid 110 = .ok (.ireturn, 1) := by decide +kernel
theorem dX7_isPrimitive_0 : decode cX7_isPrimitive 0 = .ok (.aload_n 0, 1) := by decide +kernel
theorem dX7_isPrimitive_1 : decode cX7_isPrimitive 1 = .ok (.iload_n 1, 1) := by decide +kernel
theorem dX7_isPrimitive_2 : decode cX7_isPrimitive 2 = .ok (.invokevirtual 85, 3) := by decide +kernel
theorem dX7_isPrimitive_5 : decode cX7_isPrimitive 5 = .ok (.ifCond .ne 26, 3) := by decide +kernel
theorem dX7_isPrimitive_8 : decode cX7_isPrimitive 8 = .ok (.aload_n 0, 1) := by decide +kernel
theorem dX7_isPrimitive_9 : decode cX7_isPrimitive 9 = .ok (.getfield 7, 3) := by decide +kernel
theorem dX7_isPrimitive_12 : decode cX7_isPrimitive 12 = .ok (.iload_n 1, 1) := by decide +kernel
theorem dX7_isPrimitive_13 : decode cX7_isPrimitive 13 = .ok (.iaload, 1) := by decide +kernel
theorem dX7_isPrimitive_14 : decode cX7_isPrimitive 14 = .ok (.aload_n 0, 1) := by decide +kernel
theorem dX7_isPrimitive_15 : decode cX7_isPrimitive 15 = .ok (.getfield 13, 3) := by decide +kernel
theorem dX7_isPrimitive_18 : decode cX7_isPrimitive 18 = .ok (.iload_n 1, 1) := by decide +kernel
theorem dX7_isPrimitive_19 : decode cX7_isPrimitive 19 = .ok (.iaload, 1) := by decide +kernel
theorem dX7_isPrimitive_20 : decode cX7_isPrimitive 20 = .ok (.invokestatic 79, 3) := by decide +kernel
theorem dX7_isPrimitive_23 : decode cX7_isPrimitive 23 = .ok (.iconst 1, 1) := by decide +kernel
theorem dX7_isPrimitive_24 : decode cX7_isPrimitive 24 = .ok (.if_icmp .ne 7, 3) := by decide +kernel
theorem dX7_isPrimitive_27 : decode cX7_isPrimitive 27 = .ok (.iconst 1, 1) := by decide +kernel
theorem dX7_isPrimitive_28 : decode cX7_isPrimitive 28 = .ok (.goto 4, 3) := by decide +kernel
theorem dX7_isPrimitive_31 : decode cX7_isPrimitive 31 = .ok (.iconst 0, 1) := by decide +kernel
theorem dX7_isPrimitive_32 : decode cX7_isPrimitive 32 = .ok (.ireturn, 1) := by decide +kernel
theorem dX7_odd_0 : decode cX7_odd 0 = .ok (.aload_n 0, 1) := by decide +kernel
theorem dX7_odd_1 : decode cX7_odd 1 = .ok (.getfield 7, 3) := by decide +kernel
theorem dX7_odd_4 : decode cX7_odd 4 = .ok (.iload_n 1, 1) := by decide +kernel
theorem dX7_odd_5 : decode cX7_odd 5 = .ok (.iaload, 1) := by decide +kernel
theorem dX7_odd_6 : decode cX7_odd 6 = .ok (.iconst 2, 1) := by decide +kernel
theorem dX7_odd_7 : decode cX7_odd 7 = .ok (.irem, 1) := by decide +kernel
theorem dX7_odd_8 : decode cX7_odd 8 = .ok (.iconst 1, 1) := by decide +kernel
theorem dX7_odd_9 : decode cX7_odd 9 = .ok (.if_icmp .ne 12, 3) := by decide +kernel
theorem dX7_odd_12 : decode cX7_odd 12 = .ok (.aload_n 0, 1) := by decide +kernel
theorem dX7_odd_13 : decode cX7_odd 13 = .ok (.getfield 7, 3) := by decide +kernel
theorem dX7_odd_16 : decode cX7_odd 16 = .ok (.iload_n 1, 1) := by decide +kernel
theorem dX7_odd_17 : decode cX7_odd 17 = .ok (.iaload, 1) := by decide +kernel
theorem dX7_odd_18 : decode cX7_odd 18 = .ok (.goto 9, 3) := by decide +kernel
theorem dX7_odd_21 : decode cX7_odd 21 = .ok (.aload_n 0, 1) := by decide +kernel
theorem dX7_odd_22 : decode cX7_odd 22 = .ok (.getfield 13, 3) := by decide +kernel
theorem dX7_odd_25 : decode cX7_odd 25 = .ok (.iload_n 1, 1) := by decide +kernel
theorem dX7_odd_26 : decode cX7_odd 26 = .ok (.iaload, 1) := by decide +kernel
theorem dX7_odd_27 : decode cX7_odd 27 = .ok (.ireturn, 1) := by decide +kernel
theorem dX7_even_0 : decode cX7_even 0 = .ok (.aload_n 0, 1) := by decide +kernel
theorem dX7_even_1 : decode cX7_even 1 = .ok (.getfield 7, 3) := by decide +kernel
theorem dX7_even_4 : decode cX7_even 4 = .ok (.iload_n 1, 1) := by decide +kernel
theorem dX7_even_5 : decode cX7_even 5 = .ok (.iaload, 1) := by decide +kernel
theorem dX7_even_6 : decode cX7_even 6 = .ok (.iconst 2, 1) := by decide +kernel
theorem dX7_even_7 : decode cX7_even 7 = .ok (.irem, 1) := by decide +kernel
theorem dX7_even_8 : decode cX7_even 8 = .ok (.iconst 1, 1) := by decide +kernel
theorem dX7_even_9 : decode cX7_even 9 = .ok (.if_icmp .ne 12, 3) := by decide +kernel
theorem dX7_even_12 : decode cX7_even 12 = .ok (.aload_n 0, 1) := by decide +kernel
theorem dX7_even_13 : decode cX7_even 13 = .ok (.getfield 13, 3) := by decide +kernel
theorem dX7_even_16 : decode cX7_even 16 = .ok (.iload_n 1, 1) := by decide +kernel
theorem dX7_even_17 : decode cX7_even 17 = .ok (.iaload, 1) := by decide +kernel
theorem dX7_even_18 : decode cX7_even 18 = .ok (.goto 9, 3) := by decide +kernel
theorem dX7_even_21 : decode cX7_even 21 = .ok (.aload_n 0, 1) := by decide +kernel
theorem dX7_even_22 : decode cX7_even 22 = .ok (.getfield 7, 3) := by decide +kernel
theorem dX7_even_25 : decode cX7_even 25 = .ok (.iload_n 1, 1) := by decide +kernel
theorem dX7_even_26 : decode cX7_even 26 = .ok (.iaload, 1) := by decide +kernel
theorem dX7_even_27 : decode cX7_even 27 = .ok (.ireturn, 1) := by decide +kernel
theorem dX7_positive_0 : decode cX7_positive 0 = .ok (.iload_n 0, 1) := by decide +kernel
theorem dX7_positive_1 : decode cX7_positive 1 = .ok (.ifCond .ge 8, 3) := by decide +kernel
theorem dX7_positive_4 : decode cX7_positive 4 = .ok (.iload_n 0, 1) := by decide +kernel
theorem dX7_positive_5 : decode cX7_positive 5 = .ok (.ineg, 1) := by decide +kernel
theorem dX7_positive_6 : decode cX7_positive 6 = .ok (.goto 4, 3) := by decide +kernel
theorem dX7_positive_9 : decode cX7_positive 9 = .ok (.iload_n 0, 1) := by decide +kernel
theorem dX7_positive_10 : decode cX7_positive 10 = .ok (.ireturn, 1) := by decide +kernel
theorem dX7_stepped_0 : decode cX7_stepped 0 = .ok (.iload_n 3, 1) := by decide +kernel
theorem dX7_stepped_1 : decode cX7_stepped 1 = .ok (.bipush 112, 2) := by decide +kernel
theorem dX7_stepped_3 : decode cX7_stepped 3 = .ok (.if_icmp .ne 56, 3) := by decide +kernel
theorem dX7_stepped_6 : decode cX7_stepped 6 = .ok (.iload 4, 2) := by decide +kernel
theorem dX7_stepped_8 : decode cX7_stepped 8 = .ok (.ifCond .ne 18, 3) := by decide +kernel
theorem dX7_stepped_11 : decode cX7_stepped 11 = .ok (.iload_n 0, 1) := by decide +kernel
theorem dX7_stepped_12 : decode cX7_stepped 12 = .ok (.iconst 2, 1) := by decide +kernel
theorem dX7_stepped_13 : decode cX7_stepped 13 = .ok (.iload_n 1, 1) := by decide +kernel
theorem dX7_stepped_14 : decode cX7_stepped 14 = .ok (.imul, 1) := by decide +kernel
theorem dX7_stepped_15 : decode cX7_stepped 15 = .ok (.iadd, 1) := by decide +kernel
theorem dX7_stepped_16 : decode cX7_stepped 16 = .ok (.iconst 2, 1) := by decide +kernel
theorem dX7_stepped_17 : decode cX7_stepped 17 = .ok (.iload_n 2, 1) := by decide +kernel
theorem dX7_stepped_18 : decode cX7_stepped 18 = .ok (.imul, 1) := by decide +kernel
theorem dX7_stepped_19 : decode cX7_stepped 19 = .ok (.isub, 1) := by decide +kernel
theorem dX7_stepped_20 : decode cX7_stepped 20 = .ok (.invokestatic 156, 3) := by decide +kernel
theorem dX7_stepped_23 : decode cX7_stepped 23 = .ok (.goto 35, 3) := by decide +kernel
theorem dX7_stepped_26 : decode cX7_stepped 26 = .ok (.iload 4, 2) := by decide +kernel
theorem dX7_stepped_28 : decode cX7_stepped 28 = .ok (.iconst 1, 1) := by decide +kernel
theorem dX7_stepped_29 : decode cX7_stepped 29 = .ok (.if_icmp .ne 18, 3) := by decide +kernel
theorem dX7_stepped_32 : decode cX7_stepped 32 = .ok (.iconst 2, 1) := by decide +kernel
theorem dX7_stepped_33 : decode cX7_stepped 33 = .ok (.iload_n 0, 1) := by decide +kernel
theorem dX7_stepped_34 : decode cX7_stepped 34 = .ok (.imul, 1) := by decide +kernel
theorem dX7_stepped_35 : decode cX7_stepped 35 = .ok (.iload_n 1, 1) := by decide +kernel
theorem dX7_stepped_36 : decode cX7_stepped 36 = .ok (.iadd, 1) := by decide +kernel
theorem dX7_stepped_37 : decode cX7_stepped 37 = .ok (.iconst 2, 1) := by decide +kernel
theorem dX7_stepped_38 : decode cX7_stepped 38 = .ok (.iload_n 2, 1) := by decide +kernel
theorem dX7_stepped_39 : decode cX7_stepped 39 = .ok (.imul, 1) := by decide +kernel
theorem dX7_stepped_40 : decode cX7_stepped 40 = .ok (.isub, 1) := by decide +kernel
theorem dX7_stepped_41 : decode cX7_stepped 41 = .ok (.invokestatic 156, 3) := by decide +kernel
theorem dX7_stepped_44 : decode cX7_stepped 44 = .ok (.goto 14, 3) := by decide +kernel
theorem dX7_stepped_47 : decode cX7_stepped 47 = .ok (.iconst 3, 1) := by decide +kernel
theorem dX7_stepped_48 : decode cX7_stepped 48 = .ok (.iload_n 2, 1) := by decide +kernel
theorem dX7_stepped_49 : decode cX7_stepped 49 = .ok (.imul, 1) := by decide +kernel
theorem dX7_stepped_50 : decode cX7_stepped 50 = .ok (.iconst 2, 1) := by decide +kernel
theorem dX7_stepped_51 : decode cX7_stepped 51 = .ok (.iload_n 0, 1) := by decide +kernel
theorem dX7_stepped_52 : decode cX7_stepped 52 = .ok (.imul, 1) := by decide +kernel
theorem dX7_stepped_53 : decode cX7_stepped 53 = .ok (.isub, 1) := by decide +kernel
theorem dX7_stepped_54 : decode cX7_stepped 54 = .ok (.iconst 2, 1) := by decide +kernel
theorem dX7_stepped_55 : decode cX7_stepped 55 = .ok (.iload_n 1, 1) := by decide +kernel
theorem dX7_stepped_56 : decode cX7_stepped 56 = .ok (.imul, 1) := by decide +kernel
theorem dX7_stepped_57 : decode cX7_stepped 57 = .ok (.isub, 1) := by decide +kernel
theorem dX7_stepped_58 : decode cX7_stepped 58 = .ok (.ireturn, 1) := by decide +kernel
theorem dX7_stepped_59 : decode cX7_stepped 59 = .ok (.iload_n 3, 1) := by decide +kernel
theorem dX7_stepped_60 : decode cX7_stepped 60 = .ok (.bipush 99, 2) := by decide +kernel
theorem dX7_stepped_62 : decode cX7_stepped 62 = .ok (.if_icmp .ne 8, 3) := by decide +kernel
theorem dX7_stepped_65 : decode cX7_stepped 65 = .ok (.iload_n 0, 1) := by decide +kernel
theorem dX7_stepped_66 : decode cX7_stepped 66 = .ok (.ineg, 1) := by decide +kernel
theorem dX7_stepped_67 : decode cX7_stepped 67 = .ok (.goto 4, 3) := by decide +kernel
theorem dX7_stepped_70 : decode cX7_stepped 70 = .ok (.iload_n 0, 1) := by decide +kernel
theorem dX7_stepped_71 : decode cX7_stepped 71 = .ok (.istore 5, 2) := by decide +kernel
theorem dX7_stepped_73 : decode cX7_stepped 73 = .ok (.iload_n 3, 1) := by decide +kernel
theorem dX7_stepped_74 : decode cX7_stepped 74 = .ok (.bipush 97, 2) := by decide +kernel
theorem dX7_stepped_76 : decode cX7_stepped 76 = .ok (.if_icmp .ne 8, 3) := by decide +kernel
theorem dX7_stepped_79 : decode cX7_stepped 79 = .ok (.iload_n 1, 1) := by decide +kernel
theorem dX7_stepped_80 : decode cX7_stepped 80 = .ok (.ineg, 1) := by decide +kernel
theorem dX7_stepped_81 : decode cX7_stepped 81 = .ok (.goto 4, 3) := by decide +kernel
theorem dX7_stepped_84 : decode cX7_stepped 84 = .ok (.iload_n 1, 1) := by decide +kernel
theorem dX7_stepped_85 : decode cX7_stepped 85 = .ok (.istore 6, 2) := by decide +kernel
theorem dX7_stepped_87 : decode cX7_stepped 87 = .ok (.iload 4, 2) := by decide +kernel
theorem dX7_stepped_89 : decode cX7_stepped 89 = .ok (.ifCond .ne 17, 3) := by decide +kernel
theorem dX7_stepped_92 : decode cX7_stepped 92 = .ok (.iload 5, 2) := by decide +kernel
theorem dX7_stepped_94 : decode cX7_stepped 94 = .ok (.iconst 2, 1) := by decide +kernel
theorem dX7_stepped_95 : decode cX7_stepped 95 = .ok (.iload 6, 2) := by decide +kernel
theorem dX7_stepped_97 : decode cX7_stepped 97 = .ok (.imul, 1) := by decide +kernel
theorem dX7_stepped_98 : decode cX7_stepped 98 = .ok (.iadd, 1) := by decide +kernel
theorem dX7_stepped_99 : decode cX7_stepped 99 = .ok (.iconst 2, 1) := by decide +kernel
theorem dX7_stepped_100 : decode cX7_stepped 100 = .ok (.iload_n 2, 1) := by decide +kernel
theorem dX7_stepped_101 : decode cX7_stepped 101 = .ok (.imul, 1) := by decide +kernel
theorem dX7_stepped_102 : decode cX7_stepped 102 = .ok (.iadd, 1) := by decide +kernel
theorem dX7_stepped_103 : decode cX7_stepped 103 = .ok (.goto 36, 3) := by decide +kernel
theorem dX7_stepped_106 : decode cX7_stepped 106 = .ok (.iload 4, 2) := by decide +kernel
theorem dX7_stepped_108 : decode cX7_stepped 108 = .ok (.iconst 1, 1) := by decide +kernel
theorem dX7_stepped_109 : decode cX7_stepped 109 = .ok (.if_icmp .ne 17, 3) := by decide +kernel
theorem dX7_stepped_112 : decode cX7_stepped 112 = .ok (.iconst 2, 1) := by decide +kernel
theorem dX7_stepped_113 : decode cX7_stepped 113 = .ok (.iload 5, 2) := by decide +kernel
theorem dX7_stepped_115 : decode cX7_stepped 115 = .ok (.imul, 1) := by decide +kernel
theorem dX7_stepped_116 : decode cX7_stepped 116 = .ok (.iload 6, 2) := by decide +kernel
theorem dX7_stepped_118 : decode cX7_stepped 118 = .ok (.iadd, 1) := by decide +kernel
theorem dX7_stepped_119 : decode cX7_stepped 119 = .ok (.iconst 2, 1) := by decide +kernel
theorem dX7_stepped_120 : decode cX7_stepped 120 = .ok (.iload_n 2, 1) := by decide +kernel
theorem dX7_stepped_121 : decode cX7_stepped 121 = .ok (.imul, 1) := by decide +kernel
theorem dX7_stepped_122 : decode cX7_stepped 122 = .ok (.iadd, 1) := by decide +kernel
theorem dX7_stepped_123 : decode cX7_stepped 123 = .ok (.goto 16, 3) := by decide +kernel
theorem dX7_stepped_126 : decode cX7_stepped 126 = .ok (.iconst 2, 1) := by decide +kernel
theorem dX7_stepped_127 : decode cX7_stepped 127 = .ok (.iload 5, 2) := by decide +kernel
theorem dX7_stepped_129 : decode cX7_stepped 129 = .ok (.imul, 1) := by decide +kernel
theorem dX7_stepped_130 : decode cX7_stepped 130 = .ok (.iconst 2, 1) := by decide +kernel
theorem dX7_stepped_131 : decode cX7_stepped 131 = .ok (.iload 6, 2) := by decide +kernel
theorem dX7_stepped_133 : decode cX7_stepped 133 = .ok (.imul, 1) := by decide +kernel
theorem dX7_stepped_134 : decode cX7_stepped 134 = .ok (.iadd, 1) := by decide +kernel
theorem dX7_stepped_135 : decode cX7_stepped 135 = .ok (.iconst 3, 1) := by decide +kernel
theorem dX7_stepped_136 : decode cX7_stepped 136 = .ok (.iload_n 2, 1) := by decide +kernel
theorem dX7_stepped_137 : decode cX7_stepped 137 = .ok (.imul, 1) := by decide +kernel
theorem dX7_stepped_138 : decode cX7_stepped 138 = .ok (.iadd, 1) := by decide +kernel
theorem dX7_stepped_139 : decode cX7_stepped 139 = .ok (.ireturn, 1) := by decide +kernel
theorem dX7_canStep_0 : decode cX7_canStep 0 = .ok (.aload_n 0, 1) := by decide +kernel
theorem dX7_canStep_1 : decode cX7_canStep 1 = .ok (.iload_n 1, 1) := by decide +kernel
theorem dX7_canStep_2 : decode cX7_canStep 2 = .ok (.invokevirtual 159, 3) := by decide +kernel
theorem dX7_canStep_5 : decode cX7_canStep 5 = .ok (.ifCond .ne 5, 3) := by decide +kernel
theorem dX7_canStep_8 : decode cX7_canStep 8 = .ok (.iconst 0, 1) := by decide +kernel
theorem dX7_canStep_9 : decode cX7_canStep 9 = .ok (.ireturn, 1) := by decide +kernel
theorem dX7_canStep_10 : decode cX7_canStep 10 = .ok (.iload_n 2, 1) := by decide +kernel
theorem dX7_canStep_11 : decode cX7_canStep 11 = .ok (.bipush 112, 2) := by decide +kernel
theorem dX7_canStep_13 : decode cX7_canStep 13 = .ok (.if_icmp .ne 21, 3) := by decide +kernel
theorem dX7_canStep_16 : decode cX7_canStep 16 = .ok (.aload_n 0, 1) := by decide +kernel
theorem dX7_canStep_17 : decode cX7_canStep 17 = .ok (.getfield 16, 3) := by decide +kernel
theorem dX7_canStep_20 : decode cX7_canStep 20 = .ok (.iload_n 1, 1) := by decide +kernel
theorem dX7_canStep_21 : decode cX7_canStep 21 = .ok (.iaload, 1) := by decide +kernel
theorem dX7_canStep_22 : decode cX7_canStep 22 = .ok (.iconst 5, 1) := by decide +kernel
theorem dX7_canStep_23 : decode cX7_canStep 23 = .ok (.if_icmp .eq 7, 3) := by decide +kernel
theorem dX7_canStep_26 : decode cX7_canStep 26 = .ok (.iconst 1, 1) := by decide +kernel
theorem dX7_canStep_27 : decode cX7_canStep 27 = .ok (.goto 38, 3) := by decide +kernel
theorem dX7_canStep_30 : decode cX7_canStep 30 = .ok (.iconst 0, 1) := by decide +kernel
theorem dX7_canStep_31 : decode cX7_canStep 31 = .ok (.goto 34, 3) := by decide +kernel
theorem dX7_canStep_34 : decode cX7_canStep 34 = .ok (.aload_n 0, 1) := by decide +kernel
theorem dX7_canStep_35 : decode cX7_canStep 35 = .ok (.iload_n 1, 1) := by decide +kernel
theorem dX7_canStep_36 : decode cX7_canStep 36 = .ok (.invokevirtual 162, 3) := by decide +kernel
theorem dX7_canStep_39 : decode cX7_canStep 39 = .ok (.aload_n 0, 1) := by decide +kernel
theorem dX7_canStep_40 : decode cX7_canStep 40 = .ok (.iload_n 1, 1) := by decide +kernel
theorem dX7_canStep_41 : decode cX7_canStep 41 = .ok (.invokevirtual 165, 3) := by decide +kernel
theorem dX7_canStep_44 : decode cX7_canStep 44 = .ok (.aload_n 0, 1) := by decide +kernel
theorem dX7_canStep_45 : decode cX7_canStep 45 = .ok (.getfield 16, 3) := by decide +kernel
theorem dX7_canStep_48 : decode cX7_canStep 48 = .ok (.iload_n 1, 1) := by decide +kernel
theorem dX7_canStep_49 : decode cX7_canStep 49 = .ok (.iaload, 1) := by decide +kernel
theorem dX7_canStep_50 : decode cX7_canStep 50 = .ok (.iload_n 2, 1) := by decide +kernel
theorem dX7_canStep_51 : decode cX7_canStep 51 = .ok (.iconst 2, 1) := by decide +kernel
theorem dX7_canStep_52 : decode cX7_canStep 52 = .ok (.invokestatic 168, 3) := by decide +kernel
theorem dX7_canStep_55 : decode cX7_canStep 55 = .ok (.ldc 78, 2) := by decide +kernel
theorem dX7_canStep_57 : decode cX7_canStep 57 = .ok (.if_icmp .gt 7, 3) := by decide +kernel
theorem dX7_canStep_60 : decode cX7_canStep 60 = .ok (.iconst 1, 1) := by decide +kernel
theorem dX7_canStep_61 : decode cX7_canStep 61 = .ok (.goto 4, 3) := by decide +kernel
theorem dX7_canStep_64 : decode cX7_canStep 64 = .ok (.iconst 0, 1) := by decide +kernel
theorem dX7_canStep_65 : decode cX7_canStep 65 = .ok (.ireturn, 1) := by decide +kernel
theorem dX7_step_0 : decode cX7_step 0 = .ok (.iload_n 2, 1) := by decide +kernel
theorem dX7_step_1 : decode cX7_step 1 = .ok (.bipush 97, 2) := by decide +kernel
theorem dX7_step_3 : decode cX7_step 3 = .ok (.if_icmp .eq 21, 3) := by decide +kernel
theorem dX7_step_6 : decode cX7_step 6 = .ok (.iload_n 2, 1) := by decide +kernel
theorem dX7_step_7 : decode cX7_step 7 = .ok (.bipush 98, 2) := by decide +kernel
theorem dX7_step_9 : decode cX7_step 9 = .ok (.if_icmp .eq 15, 3) := by decide +kernel
theorem dX7_step_12 : decode cX7_step 12 = .ok (.iload_n 2, 1) := by decide +kernel
theorem dX7_step_13 : decode cX7_step 13 = .ok (.bipush 99, 2) := by decide +kernel
theorem dX7_step_15 : decode cX7_step 15 = .ok (.if_icmp .eq 9, 3) := by decide +kernel
theorem dX7_step_18 : decode cX7_step 18 = .ok (.iload_n 2, 1) := by decide +kernel
theorem dX7_step_19 : decode cX7_step 19 = .ok (.bipush 112, 2) := by decide +kernel
theorem dX7_step_21 : decode cX7_step 21 = .ok (.if_icmp .ne 7, 3) := by decide +kernel
theorem dX7_step_24 : decode cX7_step 24 = .ok (.iconst 1, 1) := by decide +kernel
theorem dX7_step_25 : decode cX7_step 25 = .ok (.goto 4, 3) := by decide +kernel
theorem dX7_step_28 : decode cX7_step 28 = .ok (.iconst 0, 1) := by decide +kernel
theorem dX7_step_29 : decode cX7_step 29 = .ok (.istore_n 3, 1) := by decide +kernel
theorem dX7_step_30 : decode cX7_step 30 = .ok (.aload_n 0, 1) := by decide +kernel
theorem dX7_step_31 : decode cX7_step 31 = .ok (.iload_n 1, 1) := by decide +kernel
theorem dX7_step_32 : decode cX7_step 32 = .ok (.invokestatic 41, 3) := by decide +kernel
theorem dX7_step_35 : decode cX7_step 35 = .ok (.ifCond .ne 7, 3) := by decide +kernel
theorem dX7_step_38 : decode cX7_step 38 = .ok (.iconst 1, 1) := by decide +kernel
theorem dX7_step_39 : decode cX7_step 39 = .ok (.goto 37, 3) := by decide +kernel
theorem dX7_step_42 : decode cX7_step 42 = .ok (.iload_n 3, 1) := by decide +kernel
theorem dX7_step_43 : decode cX7_step 43 = .ok (.ifCond .ne 7, 3) := by decide +kernel
theorem dX7_step_46 : decode cX7_step 46 = .ok (.iconst 2, 1) := by decide +kernel
theorem dX7_step_47 : decode cX7_step 47 = .ok (.goto 29, 3) := by decide +kernel
theorem dX7_step_50 : decode cX7_step 50 = .ok (.aload_n 0, 1) := by decide +kernel
theorem dX7_step_51 : decode cX7_step 51 = .ok (.iload_n 1, 1) := by decide +kernel
theorem dX7_step_52 : decode cX7_step 52 = .ok (.invokevirtual 45, 3) := by decide +kernel
theorem dX7_step_55 : decode cX7_step 55 = .ok (.ifCond .ne 7, 3) := by decide +kernel
theorem dX7_step_58 : decode cX7_step 58 = .ok (.iconst 3, 1) := by decide +kernel
theorem dX7_step_59 : decode cX7_step 59 = .ok (.goto 17, 3) := by decide +kernel
theorem dX7_step_62 : decode cX7_step 62 = .ok (.aload_n 0, 1) := by decide +kernel
theorem dX7_step_63 : decode cX7_step 63 = .ok (.iload_n 1, 1) := by decide +kernel
theorem dX7_step_64 : decode cX7_step 64 = .ok (.iload_n 2, 1) := by decide +kernel
theorem dX7_step_65 : decode cX7_step 65 = .ok (.invokevirtual 172, 3) := by decide +kernel
theorem dX7_step_68 : decode cX7_step 68 = .ok (.ifCond .eq 7, 3) := by decide +kernel
theorem dX7_step_71 : decode cX7_step 71 = .ok (.iconst 0, 1) := by decide +kernel
theorem dX7_step_72 : decode cX7_step 72 = .ok (.goto 4, 3) := by decide +kernel
theorem dX7_step_75 : decode cX7_step 75 = .ok (.iconst 4, 1) := by decide +kernel
theorem dX7_step_76 : decode cX7_step 76 = .ok (.invokevirtual 57, 3) := by decide +kernel
theorem dX7_step_79 : decode cX7_step 79 = .ok (.ifCond .eq 5, 3) := by decide +kernel
theorem dX7_step_82 : decode cX7_step 82 = .ok (.iconst 0, 1) := by decide +kernel
theorem dX7_step_83 : decode cX7_step 83 = .ok (.ireturn, 1) := by decide +kernel
theorem dX7_step_84 : decode cX7_step 84 = .ok (.aload_n 0, 1) := by decide +kernel
theorem dX7_step_85 : decode cX7_step 85 = .ok (.iload_n 1, 1) := by decide +kernel
theorem dX7_step_86 : decode cX7_step 86 = .ok (.invokevirtual 162, 3) := by decide +kernel
theorem dX7_step_89 : decode cX7_step 89 = .ok (.istore 4, 2) := by decide +kernel
theorem dX7_step_91 : decode cX7_step 91 = .ok (.aload_n 0, 1) := by decide +kernel
theorem dX7_step_92 : decode cX7_step 92 = .ok (.iload_n 1, 1) := by decide +kernel
theorem dX7_step_93 : decode cX7_step 93 = .ok (.invokevirtual 165, 3) := by decide +kernel
theorem dX7_step_96 : decode cX7_step 96 = .ok (.istore 5, 2) := by decide +kernel
theorem dX7_step_98 : decode cX7_step 98 = .ok (.aload_n 0, 1) := by decide +kernel
theorem dX7_step_99 : decode cX7_step 99 = .ok (.getfield 16, 3) := by decide +kernel
theorem dX7_step_102 : decode cX7_step 102 = .ok (.iload_n 1, 1) := by decide +kernel
theorem dX7_step_103 : decode cX7_step 103 = .ok (.iaload, 1) := by decide +kernel
theorem dX7_step_104 : decode cX7_step 104 = .ok (.istore 6, 2) := by decide +kernel
theorem dX7_step_106 : decode cX7_step 106 = .ok (.aload_n 0, 1) := by decide +kernel
theorem dX7_step_107 : decode cX7_step 107 = .ok (.iload_n 1, 1) := by decide +kernel
theorem dX7_step_108 : decode cX7_step 108 = .ok (.iload 4, 2) := by decide +kernel
theorem dX7_step_110 : decode cX7_step 110 = .ok (.iload 5, 2) := by decide +kernel
theorem dX7_step_112 : decode cX7_step 112 = .ok (.iload 6, 2) := by decide +kernel
theorem dX7_step_114 : decode cX7_step 114 = .ok (.iload_n 2, 1) := by decide +kernel
theorem dX7_step_115 : decode cX7_step 115 = .ok (.iconst 0, 1) := by decide +kernel
theorem dX7_step_116 : decode cX7_step 116 = .ok (.invokestatic 168, 3) := by decide +kernel
theorem dX7_step_119 : decode cX7_step 119 = .ok (.iload 4, 2) := by decide +kernel
theorem dX7_step_121 : decode cX7_step 121 = .ok (.iload 5, 2) := by decide +kernel
theorem dX7_step_123 : decode cX7_step 123 = .ok (.iload 6, 2) := by decide +kernel
theorem dX7_step_125 : decode cX7_step 125 = .ok (.iload_n 2, 1) := by decide +kernel
theorem dX7_step_126 : decode cX7_step 126 = .ok (.iconst 1, 1) := by decide +kernel
theorem dX7_step_127 : decode cX7_step 127 = .ok (.invokestatic 168, 3) := by decide +kernel
theorem dX7_step_130 : decode cX7_step 130 = .ok (.iload 4, 2) := by decide +kernel
theorem dX7_step_132 : decode cX7_step 132 = .ok (.iload 5, 2) := by decide +kernel
theorem dX7_step_134 : decode cX7_step 134 = .ok (.iload 6, 2) := by decide +kernel
theorem dX7_step_136 : decode cX7_step 136 = .ok (.iload_n 2, 1) := by decide +kernel
theorem dX7_step_137 : decode cX7_step 137 = .ok (.iconst 2, 1) := by decide +kernel
theorem dX7_step_138 : decode cX7_step 138 = .ok (.invokestatic 168, 3) := by decide +kernel
theorem dX7_step_141 : decode cX7_step 141 = .ok (.invokevirtual 60, 3) := by decide +kernel
theorem dX7_step_144 : decode cX7_step 144 = .ok (.aload_n 0, 1) := by decide +kernel
theorem dX7_step_145 : decode cX7_step 145 = .ok (.getfield 16, 3) := by decide +kernel
theorem dX7_step_148 : decode cX7_step 148 = .ok (.iload_n 1, 1) := by decide +kernel
theorem dX7_step_149 : decode cX7_step 149 = .ok (.iaload, 1) := by decide +kernel
theorem dX7_step_150 : decode cX7_step 150 = .ok (.ireturn, 1) := by decide +kernel
theorem dX7_depth_0 : decode cX7_depth 0 = .ok (.aload_n 0, 1) := by decide +kernel
theorem dX7_depth_1 : decode cX7_depth 1 = .ok (.iload_n 1, 1) := by decide +kernel
theorem dX7_depth_2 : decode cX7_depth 2 = .ok (.iconst 2, 1) := by decide +kernel
theorem dX7_depth_3 : decode cX7_depth 3 = .ok (.invokevirtual 68, 3) := by decide +kernel
theorem dX7_depth_6 : decode cX7_depth 6 = .ok (.istore_n 2, 1) := by decide +kernel
theorem dX7_depth_7 : decode cX7_depth 7 = .ok (.aload_n 0, 1) := by decide +kernel
theorem dX7_depth_8 : decode cX7_depth 8 = .ok (.iload_n 2, 1) := by decide +kernel
theorem dX7_depth_9 : decode cX7_depth 9 = .ok (.ifCond .eq 7, 3) := by decide +kernel
theorem dX7_depth_12 : decode cX7_depth 12 = .ok (.iload_n 2, 1) := by decide +kernel
theorem dX7_depth_13 : decode cX7_depth 13 = .ok (.goto 16, 3) := by decide +kernel
theorem dX7_depth_16 : decode cX7_depth 16 = .ok (.aload_n 0, 1) := by decide +kernel
theorem dX7_depth_17 : decode cX7_depth 17 = .ok (.iload_n 1, 1) := by decide +kernel
theorem dX7_depth_18 : decode cX7_depth 18 = .ok (.invokevirtual 159, 3) := by decide +kernel
theorem dX7_depth_21 : decode cX7_depth 21 = .ok (.ifCond .eq 7, 3) := by decide +kernel
theorem dX7_depth_24 : decode cX7_depth 24 = .ok (.iconst 0, 1) := by decide +kernel
theorem dX7_depth_25 : decode cX7_depth 25 = .ok (.goto 4, 3) := by decide +kernel
theorem dX7_depth_28 : decode cX7_depth 28 = .ok (.iconst 3, 1) := by decide +kernel
theorem dX7_depth_29 : decode cX7_depth 29 = .ok (.invokevirtual 57, 3) := by decide +kernel
theorem dX7_depth_32 : decode cX7_depth 32 = .ok (.ifCond .eq 5, 3) := by decide +kernel
theorem dX7_depth_35 : decode cX7_depth 35 = .ok (.iconst 0, 1) := by decide +kernel
theorem dX7_depth_36 : decode cX7_depth 36 = .ok (.ireturn, 1) := by decide +kernel
theorem dX7_depth_37 : decode cX7_depth 37 = .ok (.aload_n 0, 1) := by decide +kernel
theorem dX7_depth_38 : decode cX7_depth 38 = .ok (.iload_n 1, 1) := by decide +kernel
theorem dX7_depth_39 : decode cX7_depth 39 = .ok (.invokevirtual 162, 3) := by decide +kernel
theorem dX7_depth_42 : decode cX7_depth 42 = .ok (.istore_n 3, 1) := by decide +kernel
theorem dX7_depth_43 : decode cX7_depth 43 = .ok (.aload_n 0, 1) := by decide +kernel
theorem dX7_depth_44 : decode cX7_depth 44 = .ok (.iload_n 1, 1) := by decide +kernel
theorem dX7_depth_45 : decode cX7_depth 45 = .ok (.invokevirtual 165, 3) := by decide +kernel
theorem dX7_depth_48 : decode cX7_depth 48 = .ok (.istore 4, 2) := by decide +kernel
theorem dX7_depth_50 : decode cX7_depth 50 = .ok (.aload_n 0, 1) := by decide +kernel
theorem dX7_depth_51 : decode cX7_depth 51 = .ok (.getfield 16, 3) := by decide +kernel
theorem dX7_depth_54 : decode cX7_depth 54 = .ok (.iload_n 1, 1) := by decide +kernel
theorem dX7_depth_55 : decode cX7_depth 55 = .ok (.iaload, 1) := by decide +kernel
theorem dX7_depth_56 : decode cX7_depth 56 = .ok (.istore 5, 2) := by decide +kernel
theorem dX7_depth_58 : decode cX7_depth 58 = .ok (.iconst 0, 1) := by decide +kernel
theorem dX7_depth_59 : decode cX7_depth 59 = .ok (.istore 6, 2) := by decide +kernel
theorem dX7_depth_61 : decode cX7_depth 61 = .ok (.iload 5, 2) := by decide +kernel
theorem dX7_depth_63 : decode cX7_depth 63 = .ok (.iconst 5, 1) := by decide +kernel
theorem dX7_depth_64 : decode cX7_depth 64 = .ok (.if_icmp .le 55, 3) := by decide +kernel
theorem dX7_depth_67 : decode cX7_depth 67 = .ok (.iload_n 3, 1) := by decide +kernel
theorem dX7_depth_68 : decode cX7_depth 68 = .ok (.iload 4, 2) := by decide +kernel
theorem dX7_depth_70 : decode cX7_depth 70 = .ok (.iload 5, 2) := by decide +kernel
theorem dX7_depth_72 : decode cX7_depth 72 = .ok (.bipush 112, 2) := by decide +kernel
theorem dX7_depth_74 : decode cX7_depth 74 = .ok (.iconst 0, 1) := by decide +kernel
theorem dX7_depth_75 : decode cX7_depth 75 = .ok (.invokestatic 168, 3) := by decide +kernel
theorem dX7_depth_78 : decode cX7_depth 78 = .ok (.istore 7, 2) := by decide +kernel
theorem dX7_depth_80 : decode cX7_depth 80 = .ok (.iload_n 3, 1) := by decide +kernel
theorem dX7_depth_81 : decode cX7_depth 81 = .ok (.iload 4, 2) := by decide +kernel
theorem dX7_depth_83 : decode cX7_depth 83 = .ok (.iload 5, 2) := by decide +kernel
theorem dX7_depth_85 : decode cX7_depth 85 = .ok (.bipush 112, 2) := by decide +kernel
theorem dX7_depth_87 : decode cX7_depth 87 = .ok (.iconst 1, 1) := by decide +kernel
theorem dX7_depth_88 : decode cX7_depth 88 = .ok (.invokestatic 168, 3) := by decide +kernel
theorem dX7_depth_91 : decode cX7_depth 91 = .ok (.istore 8, 2) := by decide +kernel
theorem dX7_depth_93 : decode cX7_depth 93 = .ok (.iload_n 3, 1) := by decide +kernel
theorem dX7_depth_94 : decode cX7_depth 94 = .ok (.iload 4, 2) := by decide +kernel
theorem dX7_depth_96 : decode cX7_depth 96 = .ok (.iload 5, 2) := by decide +kernel
theorem dX7_depth_98 : decode cX7_depth 98 = .ok (.bipush 112, 2) := by decide +kernel
theorem dX7_depth_100 : decode cX7_depth 100 = .ok (.iconst 2, 1) := by decide +kernel
theorem dX7_depth_101 : decode cX7_depth 101 = .ok (.invokestatic 168, 3) := by decide +kernel
theorem dX7_depth_104 : decode cX7_depth 104 = .ok (.istore 5, 2) := by decide +kernel
theorem dX7_depth_106 : decode cX7_depth 106 = .ok (.iload 7, 2) := by decide +kernel
theorem dX7_depth_108 : decode cX7_depth 108 = .ok (.istore_n 3, 1) := by decide +kernel
theorem dX7_depth_109 : decode cX7_depth 109 = .ok (.iload 8, 2) := by decide +kernel
theorem dX7_depth_111 : decode cX7_depth 111 = .ok (.istore 4, 2) := by decide +kernel
theorem dX7_depth_113 : decode cX7_depth 113 = .ok (.iinc 6 1, 3) := by decide +kernel
theorem dX7_depth_116 : decode cX7_depth 116 = .ok (.goto (-55), 3) := by decide +kernel
theorem dX7_depth_119 : decode cX7_depth 119 = .ok (.iload 6, 2) := by decide +kernel
theorem dX7_depth_121 : decode cX7_depth 121 = .ok (.ireturn, 1) := by decide +kernel
theorem dX7_generator_0 : decode cX7_generator 0 = .ok (.iload_n 2, 1) := by decide +kernel
theorem dX7_generator_1 : decode cX7_generator 1 = .ok (.bipush 109, 2) := by decide +kernel
theorem dX7_generator_3 : decode cX7_generator 3 = .ok (.if_icmp .eq 9, 3) := by decide +kernel
theorem dX7_generator_6 : decode cX7_generator 6 = .ok (.iload_n 2, 1) := by decide +kernel
theorem dX7_generator_7 : decode cX7_generator 7 = .ok (.bipush 110, 2) := by decide +kernel
theorem dX7_generator_9 : decode cX7_generator 9 = .ok (.if_icmp .ne 7, 3) := by decide +kernel
theorem dX7_generator_12 : decode cX7_generator 12 = .ok (.iconst 1, 1) := by decide +kernel
theorem dX7_generator_13 : decode cX7_generator 13 = .ok (.goto 4, 3) := by decide +kernel
theorem dX7_generator_16 : decode cX7_generator 16 = .ok (.iconst 0, 1) := by decide +kernel
theorem dX7_generator_17 : decode cX7_generator 17 = .ok (.istore_n 3, 1) := by decide +kernel
theorem dX7_generator_18 : decode cX7_generator 18 = .ok (.aload_n 0, 1) := by decide +kernel
theorem dX7_generator_19 : decode cX7_generator 19 = .ok (.iload_n 1, 1) := by decide +kernel
theorem dX7_generator_20 : decode cX7_generator 20 = .ok (.invokestatic 41, 3) := by decide +kernel
theorem dX7_generator_23 : decode cX7_generator 23 = .ok (.ifCond .ne 7, 3) := by decide +kernel
theorem dX7_generator_26 : decode cX7_generator 26 = .ok (.iconst 1, 1) := by decide +kernel
theorem dX7_generator_27 : decode cX7_generator 27 = .ok (.goto 36, 3) := by decide +kernel
theorem dX7_generator_30 : decode cX7_generator 30 = .ok (.iload_n 3, 1) := by decide +kernel
theorem dX7_generator_31 : decode cX7_generator 31 = .ok (.ifCond .ne 7, 3) := by decide +kernel
theorem dX7_generator_34 : decode cX7_generator 34 = .ok (.iconst 2, 1) := by decide +kernel
theorem dX7_generator_35 : decode cX7_generator 35 = .ok (.goto 28, 3) := by decide +kernel
theorem dX7_generator_38 : decode cX7_generator 38 = .ok (.aload_n 0, 1) := by decide +kernel
theorem dX7_generator_39 : decode cX7_generator 39 = .ok (.iload_n 1, 1) := by decide +kernel
theorem dX7_generator_40 : decode cX7_generator 40 = .ok (.invokevirtual 45, 3) := by decide +kernel
theorem dX7_generator_43 : decode cX7_generator 43 = .ok (.ifCond .ne 7, 3) := by decide +kernel
theorem dX7_generator_46 : decode cX7_generator 46 = .ok (.iconst 3, 1) := by decide +kernel
theorem dX7_generator_47 : decode cX7_generator 47 = .ok (.goto 16, 3) := by decide +kernel
theorem dX7_generator_50 : decode cX7_generator 50 = .ok (.aload_n 0, 1) := by decide +kernel
theorem dX7_generator_51 : decode cX7_generator 51 = .ok (.iload_n 1, 1) := by decide +kernel
theorem dX7_generator_52 : decode cX7_generator 52 = .ok (.invokevirtual 159, 3) := by decide +kernel
theorem dX7_generator_55 : decode cX7_generator 55 = .ok (.ifCond .eq 7, 3) := by decide +kernel
theorem dX7_generator_58 : decode cX7_generator 58 = .ok (.iconst 0, 1) := by decide +kernel
theorem dX7_generator_59 : decode cX7_generator 59 = .ok (.goto 4, 3) := by decide +kernel
theorem dX7_generator_62 : decode cX7_generator 62 = .ok (.iconst 4, 1) := by decide +kernel
theorem dX7_generator_63 : decode cX7_generator 63 = .ok (.invokevirtual 57, 3) := by decide +kernel
theorem dX7_generator_66 : decode cX7_generator 66 = .ok (.ifCond .eq 5, 3) := by decide +kernel
theorem dX7_generator_69 : decode cX7_generator 69 = .ok (.iconst 0, 1) := by decide +kernel
theorem dX7_generator_70 : decode cX7_generator 70 = .ok (.ireturn, 1) := by decide +kernel
theorem dX7_generator_71 : decode cX7_generator 71 = .ok (.iconst 1, 1) := by decide +kernel
theorem dX7_generator_72 : decode cX7_generator 72 = .ok (.istore 4, 2) := by decide +kernel
theorem dX7_generator_74 : decode cX7_generator 74 = .ok (.iload_n 2, 1) := by decide +kernel
theorem dX7_generator_75 : decode cX7_generator 75 = .ok (.bipush 109, 2) := by decide +kernel
theorem dX7_generator_77 : decode cX7_generator 77 = .ok (.if_icmp .ne 18, 3) := by decide +kernel
theorem dX7_generator_80 : decode cX7_generator 80 = .ok (.aload_n 0, 1) := by decide +kernel
theorem dX7_generator_81 : decode cX7_generator 81 = .ok (.getfield 16, 3) := by decide +kernel
theorem dX7_generator_84 : decode cX7_generator 84 = .ok (.iload_n 1, 1) := by decide +kernel
theorem dX7_generator_85 : decode cX7_generator 85 = .ok (.iaload, 1) := by decide +kernel
theorem dX7_generator_86 : decode cX7_generator 86 = .ok (.aload_n 0, 1) := by decide +kernel
theorem dX7_generator_87 : decode cX7_generator 87 = .ok (.iload_n 1, 1) := by decide +kernel
theorem dX7_generator_88 : decode cX7_generator 88 = .ok (.invokevirtual 162, 3) := by decide +kernel
theorem dX7_generator_91 : decode cX7_generator 91 = .ok (.iadd, 1) := by decide +kernel
theorem dX7_generator_92 : decode cX7_generator 92 = .ok (.goto 15, 3) := by decide +kernel
theorem dX7_generator_95 : decode cX7_generator 95 = .ok (.aload_n 0, 1) := by decide +kernel
theorem dX7_generator_96 : decode cX7_generator 96 = .ok (.getfield 16, 3) := by decide +kernel
theorem dX7_generator_99 : decode cX7_generator 99 = .ok (.iload_n 1, 1) := by decide +kernel
theorem dX7_generator_100 : decode cX7_generator 100 = .ok (.iaload, 1) := by decide +kernel
theorem dX7_generator_101 : decode cX7_generator 101 = .ok (.aload_n 0, 1) := by decide +kernel
theorem dX7_generator_102 : decode cX7_generator 102 = .ok (.iload_n 1, 1) := by decide +kernel
theorem dX7_generator_103 : decode cX7_generator 103 = .ok (.invokevirtual 162, 3) := by decide +kernel
theorem dX7_generator_106 : decode cX7_generator 106 = .ok (.isub, 1) := by decide +kernel
theorem dX7_generator_107 : decode cX7_generator 107 = .ok (.iconst 2, 1) := by decide +kernel
theorem dX7_generator_108 : decode cX7_generator 108 = .ok (.idiv, 1) := by decide +kernel
theorem dX7_generator_109 : decode cX7_generator 109 = .ok (.istore 5, 2) := by decide +kernel
theorem dX7_generator_111 : decode cX7_generator 111 = .ok (.iload 4, 2) := by decide +kernel
theorem dX7_generator_113 : decode cX7_generator 113 = .ok (.iload 4, 2) := by decide +kernel
theorem dX7_generator_115 : decode cX7_generator 115 = .ok (.imul, 1) := by decide +kernel
theorem dX7_generator_116 : decode cX7_generator 116 = .ok (.iload 5, 2) := by decide +kernel
theorem dX7_generator_118 : decode cX7_generator 118 = .ok (.if_icmp .ge 9, 3) := by decide +kernel
theorem dX7_generator_121 : decode cX7_generator 121 = .ok (.iinc 4 1, 3) := by decide +kernel
theorem dX7_generator_124 : decode cX7_generator 124 = .ok (.goto (-13), 3) := by decide +kernel
theorem dX7_generator_127 : decode cX7_generator 127 = .ok (.iload 4, 2) := by decide +kernel
theorem dX7_generator_129 : decode cX7_generator 129 = .ok (.ireturn, 1) := by decide +kernel
theorem dX7_list_0 : decode cX7_list 0 = .ok (.aload_n 0, 1) := by decide +kernel
theorem dX7_list_1 : decode cX7_list 1 = .ok (.iload_n 1, 1) := by decide +kernel
theorem dX7_list_2 : decode cX7_list 2 = .ok (.bipush 101, 2) := by decide +kernel
theorem dX7_list_4 : decode cX7_list 4 = .ok (.if_icmp .eq 15, 3) := by decide +kernel
theorem dX7_list_7 : decode cX7_list 7 = .ok (.iload_n 1, 1) := by decide +kernel
theorem dX7_list_8 : decode cX7_list 8 = .ok (.bipush 116, 2) := by decide +kernel
theorem dX7_list_10 : decode cX7_list 10 = .ok (.if_icmp .eq 9, 3) := by decide +kernel
theorem dX7_list_13 : decode cX7_list 13 = .ok (.iload_n 1, 1) := by decide +kernel
theorem dX7_list_14 : decode cX7_list 14 = .ok (.bipush 104, 2) := by decide +kernel
theorem dX7_list_16 : decode cX7_list 16 = .ok (.if_icmp .ne 19, 3) := by decide +kernel
theorem dX7_list_19 : decode cX7_list 19 = .ok (.iload_n 2, 1) := by decide +kernel
theorem dX7_list_20 : decode cX7_list 20 = .ok (.i2l, 1) := by decide +kernel
theorem dX7_list_21 : decode cX7_list 21 = .ok (.lconst 0, 1) := by decide +kernel
theorem dX7_list_22 : decode cX7_list 22 = .ok (.ldc2_w 176, 3) := by decide +kernel
theorem dX7_list_25 : decode cX7_list 25 = .ok (.invokestatic 37, 3) := by decide +kernel
theorem dX7_list_28 : decode cX7_list 28 = .ok (.ifCond .eq 7, 3) := by decide +kernel
theorem dX7_list_31 : decode cX7_list 31 = .ok (.iconst 0, 1) := by decide +kernel
theorem dX7_list_32 : decode cX7_list 32 = .ok (.goto 4, 3) := by decide +kernel
theorem dX7_list_35 : decode cX7_list 35 = .ok (.iconst 1, 1) := by decide +kernel
theorem dX7_list_36 : decode cX7_list 36 = .ok (.invokevirtual 57, 3) := by decide +kernel
theorem dX7_list_39 : decode cX7_list 39 = .ok (.ifCond .eq 5, 3) := by decide +kernel
theorem dX7_list_42 : decode cX7_list 42 = .ok (.iconst 0, 1) := by decide +kernel
theorem dX7_list_43 : decode cX7_list 43 = .ok (.ireturn, 1) := by decide +kernel
theorem dX7_list_44 : decode cX7_list 44 = .ok (.aload_n 0, 1) := by decide +kernel
theorem dX7_list_45 : decode cX7_list 45 = .ok (.iconst 0, 1) := by decide +kernel
theorem dX7_list_46 : decode cX7_list 46 = .ok (.putfield 178, 3) := by decide +kernel
theorem dX7_list_49 : decode cX7_list 49 = .ok (.iconst 1, 1) := by decide +kernel
theorem dX7_list_50 : decode cX7_list 50 = .ok (.istore_n 3, 1) := by decide +kernel
theorem dX7_list_51 : decode cX7_list 51 = .ok (.iload_n 3, 1) := by decide +kernel
theorem dX7_list_52 : decode cX7_list 52 = .ok (.iload_n 2, 1) := by decide +kernel
theorem dX7_list_53 : decode cX7_list 53 = .ok (.if_icmp .gt 137, 3) := by decide +kernel
theorem dX7_list_56 : decode cX7_list 56 = .ok (.iload_n 3, 1) := by decide +kernel
theorem dX7_list_57 : decode cX7_list 57 = .ok (.iconst 1, 1) := by decide +kernel
theorem dX7_list_58 : decode cX7_list 58 = .ok (.isub, 1) := by decide +kernel
theorem dX7_list_59 : decode cX7_list 59 = .ok (.istore 4, 2) := by decide +kernel
theorem dX7_list_61 : decode cX7_list 61 = .ok (.iconst 1, 1) := by decide +kernel
theorem dX7_list_62 : decode cX7_list 62 = .ok (.istore 5, 2) := by decide +kernel
theorem dX7_list_64 : decode cX7_list 64 = .ok (.iload 5, 2) := by decide +kernel
theorem dX7_list_66 : decode cX7_list 66 = .ok (.iload 4, 2) := by decide +kernel
theorem dX7_list_68 : decode cX7_list 68 = .ok (.if_icmp .ge 116, 3) := by decide +kernel
theorem dX7_list_71 : decode cX7_list 71 = .ok (.iload 5, 2) := by decide +kernel
theorem dX7_list_73 : decode cX7_list 73 = .ok (.iload 4, 2) := by decide +kernel
theorem dX7_list_75 : decode cX7_list 75 = .ok (.if_icmp .ge 26, 3) := by decide +kernel
theorem dX7_list_78 : decode cX7_list 78 = .ok (.iload 5, 2) := by decide +kernel
theorem dX7_list_80 : decode cX7_list 80 = .ok (.iload 5, 2) := by decide +kernel
theorem dX7_list_82 : decode cX7_list 82 = .ok (.imul, 1) := by decide +kernel
theorem dX7_list_83 : decode cX7_list 83 = .ok (.iload 4, 2) := by decide +kernel
theorem dX7_list_85 : decode cX7_list 85 = .ok (.iload 4, 2) := by decide +kernel
theorem dX7_list_87 : decode cX7_list 87 = .ok (.imul, 1) := by decide +kernel
theorem dX7_list_88 : decode cX7_list 88 = .ok (.iadd, 1) := by decide +kernel
theorem dX7_list_89 : decode cX7_list 89 = .ok (.iload_n 3, 1) := by decide +kernel
theorem dX7_list_90 : decode cX7_list 90 = .ok (.iload_n 3, 1) := by decide +kernel
theorem dX7_list_91 : decode cX7_list 91 = .ok (.imul, 1) := by decide +kernel
theorem dX7_list_92 : decode cX7_list 92 = .ok (.if_icmp .le 9, 3) := by decide +kernel
theorem dX7_list_95 : decode cX7_list 95 = .ok (.iinc 4 (-1), 3) := by decide +kernel
theorem dX7_list_98 : decode cX7_list 98 = .ok (.goto (-27), 3) := by decide +kernel
theorem dX7_list_101 : decode cX7_list 101 = .ok (.iload 5, 2) := by decide +kernel
theorem dX7_list_103 : decode cX7_list 103 = .ok (.iload 4, 2) := by decide +kernel
theorem dX7_list_105 : decode cX7_list 105 = .ok (.if_icmp .ge 73, 3) := by decide +kernel
theorem dX7_list_108 : decode cX7_list 108 = .ok (.iload 5, 2) := by decide +kernel
theorem dX7_list_110 : decode cX7_list 110 = .ok (.iload 5, 2) := by decide +kernel
theorem dX7_list_112 : decode cX7_list 112 = .ok (.imul, 1) := by decide +kernel
theorem dX7_list_113 : decode cX7_list 113 = .ok (.iload 4, 2) := by decide +kernel
theorem dX7_list_115 : decode cX7_list 115 = .ok (.iload 4, 2) := by decide +kernel
theorem dX7_list_117 : decode cX7_list 117 = .ok (.imul, 1) := by decide +kernel
theorem dX7_list_118 : decode cX7_list 118 = .ok (.iadd, 1) := by decide +kernel
theorem dX7_list_119 : decode cX7_list 119 = .ok (.iload_n 3, 1) := by decide +kernel
theorem dX7_list_120 : decode cX7_list 120 = .ok (.iload_n 3, 1) := by decide +kernel
theorem dX7_list_121 : decode cX7_list 121 = .ok (.imul, 1) := by decide +kernel
theorem dX7_list_122 : decode cX7_list 122 = .ok (.if_icmp .ne 56, 3) := by decide +kernel
theorem dX7_list_125 : decode cX7_list 125 = .ok (.iload 5, 2) := by decide +kernel
theorem dX7_list_127 : decode cX7_list 127 = .ok (.iload 4, 2) := by decide +kernel
theorem dX7_list_129 : decode cX7_list 129 = .ok (.invokestatic 79, 3) := by decide +kernel
theorem dX7_list_132 : decode cX7_list 132 = .ok (.iconst 1, 1) := by decide +kernel
theorem dX7_list_133 : decode cX7_list 133 = .ok (.if_icmp .ne 45, 3) := by decide +kernel
theorem dX7_list_136 : decode cX7_list 136 = .ok (.aload_n 0, 1) := by decide +kernel
theorem dX7_list_137 : decode cX7_list 137 = .ok (.getfield 19, 3) := by decide +kernel
theorem dX7_list_140 : decode cX7_list 140 = .ok (.aload_n 0, 1) := by decide +kernel
theorem dX7_list_141 : decode cX7_list 141 = .ok (.getfield 178, 3) := by decide +kernel
theorem dX7_list_144 : decode cX7_list 144 = .ok (.iload 5, 2) := by decide +kernel
theorem dX7_list_146 : decode cX7_list 146 = .ok (.iastore, 1) := by decide +kernel
theorem dX7_list_147 : decode cX7_list 147 = .ok (.aload_n 0, 1) := by decide +kernel
theorem dX7_list_148 : decode cX7_list 148 = .ok (.getfield 22, 3) := by decide +kernel
theorem dX7_list_151 : decode cX7_list 151 = .ok (.aload_n 0, 1) := by decide +kernel
theorem dX7_list_152 : decode cX7_list 152 = .ok (.getfield 178, 3) := by decide +kernel
theorem dX7_list_155 : decode cX7_list 155 = .ok (.iload 4, 2) := by decide +kernel
theorem dX7_list_157 : decode cX7_list 157 = .ok (.iastore, 1) := by decide +kernel
theorem dX7_list_158 : decode cX7_list 158 = .ok (.aload_n 0, 1) := by decide +kernel
theorem dX7_list_159 : decode cX7_list 159 = .ok (.getfield 25, 3) := by decide +kernel
theorem dX7_list_162 : decode cX7_list 162 = .ok (.aload_n 0, 1) := by decide +kernel
theorem dX7_list_163 : decode cX7_list 163 = .ok (.getfield 178, 3) := by decide +kernel
theorem dX7_list_166 : decode cX7_list 166 = .ok (.iload_n 3, 1) := by decide +kernel
theorem dX7_list_167 : decode cX7_list 167 = .ok (.iastore, 1) := by decide +kernel
theorem dX7_list_168 : decode cX7_list 168 = .ok (.aload_n 0, 1) := by decide +kernel
theorem dX7_list_169 : decode cX7_list 169 = .ok (.dup, 1) := by decide +kernel
theorem dX7_list_170 : decode cX7_list 170 = .ok (.getfield 178, 3) := by decide +kernel
theorem dX7_list_173 : decode cX7_list 173 = .ok (.iconst 1, 1) := by decide +kernel
theorem dX7_list_174 : decode cX7_list 174 = .ok (.iadd, 1) := by decide +kernel
theorem dX7_list_175 : decode cX7_list 175 = .ok (.putfield 178, 3) := by decide +kernel
theorem dX7_list_178 : decode cX7_list 178 = .ok (.iinc 5 1, 3) := by decide +kernel
theorem dX7_list_181 : decode cX7_list 181 = .ok (.goto (-117), 3) := by decide +kernel
theorem dX7_list_184 : decode cX7_list 184 = .ok (.iinc 3 1, 3) := by decide +kernel
theorem dX7_list_187 : decode cX7_list 187 = .ok (.goto (-136), 3) := by decide +kernel
theorem dX7_list_190 : decode cX7_list 190 = .ok (.aload_n 0, 1) := by decide +kernel
theorem dX7_list_191 : decode cX7_list 191 = .ok (.getfield 178, 3) := by decide +kernel
theorem dX7_list_194 : decode cX7_list 194 = .ok (.ireturn, 1) := by decide +kernel
theorem dX7_listed_0 : decode cX7_listed 0 = .ok (.aload_n 0, 1) := by decide +kernel
theorem dX7_listed_1 : decode cX7_listed 1 = .ok (.iload_n 1, 1) := by decide +kernel
theorem dX7_listed_2 : decode cX7_listed 2 = .ok (.i2l, 1) := by decide +kernel
theorem dX7_listed_3 : decode cX7_listed 3 = .ok (.lconst 0, 1) := by decide +kernel
theorem dX7_listed_4 : decode cX7_listed 4 = .ok (.aload_n 0, 1) := by decide +kernel
theorem dX7_listed_5 : decode cX7_listed 5 = .ok (.getfield 178, 3) := by decide +kernel
theorem dX7_listed_8 : decode cX7_listed 8 = .ok (.iconst 1, 1) := by decide +kernel
theorem dX7_listed_9 : decode cX7_listed 9 = .ok (.isub, 1) := by decide +kernel
theorem dX7_listed_10 : decode cX7_listed 10 = .ok (.i2l, 1) := by decide +kernel
theorem dX7_listed_11 : decode cX7_listed 11 = .ok (.invokestatic 37, 3) := by decide +kernel
theorem dX7_listed_14 : decode cX7_listed 14 = .ok (.ifCond .eq 19, 3) := by decide +kernel
theorem dX7_listed_17 : decode cX7_listed 17 = .ok (.iload_n 2, 1) := by decide +kernel
theorem dX7_listed_18 : decode cX7_listed 18 = .ok (.i2l, 1) := by decide +kernel
theorem dX7_listed_19 : decode cX7_listed 19 = .ok (.lconst 0, 1) := by decide +kernel
theorem dX7_listed_20 : decode cX7_listed 20 = .ok (.ldc2_w 71, 3) := by decide +kernel
theorem dX7_listed_23 : decode cX7_listed 23 = .ok (.invokestatic 37, 3) := by decide +kernel
theorem dX7_listed_26 : decode cX7_listed 26 = .ok (.ifCond .eq 7, 3) := by decide +kernel
theorem dX7_listed_29 : decode cX7_listed 29 = .ok (.iconst 0, 1) := by decide +kernel
theorem dX7_listed_30 : decode cX7_listed 30 = .ok (.goto 4, 3) := by decide +kernel
theorem dX7_listed_33 : decode cX7_listed 33 = .ok (.iconst 1, 1) := by decide +kernel
theorem dX7_listed_34 : decode cX7_listed 34 = .ok (.invokevirtual 57, 3) := by decide +kernel
theorem dX7_listed_37 : decode cX7_listed 37 = .ok (.ifCond .eq 5, 3) := by decide +kernel
theorem dX7_listed_40 : decode cX7_listed 40 = .ok (.iconst 0, 1) := by decide +kernel
theorem dX7_listed_41 : decode cX7_listed 41 = .ok (.ireturn, 1) := by decide +kernel
theorem dX7_listed_42 : decode cX7_listed 42 = .ok (.iload_n 2, 1) := by decide +kernel
theorem dX7_listed_43 : decode cX7_listed 43 = .ok (.ifCond .ne 12, 3) := by decide +kernel
theorem dX7_listed_46 : decode cX7_listed 46 = .ok (.aload_n 0, 1) := by decide +kernel
theorem dX7_listed_47 : decode cX7_listed 47 = .ok (.getfield 19, 3) := by decide +kernel
theorem dX7_listed_50 : decode cX7_listed 50 = .ok (.iload_n 1, 1) := by decide +kernel
theorem dX7_listed_51 : decode cX7_listed 51 = .ok (.iaload, 1) := by decide +kernel
theorem dX7_listed_52 : decode cX7_listed 52 = .ok (.goto 23, 3) := by decide +kernel
theorem dX7_listed_55 : decode cX7_listed 55 = .ok (.iload_n 2, 1) := by decide +kernel
theorem dX7_listed_56 : decode cX7_listed 56 = .ok (.iconst 1, 1) := by decide +kernel
theorem dX7_listed_57 : decode cX7_listed 57 = .ok (.if_icmp .ne 12, 3) := by decide +kernel
theorem dX7_listed_60 : decode cX7_listed 60 = .ok (.aload_n 0, 1) := by decide +kernel
theorem dX7_listed_61 : decode cX7_listed 61 = .ok (.getfield 22, 3) := by decide +kernel
theorem dX7_listed_64 : decode cX7_listed 64 = .ok (.iload_n 1, 1) := by decide +kernel
theorem dX7_listed_65 : decode cX7_listed 65 = .ok (.iaload, 1) := by decide +kernel
theorem dX7_listed_66 : decode cX7_listed 66 = .ok (.goto 9, 3) := by decide +kernel
theorem dX7_listed_69 : decode cX7_listed 69 = .ok (.aload_n 0, 1) := by decide +kernel
theorem dX7_listed_70 : decode cX7_listed 70 = .ok (.getfield 25, 3) := by decide +kernel
theorem dX7_listed_73 : decode cX7_listed 73 = .ok (.iload_n 1, 1) := by decide +kernel
theorem dX7_listed_74 : decode cX7_listed 74 = .ok (.iaload, 1) := by decide +kernel
theorem dX7_listed_75 : decode cX7_listed 75 = .ok (.ireturn, 1) := by decide +kernel
theorem dX7_counts_0 : decode cX7_counts 0 = .ok (.aload_n 0, 1) := by decide +kernel
theorem dX7_counts_1 : decode cX7_counts 1 = .ok (.iload_n 1, 1) := by decide +kernel
theorem dX7_counts_2 : decode cX7_counts 2 = .ok (.bipush 99, 2) := by decide +kernel
theorem dX7_counts_4 : decode cX7_counts 4 = .ok (.if_icmp .eq 9, 3) := by decide +kernel
theorem dX7_counts_7 : decode cX7_counts 7 = .ok (.iload_n 1, 1) := by decide +kernel
theorem dX7_counts_8 : decode cX7_counts 8 = .ok (.bipush 108, 2) := by decide +kernel
theorem dX7_counts_10 : decode cX7_counts 10 = .ok (.if_icmp .ne 19, 3) := by decide +kernel
theorem dX7_counts_13 : decode cX7_counts 13 = .ok (.iload_n 2, 1) := by decide +kernel
theorem dX7_counts_14 : decode cX7_counts 14 = .ok (.i2l, 1) := by decide +kernel
theorem dX7_counts_15 : decode cX7_counts 15 = .ok (.lconst 1, 1) := by decide +kernel
theorem dX7_counts_16 : decode cX7_counts 16 = .ok (.ldc2_w 181, 3) := by decide +kernel
theorem dX7_counts_19 : decode cX7_counts 19 = .ok (.invokestatic 37, 3) := by decide +kernel
theorem dX7_counts_22 : decode cX7_counts 22 = .ok (.ifCond .eq 7, 3) := by decide +kernel
theorem dX7_counts_25 : decode cX7_counts 25 = .ok (.iconst 0, 1) := by decide +kernel
theorem dX7_counts_26 : decode cX7_counts 26 = .ok (.goto 4, 3) := by decide +kernel
theorem dX7_counts_29 : decode cX7_counts 29 = .ok (.iconst 1, 1) := by decide +kernel
theorem dX7_counts_30 : decode cX7_counts 30 = .ok (.invokevirtual 57, 3) := by decide +kernel
theorem dX7_counts_33 : decode cX7_counts 33 = .ok (.ifCond .eq 5, 3) := by decide +kernel
theorem dX7_counts_36 : decode cX7_counts 36 = .ok (.iconst 0, 1) := by decide +kernel
theorem dX7_counts_37 : decode cX7_counts 37 = .ok (.ireturn, 1) := by decide +kernel
theorem dX7_counts_38 : decode cX7_counts 38 = .ok (.iconst 0, 1) := by decide +kernel
theorem dX7_counts_39 : decode cX7_counts 39 = .ok (.istore_n 3, 1) := by decide +kernel
theorem dX7_counts_40 : decode cX7_counts 40 = .ok (.iload_n 2, 1) := by decide +kernel
theorem dX7_counts_41 : decode cX7_counts 41 = .ok (.iconst 1, 1) := by decide +kernel
theorem dX7_counts_42 : decode cX7_counts 42 = .ok (.isub, 1) := by decide +kernel
theorem dX7_counts_43 : decode cX7_counts 43 = .ok (.istore 4, 2) := by decide +kernel
theorem dX7_counts_45 : decode cX7_counts 45 = .ok (.iload_n 1, 1) := by decide +kernel
theorem dX7_counts_46 : decode cX7_counts 46 = .ok (.bipush 108, 2) := by decide +kernel
theorem dX7_counts_48 : decode cX7_counts 48 = .ok (.if_icmp .ne 51, 3) := by decide +kernel
theorem dX7_counts_51 : decode cX7_counts 51 = .ok (.iconst 1, 1) := by decide +kernel
theorem dX7_counts_52 : decode cX7_counts 52 = .ok (.istore 5, 2) := by decide +kernel
theorem dX7_counts_54 : decode cX7_counts 54 = .ok (.iload 5, 2) := by decide +kernel
theorem dX7_counts_56 : decode cX7_counts 56 = .ok (.iload_n 2, 1) := by decide +kernel
theorem dX7_counts_57 : decode cX7_counts 57 = .ok (.if_icmp .ge 40, 3) := by decide +kernel
theorem dX7_counts_60 : decode cX7_counts 60 = .ok (.iload_n 3, 1) := by decide +kernel
theorem dX7_counts_61 : decode cX7_counts 61 = .ok (.iload_n 2, 1) := by decide +kernel
theorem dX7_counts_62 : decode cX7_counts 62 = .ok (.iload_n 2, 1) := by decide +kernel
theorem dX7_counts_63 : decode cX7_counts 63 = .ok (.imul, 1) := by decide +kernel
theorem dX7_counts_64 : decode cX7_counts 64 = .ok (.iload 5, 2) := by decide +kernel
theorem dX7_counts_66 : decode cX7_counts 66 = .ok (.irem, 1) := by decide +kernel
theorem dX7_counts_67 : decode cX7_counts 67 = .ok (.ifCond .ne 21, 3) := by decide +kernel
theorem dX7_counts_70 : decode cX7_counts 70 = .ok (.iload_n 2, 1) := by decide +kernel
theorem dX7_counts_71 : decode cX7_counts 71 = .ok (.iload_n 2, 1) := by decide +kernel
theorem dX7_counts_72 : decode cX7_counts 72 = .ok (.imul, 1) := by decide +kernel
theorem dX7_counts_73 : decode cX7_counts 73 = .ok (.iload 5, 2) := by decide +kernel
theorem dX7_counts_75 : decode cX7_counts 75 = .ok (.idiv, 1) := by decide +kernel
theorem dX7_counts_76 : decode cX7_counts 76 = .ok (.iload 5, 2) := by decide +kernel
theorem dX7_counts_78 : decode cX7_counts 78 = .ok (.iadd, 1) := by decide +kernel
theorem dX7_counts_79 : decode cX7_counts 79 = .ok (.iconst 2, 1) := by decide +kernel
theorem dX7_counts_80 : decode cX7_counts 80 = .ok (.irem, 1) := by decide +kernel
theorem dX7_counts_81 : decode cX7_counts 81 = .ok (.ifCond .ne 7, 3) := by decide +kernel
theorem dX7_counts_84 : decode cX7_counts 84 = .ok (.iconst 1, 1) := by decide +kernel
theorem dX7_counts_85 : decode cX7_counts 85 = .ok (.goto 4, 3) := by decide +kernel
theorem dX7_counts_88 : decode cX7_counts 88 = .ok (.iconst 0, 1) := by decide +kernel
theorem dX7_counts_89 : decode cX7_counts 89 = .ok (.iadd, 1) := by decide +kernel
theorem dX7_counts_90 : decode cX7_counts 90 = .ok (.istore_n 3, 1) := by decide +kernel
theorem dX7_counts_91 : decode cX7_counts 91 = .ok (.iinc 5 1, 3) := by decide +kernel
theorem dX7_counts_94 : decode cX7_counts 94 = .ok (.goto (-40), 3) := by decide +kernel
theorem dX7_counts_97 : decode cX7_counts 97 = .ok (.iload_n 3, 1) := by decide +kernel
theorem dX7_counts_98 : decode cX7_counts 98 = .ok (.ireturn, 1) := by decide +kernel
theorem dX7_counts_99 : decode cX7_counts 99 = .ok (.iconst 1, 1) := by decide +kernel
theorem dX7_counts_100 : decode cX7_counts 100 = .ok (.istore 5, 2) := by decide +kernel
theorem dX7_counts_102 : decode cX7_counts 102 = .ok (.iload 5, 2) := by decide +kernel
theorem dX7_counts_104 : decode cX7_counts 104 = .ok (.iload 4, 2) := by decide +kernel
theorem dX7_counts_106 : decode cX7_counts 106 = .ok (.if_icmp .ge 71, 3) := by decide +kernel
theorem dX7_counts_109 : decode cX7_counts 109 = .ok (.iload 5, 2) := by decide +kernel
theorem dX7_counts_111 : decode cX7_counts 111 = .ok (.iload 4, 2) := by decide +kernel
theorem dX7_counts_113 : decode cX7_counts 113 = .ok (.if_icmp .ge 26, 3) := by decide +kernel
theorem dX7_counts_116 : decode cX7_counts 116 = .ok (.iload 5, 2) := by decide +kernel
theorem dX7_counts_118 : decode cX7_counts 118 = .ok (.iload 5, 2) := by decide +kernel
theorem dX7_counts_120 : decode cX7_counts 120 = .ok (.imul, 1) := by decide +kernel
theorem dX7_counts_121 : decode cX7_counts 121 = .ok (.iload 4, 2) := by decide +kernel
theorem dX7_counts_123 : decode cX7_counts 123 = .ok (.iload 4, 2) := by decide +kernel
theorem dX7_counts_125 : decode cX7_counts 125 = .ok (.imul, 1) := by decide +kernel
theorem dX7_counts_126 : decode cX7_counts 126 = .ok (.iadd, 1) := by decide +kernel
theorem dX7_counts_127 : decode cX7_counts 127 = .ok (.iload_n 2, 1) := by decide +kernel
theorem dX7_counts_128 : decode cX7_counts 128 = .ok (.iload_n 2, 1) := by decide +kernel
theorem dX7_counts_129 : decode cX7_counts 129 = .ok (.imul, 1) := by decide +kernel
theorem dX7_counts_130 : decode cX7_counts 130 = .ok (.if_icmp .le 9, 3) := by decide +kernel
theorem dX7_counts_133 : decode cX7_counts 133 = .ok (.iinc 4 (-1), 3) := by decide +kernel
theorem dX7_counts_136 : decode cX7_counts 136 = .ok (.goto (-27), 3) := by decide +kernel
theorem dX7_counts_139 : decode cX7_counts 139 = .ok (.iload_n 3, 1) := by decide +kernel
theorem dX7_counts_140 : decode cX7_counts 140 = .ok (.iload 5, 2) := by decide +kernel
theorem dX7_counts_142 : decode cX7_counts 142 = .ok (.iload 4, 2) := by decide +kernel
theorem dX7_counts_144 : decode cX7_counts 144 = .ok (.if_icmp .ge 24, 3) := by decide +kernel
theorem dX7_counts_147 : decode cX7_counts 147 = .ok (.iload 5, 2) := by decide +kernel
theorem dX7_counts_149 : decode cX7_counts 149 = .ok (.iload 5, 2) := by decide +kernel
theorem dX7_counts_151 : decode cX7_counts 151 = .ok (.imul, 1) := by decide +kernel
theorem dX7_counts_152 : decode cX7_counts 152 = .ok (.iload 4, 2) := by decide +kernel
theorem dX7_counts_154 : decode cX7_counts 154 = .ok (.iload 4, 2) := by decide +kernel
theorem dX7_counts_156 : decode cX7_counts 156 = .ok (.imul, 1) := by decide +kernel
theorem dX7_counts_157 : decode cX7_counts 157 = .ok (.iadd, 1) := by decide +kernel
theorem dX7_counts_158 : decode cX7_counts 158 = .ok (.iload_n 2, 1) := by decide +kernel
theorem dX7_counts_159 : decode cX7_counts 159 = .ok (.iload_n 2, 1) := by decide +kernel
theorem dX7_counts_160 : decode cX7_counts 160 = .ok (.imul, 1) := by decide +kernel
theorem dX7_counts_161 : decode cX7_counts 161 = .ok (.if_icmp .ne 7, 3) := by decide +kernel
theorem dX7_counts_164 : decode cX7_counts 164 = .ok (.iconst 1, 1) := by decide +kernel
theorem dX7_counts_165 : decode cX7_counts 165 = .ok (.goto 4, 3) := by decide +kernel
theorem dX7_counts_168 : decode cX7_counts 168 = .ok (.iconst 0, 1) := by decide +kernel
theorem dX7_counts_169 : decode cX7_counts 169 = .ok (.iadd, 1) := by decide +kernel
theorem dX7_counts_170 : decode cX7_counts 170 = .ok (.istore_n 3, 1) := by decide +kernel
theorem dX7_counts_171 : decode cX7_counts 171 = .ok (.iinc 5 1, 3) := by decide +kernel
theorem dX7_counts_174 : decode cX7_counts 174 = .ok (.goto (-72), 3) := by decide +kernel
theorem dX7_counts_177 : decode cX7_counts 177 = .ok (.iload_n 3, 1) := by decide +kernel
theorem dX7_counts_178 : decode cX7_counts 178 = .ok (.ireturn, 1) := by decide +kernel
theorem dX7_isBehind_0 : decode cX7_isBehind 0 = .ok (.iload_n 3, 1) := by decide +kernel
theorem dX7_isBehind_1 : decode cX7_isBehind 1 = .ok (.bipush 99, 2) := by decide +kernel
theorem dX7_isBehind_3 : decode cX7_isBehind 3 = .ok (.if_icmp .ne 24, 3) := by decide +kernel
theorem dX7_isBehind_6 : decode cX7_isBehind 6 = .ok (.aload_n 0, 1) := by decide +kernel
theorem dX7_isBehind_7 : decode cX7_isBehind 7 = .ok (.getfield 16, 3) := by decide +kernel
theorem dX7_isBehind_10 : decode cX7_isBehind 10 = .ok (.iload_n 1, 1) := by decide +kernel
theorem dX7_isBehind_11 : decode cX7_isBehind 11 = .ok (.iaload, 1) := by decide +kernel
theorem dX7_isBehind_12 : decode cX7_isBehind 12 = .ok (.aload_n 0, 1) := by decide +kernel
theorem dX7_isBehind_13 : decode cX7_isBehind 13 = .ok (.getfield 16, 3) := by decide +kernel
theorem dX7_isBehind_16 : decode cX7_isBehind 16 = .ok (.iload_n 2, 1) := by decide +kernel
theorem dX7_isBehind_17 : decode cX7_isBehind 17 = .ok (.iaload, 1) := by decide +kernel
theorem dX7_isBehind_18 : decode cX7_isBehind 18 = .ok (.if_icmp .le 7, 3) := by decide +kernel
theorem dX7_isBehind_21 : decode cX7_isBehind 21 = .ok (.iconst 1, 1) := by decide +kernel
theorem dX7_isBehind_22 : decode cX7_isBehind 22 = .ok (.goto 4, 3) := by decide +kernel
theorem dX7_isBehind_25 : decode cX7_isBehind 25 = .ok (.iconst 0, 1) := by decide +kernel
theorem dX7_isBehind_26 : decode cX7_isBehind 26 = .ok (.ireturn, 1) := by decide +kernel
theorem dX7_isBehind_27 : decode cX7_isBehind 27 = .ok (.iload_n 3, 1) := by decide +kernel
theorem dX7_isBehind_28 : decode cX7_isBehind 28 = .ok (.bipush 112, 2) := by decide +kernel
theorem dX7_isBehind_30 : decode cX7_isBehind 30 = .ok (.if_icmp .ne 24, 3) := by decide +kernel
theorem dX7_isBehind_33 : decode cX7_isBehind 33 = .ok (.aload_n 0, 1) := by decide +kernel
theorem dX7_isBehind_34 : decode cX7_isBehind 34 = .ok (.iload_n 1, 1) := by decide +kernel
theorem dX7_isBehind_35 : decode cX7_isBehind 35 = .ok (.invokevirtual 96, 3) := by decide +kernel
theorem dX7_isBehind_38 : decode cX7_isBehind 38 = .ok (.aload_n 0, 1) := by decide +kernel
theorem dX7_isBehind_39 : decode cX7_isBehind 39 = .ok (.iload_n 2, 1) := by decide +kernel
theorem dX7_isBehind_40 : decode cX7_isBehind 40 = .ok (.invokevirtual 96, 3) := by decide +kernel
theorem dX7_isBehind_43 : decode cX7_isBehind 43 = .ok (.if_icmp .le 7, 3) := by decide +kernel
theorem dX7_isBehind_46 : decode cX7_isBehind 46 = .ok (.iconst 1, 1) := by decide +kernel
theorem dX7_isBehind_47 : decode cX7_isBehind 47 = .ok (.goto 21, 3) := by decide +kernel
theorem dX7_isBehind_50 : decode cX7_isBehind 50 = .ok (.iconst 0, 1) := by decide +kernel
theorem dX7_isBehind_51 : decode cX7_isBehind 51 = .ok (.goto 17, 3) := by decide +kernel
theorem dX7_isBehind_54 : decode cX7_isBehind 54 = .ok (.aload_n 0, 1) := by decide +kernel
theorem dX7_isBehind_55 : decode cX7_isBehind 55 = .ok (.iload_n 1, 1) := by decide +kernel
theorem dX7_isBehind_56 : decode cX7_isBehind 56 = .ok (.iload_n 2, 1) := by decide +kernel
theorem dX7_isBehind_57 : decode cX7_isBehind 57 = .ok (.invokevirtual 143, 3) := by decide +kernel
theorem dX7_isBehind_60 : decode cX7_isBehind 60 = .ok (.ifCond .le 7, 3) := by decide +kernel
theorem dX7_isBehind_63 : decode cX7_isBehind 63 = .ok (.iconst 1, 1) := by decide +kernel
theorem dX7_isBehind_64 : decode cX7_isBehind 64 = .ok (.goto 4, 3) := by decide +kernel
theorem dX7_isBehind_67 : decode cX7_isBehind 67 = .ok (.iconst 0, 1) := by decide +kernel
theorem dX7_isBehind_68 : decode cX7_isBehind 68 = .ok (.ireturn, 1) := by decide +kernel
theorem dX7_sort_0 : decode cX7_sort 0 = .ok (.aload_n 0, 1) := by decide +kernel
theorem dX7_sort_1 : decode cX7_sort 1 = .ok (.iload_n 1, 1) := by decide +kernel
theorem dX7_sort_2 : decode cX7_sort 2 = .ok (.bipush 99, 2) := by decide +kernel
theorem dX7_sort_4 : decode cX7_sort 4 = .ok (.if_icmp .eq 15, 3) := by decide +kernel
theorem dX7_sort_7 : decode cX7_sort 7 = .ok (.iload_n 1, 1) := by decide +kernel
theorem dX7_sort_8 : decode cX7_sort 8 = .ok (.bipush 112, 2) := by decide +kernel
theorem dX7_sort_10 : decode cX7_sort 10 = .ok (.if_icmp .eq 9, 3) := by decide +kernel
theorem dX7_sort_13 : decode cX7_sort 13 = .ok (.iload_n 1, 1) := by decide +kernel
theorem dX7_sort_14 : decode cX7_sort 14 = .ok (.bipush 115, 2) := by decide +kernel
theorem dX7_sort_16 : decode cX7_sort 16 = .ok (.if_icmp .ne 7, 3) := by decide +kernel
theorem dX7_sort_19 : decode cX7_sort 19 = .ok (.iconst 0, 1) := by decide +kernel
theorem dX7_sort_20 : decode cX7_sort 20 = .ok (.goto 4, 3) := by decide +kernel
theorem dX7_sort_23 : decode cX7_sort 23 = .ok (.iconst 1, 1) := by decide +kernel
theorem dX7_sort_24 : decode cX7_sort 24 = .ok (.invokevirtual 57, 3) := by decide +kernel
theorem dX7_sort_27 : decode cX7_sort 27 = .ok (.ifCond .eq 5, 3) := by decide +kernel
theorem dX7_sort_30 : decode cX7_sort 30 = .ok (.iconst 0, 1) := by decide +kernel
theorem dX7_sort_31 : decode cX7_sort 31 = .ok (.ireturn, 1) := by decide +kernel
theorem dX7_sort_32 : decode cX7_sort 32 = .ok (.aload_n 0, 1) := by decide +kernel
theorem dX7_sort_33 : decode cX7_sort 33 = .ok (.iconst 0, 1) := by decide +kernel
theorem dX7_sort_34 : decode cX7_sort 34 = .ok (.putfield 183, 3) := by decide +kernel
theorem dX7_sort_37 : decode cX7_sort 37 = .ok (.iconst 0, 1) := by decide +kernel
theorem dX7_sort_38 : decode cX7_sort 38 = .ok (.istore_n 2, 1) := by decide +kernel
theorem dX7_sort_39 : decode cX7_sort 39 = .ok (.iload_n 2, 1) := by decide +kernel
theorem dX7_sort_40 : decode cX7_sort 40 = .ok (.bipush 16, 2) := by decide +kernel
theorem dX7_sort_42 : decode cX7_sort 42 = .ok (.if_icmp .ge 83, 3) := by decide +kernel
theorem dX7_sort_45 : decode cX7_sort 45 = .ok (.aload_n 0, 1) := by decide +kernel
theorem dX7_sort_46 : decode cX7_sort 46 = .ok (.iload_n 2, 1) := by decide +kernel
theorem dX7_sort_47 : decode cX7_sort 47 = .ok (.invokevirtual 45, 3) := by decide +kernel
theorem dX7_sort_50 : decode cX7_sort 50 = .ok (.ifCond .ne 6, 3) := by decide +kernel
theorem dX7_sort_53 : decode cX7_sort 53 = .ok (.goto 66, 3) := by decide +kernel
theorem dX7_sort_56 : decode cX7_sort 56 = .ok (.aload_n 0, 1) := by decide +kernel
theorem dX7_sort_57 : decode cX7_sort 57 = .ok (.getfield 183, 3) := by decide +kernel
theorem dX7_sort_60 : decode cX7_sort 60 = .ok (.istore_n 3, 1) := by decide +kernel
theorem dX7_sort_61 : decode cX7_sort 61 = .ok (.iload_n 3, 1) := by decide +kernel
theorem dX7_sort_62 : decode cX7_sort 62 = .ok (.ifCond .le 40, 3) := by decide +kernel
theorem dX7_sort_65 : decode cX7_sort 65 = .ok (.aload_n 0, 1) := by decide +kernel
theorem dX7_sort_66 : decode cX7_sort 66 = .ok (.aload_n 0, 1) := by decide +kernel
theorem dX7_sort_67 : decode cX7_sort 67 = .ok (.getfield 28, 3) := by decide +kernel
theorem dX7_sort_70 : decode cX7_sort 70 = .ok (.iload_n 3, 1) := by decide +kernel
theorem dX7_sort_71 : decode cX7_sort 71 = .ok (.iconst 1, 1) := by decide +kernel
theorem dX7_sort_72 : decode cX7_sort 72 = .ok (.isub, 1) := by decide +kernel
theorem dX7_sort_73 : decode cX7_sort 73 = .ok (.iaload, 1) := by decide +kernel
theorem dX7_sort_74 : decode cX7_sort 74 = .ok (.iload_n 2, 1) := by decide +kernel
theorem dX7_sort_75 : decode cX7_sort 75 = .ok (.iload_n 1, 1) := by decide +kernel
theorem dX7_sort_76 : decode cX7_sort 76 = .ok (.invokevirtual 186, 3) := by decide +kernel
theorem dX7_sort_79 : decode cX7_sort 79 = .ok (.ifCond .eq 23, 3) := by decide +kernel
theorem dX7_sort_82 : decode cX7_sort 82 = .ok (.aload_n 0, 1) := by decide +kernel
theorem dX7_sort_83 : decode cX7_sort 83 = .ok (.getfield 28, 3) := by decide +kernel
theorem dX7_sort_86 : decode cX7_sort 86 = .ok (.iload_n 3, 1) := by decide +kernel
theorem dX7_sort_87 : decode cX7_sort 87 = .ok (.aload_n 0, 1) := by decide +kernel
theorem dX7_sort_88 : decode cX7_sort 88 = .ok (.getfield 28, 3) := by decide +kernel
theorem dX7_sort_91 : decode cX7_sort 91 = .ok (.iload_n 3, 1) := by decide +kernel
theorem dX7_sort_92 : decode cX7_sort 92 = .ok (.iconst 1, 1) := by decide +kernel
theorem dX7_sort_93 : decode cX7_sort 93 = .ok (.isub, 1) := by decide +kernel
theorem dX7_sort_94 : decode cX7_sort 94 = .ok (.iaload, 1) := by decide +kernel
theorem dX7_sort_95 : decode cX7_sort 95 = .ok (.iastore, 1) := by decide +kernel
theorem dX7_sort_96 : decode cX7_sort 96 = .ok (.iinc 3 (-1), 3) := by decide +kernel
theorem dX7_sort_99 : decode cX7_sort 99 = .ok (.goto (-38), 3) := by decide +kernel
theorem dX7_sort_102 : decode cX7_sort 102 = .ok (.aload_n 0, 1) := by decide +kernel
theorem dX7_sort_103 : decode cX7_sort 103 = .ok (.getfield 28, 3) := by decide +kernel
theorem dX7_sort_106 : decode cX7_sort 106 = .ok (.iload_n 3, 1) := by decide +kernel
theorem dX7_sort_107 : decode cX7_sort 107 = .ok (.iload_n 2, 1) := by decide +kernel
theorem dX7_sort_108 : decode cX7_sort 108 = .ok (.iastore, 1) := by decide +kernel
theorem dX7_sort_109 : decode cX7_sort 109 = .ok (.aload_n 0, 1) := by decide +kernel
theorem dX7_sort_110 : decode cX7_sort 110 = .ok (.dup, 1) := by decide +kernel
theorem dX7_sort_111 : decode cX7_sort 111 = .ok (.getfield 183, 3) := by decide +kernel
theorem dX7_sort_114 : decode cX7_sort 114 = .ok (.iconst 1, 1) := by decide +kernel
theorem dX7_sort_115 : decode cX7_sort 115 = .ok (.iadd, 1) := by decide +kernel
theorem dX7_sort_116 : decode cX7_sort 116 = .ok (.putfield 183, 3) := by decide +kernel
theorem dX7_sort_119 : decode cX7_sort 119 = .ok (.iinc 2 1, 3) := by decide +kernel
theorem dX7_sort_122 : decode cX7_sort 122 = .ok (.goto (-83), 3) := by decide +kernel
theorem dX7_sort_125 : decode cX7_sort 125 = .ok (.aload_n 0, 1) := by decide +kernel
theorem dX7_sort_126 : decode cX7_sort 126 = .ok (.getfield 183, 3) := by decide +kernel
theorem dX7_sort_129 : decode cX7_sort 129 = .ok (.ireturn, 1) := by decide +kernel
theorem dX7_sorted_0 : decode cX7_sorted 0 = .ok (.aload_n 0, 1) := by decide +kernel
theorem dX7_sorted_1 : decode cX7_sorted 1 = .ok (.iload_n 1, 1) := by decide +kernel
theorem dX7_sorted_2 : decode cX7_sorted 2 = .ok (.i2l, 1) := by decide +kernel
theorem dX7_sorted_3 : decode cX7_sorted 3 = .ok (.lconst 0, 1) := by decide +kernel
theorem dX7_sorted_4 : decode cX7_sorted 4 = .ok (.aload_n 0, 1) := by decide +kernel
theorem dX7_sorted_5 : decode cX7_sorted 5 = .ok (.getfield 183, 3) := by decide +kernel
theorem dX7_sorted_8 : decode cX7_sorted 8 = .ok (.iconst 1, 1) := by decide +kernel
theorem dX7_sorted_9 : decode cX7_sorted 9 = .ok (.isub, 1) := by decide +kernel
theorem dX7_sorted_10 : decode cX7_sorted 10 = .ok (.i2l, 1) := by decide +kernel
theorem dX7_sorted_11 : decode cX7_sorted 11 = .ok (.invokestatic 37, 3) := by decide +kernel
theorem dX7_sorted_14 : decode cX7_sorted 14 = .ok (.ifCond .eq 7, 3) := by decide +kernel
theorem dX7_sorted_17 : decode cX7_sorted 17 = .ok (.iconst 0, 1) := by decide +kernel
theorem dX7_sorted_18 : decode cX7_sorted 18 = .ok (.goto 4, 3) := by decide +kernel
theorem dX7_sorted_21 : decode cX7_sorted 21 = .ok (.iconst 1, 1) := by decide +kernel
theorem dX7_sorted_22 : decode cX7_sorted 22 = .ok (.invokevirtual 57, 3) := by decide +kernel
theorem dX7_sorted_25 : decode cX7_sorted 25 = .ok (.ifCond .eq 7, 3) := by decide +kernel
theorem dX7_sorted_28 : decode cX7_sorted 28 = .ok (.iconst 0, 1) := by decide +kernel
theorem dX7_sorted_29 : decode cX7_sorted 29 = .ok (.goto 9, 3) := by decide +kernel
theorem dX7_sorted_32 : decode cX7_sorted 32 = .ok (.aload_n 0, 1) := by decide +kernel
theorem dX7_sorted_33 : decode cX7_sorted 33 = .ok (.getfield 28, 3) := by decide +kernel
theorem dX7_sorted_36 : decode cX7_sorted 36 = .ok (.iload_n 1, 1) := by decide +kernel
theorem dX7_sorted_37 : decode cX7_sorted 37 = .ok (.iaload, 1) := by decide +kernel
theorem dX7_sorted_38 : decode cX7_sorted 38 = .ok (.ireturn, 1) := by decide +kernel
theorem dX7_checksum_0 : decode cX7_checksum 0 = .ok (.aload_n 0, 1) := by decide +kernel
theorem dX7_checksum_1 : decode cX7_checksum 1 = .ok (.iconst 0, 1) := by decide +kernel
theorem dX7_checksum_2 : decode cX7_checksum 2 = .ok (.putfield 31, 3) := by decide +kernel
theorem dX7_checksum_5 : decode cX7_checksum 5 = .ok (.lconst 0, 1) := by decide +kernel
theorem dX7_checksum_6 : decode cX7_checksum 6 = .ok (.lstore_n 1, 1) := by decide +kernel
theorem dX7_checksum_7 : decode cX7_checksum 7 = .ok (.iconst 0, 1) := by decide +kernel
theorem dX7_checksum_8 : decode cX7_checksum 8 = .ok (.istore_n 3, 1) := by decide +kernel
theorem dX7_checksum_9 : decode cX7_checksum 9 = .ok (.iload_n 3, 1) := by decide +kernel
theorem dX7_checksum_10 : decode cX7_checksum 10 = .ok (.bipush 16, 2) := by decide +kernel
theorem dX7_checksum_12 : decode cX7_checksum 12 = .ok (.if_icmp .ge 47, 3) := by decide +kernel
theorem dX7_checksum_15 : decode cX7_checksum 15 = .ok (.ldc2_w 190, 3) := by decide +kernel
theorem dX7_checksum_18 : decode cX7_checksum 18 = .ok (.lload_n 1, 1) := by decide +kernel
theorem dX7_checksum_19 : decode cX7_checksum 19 = .ok (.lmul, 1) := by decide +kernel
theorem dX7_checksum_20 : decode cX7_checksum 20 = .ok (.ldc2_w 192, 3) := by decide +kernel
theorem dX7_checksum_23 : decode cX7_checksum 23 = .ok (.aload_n 0, 1) := by decide +kernel
theorem dX7_checksum_24 : decode cX7_checksum 24 = .ok (.getfield 7, 3) := by decide +kernel
theorem dX7_checksum_27 : decode cX7_checksum 27 = .ok (.iload_n 3, 1) := by decide +kernel
theorem dX7_checksum_28 : decode cX7_checksum 28 = .ok (.iaload, 1) := by decide +kernel
theorem dX7_checksum_29 : decode cX7_checksum 29 = .ok (.i2l, 1) := by decide +kernel
theorem dX7_checksum_30 : decode cX7_checksum 30 = .ok (.lmul, 1) := by decide +kernel
theorem dX7_checksum_31 : decode cX7_checksum 31 = .ok (.ladd, 1) := by decide +kernel
theorem dX7_checksum_32 : decode cX7_checksum 32 = .ok (.ldc2_w 194, 3) := by decide +kernel
theorem dX7_checksum_35 : decode cX7_checksum 35 = .ok (.aload_n 0, 1) := by decide +kernel
theorem dX7_checksum_36 : decode cX7_checksum 36 = .ok (.getfield 13, 3) := by decide +kernel
theorem dX7_checksum_39 : decode cX7_checksum 39 = .ok (.iload_n 3, 1) := by decide +kernel
theorem dX7_checksum_40 : decode cX7_checksum 40 = .ok (.iaload, 1) := by decide +kernel
theorem dX7_checksum_41 : decode cX7_checksum 41 = .ok (.i2l, 1) := by decide +kernel
theorem dX7_checksum_42 : decode cX7_checksum 42 = .ok (.lmul, 1) := by decide +kernel
theorem dX7_checksum_43 : decode cX7_checksum 43 = .ok (.ladd, 1) := by decide +kernel
theorem dX7_checksum_44 : decode cX7_checksum 44 = .ok (.aload_n 0, 1) := by decide +kernel
theorem dX7_checksum_45 : decode cX7_checksum 45 = .ok (.getfield 16, 3) := by decide +kernel
theorem dX7_checksum_48 : decode cX7_checksum 48 = .ok (.iload_n 3, 1) := by decide +kernel
theorem dX7_checksum_49 : decode cX7_checksum 49 = .ok (.iaload, 1) := by decide +kernel
theorem dX7_checksum_50 : decode cX7_checksum 50 = .ok (.i2l, 1) := by decide +kernel
theorem dX7_checksum_51 : decode cX7_checksum 51 = .ok (.ladd, 1) := by decide +kernel
theorem dX7_checksum_52 : decode cX7_checksum 52 = .ok (.lstore_n 1, 1) := by decide +kernel
theorem dX7_checksum_53 : decode cX7_checksum 53 = .ok (.iinc 3 1, 3) := by decide +kernel
theorem dX7_checksum_56 : decode cX7_checksum 56 = .ok (.goto (-47), 3) := by decide +kernel
theorem dX7_checksum_59 : decode cX7_checksum 59 = .ok (.iconst 0, 1) := by decide +kernel
theorem dX7_checksum_60 : decode cX7_checksum 60 = .ok (.istore_n 3, 1) := by decide +kernel
theorem dX7_checksum_61 : decode cX7_checksum 61 = .ok (.iload_n 3, 1) := by decide +kernel
theorem dX7_checksum_62 : decode cX7_checksum 62 = .ok (.aload_n 0, 1) := by decide +kernel
theorem dX7_checksum_63 : decode cX7_checksum 63 = .ok (.getfield 178, 3) := by decide +kernel
theorem dX7_checksum_66 : decode cX7_checksum 66 = .ok (.if_icmp .ge 23, 3) := by decide +kernel
theorem dX7_checksum_69 : decode cX7_checksum 69 = .ok (.ldc2_w 190, 3) := by decide +kernel
theorem dX7_checksum_72 : decode cX7_checksum 72 = .ok (.lload_n 1, 1) := by decide +kernel
theorem dX7_checksum_73 : decode cX7_checksum 73 = .ok (.lmul, 1) := by decide +kernel
theorem dX7_checksum_74 : decode cX7_checksum 74 = .ok (.aload_n 0, 1) := by decide +kernel
theorem dX7_checksum_75 : decode cX7_checksum 75 = .ok (.getfield 25, 3) := by decide +kernel
theorem dX7_checksum_78 : decode cX7_checksum 78 = .ok (.iload_n 3, 1) := by decide +kernel
theorem dX7_checksum_79 : decode cX7_checksum 79 = .ok (.iaload, 1) := by decide +kernel
theorem dX7_checksum_80 : decode cX7_checksum 80 = .ok (.i2l, 1) := by decide +kernel
theorem dX7_checksum_81 : decode cX7_checksum 81 = .ok (.ladd, 1) := by decide +kernel
theorem dX7_checksum_82 : decode cX7_checksum 82 = .ok (.lstore_n 1, 1) := by decide +kernel
theorem dX7_checksum_83 : decode cX7_checksum 83 = .ok (.iinc 3 1, 3) := by decide +kernel
theorem dX7_checksum_86 : decode cX7_checksum 86 = .ok (.goto (-25), 3) := by decide +kernel
theorem dX7_checksum_89 : decode cX7_checksum 89 = .ok (.iconst 0, 1) := by decide +kernel
theorem dX7_checksum_90 : decode cX7_checksum 90 = .ok (.istore_n 3, 1) := by decide +kernel
theorem dX7_checksum_91 : decode cX7_checksum 91 = .ok (.iload_n 3, 1) := by decide +kernel
theorem dX7_checksum_92 : decode cX7_checksum 92 = .ok (.aload_n 0, 1) := by decide +kernel
theorem dX7_checksum_93 : decode cX7_checksum 93 = .ok (.getfield 183, 3) := by decide +kernel
theorem dX7_checksum_96 : decode cX7_checksum 96 = .ok (.if_icmp .ge 23, 3) := by decide +kernel
theorem dX7_checksum_99 : decode cX7_checksum 99 = .ok (.ldc2_w 190, 3) := by decide +kernel
theorem dX7_checksum_102 : decode cX7_checksum 102 = .ok (.lload_n 1, 1) := by decide +kernel
theorem dX7_checksum_103 : decode cX7_checksum 103 = .ok (.lmul, 1) := by decide +kernel
theorem dX7_checksum_104 : decode cX7_checksum 104 = .ok (.aload_n 0, 1) := by decide +kernel
theorem dX7_checksum_105 : decode cX7_checksum 105 = .ok (.getfield 28, 3) := by decide +kernel
theorem dX7_checksum_108 : decode cX7_checksum 108 = .ok (.iload_n 3, 1) := by decide +kernel
theorem dX7_checksum_109 : decode cX7_checksum 109 = .ok (.iaload, 1) := by decide +kernel
theorem dX7_checksum_110 : decode cX7_checksum 110 = .ok (.i2l, 1) := by decide +kernel
theorem dX7_checksum_111 : decode cX7_checksum 111 = .ok (.ladd, 1) := by decide +kernel
theorem dX7_checksum_112 : decode cX7_checksum 112 = .ok (.lstore_n 1, 1) := by decide +kernel
theorem dX7_checksum_113 : decode cX7_checksum 113 = .ok (.iinc 3 1, 3) := by decide +kernel
theorem dX7_checksum_116 : decode cX7_checksum 116 = .ok (.goto (-25), 3) := by decide +kernel
theorem dX7_checksum_119 : decode cX7_checksum 119 = .ok (.lload_n 1, 1) := by decide +kernel
theorem dX7_checksum_120 : decode cX7_checksum 120 = .ok (.lreturn, 1) := by decide +kernel
theorem dX7_isTrue_0 : decode cX7_isTrue 0 = .ok (.aload_n 0, 1) := by decide +kernel
theorem dX7_isTrue_1 : decode cX7_isTrue 1 = .ok (.aload_n 0, 1) := by decide +kernel
theorem dX7_isTrue_2 : decode cX7_isTrue 2 = .ok (.iload_n 1, 1) := by decide +kernel
theorem dX7_isTrue_3 : decode cX7_isTrue 3 = .ok (.iconst 2, 1) := by decide +kernel
theorem dX7_isTrue_4 : decode cX7_isTrue 4 = .ok (.invokevirtual 68, 3) := by decide +kernel
theorem dX7_isTrue_7 : decode cX7_isTrue 7 = .ok (.invokevirtual 57, 3) := by decide +kernel
theorem dX7_isTrue_10 : decode cX7_isTrue 10 = .ok (.ifCond .ne 7, 3) := by decide +kernel
theorem dX7_isTrue_13 : decode cX7_isTrue 13 = .ok (.iconst 1, 1) := by decide +kernel
theorem dX7_isTrue_14 : decode cX7_isTrue 14 = .ok (.goto 4, 3) := by decide +kernel
theorem dX7_isTrue_17 : decode cX7_isTrue 17 = .ok (.iconst 0, 1) := by decide +kernel
theorem dX7_isTrue_18 : decode cX7_isTrue 18 = .ok (.ireturn, 1) := by decide +kernel
theorem dX7_rootIsTrue_0 : decode cX7_rootIsTrue 0 = .ok (.aload_n 0, 1) := by decide +kernel
theorem dX7_rootIsTrue_1 : decode cX7_rootIsTrue 1 = .ok (.lload_n 1, 1) := by decide +kernel
theorem dX7_rootIsTrue_2 : decode cX7_rootIsTrue 2 = .ok (.lconst 0, 1) := by decide +kernel
theorem dX7_rootIsTrue_3 : decode cX7_rootIsTrue 3 = .ok (.ldc2_w 152, 3) := by decide +kernel
theorem dX7_rootIsTrue_6 : decode cX7_rootIsTrue 6 = .ok (.invokestatic 37, 3) := by decide +kernel
theorem dX7_rootIsTrue_9 : decode cX7_rootIsTrue 9 = .ok (.ifCond .eq 7, 3) := by decide +kernel
theorem dX7_rootIsTrue_12 : decode cX7_rootIsTrue 12 = .ok (.iconst 0, 1) := by decide +kernel
theorem dX7_rootIsTrue_13 : decode cX7_rootIsTrue 13 = .ok (.goto 4, 3) := by decide +kernel
theorem dX7_rootIsTrue_16 : decode cX7_rootIsTrue 16 = .ok (.iconst 1, 1) := by decide +kernel
theorem dX7_rootIsTrue_17 : decode cX7_rootIsTrue 17 = .ok (.invokevirtual 57, 3) := by decide +kernel
theorem dX7_rootIsTrue_20 : decode cX7_rootIsTrue 20 = .ok (.ifCond .ne 7, 3) := by decide +kernel
theorem dX7_rootIsTrue_23 : decode cX7_rootIsTrue 23 = .ok (.iconst 1, 1) := by decide +kernel
theorem dX7_rootIsTrue_24 : decode cX7_rootIsTrue 24 = .ok (.goto 4, 3) := by decide +kernel
theorem dX7_rootIsTrue_27 : decode cX7_rootIsTrue 27 = .ok (.iconst 0, 1) := by decide +kernel
theorem dX7_rootIsTrue_28 : decode cX7_rootIsTrue 28 = .ok (.ireturn, 1) := by decide +kernel
theorem dX7_hypotIsTrue_0 : decode cX7_hypotIsTrue 0 = .ok (.aload_n 0, 1) := by decide +kernel
theorem dX7_hypotIsTrue_1 : decode cX7_hypotIsTrue 1 = .ok (.iload_n 1, 1) := by decide +kernel
theorem dX7_hypotIsTrue_2 : decode cX7_hypotIsTrue 2 = .ok (.i2l, 1) := by decide +kernel
theorem dX7_hypotIsTrue_3 : decode cX7_hypotIsTrue 3 = .ok (.lconst 0, 1) := by decide +kernel
theorem dX7_hypotIsTrue_4 : decode cX7_hypotIsTrue 4 = .ok (.ldc2_w 55, 3) := by decide +kernel
theorem dX7_hypotIsTrue_7 : decode cX7_hypotIsTrue 7 = .ok (.invokestatic 37, 3) := by decide +kernel
theorem dX7_hypotIsTrue_10 : decode cX7_hypotIsTrue 10 = .ok (.ifCond .eq 19, 3) := by decide +kernel
theorem dX7_hypotIsTrue_13 : decode cX7_hypotIsTrue 13 = .ok (.iload_n 2, 1) := by decide +kernel
theorem dX7_hypotIsTrue_14 : decode cX7_hypotIsTrue 14 = .ok (.i2l, 1) := by decide +kernel
theorem dX7_hypotIsTrue_15 : decode cX7_hypotIsTrue 15 = .ok (.lconst 0, 1) := by decide +kernel
theorem dX7_hypotIsTrue_16 : decode cX7_hypotIsTrue 16 = .ok (.ldc2_w 55, 3) := by decide +kernel
theorem dX7_hypotIsTrue_19 : decode cX7_hypotIsTrue 19 = .ok (.invokestatic 37, 3) := by decide +kernel
theorem dX7_hypotIsTrue_22 : decode cX7_hypotIsTrue 22 = .ok (.ifCond .eq 7, 3) := by decide +kernel
theorem dX7_hypotIsTrue_25 : decode cX7_hypotIsTrue 25 = .ok (.iconst 0, 1) := by decide +kernel
theorem dX7_hypotIsTrue_26 : decode cX7_hypotIsTrue 26 = .ok (.goto 4, 3) := by decide +kernel
theorem dX7_hypotIsTrue_29 : decode cX7_hypotIsTrue 29 = .ok (.iconst 1, 1) := by decide +kernel
theorem dX7_hypotIsTrue_30 : decode cX7_hypotIsTrue 30 = .ok (.invokevirtual 57, 3) := by decide +kernel
theorem dX7_hypotIsTrue_33 : decode cX7_hypotIsTrue 33 = .ok (.ifCond .ne 7, 3) := by decide +kernel
theorem dX7_hypotIsTrue_36 : decode cX7_hypotIsTrue 36 = .ok (.iconst 1, 1) := by decide +kernel
theorem dX7_hypotIsTrue_37 : decode cX7_hypotIsTrue 37 = .ok (.goto 4, 3) := by decide +kernel
theorem dX7_hypotIsTrue_40 : decode cX7_hypotIsTrue 40 = .ok (.iconst 0, 1) := by decide +kernel
theorem dX7_hypotIsTrue_41 : decode cX7_hypotIsTrue 41 = .ok (.ireturn, 1) := by decide +kernel
theorem dX7_listIsTrue_0 : decode cX7_listIsTrue 0 = .ok (.aload_n 0, 1) := by decide +kernel
theorem dX7_listIsTrue_1 : decode cX7_listIsTrue 1 = .ok (.iload_n 1, 1) := by decide +kernel
theorem dX7_listIsTrue_2 : decode cX7_listIsTrue 2 = .ok (.i2l, 1) := by decide +kernel
theorem dX7_listIsTrue_3 : decode cX7_listIsTrue 3 = .ok (.lconst 0, 1) := by decide +kernel
theorem dX7_listIsTrue_4 : decode cX7_listIsTrue 4 = .ok (.ldc2_w 176, 3) := by decide +kernel
theorem dX7_listIsTrue_7 : decode cX7_listIsTrue 7 = .ok (.invokestatic 37, 3) := by decide +kernel
theorem dX7_listIsTrue_10 : decode cX7_listIsTrue 10 = .ok (.ifCond .eq 7, 3) := by decide +kernel
theorem dX7_listIsTrue_13 : decode cX7_listIsTrue 13 = .ok (.iconst 0, 1) := by decide +kernel
theorem dX7_listIsTrue_14 : decode cX7_listIsTrue 14 = .ok (.goto 4, 3) := by decide +kernel
theorem dX7_listIsTrue_17 : decode cX7_listIsTrue 17 = .ok (.iconst 1, 1) := by decide +kernel
theorem dX7_listIsTrue_18 : decode cX7_listIsTrue 18 = .ok (.invokevirtual 57, 3) := by decide +kernel
theorem dX7_listIsTrue_21 : decode cX7_listIsTrue 21 = .ok (.ifCond .ne 7, 3) := by decide +kernel
theorem dX7_listIsTrue_24 : decode cX7_listIsTrue 24 = .ok (.iconst 1, 1) := by decide +kernel
theorem dX7_listIsTrue_25 : decode cX7_listIsTrue 25 = .ok (.goto 4, 3) := by decide +kernel
theorem dX7_listIsTrue_28 : decode cX7_listIsTrue 28 = .ok (.iconst 0, 1) := by decide +kernel
theorem dX7_listIsTrue_29 : decode cX7_listIsTrue 29 = .ok (.ireturn, 1) := by decide +kernel
theorem dX7_countIsTrue_0 : decode cX7_countIsTrue 0 = .ok (.aload_n 0, 1) := by decide +kernel
theorem dX7_countIsTrue_1 : decode cX7_countIsTrue 1 = .ok (.iload_n 1, 1) := by decide +kernel
theorem dX7_countIsTrue_2 : decode cX7_countIsTrue 2 = .ok (.i2l, 1) := by decide +kernel
theorem dX7_countIsTrue_3 : decode cX7_countIsTrue 3 = .ok (.lconst 1, 1) := by decide +kernel
theorem dX7_countIsTrue_4 : decode cX7_countIsTrue 4 = .ok (.ldc2_w 181, 3) := by decide +kernel
theorem dX7_countIsTrue_7 : decode cX7_countIsTrue 7 = .ok (.invokestatic 37, 3) := by decide +kernel
theorem dX7_countIsTrue_10 : decode cX7_countIsTrue 10 = .ok (.ifCond .eq 7, 3) := by decide +kernel
theorem dX7_countIsTrue_13 : decode cX7_countIsTrue 13 = .ok (.iconst 0, 1) := by decide +kernel
theorem dX7_countIsTrue_14 : decode cX7_countIsTrue 14 = .ok (.goto 4, 3) := by decide +kernel
theorem dX7_countIsTrue_17 : decode cX7_countIsTrue 17 = .ok (.iconst 1, 1) := by decide +kernel
theorem dX7_countIsTrue_18 : decode cX7_countIsTrue 18 = .ok (.invokevirtual 57, 3) := by decide +kernel
theorem dX7_countIsTrue_21 : decode cX7_countIsTrue 21 = .ok (.ifCond .ne 7, 3) := by decide +kernel
theorem dX7_countIsTrue_24 : decode cX7_countIsTrue 24 = .ok (.iconst 1, 1) := by decide +kernel
theorem dX7_countIsTrue_25 : decode cX7_countIsTrue 25 = .ok (.goto 4, 3) := by decide +kernel
theorem dX7_countIsTrue_28 : decode cX7_countIsTrue 28 = .ok (.iconst 0, 1) := by decide +kernel
theorem dX7_countIsTrue_29 : decode cX7_countIsTrue 29 = .ok (.ireturn, 1) := by decide +kernel

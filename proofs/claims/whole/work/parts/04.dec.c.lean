theorem dX6_init_0 : decode cX6_init 0 = .ok (.aload_n 0, 1) := by decide +kernel
theorem dX6_init_1 : decode cX6_init 1 = .ok (.invokespecial 1, 3) := by decide +kernel
theorem dX6_init_4 : decode cX6_init 4 = .ok (.aload_n 0, 1) := by decide +kernel
theorem dX6_init_5 : decode cX6_init 5 = .ok (.bipush 16, 2) := by decide +kernel
theorem dX6_init_7 : decode cX6_init 7 = .ok (.anewarray 9, 3) := by decide +kernel
theorem dX6_init_10 : decode cX6_init 10 = .ok (.putfield 11, 3) := by decide +kernel
theorem dX6_init_13 : decode cX6_init 13 = .ok (.aload_n 0, 1) := by decide +kernel
theorem dX6_init_14 : decode cX6_init 14 = .ok (.new 15, 3) := by decide +kernel
theorem dX6_init_17 : decode cX6_init 17 = .ok (.dup, 1) := by decide +kernel
theorem dX6_init_18 : decode cX6_init 18 = .ok (.invokespecial 17, 3) := by decide +kernel
theorem dX6_init_21 : decode cX6_init 21 = .ok (.putfield 18, 3) := by decide +kernel
theorem dX6_init_24 : decode cX6_init 24 = .ok (.aload_n 0, 1) := by decide +kernel
theorem dX6_init_25 : decode cX6_init 25 = .ok (.new 15, 3) := by decide +kernel
theorem dX6_init_28 : decode cX6_init 28 = .ok (.dup, 1) := by decide +kernel
theorem dX6_init_29 : decode cX6_init 29 = .ok (.invokespecial 17, 3) := by decide +kernel
theorem dX6_init_32 : decode cX6_init 32 = .ok (.putfield 22, 3) := by decide +kernel
theorem dX6_init_35 : decode cX6_init 35 = .ok (.aload_n 0, 1) := by decide +kernel
theorem dX6_init_36 : decode cX6_init 36 = .ok (.new 15, 3) := by decide +kernel
theorem dX6_init_39 : decode cX6_init 39 = .ok (.dup, 1) := by decide +kernel
theorem dX6_init_40 : decode cX6_init 40 = .ok (.invokespecial 17, 3) := by decide +kernel
theorem dX6_init_43 : decode cX6_init 43 = .ok (.putfield 25, 3) := by decide +kernel
theorem dX6_init_46 : decode cX6_init 46 = .ok (.aload_n 0, 1) := by decide +kernel
theorem dX6_init_47 : decode cX6_init 47 = .ok (.bipush 16, 2) := by decide +kernel
theorem dX6_init_49 : decode cX6_init 49 = .ok (.newarray .int, 2) := by decide +kernel
theorem dX6_init_51 : decode cX6_init 51 = .ok (.putfield 28, 3) := by decide +kernel
theorem dX6_init_54 : decode cX6_init 54 = .ok (.aload_n 0, 1) := by decide +kernel
theorem dX6_init_55 : decode cX6_init 55 = .ok (.iconst 0, 1) := by decide +kernel
theorem dX6_init_56 : decode cX6_init 56 = .ok (.putfield 32, 3) := by decide +kernel
theorem dX6_init_59 : decode cX6_init 59 = .ok (.return_, 1) := by decide +kernel
theorem dX6_put_0 : decode cX6_put 0 = .ok (.iload_n 1, 1) := by decide +kernel
theorem dX6_put_1 : decode cX6_put 1 = .ok (.invokestatic 36, 3) := by decide +kernel
theorem dX6_put_4 : decode cX6_put 4 = .ok (.iload_n 2, 1) := by decide +kernel
theorem dX6_put_5 : decode cX6_put 5 = .ok (.invokestatic 40, 3) := by decide +kernel
theorem dX6_put_8 : decode cX6_put 8 = .ok (.ifCond .eq 18, 3) := by decide +kernel
theorem dX6_put_11 : decode cX6_put 11 = .ok (.iload_n 3, 1) := by decide +kernel
theorem dX6_put_12 : decode cX6_put 12 = .ok (.invokestatic 40, 3) := by decide +kernel
theorem dX6_put_15 : decode cX6_put 15 = .ok (.ifCond .eq 11, 3) := by decide +kernel
theorem dX6_put_18 : decode cX6_put 18 = .ok (.iload 4, 2) := by decide +kernel
theorem dX6_put_20 : decode cX6_put 20 = .ok (.invokestatic 40, 3) := by decide +kernel
theorem dX6_put_23 : decode cX6_put 23 = .ok (.ifCond .ne 13, 3) := by decide +kernel
theorem dX6_put_26 : decode cX6_put 26 = .ok (.new 44, 3) := by decide +kernel
theorem dX6_put_29 : decode cX6_put 29 = .ok (.dup, 1) := by decide +kernel
theorem dX6_put_30 : decode cX6_put 30 = .ok (.ldc 46, 2) := by decide +kernel
theorem dX6_put_32 : decode cX6_put 32 = .ok (.invokespecial 48, 3) := by decide +kernel
theorem dX6_put_35 : decode cX6_put 35 = .ok (.athrow, 1) := by decide +kernel
theorem dX6_put_36 : decode cX6_put 36 = .ok (.iload_n 2, 1) := by decide +kernel
theorem dX6_put_37 : decode cX6_put 37 = .ok (.iload_n 3, 1) := by decide +kernel
theorem dX6_put_38 : decode cX6_put 38 = .ok (.iload 4, 2) := by decide +kernel
theorem dX6_put_40 : decode cX6_put 40 = .ok (.iadd, 1) := by decide +kernel
theorem dX6_put_41 : decode cX6_put 41 = .ok (.if_icmp .ge 19, 3) := by decide +kernel
theorem dX6_put_44 : decode cX6_put 44 = .ok (.iload_n 3, 1) := by decide +kernel
theorem dX6_put_45 : decode cX6_put 45 = .ok (.iload_n 2, 1) := by decide +kernel
theorem dX6_put_46 : decode cX6_put 46 = .ok (.iload 4, 2) := by decide +kernel
theorem dX6_put_48 : decode cX6_put 48 = .ok (.iadd, 1) := by decide +kernel
theorem dX6_put_49 : decode cX6_put 49 = .ok (.if_icmp .ge 11, 3) := by decide +kernel
theorem dX6_put_52 : decode cX6_put 52 = .ok (.iload 4, 2) := by decide +kernel
theorem dX6_put_54 : decode cX6_put 54 = .ok (.iload_n 2, 1) := by decide +kernel
theorem dX6_put_55 : decode cX6_put 55 = .ok (.iload_n 3, 1) := by decide +kernel
theorem dX6_put_56 : decode cX6_put 56 = .ok (.iadd, 1) := by decide +kernel
theorem dX6_put_57 : decode cX6_put 57 = .ok (.if_icmp .lt 13, 3) := by decide +kernel
theorem dX6_put_60 : decode cX6_put 60 = .ok (.new 51, 3) := by decide +kernel
theorem dX6_put_63 : decode cX6_put 63 = .ok (.dup, 1) := by decide +kernel
theorem dX6_put_64 : decode cX6_put 64 = .ok (.ldc 53, 2) := by decide +kernel
theorem dX6_put_66 : decode cX6_put 66 = .ok (.invokespecial 55, 3) := by decide +kernel
theorem dX6_put_69 : decode cX6_put 69 = .ok (.athrow, 1) := by decide +kernel
theorem dX6_put_70 : decode cX6_put 70 = .ok (.aload_n 0, 1) := by decide +kernel
theorem dX6_put_71 : decode cX6_put 71 = .ok (.iload_n 1, 1) := by decide +kernel
theorem dX6_put_72 : decode cX6_put 72 = .ok (.new 9, 3) := by decide +kernel
theorem dX6_put_75 : decode cX6_put 75 = .ok (.dup, 1) := by decide +kernel
theorem dX6_put_76 : decode cX6_put 76 = .ok (.iload_n 2, 1) := by decide +kernel
theorem dX6_put_77 : decode cX6_put 77 = .ok (.iload_n 3, 1) := by decide +kernel
theorem dX6_put_78 : decode cX6_put 78 = .ok (.iload 4, 2) := by decide +kernel
theorem dX6_put_80 : decode cX6_put 80 = .ok (.invokespecial 56, 3) := by decide +kernel
theorem dX6_put_83 : decode cX6_put 83 = .ok (.invokevirtual 59, 3) := by decide +kernel
theorem dX6_put_86 : decode cX6_put 86 = .ok (.aload_n 0, 1) := by decide +kernel
theorem dX6_put_87 : decode cX6_put 87 = .ok (.invokevirtual 63, 3) := by decide +kernel
theorem dX6_put_90 : decode cX6_put 90 = .ok (.ireturn, 1) := by decide +kernel
theorem dX6_take_0 : decode cX6_take 0 = .ok (.aload_n 0, 1) := by decide +kernel
theorem dX6_take_1 : decode cX6_take 1 = .ok (.iload_n 1, 1) := by decide +kernel
theorem dX6_take_2 : decode cX6_take 2 = .ok (.invokevirtual 67, 3) := by decide +kernel
theorem dX6_take_5 : decode cX6_take 5 = .ok (.pop, 1) := by decide +kernel
theorem dX6_take_6 : decode cX6_take 6 = .ok (.aload_n 0, 1) := by decide +kernel
theorem dX6_take_7 : decode cX6_take 7 = .ok (.iload_n 1, 1) := by decide +kernel
theorem dX6_take_8 : decode cX6_take 8 = .ok (.aconst_null, 1) := by decide +kernel
theorem dX6_take_9 : decode cX6_take 9 = .ok (.invokevirtual 59, 3) := by decide +kernel
theorem dX6_take_12 : decode cX6_take 12 = .ok (.aload_n 0, 1) := by decide +kernel
theorem dX6_take_13 : decode cX6_take 13 = .ok (.invokevirtual 63, 3) := by decide +kernel
theorem dX6_take_16 : decode cX6_take 16 = .ok (.ireturn, 1) := by decide +kernel
theorem dX6_isHeld_0 : decode cX6_isHeld 0 = .ok (.iload_n 1, 1) := by decide +kernel
theorem dX6_isHeld_1 : decode cX6_isHeld 1 = .ok (.invokestatic 36, 3) := by decide +kernel
theorem dX6_isHeld_4 : decode cX6_isHeld 4 = .ok (.aload_n 0, 1) := by decide +kernel
theorem dX6_isHeld_5 : decode cX6_isHeld 5 = .ok (.iload_n 1, 1) := by decide +kernel
theorem dX6_isHeld_6 : decode cX6_isHeld 6 = .ok (.invokevirtual 71, 3) := by decide +kernel
theorem dX6_isHeld_9 : decode cX6_isHeld 9 = .ok (.ifnull 7, 3) := by decide +kernel
theorem dX6_isHeld_12 : decode cX6_isHeld 12 = .ok (.iconst 1, 1) := by decide +kernel
theorem dX6_isHeld_13 : decode cX6_isHeld 13 = .ok (.goto 4, 3) := by decide +kernel
theorem dX6_isHeld_16 : decode cX6_isHeld 16 = .ok (.iconst 0, 1) := by decide +kernel
theorem dX6_isHeld_17 : decode cX6_isHeld 17 = .ok (.ireturn, 1) := by decide +kernel
theorem dX6_side_0 : decode cX6_side 0 = .ok (.iload_n 1, 1) := by decide +kernel
theorem dX6_side_1 : decode cX6_side 1 = .ok (.invokestatic 36, 3) := by decide +kernel
theorem dX6_side_4 : decode cX6_side 4 = .ok (.iload_n 2, 1) := by decide +kernel
theorem dX6_side_5 : decode cX6_side 5 = .ok (.invokestatic 74, 3) := by decide +kernel
theorem dX6_side_8 : decode cX6_side 8 = .ok (.aload_n 0, 1) := by decide +kernel
theorem dX6_side_9 : decode cX6_side 9 = .ok (.iload_n 1, 1) := by decide +kernel
theorem dX6_side_10 : decode cX6_side 10 = .ok (.invokevirtual 67, 3) := by decide +kernel
theorem dX6_side_13 : decode cX6_side 13 = .ok (.iload_n 2, 1) := by decide +kernel
theorem dX6_side_14 : decode cX6_side 14 = .ok (.invokevirtual 77, 3) := by decide +kernel
theorem dX6_side_17 : decode cX6_side 17 = .ok (.ireturn, 1) := by decide +kernel
theorem dX6_copy_0 : decode cX6_copy 0 = .ok (.iload_n 1, 1) := by decide +kernel
theorem dX6_copy_1 : decode cX6_copy 1 = .ok (.invokestatic 36, 3) := by decide +kernel
theorem dX6_copy_4 : decode cX6_copy 4 = .ok (.iload_n 2, 1) := by decide +kernel
theorem dX6_copy_5 : decode cX6_copy 5 = .ok (.invokestatic 36, 3) := by decide +kernel
theorem dX6_copy_8 : decode cX6_copy 8 = .ok (.aload_n 0, 1) := by decide +kernel
theorem dX6_copy_9 : decode cX6_copy 9 = .ok (.iload_n 2, 1) := by decide +kernel
theorem dX6_copy_10 : decode cX6_copy 10 = .ok (.aload_n 0, 1) := by decide +kernel
theorem dX6_copy_11 : decode cX6_copy 11 = .ok (.iload_n 1, 1) := by decide +kernel
theorem dX6_copy_12 : decode cX6_copy 12 = .ok (.invokevirtual 67, 3) := by decide +kernel
theorem dX6_copy_15 : decode cX6_copy 15 = .ok (.invokevirtual 59, 3) := by decide +kernel
theorem dX6_copy_18 : decode cX6_copy 18 = .ok (.aload_n 0, 1) := by decide +kernel
theorem dX6_copy_19 : decode cX6_copy 19 = .ok (.invokevirtual 63, 3) := by decide +kernel
theorem dX6_copy_22 : decode cX6_copy 22 = .ok (.ireturn, 1) := by decide +kernel
theorem dX6_scale_0 : decode cX6_scale 0 = .ok (.iload_n 1, 1) := by decide +kernel
theorem dX6_scale_1 : decode cX6_scale 1 = .ok (.invokestatic 36, 3) := by decide +kernel
theorem dX6_scale_4 : decode cX6_scale 4 = .ok (.iload_n 2, 1) := by decide +kernel
theorem dX6_scale_5 : decode cX6_scale 5 = .ok (.iconst 1, 1) := by decide +kernel
theorem dX6_scale_6 : decode cX6_scale 6 = .ok (.if_icmp .lt 9, 3) := by decide +kernel
theorem dX6_scale_9 : decode cX6_scale 9 = .ok (.iload_n 2, 1) := by decide +kernel
theorem dX6_scale_10 : decode cX6_scale 10 = .ok (.bipush 64, 2) := by decide +kernel
theorem dX6_scale_12 : decode cX6_scale 12 = .ok (.if_icmp .le 13, 3) := by decide +kernel
theorem dX6_scale_15 : decode cX6_scale 15 = .ok (.new 44, 3) := by decide +kernel
theorem dX6_scale_18 : decode cX6_scale 18 = .ok (.dup, 1) := by decide +kernel
theorem dX6_scale_19 : decode cX6_scale 19 = .ok (.ldc 81, 2) := by decide +kernel
theorem dX6_scale_21 : decode cX6_scale 21 = .ok (.invokespecial 48, 3) := by decide +kernel
theorem dX6_scale_24 : decode cX6_scale 24 = .ok (.athrow, 1) := by decide +kernel
theorem dX6_scale_25 : decode cX6_scale 25 = .ok (.aload_n 0, 1) := by decide +kernel
theorem dX6_scale_26 : decode cX6_scale 26 = .ok (.iload_n 1, 1) := by decide +kernel
theorem dX6_scale_27 : decode cX6_scale 27 = .ok (.invokevirtual 67, 3) := by decide +kernel
theorem dX6_scale_30 : decode cX6_scale 30 = .ok (.astore_n 3, 1) := by decide +kernel
theorem dX6_scale_31 : decode cX6_scale 31 = .ok (.aload_n 0, 1) := by decide +kernel
theorem dX6_scale_32 : decode cX6_scale 32 = .ok (.iload_n 1, 1) := by decide +kernel
theorem dX6_scale_33 : decode cX6_scale 33 = .ok (.iload_n 2, 1) := by decide +kernel
theorem dX6_scale_34 : decode cX6_scale 34 = .ok (.aload_n 3, 1) := by decide +kernel
theorem dX6_scale_35 : decode cX6_scale 35 = .ok (.getfield 83, 3) := by decide +kernel
theorem dX6_scale_38 : decode cX6_scale 38 = .ok (.imul, 1) := by decide +kernel
theorem dX6_scale_39 : decode cX6_scale 39 = .ok (.iload_n 2, 1) := by decide +kernel
theorem dX6_scale_40 : decode cX6_scale 40 = .ok (.aload_n 3, 1) := by decide +kernel
theorem dX6_scale_41 : decode cX6_scale 41 = .ok (.getfield 86, 3) := by decide +kernel
theorem dX6_scale_44 : decode cX6_scale 44 = .ok (.imul, 1) := by decide +kernel
theorem dX6_scale_45 : decode cX6_scale 45 = .ok (.iload_n 2, 1) := by decide +kernel
theorem dX6_scale_46 : decode cX6_scale 46 = .ok (.aload_n 3, 1) := by decide +kernel
theorem dX6_scale_47 : decode cX6_scale 47 = .ok (.getfield 89, 3) := by decide +kernel
theorem dX6_scale_50 : decode cX6_scale 50 = .ok (.imul, 1) := by decide +kernel
theorem dX6_scale_51 : decode cX6_scale 51 = .ok (.invokevirtual 92, 3) := by decide +kernel
theorem dX6_scale_54 : decode cX6_scale 54 = .ok (.ireturn, 1) := by decide +kernel
theorem dX6_reduce_0 : decode cX6_reduce 0 = .ok (.aload_n 0, 1) := by decide +kernel
theorem dX6_reduce_1 : decode cX6_reduce 1 = .ok (.iload_n 1, 1) := by decide +kernel
theorem dX6_reduce_2 : decode cX6_reduce 2 = .ok (.invokevirtual 67, 3) := by decide +kernel
theorem dX6_reduce_5 : decode cX6_reduce 5 = .ok (.astore_n 2, 1) := by decide +kernel
theorem dX6_reduce_6 : decode cX6_reduce 6 = .ok (.aload_n 2, 1) := by decide +kernel
theorem dX6_reduce_7 : decode cX6_reduce 7 = .ok (.invokevirtual 96, 3) := by decide +kernel
theorem dX6_reduce_10 : decode cX6_reduce 10 = .ok (.istore_n 3, 1) := by decide +kernel
theorem dX6_reduce_11 : decode cX6_reduce 11 = .ok (.iload_n 3, 1) := by decide +kernel
theorem dX6_reduce_12 : decode cX6_reduce 12 = .ok (.iconst 1, 1) := by decide +kernel
theorem dX6_reduce_13 : decode cX6_reduce 13 = .ok (.if_icmp .le 33, 3) := by decide +kernel
theorem dX6_reduce_16 : decode cX6_reduce 16 = .ok (.aload_n 0, 1) := by decide +kernel
theorem dX6_reduce_17 : decode cX6_reduce 17 = .ok (.iload_n 1, 1) := by decide +kernel
theorem dX6_reduce_18 : decode cX6_reduce 18 = .ok (.new 9, 3) := by decide +kernel
theorem dX6_reduce_21 : decode cX6_reduce 21 = .ok (.dup, 1) := by decide +kernel
theorem dX6_reduce_22 : decode cX6_reduce 22 = .ok (.aload_n 2, 1) := by decide +kernel
theorem dX6_reduce_23 : decode cX6_reduce 23 = .ok (.getfield 83, 3) := by decide +kernel
theorem dX6_reduce_26 : decode cX6_reduce 26 = .ok (.iload_n 3, 1) := by decide +kernel
theorem dX6_reduce_27 : decode cX6_reduce 27 = .ok (.idiv, 1) := by decide +kernel
theorem dX6_reduce_28 : decode cX6_reduce 28 = .ok (.aload_n 2, 1) := by decide +kernel
theorem dX6_reduce_29 : decode cX6_reduce 29 = .ok (.getfield 86, 3) := by decide +kernel
theorem dX6_reduce_32 : decode cX6_reduce 32 = .ok (.iload_n 3, 1) := by decide +kernel
theorem dX6_reduce_33 : decode cX6_reduce 33 = .ok (.idiv, 1) := by decide +kernel
theorem dX6_reduce_34 : decode cX6_reduce 34 = .ok (.aload_n 2, 1) := by decide +kernel
theorem dX6_reduce_35 : decode cX6_reduce 35 = .ok (.getfield 89, 3) := by decide +kernel
theorem dX6_reduce_38 : decode cX6_reduce 38 = .ok (.iload_n 3, 1) := by decide +kernel
theorem dX6_reduce_39 : decode cX6_reduce 39 = .ok (.idiv, 1) := by decide +kernel
theorem dX6_reduce_40 : decode cX6_reduce 40 = .ok (.invokespecial 56, 3) := by decide +kernel
theorem dX6_reduce_43 : decode cX6_reduce 43 = .ok (.invokevirtual 59, 3) := by decide +kernel
theorem dX6_reduce_46 : decode cX6_reduce 46 = .ok (.iload_n 3, 1) := by decide +kernel
theorem dX6_reduce_47 : decode cX6_reduce 47 = .ok (.ireturn, 1) := by decide +kernel
theorem dX6_join_0 : decode cX6_join 0 = .ok (.iload_n 1, 1) := by decide +kernel
theorem dX6_join_1 : decode cX6_join 1 = .ok (.invokestatic 36, 3) := by decide +kernel
theorem dX6_join_4 : decode cX6_join 4 = .ok (.iload_n 2, 1) := by decide +kernel
theorem dX6_join_5 : decode cX6_join 5 = .ok (.invokestatic 36, 3) := by decide +kernel
theorem dX6_join_8 : decode cX6_join 8 = .ok (.iload_n 3, 1) := by decide +kernel
theorem dX6_join_9 : decode cX6_join 9 = .ok (.invokestatic 36, 3) := by decide +kernel
theorem dX6_join_12 : decode cX6_join 12 = .ok (.aload_n 0, 1) := by decide +kernel
theorem dX6_join_13 : decode cX6_join 13 = .ok (.iload_n 1, 1) := by decide +kernel
theorem dX6_join_14 : decode cX6_join 14 = .ok (.invokevirtual 67, 3) := by decide +kernel
theorem dX6_join_17 : decode cX6_join 17 = .ok (.astore 4, 2) := by decide +kernel
theorem dX6_join_19 : decode cX6_join 19 = .ok (.aload_n 0, 1) := by decide +kernel
theorem dX6_join_20 : decode cX6_join 20 = .ok (.iload_n 2, 1) := by decide +kernel
theorem dX6_join_21 : decode cX6_join 21 = .ok (.invokevirtual 67, 3) := by decide +kernel
theorem dX6_join_24 : decode cX6_join 24 = .ok (.astore 5, 2) := by decide +kernel
theorem dX6_join_26 : decode cX6_join 26 = .ok (.aload 4, 2) := by decide +kernel
theorem dX6_join_28 : decode cX6_join 28 = .ok (.invokevirtual 99, 3) := by decide +kernel
theorem dX6_join_31 : decode cX6_join 31 = .ok (.ifCond .ne 11, 3) := by decide +kernel
theorem dX6_join_34 : decode cX6_join 34 = .ok (.aload 5, 2) := by decide +kernel
theorem dX6_join_36 : decode cX6_join 36 = .ok (.invokevirtual 99, 3) := by decide +kernel
theorem dX6_join_39 : decode cX6_join 39 = .ok (.ifCond .eq 13, 3) := by decide +kernel
theorem dX6_join_42 : decode cX6_join 42 = .ok (.new 51, 3) := by decide +kernel
theorem dX6_join_45 : decode cX6_join 45 = .ok (.dup, 1) := by decide +kernel
theorem dX6_join_46 : decode cX6_join 46 = .ok (.ldc 102, 2) := by decide +kernel
theorem dX6_join_48 : decode cX6_join 48 = .ok (.invokespecial 55, 3) := by decide +kernel
theorem dX6_join_51 : decode cX6_join 51 = .ok (.athrow, 1) := by decide +kernel
theorem dX6_join_52 : decode cX6_join 52 = .ok (.aload 4, 2) := by decide +kernel
theorem dX6_join_54 : decode cX6_join 54 = .ok (.aload 5, 2) := by decide +kernel
theorem dX6_join_56 : decode cX6_join 56 = .ok (.getfield 86, 3) := by decide +kernel
theorem dX6_join_59 : decode cX6_join 59 = .ok (.invokevirtual 104, 3) := by decide +kernel
theorem dX6_join_62 : decode cX6_join 62 = .ok (.ifCond .eq 11, 3) := by decide +kernel
theorem dX6_join_65 : decode cX6_join 65 = .ok (.aload 5, 2) := by decide +kernel
theorem dX6_join_67 : decode cX6_join 67 = .ok (.getfield 86, 3) := by decide +kernel
theorem dX6_join_70 : decode cX6_join 70 = .ok (.goto 8, 3) := by decide +kernel
theorem dX6_join_73 : decode cX6_join 73 = .ok (.aload 5, 2) := by decide +kernel
theorem dX6_join_75 : decode cX6_join 75 = .ok (.getfield 83, 3) := by decide +kernel
theorem dX6_join_78 : decode cX6_join 78 = .ok (.istore 6, 2) := by decide +kernel
theorem dX6_join_80 : decode cX6_join 80 = .ok (.aload 4, 2) := by decide +kernel
theorem dX6_join_82 : decode cX6_join 82 = .ok (.iload 6, 2) := by decide +kernel
theorem dX6_join_84 : decode cX6_join 84 = .ok (.invokevirtual 104, 3) := by decide +kernel
theorem dX6_join_87 : decode cX6_join 87 = .ok (.ifCond .ne 13, 3) := by decide +kernel
theorem dX6_join_90 : decode cX6_join 90 = .ok (.new 51, 3) := by decide +kernel
theorem dX6_join_93 : decode cX6_join 93 = .ok (.dup, 1) := by decide +kernel
theorem dX6_join_94 : decode cX6_join 94 = .ok (.ldc 107, 2) := by decide +kernel
theorem dX6_join_96 : decode cX6_join 96 = .ok (.invokespecial 55, 3) := by decide +kernel
theorem dX6_join_99 : decode cX6_join 99 = .ok (.athrow, 1) := by decide +kernel
theorem dX6_join_100 : decode cX6_join 100 = .ok (.aload_n 0, 1) := by decide +kernel
theorem dX6_join_101 : decode cX6_join 101 = .ok (.iload_n 3, 1) := by decide +kernel
theorem dX6_join_102 : decode cX6_join 102 = .ok (.aload 4, 2) := by decide +kernel
theorem dX6_join_104 : decode cX6_join 104 = .ok (.getfield 89, 3) := by decide +kernel
theorem dX6_join_107 : decode cX6_join 107 = .ok (.aload 5, 2) := by decide +kernel
theorem dX6_join_109 : decode cX6_join 109 = .ok (.getfield 89, 3) := by decide +kernel
theorem dX6_join_112 : decode cX6_join 112 = .ok (.aload 4, 2) := by decide +kernel
theorem dX6_join_114 : decode cX6_join 114 = .ok (.iload 6, 2) := by decide +kernel
theorem dX6_join_116 : decode cX6_join 116 = .ok (.invokevirtual 109, 3) := by decide +kernel
theorem dX6_join_119 : decode cX6_join 119 = .ok (.aload 5, 2) := by decide +kernel
theorem dX6_join_121 : decode cX6_join 121 = .ok (.iload 6, 2) := by decide +kernel
theorem dX6_join_123 : decode cX6_join 123 = .ok (.invokevirtual 109, 3) := by decide +kernel
theorem dX6_join_126 : decode cX6_join 126 = .ok (.iadd, 1) := by decide +kernel
theorem dX6_join_127 : decode cX6_join 127 = .ok (.invokevirtual 92, 3) := by decide +kernel
theorem dX6_join_130 : decode cX6_join 130 = .ok (.ireturn, 1) := by decide +kernel
theorem dX6_kind_0 : decode cX6_kind 0 = .ok (.aload_n 0, 1) := by decide +kernel
theorem dX6_kind_1 : decode cX6_kind 1 = .ok (.iload_n 1, 1) := by decide +kernel
theorem dX6_kind_2 : decode cX6_kind 2 = .ok (.invokevirtual 67, 3) := by decide +kernel
theorem dX6_kind_5 : decode cX6_kind 5 = .ok (.invokevirtual 99, 3) := by decide +kernel
theorem dX6_kind_8 : decode cX6_kind 8 = .ok (.ireturn, 1) := by decide +kernel
theorem dX6_angle_0 : decode cX6_angle 0 = .ok (.iload_n 1, 1) := by decide +kernel
theorem dX6_angle_1 : decode cX6_angle 1 = .ok (.invokestatic 36, 3) := by decide +kernel
theorem dX6_angle_4 : decode cX6_angle 4 = .ok (.iload_n 2, 1) := by decide +kernel
theorem dX6_angle_5 : decode cX6_angle 5 = .ok (.invokestatic 74, 3) := by decide +kernel
theorem dX6_angle_8 : decode cX6_angle 8 = .ok (.aload_n 0, 1) := by decide +kernel
theorem dX6_angle_9 : decode cX6_angle 9 = .ok (.iload_n 1, 1) := by decide +kernel
theorem dX6_angle_10 : decode cX6_angle 10 = .ok (.invokevirtual 67, 3) := by decide +kernel
theorem dX6_angle_13 : decode cX6_angle 13 = .ok (.iload_n 2, 1) := by decide +kernel
theorem dX6_angle_14 : decode cX6_angle 14 = .ok (.invokevirtual 112, 3) := by decide +kernel
theorem dX6_angle_17 : decode cX6_angle 17 = .ok (.ireturn, 1) := by decide +kernel
theorem dX6_areaIsWhole_0 : decode cX6_areaIsWhole 0 = .ok (.aload_n 0, 1) := by decide +kernel
theorem dX6_areaIsWhole_1 : decode cX6_areaIsWhole 1 = .ok (.iload_n 1, 1) := by decide +kernel
theorem dX6_areaIsWhole_2 : decode cX6_areaIsWhole 2 = .ok (.invokevirtual 67, 3) := by decide +kernel
theorem dX6_areaIsWhole_5 : decode cX6_areaIsWhole 5 = .ok (.invokevirtual 115, 3) := by decide +kernel
theorem dX6_areaIsWhole_8 : decode cX6_areaIsWhole 8 = .ok (.lconst 0, 1) := by decide +kernel
theorem dX6_areaIsWhole_9 : decode cX6_areaIsWhole 9 = .ok (.lcmp, 1) := by decide +kernel
theorem dX6_areaIsWhole_10 : decode cX6_areaIsWhole 10 = .ok (.ifCond .le 7, 3) := by decide +kernel
theorem dX6_areaIsWhole_13 : decode cX6_areaIsWhole 13 = .ok (.iconst 1, 1) := by decide +kernel
theorem dX6_areaIsWhole_14 : decode cX6_areaIsWhole 14 = .ok (.goto 4, 3) := by decide +kernel
theorem dX6_areaIsWhole_17 : decode cX6_areaIsWhole 17 = .ok (.iconst 0, 1) := by decide +kernel
theorem dX6_areaIsWhole_18 : decode cX6_areaIsWhole 18 = .ok (.ireturn, 1) := by decide +kernel
theorem dX6_area_0 : decode cX6_area 0 = .ok (.aload_n 0, 1) := by decide +kernel
theorem dX6_area_1 : decode cX6_area 1 = .ok (.iload_n 1, 1) := by decide +kernel
theorem dX6_area_2 : decode cX6_area 2 = .ok (.invokevirtual 67, 3) := by decide +kernel
theorem dX6_area_5 : decode cX6_area 5 = .ok (.invokevirtual 115, 3) := by decide +kernel
theorem dX6_area_8 : decode cX6_area 8 = .ok (.lstore_n 2, 1) := by decide +kernel
theorem dX6_area_9 : decode cX6_area 9 = .ok (.lload_n 2, 1) := by decide +kernel
theorem dX6_area_10 : decode cX6_area 10 = .ok (.lconst 0, 1) := by decide +kernel
theorem dX6_area_11 : decode cX6_area 11 = .ok (.lcmp, 1) := by decide +kernel
theorem dX6_area_12 : decode cX6_area 12 = .ok (.ifCond .ne 13, 3) := by decide +kernel
theorem dX6_area_15 : decode cX6_area 15 = .ok (.new 51, 3) := by decide +kernel
theorem dX6_area_18 : decode cX6_area 18 = .ok (.dup, 1) := by decide +kernel
theorem dX6_area_19 : decode cX6_area 19 = .ok (.ldc 119, 2) := by decide +kernel
theorem dX6_area_21 : decode cX6_area 21 = .ok (.invokespecial 55, 3) := by decide +kernel
theorem dX6_area_24 : decode cX6_area 24 = .ok (.athrow, 1) := by decide +kernel
theorem dX6_area_25 : decode cX6_area 25 = .ok (.lload_n 2, 1) := by decide +kernel
theorem dX6_area_26 : decode cX6_area 26 = .ok (.lreturn, 1) := by decide +kernel
theorem dX6_circle_0 : decode cX6_circle 0 = .ok (.iload_n 1, 1) := by decide +kernel
theorem dX6_circle_1 : decode cX6_circle 1 = .ok (.invokestatic 36, 3) := by decide +kernel
theorem dX6_circle_4 : decode cX6_circle 4 = .ok (.iload_n 2, 1) := by decide +kernel
theorem dX6_circle_5 : decode cX6_circle 5 = .ok (.bipush 105, 2) := by decide +kernel
theorem dX6_circle_7 : decode cX6_circle 7 = .ok (.if_icmp .eq 19, 3) := by decide +kernel
theorem dX6_circle_10 : decode cX6_circle 10 = .ok (.iload_n 2, 1) := by decide +kernel
theorem dX6_circle_11 : decode cX6_circle 11 = .ok (.bipush 111, 2) := by decide +kernel
theorem dX6_circle_13 : decode cX6_circle 13 = .ok (.if_icmp .eq 13, 3) := by decide +kernel
theorem dX6_circle_16 : decode cX6_circle 16 = .ok (.new 44, 3) := by decide +kernel
theorem dX6_circle_19 : decode cX6_circle 19 = .ok (.dup, 1) := by decide +kernel
theorem dX6_circle_20 : decode cX6_circle 20 = .ok (.ldc 121, 2) := by decide +kernel
theorem dX6_circle_22 : decode cX6_circle 22 = .ok (.invokespecial 48, 3) := by decide +kernel
theorem dX6_circle_25 : decode cX6_circle 25 = .ok (.athrow, 1) := by decide +kernel
theorem dX6_circle_26 : decode cX6_circle 26 = .ok (.aload_n 0, 1) := by decide +kernel
theorem dX6_circle_27 : decode cX6_circle 27 = .ok (.iload_n 1, 1) := by decide +kernel
theorem dX6_circle_28 : decode cX6_circle 28 = .ok (.invokevirtual 67, 3) := by decide +kernel
theorem dX6_circle_31 : decode cX6_circle 31 = .ok (.astore_n 3, 1) := by decide +kernel
theorem dX6_circle_32 : decode cX6_circle 32 = .ok (.iload_n 2, 1) := by decide +kernel
theorem dX6_circle_33 : decode cX6_circle 33 = .ok (.bipush 105, 2) := by decide +kernel
theorem dX6_circle_35 : decode cX6_circle 35 = .ok (.if_icmp .ne 10, 3) := by decide +kernel
theorem dX6_circle_38 : decode cX6_circle 38 = .ok (.aload_n 3, 1) := by decide +kernel
theorem dX6_circle_39 : decode cX6_circle 39 = .ok (.invokevirtual 123, 3) := by decide +kernel
theorem dX6_circle_42 : decode cX6_circle 42 = .ok (.goto 7, 3) := by decide +kernel
theorem dX6_circle_45 : decode cX6_circle 45 = .ok (.aload_n 3, 1) := by decide +kernel
theorem dX6_circle_46 : decode cX6_circle 46 = .ok (.invokevirtual 126, 3) := by decide +kernel
theorem dX6_circle_49 : decode cX6_circle 49 = .ok (.lstore 4, 2) := by decide +kernel
theorem dX6_circle_51 : decode cX6_circle 51 = .ok (.lload 4, 2) := by decide +kernel
theorem dX6_circle_53 : decode cX6_circle 53 = .ok (.lconst 0, 1) := by decide +kernel
theorem dX6_circle_54 : decode cX6_circle 54 = .ok (.lcmp, 1) := by decide +kernel
theorem dX6_circle_55 : decode cX6_circle 55 = .ok (.ifCond .ne 13, 3) := by decide +kernel
theorem dX6_circle_58 : decode cX6_circle 58 = .ok (.new 51, 3) := by decide +kernel
theorem dX6_circle_61 : decode cX6_circle 61 = .ok (.dup, 1) := by decide +kernel
theorem dX6_circle_62 : decode cX6_circle 62 = .ok (.ldc 129, 2) := by decide +kernel
theorem dX6_circle_64 : decode cX6_circle 64 = .ok (.invokespecial 55, 3) := by decide +kernel
theorem dX6_circle_67 : decode cX6_circle 67 = .ok (.athrow, 1) := by decide +kernel
theorem dX6_circle_68 : decode cX6_circle 68 = .ok (.lload 4, 2) := by decide +kernel
theorem dX6_circle_70 : decode cX6_circle 70 = .ok (.lreturn, 1) := by decide +kernel
theorem dX6_compareAreas_0 : decode cX6_compareAreas 0 = .ok (.iload_n 1, 1) := by decide +kernel
theorem dX6_compareAreas_1 : decode cX6_compareAreas 1 = .ok (.invokestatic 36, 3) := by decide +kernel
theorem dX6_compareAreas_4 : decode cX6_compareAreas 4 = .ok (.iload_n 2, 1) := by decide +kernel
theorem dX6_compareAreas_5 : decode cX6_compareAreas 5 = .ok (.invokestatic 36, 3) := by decide +kernel
theorem dX6_compareAreas_8 : decode cX6_compareAreas 8 = .ok (.aload_n 0, 1) := by decide +kernel
theorem dX6_compareAreas_9 : decode cX6_compareAreas 9 = .ok (.iload_n 1, 1) := by decide +kernel
theorem dX6_compareAreas_10 : decode cX6_compareAreas 10 = .ok (.invokevirtual 67, 3) := by decide +kernel
theorem dX6_compareAreas_13 : decode cX6_compareAreas 13 = .ok (.astore_n 3, 1) := by decide +kernel
theorem dX6_compareAreas_14 : decode cX6_compareAreas 14 = .ok (.aload_n 3, 1) := by decide +kernel
theorem dX6_compareAreas_15 : decode cX6_compareAreas 15 = .ok (.aload_n 0, 1) := by decide +kernel
theorem dX6_compareAreas_16 : decode cX6_compareAreas 16 = .ok (.iload_n 2, 1) := by decide +kernel
theorem dX6_compareAreas_17 : decode cX6_compareAreas 17 = .ok (.invokevirtual 67, 3) := by decide +kernel
theorem dX6_compareAreas_20 : decode cX6_compareAreas 20 = .ok (.invokevirtual 131, 3) := by decide +kernel
theorem dX6_compareAreas_23 : decode cX6_compareAreas 23 = .ok (.ireturn, 1) := by decide +kernel
theorem dX6_product_0 : decode cX6_product 0 = .ok (.aload_n 0, 1) := by decide +kernel
theorem dX6_product_1 : decode cX6_product 1 = .ok (.iload_n 1, 1) := by decide +kernel
theorem dX6_product_2 : decode cX6_product 2 = .ok (.invokevirtual 67, 3) := by decide +kernel
theorem dX6_product_5 : decode cX6_product 5 = .ok (.invokevirtual 135, 3) := by decide +kernel
theorem dX6_product_8 : decode cX6_product 8 = .ok (.lreturn, 1) := by decide +kernel
theorem dX6_bits_0 : decode cX6_bits 0 = .ok (.aload_n 0, 1) := by decide +kernel
theorem dX6_bits_1 : decode cX6_bits 1 = .ok (.iload_n 1, 1) := by decide +kernel
theorem dX6_bits_2 : decode cX6_bits 2 = .ok (.invokevirtual 67, 3) := by decide +kernel
theorem dX6_bits_5 : decode cX6_bits 5 = .ok (.invokevirtual 138, 3) := by decide +kernel
theorem dX6_bits_8 : decode cX6_bits 8 = .ok (.ireturn, 1) := by decide +kernel
theorem dX6_hypot_0 : decode cX6_hypot 0 = .ok (.iload_n 1, 1) := by decide +kernel
theorem dX6_hypot_1 : decode cX6_hypot 1 = .ok (.invokestatic 36, 3) := by decide +kernel
theorem dX6_hypot_4 : decode cX6_hypot 4 = .ok (.iload_n 2, 1) := by decide +kernel
theorem dX6_hypot_5 : decode cX6_hypot 5 = .ok (.invokestatic 74, 3) := by decide +kernel
theorem dX6_hypot_8 : decode cX6_hypot 8 = .ok (.iload_n 3, 1) := by decide +kernel
theorem dX6_hypot_9 : decode cX6_hypot 9 = .ok (.invokestatic 74, 3) := by decide +kernel
theorem dX6_hypot_12 : decode cX6_hypot 12 = .ok (.aload_n 0, 1) := by decide +kernel
theorem dX6_hypot_13 : decode cX6_hypot 13 = .ok (.iload_n 1, 1) := by decide +kernel
theorem dX6_hypot_14 : decode cX6_hypot 14 = .ok (.invokevirtual 67, 3) := by decide +kernel
theorem dX6_hypot_17 : decode cX6_hypot 17 = .ok (.astore 4, 2) := by decide +kernel
theorem dX6_hypot_19 : decode cX6_hypot 19 = .ok (.aload 4, 2) := by decide +kernel
theorem dX6_hypot_21 : decode cX6_hypot 21 = .ok (.iload_n 2, 1) := by decide +kernel
theorem dX6_hypot_22 : decode cX6_hypot 22 = .ok (.invokevirtual 77, 3) := by decide +kernel
theorem dX6_hypot_25 : decode cX6_hypot 25 = .ok (.aload 4, 2) := by decide +kernel
theorem dX6_hypot_27 : decode cX6_hypot 27 = .ok (.iload_n 3, 1) := by decide +kernel
theorem dX6_hypot_28 : decode cX6_hypot 28 = .ok (.invokevirtual 77, 3) := by decide +kernel
theorem dX6_hypot_31 : decode cX6_hypot 31 = .ok (.invokestatic 141, 3) := by decide +kernel
theorem dX6_hypot_34 : decode cX6_hypot 34 = .ok (.dreturn, 1) := by decide +kernel
theorem dX6_root_0 : decode cX6_root 0 = .ok (.lload_n 1, 1) := by decide +kernel
theorem dX6_root_1 : decode cX6_root 1 = .ok (.invokestatic 147, 3) := by decide +kernel
theorem dX6_root_4 : decode cX6_root 4 = .ok (.lload_n 1, 1) := by decide +kernel
theorem dX6_root_5 : decode cX6_root 5 = .ok (.invokestatic 151, 3) := by decide +kernel
theorem dX6_root_8 : decode cX6_root 8 = .ok (.dreturn, 1) := by decide +kernel
theorem dX6_shape_0 : decode cX6_shape 0 = .ok (.aload_n 0, 1) := by decide +kernel
theorem dX6_shape_1 : decode cX6_shape 1 = .ok (.iload_n 1, 1) := by decide +kernel
theorem dX6_shape_2 : decode cX6_shape 2 = .ok (.invokevirtual 67, 3) := by decide +kernel
theorem dX6_shape_5 : decode cX6_shape 5 = .ok (.astore_n 2, 1) := by decide +kernel
theorem dX6_shape_6 : decode cX6_shape 6 = .ok (.aload_n 2, 1) := by decide +kernel
theorem dX6_shape_7 : decode cX6_shape 7 = .ok (.getfield 83, 3) := by decide +kernel
theorem dX6_shape_10 : decode cX6_shape 10 = .ok (.i2f, 1) := by decide +kernel
theorem dX6_shape_11 : decode cX6_shape 11 = .ok (.aload_n 2, 1) := by decide +kernel
theorem dX6_shape_12 : decode cX6_shape 12 = .ok (.getfield 89, 3) := by decide +kernel
theorem dX6_shape_15 : decode cX6_shape 15 = .ok (.i2f, 1) := by decide +kernel
theorem dX6_shape_16 : decode cX6_shape 16 = .ok (.fdiv, 1) := by decide +kernel
theorem dX6_shape_17 : decode cX6_shape 17 = .ok (.freturn, 1) := by decide +kernel
theorem dX6_mean_0 : decode cX6_mean 0 = .ok (.aload_n 0, 1) := by decide +kernel
theorem dX6_mean_1 : decode cX6_mean 1 = .ok (.invokevirtual 63, 3) := by decide +kernel
theorem dX6_mean_4 : decode cX6_mean 4 = .ok (.istore_n 1, 1) := by decide +kernel
theorem dX6_mean_5 : decode cX6_mean 5 = .ok (.iload_n 1, 1) := by decide +kernel
theorem dX6_mean_6 : decode cX6_mean 6 = .ok (.ifCond .ne 5, 3) := by decide +kernel
theorem dX6_mean_9 : decode cX6_mean 9 = .ok (.dconst 0, 1) := by decide +kernel
theorem dX6_mean_10 : decode cX6_mean 10 = .ok (.dreturn, 1) := by decide +kernel
theorem dX6_mean_11 : decode cX6_mean 11 = .ok (.iconst 0, 1) := by decide +kernel
theorem dX6_mean_12 : decode cX6_mean 12 = .ok (.istore_n 2, 1) := by decide +kernel
theorem dX6_mean_13 : decode cX6_mean 13 = .ok (.iconst 0, 1) := by decide +kernel
theorem dX6_mean_14 : decode cX6_mean 14 = .ok (.istore_n 3, 1) := by decide +kernel
theorem dX6_mean_15 : decode cX6_mean 15 = .ok (.iload_n 3, 1) := by decide +kernel
theorem dX6_mean_16 : decode cX6_mean 16 = .ok (.bipush 16, 2) := by decide +kernel
theorem dX6_mean_18 : decode cX6_mean 18 = .ok (.if_icmp .ge 33, 3) := by decide +kernel
theorem dX6_mean_21 : decode cX6_mean 21 = .ok (.aload_n 0, 1) := by decide +kernel
theorem dX6_mean_22 : decode cX6_mean 22 = .ok (.iload_n 3, 1) := by decide +kernel
theorem dX6_mean_23 : decode cX6_mean 23 = .ok (.invokevirtual 71, 3) := by decide +kernel
theorem dX6_mean_26 : decode cX6_mean 26 = .ok (.astore 4, 2) := by decide +kernel
theorem dX6_mean_28 : decode cX6_mean 28 = .ok (.iload_n 2, 1) := by decide +kernel
theorem dX6_mean_29 : decode cX6_mean 29 = .ok (.aload 4, 2) := by decide +kernel
theorem dX6_mean_31 : decode cX6_mean 31 = .ok (.ifnonnull 7, 3) := by decide +kernel
theorem dX6_mean_34 : decode cX6_mean 34 = .ok (.iconst 0, 1) := by decide +kernel
theorem dX6_mean_35 : decode cX6_mean 35 = .ok (.goto 8, 3) := by decide +kernel
theorem dX6_mean_38 : decode cX6_mean 38 = .ok (.aload 4, 2) := by decide +kernel
theorem dX6_mean_40 : decode cX6_mean 40 = .ok (.invokevirtual 155, 3) := by decide +kernel
theorem dX6_mean_43 : decode cX6_mean 43 = .ok (.iadd, 1) := by decide +kernel
theorem dX6_mean_44 : decode cX6_mean 44 = .ok (.istore_n 2, 1) := by decide +kernel
theorem dX6_mean_45 : decode cX6_mean 45 = .ok (.iinc 3 1, 3) := by decide +kernel
theorem dX6_mean_48 : decode cX6_mean 48 = .ok (.goto (-33), 3) := by decide +kernel
theorem dX6_mean_51 : decode cX6_mean 51 = .ok (.iload_n 2, 1) := by decide +kernel
theorem dX6_mean_52 : decode cX6_mean 52 = .ok (.i2d, 1) := by decide +kernel
theorem dX6_mean_53 : decode cX6_mean 53 = .ok (.iload_n 1, 1) := by decide +kernel
theorem dX6_mean_54 : decode cX6_mean 54 = .ok (.i2d, 1) := by decide +kernel
theorem dX6_mean_55 : decode cX6_mean 55 = .ok (.ddiv, 1) := by decide +kernel
theorem dX6_mean_56 : decode cX6_mean 56 = .ok (.dreturn, 1) := by decide +kernel
theorem dX6_euclid_0 : decode cX6_euclid 0 = .ok (.iload_n 1, 1) := by decide +kernel
theorem dX6_euclid_1 : decode cX6_euclid 1 = .ok (.invokestatic 36, 3) := by decide +kernel
theorem dX6_euclid_4 : decode cX6_euclid 4 = .ok (.iload_n 2, 1) := by decide +kernel
theorem dX6_euclid_5 : decode cX6_euclid 5 = .ok (.iconst 2, 1) := by decide +kernel
theorem dX6_euclid_6 : decode cX6_euclid 6 = .ok (.if_icmp .lt 20, 3) := by decide +kernel
theorem dX6_euclid_9 : decode cX6_euclid 9 = .ok (.iload_n 2, 1) := by decide +kernel
theorem dX6_euclid_10 : decode cX6_euclid 10 = .ok (.sipush 255, 3) := by decide +kernel
theorem dX6_euclid_13 : decode cX6_euclid 13 = .ok (.if_icmp .gt 13, 3) := by decide +kernel
theorem dX6_euclid_16 : decode cX6_euclid 16 = .ok (.iload_n 3, 1) := by decide +kernel
theorem dX6_euclid_17 : decode cX6_euclid 17 = .ok (.iconst 1, 1) := by decide +kernel
theorem dX6_euclid_18 : decode cX6_euclid 18 = .ok (.if_icmp .lt 8, 3) := by decide +kernel
theorem dX6_euclid_21 : decode cX6_euclid 21 = .ok (.iload_n 3, 1) := by decide +kernel
theorem dX6_euclid_22 : decode cX6_euclid 22 = .ok (.iload_n 2, 1) := by decide +kernel
theorem dX6_euclid_23 : decode cX6_euclid 23 = .ok (.if_icmp .lt 13, 3) := by decide +kernel
theorem dX6_euclid_26 : decode cX6_euclid 26 = .ok (.new 44, 3) := by decide +kernel
theorem dX6_euclid_29 : decode cX6_euclid 29 = .ok (.dup, 1) := by decide +kernel
theorem dX6_euclid_30 : decode cX6_euclid 30 = .ok (.ldc 158, 2) := by decide +kernel
theorem dX6_euclid_32 : decode cX6_euclid 32 = .ok (.invokespecial 48, 3) := by decide +kernel
theorem dX6_euclid_35 : decode cX6_euclid 35 = .ok (.athrow, 1) := by decide +kernel
theorem dX6_euclid_36 : decode cX6_euclid 36 = .ok (.aload_n 0, 1) := by decide +kernel
theorem dX6_euclid_37 : decode cX6_euclid 37 = .ok (.iload_n 1, 1) := by decide +kernel
theorem dX6_euclid_38 : decode cX6_euclid 38 = .ok (.iload_n 2, 1) := by decide +kernel
theorem dX6_euclid_39 : decode cX6_euclid 39 = .ok (.iload_n 2, 1) := by decide +kernel
theorem dX6_euclid_40 : decode cX6_euclid 40 = .ok (.imul, 1) := by decide +kernel
theorem dX6_euclid_41 : decode cX6_euclid 41 = .ok (.iload_n 3, 1) := by decide +kernel
theorem dX6_euclid_42 : decode cX6_euclid 42 = .ok (.iload_n 3, 1) := by decide +kernel
theorem dX6_euclid_43 : decode cX6_euclid 43 = .ok (.imul, 1) := by decide +kernel
theorem dX6_euclid_44 : decode cX6_euclid 44 = .ok (.isub, 1) := by decide +kernel
theorem dX6_euclid_45 : decode cX6_euclid 45 = .ok (.iconst 2, 1) := by decide +kernel
theorem dX6_euclid_46 : decode cX6_euclid 46 = .ok (.iload_n 2, 1) := by decide +kernel
theorem dX6_euclid_47 : decode cX6_euclid 47 = .ok (.imul, 1) := by decide +kernel
theorem dX6_euclid_48 : decode cX6_euclid 48 = .ok (.iload_n 3, 1) := by decide +kernel
theorem dX6_euclid_49 : decode cX6_euclid 49 = .ok (.imul, 1) := by decide +kernel
theorem dX6_euclid_50 : decode cX6_euclid 50 = .ok (.iload_n 2, 1) := by decide +kernel
theorem dX6_euclid_51 : decode cX6_euclid 51 = .ok (.iload_n 2, 1) := by decide +kernel
theorem dX6_euclid_52 : decode cX6_euclid 52 = .ok (.imul, 1) := by decide +kernel
theorem dX6_euclid_53 : decode cX6_euclid 53 = .ok (.iload_n 3, 1) := by decide +kernel
theorem dX6_euclid_54 : decode cX6_euclid 54 = .ok (.iload_n 3, 1) := by decide +kernel
theorem dX6_euclid_55 : decode cX6_euclid 55 = .ok (.imul, 1) := by decide +kernel
theorem dX6_euclid_56 : decode cX6_euclid 56 = .ok (.iadd, 1) := by decide +kernel
theorem dX6_euclid_57 : decode cX6_euclid 57 = .ok (.invokevirtual 92, 3) := by decide +kernel
theorem dX6_euclid_60 : decode cX6_euclid 60 = .ok (.ireturn, 1) := by decide +kernel
theorem dX6_step_0 : decode cX6_step 0 = .ok (.iload_n 1, 1) := by decide +kernel
theorem dX6_step_1 : decode cX6_step 1 = .ok (.invokestatic 36, 3) := by decide +kernel
theorem dX6_step_4 : decode cX6_step 4 = .ok (.iload_n 2, 1) := by decide +kernel
theorem dX6_step_5 : decode cX6_step 5 = .ok (.bipush 97, 2) := by decide +kernel
theorem dX6_step_7 : decode cX6_step 7 = .ok (.if_icmp .eq 31, 3) := by decide +kernel
theorem dX6_step_10 : decode cX6_step 10 = .ok (.iload_n 2, 1) := by decide +kernel
theorem dX6_step_11 : decode cX6_step 11 = .ok (.bipush 98, 2) := by decide +kernel
theorem dX6_step_13 : decode cX6_step 13 = .ok (.if_icmp .eq 25, 3) := by decide +kernel
theorem dX6_step_16 : decode cX6_step 16 = .ok (.iload_n 2, 1) := by decide +kernel
theorem dX6_step_17 : decode cX6_step 17 = .ok (.bipush 99, 2) := by decide +kernel
theorem dX6_step_19 : decode cX6_step 19 = .ok (.if_icmp .eq 19, 3) := by decide +kernel
theorem dX6_step_22 : decode cX6_step 22 = .ok (.iload_n 2, 1) := by decide +kernel
theorem dX6_step_23 : decode cX6_step 23 = .ok (.bipush 112, 2) := by decide +kernel
theorem dX6_step_25 : decode cX6_step 25 = .ok (.if_icmp .eq 13, 3) := by decide +kernel
theorem dX6_step_28 : decode cX6_step 28 = .ok (.new 44, 3) := by decide +kernel
theorem dX6_step_31 : decode cX6_step 31 = .ok (.dup, 1) := by decide +kernel
theorem dX6_step_32 : decode cX6_step 32 = .ok (.ldc 160, 2) := by decide +kernel
theorem dX6_step_34 : decode cX6_step 34 = .ok (.invokespecial 48, 3) := by decide +kernel
theorem dX6_step_37 : decode cX6_step 37 = .ok (.athrow, 1) := by decide +kernel
theorem dX6_step_38 : decode cX6_step 38 = .ok (.aload_n 0, 1) := by decide +kernel
theorem dX6_step_39 : decode cX6_step 39 = .ok (.iload_n 1, 1) := by decide +kernel
theorem dX6_step_40 : decode cX6_step 40 = .ok (.invokevirtual 162, 3) := by decide +kernel
theorem dX6_step_43 : decode cX6_step 43 = .ok (.astore_n 3, 1) := by decide +kernel
theorem dX6_step_44 : decode cX6_step 44 = .ok (.aload_n 3, 1) := by decide +kernel
theorem dX6_step_45 : decode cX6_step 45 = .ok (.invokevirtual 165, 3) := by decide +kernel
theorem dX6_step_48 : decode cX6_step 48 = .ok (.istore 4, 2) := by decide +kernel
theorem dX6_step_50 : decode cX6_step 50 = .ok (.aload_n 3, 1) := by decide +kernel
theorem dX6_step_51 : decode cX6_step 51 = .ok (.invokevirtual 168, 3) := by decide +kernel
theorem dX6_step_54 : decode cX6_step 54 = .ok (.istore 5, 2) := by decide +kernel
theorem dX6_step_56 : decode cX6_step 56 = .ok (.iload_n 2, 1) := by decide +kernel
theorem dX6_step_57 : decode cX6_step 57 = .ok (.bipush 112, 2) := by decide +kernel
theorem dX6_step_59 : decode cX6_step 59 = .ok (.if_icmp .eq 45, 3) := by decide +kernel
theorem dX6_step_62 : decode cX6_step 62 = .ok (.aload_n 0, 1) := by decide +kernel
theorem dX6_step_63 : decode cX6_step 63 = .ok (.iload_n 1, 1) := by decide +kernel
theorem dX6_step_64 : decode cX6_step 64 = .ok (.iload_n 2, 1) := by decide +kernel
theorem dX6_step_65 : decode cX6_step 65 = .ok (.iload 4, 2) := by decide +kernel
theorem dX6_step_67 : decode cX6_step 67 = .ok (.iload 5, 2) := by decide +kernel
theorem dX6_step_69 : decode cX6_step 69 = .ok (.aload_n 3, 1) := by decide +kernel
theorem dX6_step_70 : decode cX6_step 70 = .ok (.getfield 89, 3) := by decide +kernel
theorem dX6_step_73 : decode cX6_step 73 = .ok (.invokestatic 171, 3) := by decide +kernel
theorem dX6_step_76 : decode cX6_step 76 = .ok (.iload_n 2, 1) := by decide +kernel
theorem dX6_step_77 : decode cX6_step 77 = .ok (.iload 4, 2) := by decide +kernel
theorem dX6_step_79 : decode cX6_step 79 = .ok (.iload 5, 2) := by decide +kernel
theorem dX6_step_81 : decode cX6_step 81 = .ok (.aload_n 3, 1) := by decide +kernel
theorem dX6_step_82 : decode cX6_step 82 = .ok (.getfield 89, 3) := by decide +kernel
theorem dX6_step_85 : decode cX6_step 85 = .ok (.invokestatic 176, 3) := by decide +kernel
theorem dX6_step_88 : decode cX6_step 88 = .ok (.iload_n 2, 1) := by decide +kernel
theorem dX6_step_89 : decode cX6_step 89 = .ok (.iload 4, 2) := by decide +kernel
theorem dX6_step_91 : decode cX6_step 91 = .ok (.iload 5, 2) := by decide +kernel
theorem dX6_step_93 : decode cX6_step 93 = .ok (.aload_n 3, 1) := by decide +kernel
theorem dX6_step_94 : decode cX6_step 94 = .ok (.getfield 89, 3) := by decide +kernel
theorem dX6_step_97 : decode cX6_step 97 = .ok (.invokestatic 178, 3) := by decide +kernel
theorem dX6_step_100 : decode cX6_step 100 = .ok (.invokevirtual 92, 3) := by decide +kernel
theorem dX6_step_103 : decode cX6_step 103 = .ok (.ireturn, 1) := by decide +kernel
theorem dX6_step_104 : decode cX6_step 104 = .ok (.aload_n 3, 1) := by decide +kernel
theorem dX6_step_105 : decode cX6_step 105 = .ok (.getfield 89, 3) := by decide +kernel
theorem dX6_step_108 : decode cX6_step 108 = .ok (.iconst 5, 1) := by decide +kernel
theorem dX6_step_109 : decode cX6_step 109 = .ok (.if_icmp .ne 13, 3) := by decide +kernel
theorem dX6_step_112 : decode cX6_step 112 = .ok (.new 51, 3) := by decide +kernel
theorem dX6_step_115 : decode cX6_step 115 = .ok (.dup, 1) := by decide +kernel
theorem dX6_step_116 : decode cX6_step 116 = .ok (.ldc 181, 2) := by decide +kernel
theorem dX6_step_118 : decode cX6_step 118 = .ok (.invokespecial 55, 3) := by decide +kernel
theorem dX6_step_121 : decode cX6_step 121 = .ok (.athrow, 1) := by decide +kernel
theorem dX6_step_122 : decode cX6_step 122 = .ok (.aload_n 0, 1) := by decide +kernel
theorem dX6_step_123 : decode cX6_step 123 = .ok (.iload_n 1, 1) := by decide +kernel
theorem dX6_step_124 : decode cX6_step 124 = .ok (.iload 4, 2) := by decide +kernel
theorem dX6_step_126 : decode cX6_step 126 = .ok (.iload 5, 2) := by decide +kernel
theorem dX6_step_128 : decode cX6_step 128 = .ok (.aload_n 3, 1) := by decide +kernel
theorem dX6_step_129 : decode cX6_step 129 = .ok (.getfield 89, 3) := by decide +kernel
theorem dX6_step_132 : decode cX6_step 132 = .ok (.invokestatic 183, 3) := by decide +kernel
theorem dX6_step_135 : decode cX6_step 135 = .ok (.invokestatic 187, 3) := by decide +kernel
theorem dX6_step_138 : decode cX6_step 138 = .ok (.iload 4, 2) := by decide +kernel
theorem dX6_step_140 : decode cX6_step 140 = .ok (.iload 5, 2) := by decide +kernel
theorem dX6_step_142 : decode cX6_step 142 = .ok (.aload_n 3, 1) := by decide +kernel
theorem dX6_step_143 : decode cX6_step 143 = .ok (.getfield 89, 3) := by decide +kernel
theorem dX6_step_146 : decode cX6_step 146 = .ok (.invokestatic 192, 3) := by decide +kernel
theorem dX6_step_149 : decode cX6_step 149 = .ok (.invokestatic 187, 3) := by decide +kernel
theorem dX6_step_152 : decode cX6_step 152 = .ok (.iload 4, 2) := by decide +kernel
theorem dX6_step_154 : decode cX6_step 154 = .ok (.iload 5, 2) := by decide +kernel
theorem dX6_step_156 : decode cX6_step 156 = .ok (.aload_n 3, 1) := by decide +kernel
theorem dX6_step_157 : decode cX6_step 157 = .ok (.getfield 89, 3) := by decide +kernel
theorem dX6_step_160 : decode cX6_step 160 = .ok (.invokestatic 195, 3) := by decide +kernel
theorem dX6_step_163 : decode cX6_step 163 = .ok (.invokevirtual 92, 3) := by decide +kernel
theorem dX6_step_166 : decode cX6_step 166 = .ok (.ireturn, 1) := by decide +kernel
theorem dX6_depth_0 : decode cX6_depth 0 = .ok (.aload_n 0, 1) := by decide +kernel
theorem dX6_depth_1 : decode cX6_depth 1 = .ok (.iload_n 1, 1) := by decide +kernel
theorem dX6_depth_2 : decode cX6_depth 2 = .ok (.invokevirtual 162, 3) := by decide +kernel
theorem dX6_depth_5 : decode cX6_depth 5 = .ok (.astore_n 2, 1) := by decide +kernel
theorem dX6_depth_6 : decode cX6_depth 6 = .ok (.aload_n 2, 1) := by decide +kernel
theorem dX6_depth_7 : decode cX6_depth 7 = .ok (.invokevirtual 165, 3) := by decide +kernel
theorem dX6_depth_10 : decode cX6_depth 10 = .ok (.aload_n 2, 1) := by decide +kernel
theorem dX6_depth_11 : decode cX6_depth 11 = .ok (.invokevirtual 168, 3) := by decide +kernel
theorem dX6_depth_14 : decode cX6_depth 14 = .ok (.aload_n 2, 1) := by decide +kernel
theorem dX6_depth_15 : decode cX6_depth 15 = .ok (.getfield 89, 3) := by decide +kernel
theorem dX6_depth_18 : decode cX6_depth 18 = .ok (.invokestatic 198, 3) := by decide +kernel
theorem dX6_depth_21 : decode cX6_depth 21 = .ok (.ireturn, 1) := by decide +kernel
theorem dX6_generator_0 : decode cX6_generator 0 = .ok (.iload_n 1, 1) := by decide +kernel
theorem dX6_generator_1 : decode cX6_generator 1 = .ok (.invokestatic 36, 3) := by decide +kernel
theorem dX6_generator_4 : decode cX6_generator 4 = .ok (.iload_n 2, 1) := by decide +kernel
theorem dX6_generator_5 : decode cX6_generator 5 = .ok (.bipush 109, 2) := by decide +kernel
theorem dX6_generator_7 : decode cX6_generator 7 = .ok (.if_icmp .eq 19, 3) := by decide +kernel
theorem dX6_generator_10 : decode cX6_generator 10 = .ok (.iload_n 2, 1) := by decide +kernel
theorem dX6_generator_11 : decode cX6_generator 11 = .ok (.bipush 110, 2) := by decide +kernel
theorem dX6_generator_13 : decode cX6_generator 13 = .ok (.if_icmp .eq 13, 3) := by decide +kernel
theorem dX6_generator_16 : decode cX6_generator 16 = .ok (.new 44, 3) := by decide +kernel
theorem dX6_generator_19 : decode cX6_generator 19 = .ok (.dup, 1) := by decide +kernel
theorem dX6_generator_20 : decode cX6_generator 20 = .ok (.ldc 201, 2) := by decide +kernel
theorem dX6_generator_22 : decode cX6_generator 22 = .ok (.invokespecial 48, 3) := by decide +kernel
theorem dX6_generator_25 : decode cX6_generator 25 = .ok (.athrow, 1) := by decide +kernel
theorem dX6_generator_26 : decode cX6_generator 26 = .ok (.aload_n 0, 1) := by decide +kernel
theorem dX6_generator_27 : decode cX6_generator 27 = .ok (.iload_n 1, 1) := by decide +kernel
theorem dX6_generator_28 : decode cX6_generator 28 = .ok (.invokevirtual 162, 3) := by decide +kernel
theorem dX6_generator_31 : decode cX6_generator 31 = .ok (.astore_n 3, 1) := by decide +kernel
theorem dX6_generator_32 : decode cX6_generator 32 = .ok (.iload_n 2, 1) := by decide +kernel
theorem dX6_generator_33 : decode cX6_generator 33 = .ok (.bipush 109, 2) := by decide +kernel
theorem dX6_generator_35 : decode cX6_generator 35 = .ok (.if_icmp .ne 17, 3) := by decide +kernel
theorem dX6_generator_38 : decode cX6_generator 38 = .ok (.aload_n 3, 1) := by decide +kernel
theorem dX6_generator_39 : decode cX6_generator 39 = .ok (.getfield 89, 3) := by decide +kernel
theorem dX6_generator_42 : decode cX6_generator 42 = .ok (.aload_n 3, 1) := by decide +kernel
theorem dX6_generator_43 : decode cX6_generator 43 = .ok (.invokevirtual 165, 3) := by decide +kernel
theorem dX6_generator_46 : decode cX6_generator 46 = .ok (.iadd, 1) := by decide +kernel
theorem dX6_generator_47 : decode cX6_generator 47 = .ok (.iconst 2, 1) := by decide +kernel
theorem dX6_generator_48 : decode cX6_generator 48 = .ok (.idiv, 1) := by decide +kernel
theorem dX6_generator_49 : decode cX6_generator 49 = .ok (.goto 14, 3) := by decide +kernel
theorem dX6_generator_52 : decode cX6_generator 52 = .ok (.aload_n 3, 1) := by decide +kernel
theorem dX6_generator_53 : decode cX6_generator 53 = .ok (.getfield 89, 3) := by decide +kernel
theorem dX6_generator_56 : decode cX6_generator 56 = .ok (.aload_n 3, 1) := by decide +kernel
theorem dX6_generator_57 : decode cX6_generator 57 = .ok (.invokevirtual 165, 3) := by decide +kernel
theorem dX6_generator_60 : decode cX6_generator 60 = .ok (.isub, 1) := by decide +kernel
theorem dX6_generator_61 : decode cX6_generator 61 = .ok (.iconst 2, 1) := by decide +kernel
theorem dX6_generator_62 : decode cX6_generator 62 = .ok (.idiv, 1) := by decide +kernel
theorem dX6_generator_63 : decode cX6_generator 63 = .ok (.istore 4, 2) := by decide +kernel
theorem dX6_generator_65 : decode cX6_generator 65 = .ok (.iload 4, 2) := by decide +kernel
theorem dX6_generator_67 : decode cX6_generator 67 = .ok (.i2l, 1) := by decide +kernel
theorem dX6_generator_68 : decode cX6_generator 68 = .ok (.invokestatic 203, 3) := by decide +kernel
theorem dX6_generator_71 : decode cX6_generator 71 = .ok (.l2i, 1) := by decide +kernel
theorem dX6_generator_72 : decode cX6_generator 72 = .ok (.ireturn, 1) := by decide +kernel
theorem dX6_list_0 : decode cX6_list 0 = .ok (.iload_n 1, 1) := by decide +kernel
theorem dX6_list_1 : decode cX6_list 1 = .ok (.bipush 101, 2) := by decide +kernel
theorem dX6_list_3 : decode cX6_list 3 = .ok (.if_icmp .eq 25, 3) := by decide +kernel
theorem dX6_list_6 : decode cX6_list 6 = .ok (.iload_n 1, 1) := by decide +kernel
theorem dX6_list_7 : decode cX6_list 7 = .ok (.bipush 116, 2) := by decide +kernel
theorem dX6_list_9 : decode cX6_list 9 = .ok (.if_icmp .eq 19, 3) := by decide +kernel
theorem dX6_list_12 : decode cX6_list 12 = .ok (.iload_n 1, 1) := by decide +kernel
theorem dX6_list_13 : decode cX6_list 13 = .ok (.bipush 104, 2) := by decide +kernel
theorem dX6_list_15 : decode cX6_list 15 = .ok (.if_icmp .eq 13, 3) := by decide +kernel
theorem dX6_list_18 : decode cX6_list 18 = .ok (.new 44, 3) := by decide +kernel
theorem dX6_list_21 : decode cX6_list 21 = .ok (.dup, 1) := by decide +kernel
theorem dX6_list_22 : decode cX6_list 22 = .ok (.ldc 207, 2) := by decide +kernel
theorem dX6_list_24 : decode cX6_list 24 = .ok (.invokespecial 48, 3) := by decide +kernel
theorem dX6_list_27 : decode cX6_list 27 = .ok (.athrow, 1) := by decide +kernel
theorem dX6_list_28 : decode cX6_list 28 = .ok (.iload_n 2, 1) := by decide +kernel
theorem dX6_list_29 : decode cX6_list 29 = .ok (.invokestatic 209, 3) := by decide +kernel
theorem dX6_list_32 : decode cX6_list 32 = .ok (.aload_n 0, 1) := by decide +kernel
theorem dX6_list_33 : decode cX6_list 33 = .ok (.getfield 18, 3) := by decide +kernel
theorem dX6_list_36 : decode cX6_list 36 = .ok (.iload_n 1, 1) := by decide +kernel
theorem dX6_list_37 : decode cX6_list 37 = .ok (.iload_n 2, 1) := by decide +kernel
theorem dX6_list_38 : decode cX6_list 38 = .ok (.invokevirtual 212, 3) := by decide +kernel
theorem dX6_list_41 : decode cX6_list 41 = .ok (.aload_n 0, 1) := by decide +kernel
theorem dX6_list_42 : decode cX6_list 42 = .ok (.getfield 18, 3) := by decide +kernel
theorem dX6_list_45 : decode cX6_list 45 = .ok (.getfield 216, 3) := by decide +kernel
theorem dX6_list_48 : decode cX6_list 48 = .ok (.ireturn, 1) := by decide +kernel
theorem dX6_listed_0 : decode cX6_listed 0 = .ok (.iload_n 1, 1) := by decide +kernel
theorem dX6_listed_1 : decode cX6_listed 1 = .ok (.ifCond .lt 14, 3) := by decide +kernel
theorem dX6_listed_4 : decode cX6_listed 4 = .ok (.iload_n 1, 1) := by decide +kernel
theorem dX6_listed_5 : decode cX6_listed 5 = .ok (.aload_n 0, 1) := by decide +kernel
theorem dX6_listed_6 : decode cX6_listed 6 = .ok (.getfield 18, 3) := by decide +kernel
theorem dX6_listed_9 : decode cX6_listed 9 = .ok (.getfield 216, 3) := by decide +kernel
theorem dX6_listed_12 : decode cX6_listed 12 = .ok (.if_icmp .lt 13, 3) := by decide +kernel
theorem dX6_listed_15 : decode cX6_listed 15 = .ok (.new 219, 3) := by decide +kernel
theorem dX6_listed_18 : decode cX6_listed 18 = .ok (.dup, 1) := by decide +kernel
theorem dX6_listed_19 : decode cX6_listed 19 = .ok (.ldc 221, 2) := by decide +kernel
theorem dX6_listed_21 : decode cX6_listed 21 = .ok (.invokespecial 223, 3) := by decide +kernel
theorem dX6_listed_24 : decode cX6_listed 24 = .ok (.athrow, 1) := by decide +kernel
theorem dX6_listed_25 : decode cX6_listed 25 = .ok (.iload_n 2, 1) := by decide +kernel
theorem dX6_listed_26 : decode cX6_listed 26 = .ok (.invokestatic 74, 3) := by decide +kernel
theorem dX6_listed_29 : decode cX6_listed 29 = .ok (.aload_n 0, 1) := by decide +kernel
theorem dX6_listed_30 : decode cX6_listed 30 = .ok (.getfield 18, 3) := by decide +kernel
theorem dX6_listed_33 : decode cX6_listed 33 = .ok (.iload_n 1, 1) := by decide +kernel
theorem dX6_listed_34 : decode cX6_listed 34 = .ok (.iload_n 2, 1) := by decide +kernel
theorem dX6_listed_35 : decode cX6_listed 35 = .ok (.invokevirtual 224, 3) := by decide +kernel
theorem dX6_listed_38 : decode cX6_listed 38 = .ok (.ireturn, 1) := by decide +kernel
theorem dX6_counts_0 : decode cX6_counts 0 = .ok (.iload_n 1, 1) := by decide +kernel
theorem dX6_counts_1 : decode cX6_counts 1 = .ok (.bipush 99, 2) := by decide +kernel
theorem dX6_counts_3 : decode cX6_counts 3 = .ok (.if_icmp .eq 19, 3) := by decide +kernel
theorem dX6_counts_6 : decode cX6_counts 6 = .ok (.iload_n 1, 1) := by decide +kernel
theorem dX6_counts_7 : decode cX6_counts 7 = .ok (.bipush 108, 2) := by decide +kernel
theorem dX6_counts_9 : decode cX6_counts 9 = .ok (.if_icmp .eq 13, 3) := by decide +kernel
theorem dX6_counts_12 : decode cX6_counts 12 = .ok (.new 44, 3) := by decide +kernel
theorem dX6_counts_15 : decode cX6_counts 15 = .ok (.dup, 1) := by decide +kernel
theorem dX6_counts_16 : decode cX6_counts 16 = .ok (.ldc 160, 2) := by decide +kernel
theorem dX6_counts_18 : decode cX6_counts 18 = .ok (.invokespecial 48, 3) := by decide +kernel
theorem dX6_counts_21 : decode cX6_counts 21 = .ok (.athrow, 1) := by decide +kernel
theorem dX6_counts_22 : decode cX6_counts 22 = .ok (.iload_n 2, 1) := by decide +kernel
theorem dX6_counts_23 : decode cX6_counts 23 = .ok (.invokestatic 227, 3) := by decide +kernel
theorem dX6_counts_26 : decode cX6_counts 26 = .ok (.iload_n 1, 1) := by decide +kernel
theorem dX6_counts_27 : decode cX6_counts 27 = .ok (.bipush 99, 2) := by decide +kernel
theorem dX6_counts_29 : decode cX6_counts 29 = .ok (.if_icmp .ne 10, 3) := by decide +kernel
theorem dX6_counts_32 : decode cX6_counts 32 = .ok (.iload_n 2, 1) := by decide +kernel
theorem dX6_counts_33 : decode cX6_counts 33 = .ok (.invokestatic 230, 3) := by decide +kernel
theorem dX6_counts_36 : decode cX6_counts 36 = .ok (.goto 7, 3) := by decide +kernel
theorem dX6_counts_39 : decode cX6_counts 39 = .ok (.iload_n 2, 1) := by decide +kernel
theorem dX6_counts_40 : decode cX6_counts 40 = .ok (.invokestatic 235, 3) := by decide +kernel
theorem dX6_counts_43 : decode cX6_counts 43 = .ok (.ireturn, 1) := by decide +kernel
theorem dX6_sort_0 : decode cX6_sort 0 = .ok (.iload_n 1, 1) := by decide +kernel
theorem dX6_sort_1 : decode cX6_sort 1 = .ok (.bipush 99, 2) := by decide +kernel
theorem dX6_sort_3 : decode cX6_sort 3 = .ok (.if_icmp .eq 25, 3) := by decide +kernel
theorem dX6_sort_6 : decode cX6_sort 6 = .ok (.iload_n 1, 1) := by decide +kernel
theorem dX6_sort_7 : decode cX6_sort 7 = .ok (.bipush 112, 2) := by decide +kernel
theorem dX6_sort_9 : decode cX6_sort 9 = .ok (.if_icmp .eq 19, 3) := by decide +kernel
theorem dX6_sort_12 : decode cX6_sort 12 = .ok (.iload_n 1, 1) := by decide +kernel
theorem dX6_sort_13 : decode cX6_sort 13 = .ok (.bipush 115, 2) := by decide +kernel
theorem dX6_sort_15 : decode cX6_sort 15 = .ok (.if_icmp .eq 13, 3) := by decide +kernel
theorem dX6_sort_18 : decode cX6_sort 18 = .ok (.new 44, 3) := by decide +kernel
theorem dX6_sort_21 : decode cX6_sort 21 = .ok (.dup, 1) := by decide +kernel
theorem dX6_sort_22 : decode cX6_sort 22 = .ok (.ldc 238, 2) := by decide +kernel
theorem dX6_sort_24 : decode cX6_sort 24 = .ok (.invokespecial 48, 3) := by decide +kernel
theorem dX6_sort_27 : decode cX6_sort 27 = .ok (.athrow, 1) := by decide +kernel
theorem dX6_sort_28 : decode cX6_sort 28 = .ok (.aload_n 0, 1) := by decide +kernel
theorem dX6_sort_29 : decode cX6_sort 29 = .ok (.iconst 0, 1) := by decide +kernel
theorem dX6_sort_30 : decode cX6_sort 30 = .ok (.putfield 32, 3) := by decide +kernel
theorem dX6_sort_33 : decode cX6_sort 33 = .ok (.iconst 0, 1) := by decide +kernel
theorem dX6_sort_34 : decode cX6_sort 34 = .ok (.istore_n 2, 1) := by decide +kernel
theorem dX6_sort_35 : decode cX6_sort 35 = .ok (.iload_n 2, 1) := by decide +kernel
theorem dX6_sort_36 : decode cX6_sort 36 = .ok (.bipush 16, 2) := by decide +kernel
theorem dX6_sort_38 : decode cX6_sort 38 = .ok (.if_icmp .ge 23, 3) := by decide +kernel
theorem dX6_sort_41 : decode cX6_sort 41 = .ok (.aload_n 0, 1) := by decide +kernel
theorem dX6_sort_42 : decode cX6_sort 42 = .ok (.iload_n 2, 1) := by decide +kernel
theorem dX6_sort_43 : decode cX6_sort 43 = .ok (.invokevirtual 71, 3) := by decide +kernel
theorem dX6_sort_46 : decode cX6_sort 46 = .ok (.ifnull 9, 3) := by decide +kernel
theorem dX6_sort_49 : decode cX6_sort 49 = .ok (.aload_n 0, 1) := by decide +kernel
theorem dX6_sort_50 : decode cX6_sort 50 = .ok (.iload_n 2, 1) := by decide +kernel
theorem dX6_sort_51 : decode cX6_sort 51 = .ok (.iload_n 1, 1) := by decide +kernel
theorem dX6_sort_52 : decode cX6_sort 52 = .ok (.invokevirtual 240, 3) := by decide +kernel
theorem dX6_sort_55 : decode cX6_sort 55 = .ok (.iinc 2 1, 3) := by decide +kernel
theorem dX6_sort_58 : decode cX6_sort 58 = .ok (.goto (-23), 3) := by decide +kernel
theorem dX6_sort_61 : decode cX6_sort 61 = .ok (.aload_n 0, 1) := by decide +kernel
theorem dX6_sort_62 : decode cX6_sort 62 = .ok (.getfield 32, 3) := by decide +kernel
theorem dX6_sort_65 : decode cX6_sort 65 = .ok (.ireturn, 1) := by decide +kernel
theorem dX6_sorted_0 : decode cX6_sorted 0 = .ok (.iload_n 1, 1) := by decide +kernel
theorem dX6_sorted_1 : decode cX6_sorted 1 = .ok (.ifCond .lt 17, 3) := by decide +kernel
theorem dX6_sorted_4 : decode cX6_sorted 4 = .ok (.iload_n 1, 1) := by decide +kernel
theorem dX6_sorted_5 : decode cX6_sorted 5 = .ok (.aload_n 0, 1) := by decide +kernel
theorem dX6_sorted_6 : decode cX6_sorted 6 = .ok (.getfield 32, 3) := by decide +kernel
theorem dX6_sorted_9 : decode cX6_sorted 9 = .ok (.if_icmp .ge 9, 3) := by decide +kernel
theorem dX6_sorted_12 : decode cX6_sorted 12 = .ok (.iload_n 1, 1) := by decide +kernel
theorem dX6_sorted_13 : decode cX6_sorted 13 = .ok (.bipush 16, 2) := by decide +kernel
theorem dX6_sorted_15 : decode cX6_sorted 15 = .ok (.if_icmp .lt 13, 3) := by decide +kernel
theorem dX6_sorted_18 : decode cX6_sorted 18 = .ok (.new 219, 3) := by decide +kernel
theorem dX6_sorted_21 : decode cX6_sorted 21 = .ok (.dup, 1) := by decide +kernel
theorem dX6_sorted_22 : decode cX6_sorted 22 = .ok (.ldc 244, 2) := by decide +kernel
theorem dX6_sorted_24 : decode cX6_sorted 24 = .ok (.invokespecial 223, 3) := by decide +kernel
theorem dX6_sorted_27 : decode cX6_sorted 27 = .ok (.athrow, 1) := by decide +kernel
theorem dX6_sorted_28 : decode cX6_sorted 28 = .ok (.aload_n 0, 1) := by decide +kernel
theorem dX6_sorted_29 : decode cX6_sorted 29 = .ok (.getfield 28, 3) := by decide +kernel
theorem dX6_sorted_32 : decode cX6_sorted 32 = .ok (.iload_n 1, 1) := by decide +kernel
theorem dX6_sorted_33 : decode cX6_sorted 33 = .ok (.iaload, 1) := by decide +kernel
theorem dX6_sorted_34 : decode cX6_sorted 34 = .ok (.ireturn, 1) := by decide +kernel
theorem dX6_checksum_0 : decode cX6_checksum 0 = .ok (.lconst 0, 1) := by decide +kernel
theorem dX6_checksum_1 : decode cX6_checksum 1 = .ok (.lstore_n 1, 1) := by decide +kernel
theorem dX6_checksum_2 : decode cX6_checksum 2 = .ok (.iconst 0, 1) := by decide +kernel
theorem dX6_checksum_3 : decode cX6_checksum 3 = .ok (.istore_n 3, 1) := by decide +kernel
theorem dX6_checksum_4 : decode cX6_checksum 4 = .ok (.iload_n 3, 1) := by decide +kernel
theorem dX6_checksum_5 : decode cX6_checksum 5 = .ok (.bipush 16, 2) := by decide +kernel
theorem dX6_checksum_7 : decode cX6_checksum 7 = .ok (.if_icmp .ge 37, 3) := by decide +kernel
theorem dX6_checksum_10 : decode cX6_checksum 10 = .ok (.aload_n 0, 1) := by decide +kernel
theorem dX6_checksum_11 : decode cX6_checksum 11 = .ok (.iload_n 3, 1) := by decide +kernel
theorem dX6_checksum_12 : decode cX6_checksum 12 = .ok (.invokevirtual 71, 3) := by decide +kernel
theorem dX6_checksum_15 : decode cX6_checksum 15 = .ok (.astore 4, 2) := by decide +kernel
theorem dX6_checksum_17 : decode cX6_checksum 17 = .ok (.ldc2_w 246, 3) := by decide +kernel
theorem dX6_checksum_20 : decode cX6_checksum 20 = .ok (.lload_n 1, 1) := by decide +kernel
theorem dX6_checksum_21 : decode cX6_checksum 21 = .ok (.lmul, 1) := by decide +kernel
theorem dX6_checksum_22 : decode cX6_checksum 22 = .ok (.aload 4, 2) := by decide +kernel
theorem dX6_checksum_24 : decode cX6_checksum 24 = .ok (.ifnonnull 7, 3) := by decide +kernel
theorem dX6_checksum_27 : decode cX6_checksum 27 = .ok (.lconst 0, 1) := by decide +kernel
theorem dX6_checksum_28 : decode cX6_checksum 28 = .ok (.goto 8, 3) := by decide +kernel
theorem dX6_checksum_31 : decode cX6_checksum 31 = .ok (.aload 4, 2) := by decide +kernel
theorem dX6_checksum_33 : decode cX6_checksum 33 = .ok (.invokevirtual 248, 3) := by decide +kernel
theorem dX6_checksum_36 : decode cX6_checksum 36 = .ok (.ladd, 1) := by decide +kernel
theorem dX6_checksum_37 : decode cX6_checksum 37 = .ok (.lstore_n 1, 1) := by decide +kernel
theorem dX6_checksum_38 : decode cX6_checksum 38 = .ok (.iinc 3 1, 3) := by decide +kernel
theorem dX6_checksum_41 : decode cX6_checksum 41 = .ok (.goto (-37), 3) := by decide +kernel
theorem dX6_checksum_44 : decode cX6_checksum 44 = .ok (.iconst 0, 1) := by decide +kernel
theorem dX6_checksum_45 : decode cX6_checksum 45 = .ok (.istore_n 3, 1) := by decide +kernel
theorem dX6_checksum_46 : decode cX6_checksum 46 = .ok (.iload_n 3, 1) := by decide +kernel
theorem dX6_checksum_47 : decode cX6_checksum 47 = .ok (.aload_n 0, 1) := by decide +kernel
theorem dX6_checksum_48 : decode cX6_checksum 48 = .ok (.getfield 18, 3) := by decide +kernel
theorem dX6_checksum_51 : decode cX6_checksum 51 = .ok (.getfield 216, 3) := by decide +kernel
theorem dX6_checksum_54 : decode cX6_checksum 54 = .ok (.if_icmp .ge 26, 3) := by decide +kernel
theorem dX6_checksum_57 : decode cX6_checksum 57 = .ok (.ldc2_w 246, 3) := by decide +kernel
theorem dX6_checksum_60 : decode cX6_checksum 60 = .ok (.lload_n 1, 1) := by decide +kernel
theorem dX6_checksum_61 : decode cX6_checksum 61 = .ok (.lmul, 1) := by decide +kernel
theorem dX6_checksum_62 : decode cX6_checksum 62 = .ok (.aload_n 0, 1) := by decide +kernel
theorem dX6_checksum_63 : decode cX6_checksum 63 = .ok (.getfield 18, 3) := by decide +kernel
theorem dX6_checksum_66 : decode cX6_checksum 66 = .ok (.iload_n 3, 1) := by decide +kernel
theorem dX6_checksum_67 : decode cX6_checksum 67 = .ok (.iconst 2, 1) := by decide +kernel
theorem dX6_checksum_68 : decode cX6_checksum 68 = .ok (.invokevirtual 224, 3) := by decide +kernel
theorem dX6_checksum_71 : decode cX6_checksum 71 = .ok (.i2l, 1) := by decide +kernel
theorem dX6_checksum_72 : decode cX6_checksum 72 = .ok (.ladd, 1) := by decide +kernel
theorem dX6_checksum_73 : decode cX6_checksum 73 = .ok (.lstore_n 1, 1) := by decide +kernel
theorem dX6_checksum_74 : decode cX6_checksum 74 = .ok (.iinc 3 1, 3) := by decide +kernel
theorem dX6_checksum_77 : decode cX6_checksum 77 = .ok (.goto (-31), 3) := by decide +kernel
theorem dX6_checksum_80 : decode cX6_checksum 80 = .ok (.iconst 0, 1) := by decide +kernel
theorem dX6_checksum_81 : decode cX6_checksum 81 = .ok (.istore_n 3, 1) := by decide +kernel
theorem dX6_checksum_82 : decode cX6_checksum 82 = .ok (.iload_n 3, 1) := by decide +kernel
theorem dX6_checksum_83 : decode cX6_checksum 83 = .ok (.aload_n 0, 1) := by decide +kernel
theorem dX6_checksum_84 : decode cX6_checksum 84 = .ok (.getfield 32, 3) := by decide +kernel
theorem dX6_checksum_87 : decode cX6_checksum 87 = .ok (.if_icmp .ge 29, 3) := by decide +kernel
theorem dX6_checksum_90 : decode cX6_checksum 90 = .ok (.iload_n 3, 1) := by decide +kernel
theorem dX6_checksum_91 : decode cX6_checksum 91 = .ok (.bipush 16, 2) := by decide +kernel
theorem dX6_checksum_93 : decode cX6_checksum 93 = .ok (.if_icmp .ge 23, 3) := by decide +kernel
theorem dX6_checksum_96 : decode cX6_checksum 96 = .ok (.ldc2_w 246, 3) := by decide +kernel
theorem dX6_checksum_99 : decode cX6_checksum 99 = .ok (.lload_n 1, 1) := by decide +kernel
theorem dX6_checksum_100 : decode cX6_checksum 100 = .ok (.lmul, 1) := by decide +kernel
theorem dX6_checksum_101 : decode cX6_checksum 101 = .ok (.aload_n 0, 1) := by decide +kernel
theorem dX6_checksum_102 : decode cX6_checksum 102 = .ok (.getfield 28, 3) := by decide +kernel
theorem dX6_checksum_105 : decode cX6_checksum 105 = .ok (.iload_n 3, 1) := by decide +kernel
theorem dX6_checksum_106 : decode cX6_checksum 106 = .ok (.iaload, 1) := by decide +kernel
theorem dX6_checksum_107 : decode cX6_checksum 107 = .ok (.i2l, 1) := by decide +kernel
theorem dX6_checksum_108 : decode cX6_checksum 108 = .ok (.ladd, 1) := by decide +kernel
theorem dX6_checksum_109 : decode cX6_checksum 109 = .ok (.lstore_n 1, 1) := by decide +kernel
theorem dX6_checksum_110 : decode cX6_checksum 110 = .ok (.iinc 3 1, 3) := by decide +kernel
theorem dX6_checksum_113 : decode cX6_checksum 113 = .ok (.goto (-31), 3) := by decide +kernel
theorem dX6_checksum_116 : decode cX6_checksum 116 = .ok (.lload_n 1, 1) := by decide +kernel
theorem dX6_checksum_117 : decode cX6_checksum 117 = .ok (.lreturn, 1) := by decide +kernel
theorem dX6_isTrue_0 : decode cX6_isTrue 0 = .ok (.aload_n 0, 1) := by decide +kernel
theorem dX6_isTrue_1 : decode cX6_isTrue 1 = .ok (.iload_n 1, 1) := by decide +kernel
theorem dX6_isTrue_2 : decode cX6_isTrue 2 = .ok (.invokevirtual 67, 3) := by decide +kernel
theorem dX6_isTrue_5 : decode cX6_isTrue 5 = .ok (.invokestatic 251, 3) := by decide +kernel
theorem dX6_isTrue_8 : decode cX6_isTrue 8 = .ok (.ireturn, 1) := by decide +kernel
theorem dX6_rootIsTrue_0 : decode cX6_rootIsTrue 0 = .ok (.lload_n 1, 1) := by decide +kernel
theorem dX6_rootIsTrue_1 : decode cX6_rootIsTrue 1 = .ok (.invokestatic 147, 3) := by decide +kernel
theorem dX6_rootIsTrue_4 : decode cX6_rootIsTrue 4 = .ok (.lload_n 1, 1) := by decide +kernel
theorem dX6_rootIsTrue_5 : decode cX6_rootIsTrue 5 = .ok (.invokestatic 257, 3) := by decide +kernel
theorem dX6_rootIsTrue_8 : decode cX6_rootIsTrue 8 = .ok (.ireturn, 1) := by decide +kernel
theorem dX6_hypotIsTrue_0 : decode cX6_hypotIsTrue 0 = .ok (.iload_n 1, 1) := by decide +kernel
theorem dX6_hypotIsTrue_1 : decode cX6_hypotIsTrue 1 = .ok (.ifCond .lt 21, 3) := by decide +kernel
theorem dX6_hypotIsTrue_4 : decode cX6_hypotIsTrue 4 = .ok (.iload_n 1, 1) := by decide +kernel
theorem dX6_hypotIsTrue_5 : decode cX6_hypotIsTrue 5 = .ok (.ldc_w 261, 3) := by decide +kernel
theorem dX6_hypotIsTrue_8 : decode cX6_hypotIsTrue 8 = .ok (.if_icmp .gt 14, 3) := by decide +kernel
theorem dX6_hypotIsTrue_11 : decode cX6_hypotIsTrue 11 = .ok (.iload_n 2, 1) := by decide +kernel
theorem dX6_hypotIsTrue_12 : decode cX6_hypotIsTrue 12 = .ok (.ifCond .lt 10, 3) := by decide +kernel
theorem dX6_hypotIsTrue_15 : decode cX6_hypotIsTrue 15 = .ok (.iload_n 2, 1) := by decide +kernel
theorem dX6_hypotIsTrue_16 : decode cX6_hypotIsTrue 16 = .ok (.ldc_w 261, 3) := by decide +kernel
theorem dX6_hypotIsTrue_19 : decode cX6_hypotIsTrue 19 = .ok (.if_icmp .le 14, 3) := by decide +kernel
theorem dX6_hypotIsTrue_22 : decode cX6_hypotIsTrue 22 = .ok (.new 44, 3) := by decide +kernel
theorem dX6_hypotIsTrue_25 : decode cX6_hypotIsTrue 25 = .ok (.dup, 1) := by decide +kernel
theorem dX6_hypotIsTrue_26 : decode cX6_hypotIsTrue 26 = .ok (.ldc_w 262, 3) := by decide +kernel
theorem dX6_hypotIsTrue_29 : decode cX6_hypotIsTrue 29 = .ok (.invokespecial 48, 3) := by decide +kernel
theorem dX6_hypotIsTrue_32 : decode cX6_hypotIsTrue 32 = .ok (.athrow, 1) := by decide +kernel
theorem dX6_hypotIsTrue_33 : decode cX6_hypotIsTrue 33 = .ok (.iload_n 1, 1) := by decide +kernel
theorem dX6_hypotIsTrue_34 : decode cX6_hypotIsTrue 34 = .ok (.iload_n 2, 1) := by decide +kernel
theorem dX6_hypotIsTrue_35 : decode cX6_hypotIsTrue 35 = .ok (.invokestatic 264, 3) := by decide +kernel
theorem dX6_hypotIsTrue_38 : decode cX6_hypotIsTrue 38 = .ok (.ireturn, 1) := by decide +kernel
theorem dX6_listIsTrue_0 : decode cX6_listIsTrue 0 = .ok (.iload_n 1, 1) := by decide +kernel
theorem dX6_listIsTrue_1 : decode cX6_listIsTrue 1 = .ok (.invokestatic 209, 3) := by decide +kernel
theorem dX6_listIsTrue_4 : decode cX6_listIsTrue 4 = .ok (.aload_n 0, 1) := by decide +kernel
theorem dX6_listIsTrue_5 : decode cX6_listIsTrue 5 = .ok (.getfield 22, 3) := by decide +kernel
theorem dX6_listIsTrue_8 : decode cX6_listIsTrue 8 = .ok (.bipush 101, 2) := by decide +kernel
theorem dX6_listIsTrue_10 : decode cX6_listIsTrue 10 = .ok (.iload_n 1, 1) := by decide +kernel
theorem dX6_listIsTrue_11 : decode cX6_listIsTrue 11 = .ok (.invokevirtual 212, 3) := by decide +kernel
theorem dX6_listIsTrue_14 : decode cX6_listIsTrue 14 = .ok (.aload_n 0, 1) := by decide +kernel
theorem dX6_listIsTrue_15 : decode cX6_listIsTrue 15 = .ok (.getfield 25, 3) := by decide +kernel
theorem dX6_listIsTrue_18 : decode cX6_listIsTrue 18 = .ok (.bipush 116, 2) := by decide +kernel
theorem dX6_listIsTrue_20 : decode cX6_listIsTrue 20 = .ok (.iload_n 1, 1) := by decide +kernel
theorem dX6_listIsTrue_21 : decode cX6_listIsTrue 21 = .ok (.invokevirtual 212, 3) := by decide +kernel
theorem dX6_listIsTrue_24 : decode cX6_listIsTrue 24 = .ok (.aload_n 0, 1) := by decide +kernel
theorem dX6_listIsTrue_25 : decode cX6_listIsTrue 25 = .ok (.getfield 22, 3) := by decide +kernel
theorem dX6_listIsTrue_28 : decode cX6_listIsTrue 28 = .ok (.invokevirtual 268, 3) := by decide +kernel
theorem dX6_listIsTrue_31 : decode cX6_listIsTrue 31 = .ok (.ifCond .eq 17, 3) := by decide +kernel
theorem dX6_listIsTrue_34 : decode cX6_listIsTrue 34 = .ok (.aload_n 0, 1) := by decide +kernel
theorem dX6_listIsTrue_35 : decode cX6_listIsTrue 35 = .ok (.getfield 22, 3) := by decide +kernel
theorem dX6_listIsTrue_38 : decode cX6_listIsTrue 38 = .ok (.aload_n 0, 1) := by decide +kernel
theorem dX6_listIsTrue_39 : decode cX6_listIsTrue 39 = .ok (.getfield 25, 3) := by decide +kernel
theorem dX6_listIsTrue_42 : decode cX6_listIsTrue 42 = .ok (.invokevirtual 272, 3) := by decide +kernel
theorem dX6_listIsTrue_45 : decode cX6_listIsTrue 45 = .ok (.ifCond .ne 5, 3) := by decide +kernel
theorem dX6_listIsTrue_48 : decode cX6_listIsTrue 48 = .ok (.iconst 0, 1) := by decide +kernel
theorem dX6_listIsTrue_49 : decode cX6_listIsTrue 49 = .ok (.ireturn, 1) := by decide +kernel
theorem dX6_listIsTrue_50 : decode cX6_listIsTrue 50 = .ok (.aload_n 0, 1) := by decide +kernel
theorem dX6_listIsTrue_51 : decode cX6_listIsTrue 51 = .ok (.getfield 25, 3) := by decide +kernel
theorem dX6_listIsTrue_54 : decode cX6_listIsTrue 54 = .ok (.bipush 104, 2) := by decide +kernel
theorem dX6_listIsTrue_56 : decode cX6_listIsTrue 56 = .ok (.iload_n 1, 1) := by decide +kernel
theorem dX6_listIsTrue_57 : decode cX6_listIsTrue 57 = .ok (.invokevirtual 212, 3) := by decide +kernel
theorem dX6_listIsTrue_60 : decode cX6_listIsTrue 60 = .ok (.aload_n 0, 1) := by decide +kernel
theorem dX6_listIsTrue_61 : decode cX6_listIsTrue 61 = .ok (.getfield 22, 3) := by decide +kernel
theorem dX6_listIsTrue_64 : decode cX6_listIsTrue 64 = .ok (.aload_n 0, 1) := by decide +kernel
theorem dX6_listIsTrue_65 : decode cX6_listIsTrue 65 = .ok (.getfield 25, 3) := by decide +kernel
theorem dX6_listIsTrue_68 : decode cX6_listIsTrue 68 = .ok (.invokevirtual 272, 3) := by decide +kernel
theorem dX6_listIsTrue_71 : decode cX6_listIsTrue 71 = .ok (.ireturn, 1) := by decide +kernel
theorem dX6_countIsTrue_0 : decode cX6_countIsTrue 0 = .ok (.iload_n 1, 1) := by decide +kernel
theorem dX6_countIsTrue_1 : decode cX6_countIsTrue 1 = .ok (.invokestatic 227, 3) := by decide +kernel
theorem dX6_countIsTrue_4 : decode cX6_countIsTrue 4 = .ok (.iload_n 1, 1) := by decide +kernel
theorem dX6_countIsTrue_5 : decode cX6_countIsTrue 5 = .ok (.invokestatic 276, 3) := by decide +kernel
theorem dX6_countIsTrue_8 : decode cX6_countIsTrue 8 = .ok (.ireturn, 1) := by decide +kernel
theorem dX6_isPlace_0 : decode cX6_isPlace 0 = .ok (.iload_n 0, 1) := by decide +kernel
theorem dX6_isPlace_1 : decode cX6_isPlace 1 = .ok (.ifCond .lt 13, 3) := by decide +kernel
theorem dX6_isPlace_4 : decode cX6_isPlace 4 = .ok (.iload_n 0, 1) := by decide +kernel
theorem dX6_isPlace_5 : decode cX6_isPlace 5 = .ok (.bipush 16, 2) := by decide +kernel
theorem dX6_isPlace_7 : decode cX6_isPlace 7 = .ok (.if_icmp .ge 7, 3) := by decide +kernel
theorem dX6_isPlace_10 : decode cX6_isPlace 10 = .ok (.iconst 1, 1) := by decide +kernel
theorem dX6_isPlace_11 : decode cX6_isPlace 11 = .ok (.goto 4, 3) := by decide +kernel
theorem dX6_isPlace_14 : decode cX6_isPlace 14 = .ok (.iconst 0, 1) := by decide +kernel
theorem dX6_isPlace_15 : decode cX6_isPlace 15 = .ok (.ireturn, 1) := by decide +kernel
theorem dX6_isSide_0 : decode cX6_isSide 0 = .ok (.iload_n 0, 1) := by decide +kernel
theorem dX6_isSide_1 : decode cX6_isSide 1 = .ok (.iconst 1, 1) := by decide +kernel
theorem dX6_isSide_2 : decode cX6_isSide 2 = .ok (.if_icmp .lt 14, 3) := by decide +kernel
theorem dX6_isSide_5 : decode cX6_isSide 5 = .ok (.iload_n 0, 1) := by decide +kernel
theorem dX6_isSide_6 : decode cX6_isSide 6 = .ok (.ldc_w 261, 3) := by decide +kernel
theorem dX6_isSide_9 : decode cX6_isSide 9 = .ok (.if_icmp .gt 7, 3) := by decide +kernel
theorem dX6_isSide_12 : decode cX6_isSide 12 = .ok (.iconst 1, 1) := by decide +kernel
theorem dX6_isSide_13 : decode cX6_isSide 13 = .ok (.goto 4, 3) := by decide +kernel
theorem dX6_isSide_16 : decode cX6_isSide 16 = .ok (.iconst 0, 1) := by decide +kernel
theorem dX6_isSide_17 : decode cX6_isSide 17 = .ok (.ireturn, 1) := by decide +kernel
theorem dX6_requirePlace_0 : decode cX6_requirePlace 0 = .ok (.iload_n 0, 1) := by decide +kernel
theorem dX6_requirePlace_1 : decode cX6_requirePlace 1 = .ok (.invokestatic 279, 3) := by decide +kernel
theorem dX6_requirePlace_4 : decode cX6_requirePlace 4 = .ok (.ifCond .ne 14, 3) := by decide +kernel
theorem dX6_requirePlace_7 : decode cX6_requirePlace 7 = .ok (.new 219, 3) := by decide +kernel
theorem dX6_requirePlace_10 : decode cX6_requirePlace 10 = .ok (.dup, 1) := by decide +kernel
theorem dX6_requirePlace_11 : decode cX6_requirePlace 11 = .ok (.ldc_w 282, 3) := by decide +kernel
theorem dX6_requirePlace_14 : decode cX6_requirePlace 14 = .ok (.invokespecial 223, 3) := by decide +kernel
theorem dX6_requirePlace_17 : decode cX6_requirePlace 17 = .ok (.athrow, 1) := by decide +kernel
theorem dX6_requirePlace_18 : decode cX6_requirePlace 18 = .ok (.return_, 1) := by decide +kernel
theorem dX6_requireSide_0 : decode cX6_requireSide 0 = .ok (.iload_n 0, 1) := by decide +kernel
theorem dX6_requireSide_1 : decode cX6_requireSide 1 = .ok (.ifCond .lt 8, 3) := by decide +kernel
theorem dX6_requireSide_4 : decode cX6_requireSide 4 = .ok (.iload_n 0, 1) := by decide +kernel
theorem dX6_requireSide_5 : decode cX6_requireSide 5 = .ok (.iconst 3, 1) := by decide +kernel
theorem dX6_requireSide_6 : decode cX6_requireSide 6 = .ok (.if_icmp .lt 14, 3) := by decide +kernel
theorem dX6_requireSide_9 : decode cX6_requireSide 9 = .ok (.new 219, 3) := by decide +kernel
theorem dX6_requireSide_12 : decode cX6_requireSide 12 = .ok (.dup, 1) := by decide +kernel
theorem dX6_requireSide_13 : decode cX6_requireSide 13 = .ok (.ldc_w 284, 3) := by decide +kernel
theorem dX6_requireSide_16 : decode cX6_requireSide 16 = .ok (.invokespecial 223, 3) := by decide +kernel
theorem dX6_requireSide_19 : decode cX6_requireSide 19 = .ok (.athrow, 1) := by decide +kernel
theorem dX6_requireSide_20 : decode cX6_requireSide 20 = .ok (.return_, 1) := by decide +kernel
theorem dX6_requireNumber_0 : decode cX6_requireNumber 0 = .ok (.lload_n 0, 1) := by decide +kernel
theorem dX6_requireNumber_1 : decode cX6_requireNumber 1 = .ok (.lconst 0, 1) := by decide +kernel
theorem dX6_requireNumber_2 : decode cX6_requireNumber 2 = .ok (.lcmp, 1) := by decide +kernel
theorem dX6_requireNumber_3 : decode cX6_requireNumber 3 = .ok (.ifCond .lt 11, 3) := by decide +kernel
theorem dX6_requireNumber_6 : decode cX6_requireNumber 6 = .ok (.lload_n 0, 1) := by decide +kernel
theorem dX6_requireNumber_7 : decode cX6_requireNumber 7 = .ok (.ldc2_w 286, 3) := by decide +kernel
theorem dX6_requireNumber_10 : decode cX6_requireNumber 10 = .ok (.lcmp, 1) := by decide +kernel
theorem dX6_requireNumber_11 : decode cX6_requireNumber 11 = .ok (.ifCond .le 13, 3) := by decide +kernel
theorem dX6_requireNumber_14 : decode cX6_requireNumber 14 = .ok (.new 44, 3) := by decide +kernel
theorem dX6_requireNumber_17 : decode cX6_requireNumber 17 = .ok (.dup, 1) := by decide +kernel
theorem dX6_requireNumber_18 : decode cX6_requireNumber 18 = .ok (.ldc 81, 2) := by decide +kernel
theorem dX6_requireNumber_20 : decode cX6_requireNumber 20 = .ok (.invokespecial 48, 3) := by decide +kernel
theorem dX6_requireNumber_23 : decode cX6_requireNumber 23 = .ok (.athrow, 1) := by decide +kernel
theorem dX6_requireNumber_24 : decode cX6_requireNumber 24 = .ok (.return_, 1) := by decide +kernel
theorem dX6_requireBound_0 : decode cX6_requireBound 0 = .ok (.iload_n 0, 1) := by decide +kernel
theorem dX6_requireBound_1 : decode cX6_requireBound 1 = .ok (.ifCond .lt 10, 3) := by decide +kernel
theorem dX6_requireBound_4 : decode cX6_requireBound 4 = .ok (.iload_n 0, 1) := by decide +kernel
theorem dX6_requireBound_5 : decode cX6_requireBound 5 = .ok (.sipush 400, 3) := by decide +kernel
theorem dX6_requireBound_8 : decode cX6_requireBound 8 = .ok (.if_icmp .le 14, 3) := by decide +kernel
theorem dX6_requireBound_11 : decode cX6_requireBound 11 = .ok (.new 44, 3) := by decide +kernel
theorem dX6_requireBound_14 : decode cX6_requireBound 14 = .ok (.dup, 1) := by decide +kernel
theorem dX6_requireBound_15 : decode cX6_requireBound 15 = .ok (.ldc_w 288, 3) := by decide +kernel
theorem dX6_requireBound_18 : decode cX6_requireBound 18 = .ok (.invokespecial 48, 3) := by decide +kernel
theorem dX6_requireBound_21 : decode cX6_requireBound 21 = .ok (.athrow, 1) := by decide +kernel
theorem dX6_requireBound_22 : decode cX6_requireBound 22 = .ok (.return_, 1) := by decide +kernel
theorem dX6_requireLength_0 : decode cX6_requireLength 0 = .ok (.iload_n 0, 1) := by decide +kernel
theorem dX6_requireLength_1 : decode cX6_requireLength 1 = .ok (.iconst 1, 1) := by decide +kernel
theorem dX6_requireLength_2 : decode cX6_requireLength 2 = .ok (.if_icmp .lt 10, 3) := by decide +kernel
theorem dX6_requireLength_5 : decode cX6_requireLength 5 = .ok (.iload_n 0, 1) := by decide +kernel
theorem dX6_requireLength_6 : decode cX6_requireLength 6 = .ok (.sipush 1000, 3) := by decide +kernel
theorem dX6_requireLength_9 : decode cX6_requireLength 9 = .ok (.if_icmp .le 14, 3) := by decide +kernel
theorem dX6_requireLength_12 : decode cX6_requireLength 12 = .ok (.new 44, 3) := by decide +kernel
theorem dX6_requireLength_15 : decode cX6_requireLength 15 = .ok (.dup, 1) := by decide +kernel
theorem dX6_requireLength_16 : decode cX6_requireLength 16 = .ok (.ldc_w 290, 3) := by decide +kernel
theorem dX6_requireLength_19 : decode cX6_requireLength 19 = .ok (.invokespecial 48, 3) := by decide +kernel
theorem dX6_requireLength_22 : decode cX6_requireLength 22 = .ok (.athrow, 1) := by decide +kernel
theorem dX6_requireLength_23 : decode cX6_requireLength 23 = .ok (.return_, 1) := by decide +kernel
theorem dX6_triangleAt_0 : decode cX6_triangleAt 0 = .ok (.iload_n 1, 1) := by decide +kernel
theorem dX6_triangleAt_1 : decode cX6_triangleAt 1 = .ok (.invokestatic 279, 3) := by decide +kernel
theorem dX6_triangleAt_4 : decode cX6_triangleAt 4 = .ok (.ifCond .eq 12, 3) := by decide +kernel
theorem dX6_triangleAt_7 : decode cX6_triangleAt 7 = .ok (.aload_n 0, 1) := by decide +kernel
theorem dX6_triangleAt_8 : decode cX6_triangleAt 8 = .ok (.getfield 11, 3) := by decide +kernel
theorem dX6_triangleAt_11 : decode cX6_triangleAt 11 = .ok (.iload_n 1, 1) := by decide +kernel
theorem dX6_triangleAt_12 : decode cX6_triangleAt 12 = .ok (.aaload, 1) := by decide +kernel
theorem dX6_triangleAt_13 : decode cX6_triangleAt 13 = .ok (.goto 4, 3) := by decide +kernel
theorem dX6_triangleAt_16 : decode cX6_triangleAt 16 = .ok (.aconst_null, 1) := by decide +kernel
theorem dX6_triangleAt_17 : decode cX6_triangleAt 17 = .ok (.areturn, 1) := by decide +kernel
theorem dX6_heldAt_0 : decode cX6_heldAt 0 = .ok (.iload_n 1, 1) := by decide +kernel
theorem dX6_heldAt_1 : decode cX6_heldAt 1 = .ok (.invokestatic 36, 3) := by decide +kernel
theorem dX6_heldAt_4 : decode cX6_heldAt 4 = .ok (.aload_n 0, 1) := by decide +kernel
theorem dX6_heldAt_5 : decode cX6_heldAt 5 = .ok (.iload_n 1, 1) := by decide +kernel
theorem dX6_heldAt_6 : decode cX6_heldAt 6 = .ok (.invokevirtual 71, 3) := by decide +kernel
theorem dX6_heldAt_9 : decode cX6_heldAt 9 = .ok (.astore_n 2, 1) := by decide +kernel
theorem dX6_heldAt_10 : decode cX6_heldAt 10 = .ok (.aload_n 2, 1) := by decide +kernel
theorem dX6_heldAt_11 : decode cX6_heldAt 11 = .ok (.ifnonnull 14, 3) := by decide +kernel
theorem dX6_heldAt_14 : decode cX6_heldAt 14 = .ok (.new 292, 3) := by decide +kernel
theorem dX6_heldAt_17 : decode cX6_heldAt 17 = .ok (.dup, 1) := by decide +kernel
theorem dX6_heldAt_18 : decode cX6_heldAt 18 = .ok (.ldc_w 294, 3) := by decide +kernel
theorem dX6_heldAt_21 : decode cX6_heldAt 21 = .ok (.invokespecial 296, 3) := by decide +kernel
theorem dX6_heldAt_24 : decode cX6_heldAt 24 = .ok (.athrow, 1) := by decide +kernel
theorem dX6_heldAt_25 : decode cX6_heldAt 25 = .ok (.aload_n 2, 1) := by decide +kernel
theorem dX6_heldAt_26 : decode cX6_heldAt 26 = .ok (.areturn, 1) := by decide +kernel
theorem dX6_primitiveAt_0 : decode cX6_primitiveAt 0 = .ok (.aload_n 0, 1) := by decide +kernel
theorem dX6_primitiveAt_1 : decode cX6_primitiveAt 1 = .ok (.iload_n 1, 1) := by decide +kernel
theorem dX6_primitiveAt_2 : decode cX6_primitiveAt 2 = .ok (.invokevirtual 67, 3) := by decide +kernel
theorem dX6_primitiveAt_5 : decode cX6_primitiveAt 5 = .ok (.astore_n 2, 1) := by decide +kernel
theorem dX6_primitiveAt_6 : decode cX6_primitiveAt 6 = .ok (.aload_n 2, 1) := by decide +kernel
theorem dX6_primitiveAt_7 : decode cX6_primitiveAt 7 = .ok (.invokevirtual 297, 3) := by decide +kernel
theorem dX6_primitiveAt_10 : decode cX6_primitiveAt 10 = .ok (.ifCond .ne 14, 3) := by decide +kernel
theorem dX6_primitiveAt_13 : decode cX6_primitiveAt 13 = .ok (.new 51, 3) := by decide +kernel
theorem dX6_primitiveAt_16 : decode cX6_primitiveAt 16 = .ok (.dup, 1) := by decide +kernel
theorem dX6_primitiveAt_17 : decode cX6_primitiveAt 17 = .ok (.ldc_w 300, 3) := by decide +kernel
theorem dX6_primitiveAt_20 : decode cX6_primitiveAt 20 = .ok (.invokespecial 55, 3) := by decide +kernel
theorem dX6_primitiveAt_23 : decode cX6_primitiveAt 23 = .ok (.athrow, 1) := by decide +kernel
theorem dX6_primitiveAt_24 : decode cX6_primitiveAt 24 = .ok (.aload_n 2, 1) := by decide +kernel
theorem dX6_primitiveAt_25 : decode cX6_primitiveAt 25 = .ok (.areturn, 1) := by decide +kernel
theorem dX6_hold_0 : decode cX6_hold 0 = .ok (.iload_n 1, 1) := by decide +kernel
theorem dX6_hold_1 : decode cX6_hold 1 = .ok (.invokestatic 279, 3) := by decide +kernel
theorem dX6_hold_4 : decode cX6_hold 4 = .ok (.ifCond .eq 10, 3) := by decide +kernel
theorem dX6_hold_7 : decode cX6_hold 7 = .ok (.aload_n 0, 1) := by decide +kernel
theorem dX6_hold_8 : decode cX6_hold 8 = .ok (.getfield 11, 3) := by decide +kernel
theorem dX6_hold_11 : decode cX6_hold 11 = .ok (.iload_n 1, 1) := by decide +kernel
theorem dX6_hold_12 : decode cX6_hold 12 = .ok (.aload_n 2, 1) := by decide +kernel
theorem dX6_hold_13 : decode cX6_hold 13 = .ok (.aastore, 1) := by decide +kernel
theorem dX6_hold_14 : decode cX6_hold 14 = .ok (.return_, 1) := by decide +kernel
theorem dX6_holdIfShortEnough_0 : decode cX6_holdIfShortEnough 0 = .ok (.iload_n 2, 1) := by decide +kernel
theorem dX6_holdIfShortEnough_1 : decode cX6_holdIfShortEnough 1 = .ok (.invokestatic 40, 3) := by decide +kernel
theorem dX6_holdIfShortEnough_4 : decode cX6_holdIfShortEnough 4 = .ok (.ifCond .eq 18, 3) := by decide +kernel
theorem dX6_holdIfShortEnough_7 : decode cX6_holdIfShortEnough 7 = .ok (.iload_n 3, 1) := by decide +kernel
theorem dX6_holdIfShortEnough_8 : decode cX6_holdIfShortEnough 8 = .ok (.invokestatic 40, 3) := by decide +kernel
theorem dX6_holdIfShortEnough_11 : decode cX6_holdIfShortEnough 11 = .ok (.ifCond .eq 11, 3) := by decide +kernel
theorem dX6_holdIfShortEnough_14 : decode cX6_holdIfShortEnough 14 = .ok (.iload 4, 2) := by decide +kernel
theorem dX6_holdIfShortEnough_16 : decode cX6_holdIfShortEnough 16 = .ok (.invokestatic 40, 3) := by decide +kernel
theorem dX6_holdIfShortEnough_19 : decode cX6_holdIfShortEnough 19 = .ok (.ifCond .ne 14, 3) := by decide +kernel
theorem dX6_holdIfShortEnough_22 : decode cX6_holdIfShortEnough 22 = .ok (.new 51, 3) := by decide +kernel
theorem dX6_holdIfShortEnough_25 : decode cX6_holdIfShortEnough 25 = .ok (.dup, 1) := by decide +kernel
theorem dX6_holdIfShortEnough_26 : decode cX6_holdIfShortEnough 26 = .ok (.ldc_w 302, 3) := by decide +kernel
theorem dX6_holdIfShortEnough_29 : decode cX6_holdIfShortEnough 29 = .ok (.invokespecial 55, 3) := by decide +kernel
theorem dX6_holdIfShortEnough_32 : decode cX6_holdIfShortEnough 32 = .ok (.athrow, 1) := by decide +kernel
theorem dX6_holdIfShortEnough_33 : decode cX6_holdIfShortEnough 33 = .ok (.new 9, 3) := by decide +kernel
theorem dX6_holdIfShortEnough_36 : decode cX6_holdIfShortEnough 36 = .ok (.dup, 1) := by decide +kernel
theorem dX6_holdIfShortEnough_37 : decode cX6_holdIfShortEnough 37 = .ok (.iload_n 2, 1) := by decide +kernel
theorem dX6_holdIfShortEnough_38 : decode cX6_holdIfShortEnough 38 = .ok (.iload_n 3, 1) := by decide +kernel
theorem dX6_holdIfShortEnough_39 : decode cX6_holdIfShortEnough 39 = .ok (.iload 4, 2) := by decide +kernel
theorem dX6_holdIfShortEnough_41 : decode cX6_holdIfShortEnough 41 = .ok (.invokespecial 56, 3) := by decide +kernel
theorem dX6_holdIfShortEnough_44 : decode cX6_holdIfShortEnough 44 = .ok (.astore 5, 2) := by decide +kernel
theorem dX6_holdIfShortEnough_46 : decode cX6_holdIfShortEnough 46 = .ok (.aload_n 0, 1) := by decide +kernel
theorem dX6_holdIfShortEnough_47 : decode cX6_holdIfShortEnough 47 = .ok (.iload_n 1, 1) := by decide +kernel
theorem dX6_holdIfShortEnough_48 : decode cX6_holdIfShortEnough 48 = .ok (.aload 5, 2) := by decide +kernel
theorem dX6_holdIfShortEnough_50 : decode cX6_holdIfShortEnough 50 = .ok (.invokevirtual 59, 3) := by decide +kernel
theorem dX6_holdIfShortEnough_53 : decode cX6_holdIfShortEnough 53 = .ok (.aload 5, 2) := by decide +kernel
theorem dX6_holdIfShortEnough_55 : decode cX6_holdIfShortEnough 55 = .ok (.getfield 89, 3) := by decide +kernel
theorem dX6_holdIfShortEnough_58 : decode cX6_holdIfShortEnough 58 = .ok (.ireturn, 1) := by decide +kernel
theorem dX6_countHeld_0 : decode cX6_countHeld 0 = .ok (.iconst 0, 1) := by decide +kernel
theorem dX6_countHeld_1 : decode cX6_countHeld 1 = .ok (.istore_n 1, 1) := by decide +kernel
theorem dX6_countHeld_2 : decode cX6_countHeld 2 = .ok (.iconst 0, 1) := by decide +kernel
theorem dX6_countHeld_3 : decode cX6_countHeld 3 = .ok (.istore_n 2, 1) := by decide +kernel
theorem dX6_countHeld_4 : decode cX6_countHeld 4 = .ok (.iload_n 2, 1) := by decide +kernel
theorem dX6_countHeld_5 : decode cX6_countHeld 5 = .ok (.bipush 16, 2) := by decide +kernel
theorem dX6_countHeld_7 : decode cX6_countHeld 7 = .ok (.if_icmp .ge 25, 3) := by decide +kernel
theorem dX6_countHeld_10 : decode cX6_countHeld 10 = .ok (.iload_n 1, 1) := by decide +kernel
theorem dX6_countHeld_11 : decode cX6_countHeld 11 = .ok (.aload_n 0, 1) := by decide +kernel
theorem dX6_countHeld_12 : decode cX6_countHeld 12 = .ok (.iload_n 2, 1) := by decide +kernel
theorem dX6_countHeld_13 : decode cX6_countHeld 13 = .ok (.invokevirtual 71, 3) := by decide +kernel
theorem dX6_countHeld_16 : decode cX6_countHeld 16 = .ok (.ifnonnull 7, 3) := by decide +kernel
theorem dX6_countHeld_19 : decode cX6_countHeld 19 = .ok (.iconst 0, 1) := by decide +kernel
theorem dX6_countHeld_20 : decode cX6_countHeld 20 = .ok (.goto 4, 3) := by decide +kernel
theorem dX6_countHeld_23 : decode cX6_countHeld 23 = .ok (.iconst 1, 1) := by decide +kernel
theorem dX6_countHeld_24 : decode cX6_countHeld 24 = .ok (.iadd, 1) := by decide +kernel
theorem dX6_countHeld_25 : decode cX6_countHeld 25 = .ok (.istore_n 1, 1) := by decide +kernel
theorem dX6_countHeld_26 : decode cX6_countHeld 26 = .ok (.iinc 2 1, 3) := by decide +kernel
theorem dX6_countHeld_29 : decode cX6_countHeld 29 = .ok (.goto (-25), 3) := by decide +kernel
theorem dX6_countHeld_32 : decode cX6_countHeld 32 = .ok (.iload_n 1, 1) := by decide +kernel
theorem dX6_countHeld_33 : decode cX6_countHeld 33 = .ok (.ireturn, 1) := by decide +kernel
theorem dX6_putInOrder_0 : decode cX6_putInOrder 0 = .ok (.aload_n 0, 1) := by decide +kernel
theorem dX6_putInOrder_1 : decode cX6_putInOrder 1 = .ok (.getfield 32, 3) := by decide +kernel
theorem dX6_putInOrder_4 : decode cX6_putInOrder 4 = .ok (.istore_n 3, 1) := by decide +kernel
theorem dX6_putInOrder_5 : decode cX6_putInOrder 5 = .ok (.iload_n 3, 1) := by decide +kernel
theorem dX6_putInOrder_6 : decode cX6_putInOrder 6 = .ok (.ifCond .le 46, 3) := by decide +kernel
theorem dX6_putInOrder_9 : decode cX6_putInOrder 9 = .ok (.iload_n 3, 1) := by decide +kernel
theorem dX6_putInOrder_10 : decode cX6_putInOrder 10 = .ok (.bipush 16, 2) := by decide +kernel
theorem dX6_putInOrder_12 : decode cX6_putInOrder 12 = .ok (.if_icmp .ge 40, 3) := by decide +kernel
theorem dX6_putInOrder_15 : decode cX6_putInOrder 15 = .ok (.aload_n 0, 1) := by decide +kernel
theorem dX6_putInOrder_16 : decode cX6_putInOrder 16 = .ok (.iload_n 1, 1) := by decide +kernel
theorem dX6_putInOrder_17 : decode cX6_putInOrder 17 = .ok (.aload_n 0, 1) := by decide +kernel
theorem dX6_putInOrder_18 : decode cX6_putInOrder 18 = .ok (.getfield 28, 3) := by decide +kernel
theorem dX6_putInOrder_21 : decode cX6_putInOrder 21 = .ok (.iload_n 3, 1) := by decide +kernel
theorem dX6_putInOrder_22 : decode cX6_putInOrder 22 = .ok (.iconst 1, 1) := by decide +kernel
theorem dX6_putInOrder_23 : decode cX6_putInOrder 23 = .ok (.isub, 1) := by decide +kernel
theorem dX6_putInOrder_24 : decode cX6_putInOrder 24 = .ok (.iaload, 1) := by decide +kernel
theorem dX6_putInOrder_25 : decode cX6_putInOrder 25 = .ok (.iload_n 2, 1) := by decide +kernel
theorem dX6_putInOrder_26 : decode cX6_putInOrder 26 = .ok (.invokevirtual 304, 3) := by decide +kernel
theorem dX6_putInOrder_29 : decode cX6_putInOrder 29 = .ok (.ifCond .eq 23, 3) := by decide +kernel
theorem dX6_putInOrder_32 : decode cX6_putInOrder 32 = .ok (.aload_n 0, 1) := by decide +kernel
theorem dX6_putInOrder_33 : decode cX6_putInOrder 33 = .ok (.getfield 28, 3) := by decide +kernel
theorem dX6_putInOrder_36 : decode cX6_putInOrder 36 = .ok (.iload_n 3, 1) := by decide +kernel
theorem dX6_putInOrder_37 : decode cX6_putInOrder 37 = .ok (.aload_n 0, 1) := by decide +kernel
theorem dX6_putInOrder_38 : decode cX6_putInOrder 38 = .ok (.getfield 28, 3) := by decide +kernel
theorem dX6_putInOrder_41 : decode cX6_putInOrder 41 = .ok (.iload_n 3, 1) := by decide +kernel
theorem dX6_putInOrder_42 : decode cX6_putInOrder 42 = .ok (.iconst 1, 1) := by decide +kernel
theorem dX6_putInOrder_43 : decode cX6_putInOrder 43 = .ok (.isub, 1) := by decide +kernel
theorem dX6_putInOrder_44 : decode cX6_putInOrder 44 = .ok (.iaload, 1) := by decide +kernel
theorem dX6_putInOrder_45 : decode cX6_putInOrder 45 = .ok (.iastore, 1) := by decide +kernel
theorem dX6_putInOrder_46 : decode cX6_putInOrder 46 = .ok (.iinc 3 (-1), 3) := by decide +kernel
theorem dX6_putInOrder_49 : decode cX6_putInOrder 49 = .ok (.goto (-44), 3) := by decide +kernel
theorem dX6_putInOrder_52 : decode cX6_putInOrder 52 = .ok (.iload_n 3, 1) := by decide +kernel
theorem dX6_putInOrder_53 : decode cX6_putInOrder 53 = .ok (.ifCond .lt 26, 3) := by decide +kernel
theorem dX6_putInOrder_56 : decode cX6_putInOrder 56 = .ok (.iload_n 3, 1) := by decide +kernel
theorem dX6_putInOrder_57 : decode cX6_putInOrder 57 = .ok (.bipush 16, 2) := by decide +kernel
theorem dX6_putInOrder_59 : decode cX6_putInOrder 59 = .ok (.if_icmp .ge 20, 3) := by decide +kernel
theorem dX6_putInOrder_62 : decode cX6_putInOrder 62 = .ok (.aload_n 0, 1) := by decide +kernel
theorem dX6_putInOrder_63 : decode cX6_putInOrder 63 = .ok (.getfield 28, 3) := by decide +kernel
theorem dX6_putInOrder_66 : decode cX6_putInOrder 66 = .ok (.iload_n 3, 1) := by decide +kernel
theorem dX6_putInOrder_67 : decode cX6_putInOrder 67 = .ok (.iload_n 1, 1) := by decide +kernel
theorem dX6_putInOrder_68 : decode cX6_putInOrder 68 = .ok (.iastore, 1) := by decide +kernel
theorem dX6_putInOrder_69 : decode cX6_putInOrder 69 = .ok (.aload_n 0, 1) := by decide +kernel
theorem dX6_putInOrder_70 : decode cX6_putInOrder 70 = .ok (.dup, 1) := by decide +kernel
theorem dX6_putInOrder_71 : decode cX6_putInOrder 71 = .ok (.getfield 32, 3) := by decide +kernel
theorem dX6_putInOrder_74 : decode cX6_putInOrder 74 = .ok (.iconst 1, 1) := by decide +kernel
theorem dX6_putInOrder_75 : decode cX6_putInOrder 75 = .ok (.iadd, 1) := by decide +kernel
theorem dX6_putInOrder_76 : decode cX6_putInOrder 76 = .ok (.putfield 32, 3) := by decide +kernel
theorem dX6_putInOrder_79 : decode cX6_putInOrder 79 = .ok (.return_, 1) := by decide +kernel
theorem dX6_isLess_0 : decode cX6_isLess 0 = .ok (.aload_n 0, 1) := by decide +kernel
theorem dX6_isLess_1 : decode cX6_isLess 1 = .ok (.iload_n 1, 1) := by decide +kernel
theorem dX6_isLess_2 : decode cX6_isLess 2 = .ok (.invokevirtual 71, 3) := by decide +kernel
theorem dX6_isLess_5 : decode cX6_isLess 5 = .ok (.astore 4, 2) := by decide +kernel
theorem dX6_isLess_7 : decode cX6_isLess 7 = .ok (.aload_n 0, 1) := by decide +kernel
theorem dX6_isLess_8 : decode cX6_isLess 8 = .ok (.iload_n 2, 1) := by decide +kernel
theorem dX6_isLess_9 : decode cX6_isLess 9 = .ok (.invokevirtual 71, 3) := by decide +kernel
theorem dX6_isLess_12 : decode cX6_isLess 12 = .ok (.astore 5, 2) := by decide +kernel
theorem dX6_isLess_14 : decode cX6_isLess 14 = .ok (.aload 4, 2) := by decide +kernel
theorem dX6_isLess_16 : decode cX6_isLess 16 = .ok (.ifnull 8, 3) := by decide +kernel
theorem dX6_isLess_19 : decode cX6_isLess 19 = .ok (.aload 5, 2) := by decide +kernel
theorem dX6_isLess_21 : decode cX6_isLess 21 = .ok (.ifnonnull 5, 3) := by decide +kernel
theorem dX6_isLess_24 : decode cX6_isLess 24 = .ok (.iconst 0, 1) := by decide +kernel
theorem dX6_isLess_25 : decode cX6_isLess 25 = .ok (.ireturn, 1) := by decide +kernel
theorem dX6_isLess_26 : decode cX6_isLess 26 = .ok (.iload_n 3, 1) := by decide +kernel
theorem dX6_isLess_27 : decode cX6_isLess 27 = .ok (.bipush 99, 2) := by decide +kernel
theorem dX6_isLess_29 : decode cX6_isLess 29 = .ok (.if_icmp .ne 22, 3) := by decide +kernel
theorem dX6_isLess_32 : decode cX6_isLess 32 = .ok (.aload 4, 2) := by decide +kernel
theorem dX6_isLess_34 : decode cX6_isLess 34 = .ok (.getfield 89, 3) := by decide +kernel
theorem dX6_isLess_37 : decode cX6_isLess 37 = .ok (.aload 5, 2) := by decide +kernel
theorem dX6_isLess_39 : decode cX6_isLess 39 = .ok (.getfield 89, 3) := by decide +kernel
theorem dX6_isLess_42 : decode cX6_isLess 42 = .ok (.if_icmp .ge 7, 3) := by decide +kernel
theorem dX6_isLess_45 : decode cX6_isLess 45 = .ok (.iconst 1, 1) := by decide +kernel
theorem dX6_isLess_46 : decode cX6_isLess 46 = .ok (.goto 4, 3) := by decide +kernel
theorem dX6_isLess_49 : decode cX6_isLess 49 = .ok (.iconst 0, 1) := by decide +kernel
theorem dX6_isLess_50 : decode cX6_isLess 50 = .ok (.ireturn, 1) := by decide +kernel
theorem dX6_isLess_51 : decode cX6_isLess 51 = .ok (.iload_n 3, 1) := by decide +kernel
theorem dX6_isLess_52 : decode cX6_isLess 52 = .ok (.bipush 112, 2) := by decide +kernel
theorem dX6_isLess_54 : decode cX6_isLess 54 = .ok (.if_icmp .ne 24, 3) := by decide +kernel
theorem dX6_isLess_57 : decode cX6_isLess 57 = .ok (.aload 4, 2) := by decide +kernel
theorem dX6_isLess_59 : decode cX6_isLess 59 = .ok (.invokevirtual 155, 3) := by decide +kernel
theorem dX6_isLess_62 : decode cX6_isLess 62 = .ok (.aload 5, 2) := by decide +kernel
theorem dX6_isLess_64 : decode cX6_isLess 64 = .ok (.invokevirtual 155, 3) := by decide +kernel
theorem dX6_isLess_67 : decode cX6_isLess 67 = .ok (.if_icmp .ge 7, 3) := by decide +kernel
theorem dX6_isLess_70 : decode cX6_isLess 70 = .ok (.iconst 1, 1) := by decide +kernel
theorem dX6_isLess_71 : decode cX6_isLess 71 = .ok (.goto 22, 3) := by decide +kernel
theorem dX6_isLess_74 : decode cX6_isLess 74 = .ok (.iconst 0, 1) := by decide +kernel
theorem dX6_isLess_75 : decode cX6_isLess 75 = .ok (.goto 18, 3) := by decide +kernel
theorem dX6_isLess_78 : decode cX6_isLess 78 = .ok (.aload 4, 2) := by decide +kernel
theorem dX6_isLess_80 : decode cX6_isLess 80 = .ok (.aload 5, 2) := by decide +kernel
theorem dX6_isLess_82 : decode cX6_isLess 82 = .ok (.invokevirtual 131, 3) := by decide +kernel
theorem dX6_isLess_85 : decode cX6_isLess 85 = .ok (.ifCond .ge 7, 3) := by decide +kernel
theorem dX6_isLess_88 : decode cX6_isLess 88 = .ok (.iconst 1, 1) := by decide +kernel
theorem dX6_isLess_89 : decode cX6_isLess 89 = .ok (.goto 4, 3) := by decide +kernel
theorem dX6_isLess_92 : decode cX6_isLess 92 = .ok (.iconst 0, 1) := by decide +kernel
theorem dX6_isLess_93 : decode cX6_isLess 93 = .ok (.ireturn, 1) := by decide +kernel

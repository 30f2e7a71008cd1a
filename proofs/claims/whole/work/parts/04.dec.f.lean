theorem dL_put_0 : decode cL_put 0 = .ok (.aload 5, 2) := by decide +kernel
theorem dL_put_2 : decode cL_put 2 = .ok (.iconst 0, 1) := by decide +kernel
theorem dL_put_3 : decode cL_put 3 = .ok (.aload_n 0, 1) := by decide +kernel
theorem dL_put_4 : decode cL_put 4 = .ok (.iload_n 1, 1) := by decide +kernel
theorem dL_put_5 : decode cL_put 5 = .ok (.iload_n 2, 1) := by decide +kernel
theorem dL_put_6 : decode cL_put 6 = .ok (.iload_n 3, 1) := by decide +kernel
theorem dL_put_7 : decode cL_put 7 = .ok (.iload 4, 2) := by decide +kernel
theorem dL_put_9 : decode cL_put 9 = .ok (.invokevirtual 7, 3) := by decide +kernel
theorem dL_put_12 : decode cL_put 12 = .ok (.i2l, 1) := by decide +kernel
theorem dL_put_13 : decode cL_put 13 = .ok (.lastore, 1) := by decide +kernel
theorem dL_put_14 : decode cL_put 14 = .ok (.goto 15, 3) := by decide +kernel
theorem dL_put_17 : decode cL_put 17 = .ok (.astore 6, 2) := by decide +kernel
theorem dL_put_19 : decode cL_put 19 = .ok (.iconst 1, 1) := by decide +kernel
theorem dL_put_20 : decode cL_put 20 = .ok (.ireturn, 1) := by decide +kernel
theorem dL_put_21 : decode cL_put 21 = .ok (.astore 6, 2) := by decide +kernel
theorem dL_put_23 : decode cL_put 23 = .ok (.iconst 2, 1) := by decide +kernel
theorem dL_put_24 : decode cL_put 24 = .ok (.ireturn, 1) := by decide +kernel
theorem dL_put_25 : decode cL_put 25 = .ok (.astore 6, 2) := by decide +kernel
theorem dL_put_27 : decode cL_put 27 = .ok (.iconst 3, 1) := by decide +kernel
theorem dL_put_28 : decode cL_put 28 = .ok (.ireturn, 1) := by decide +kernel
theorem dL_put_29 : decode cL_put 29 = .ok (.iconst 0, 1) := by decide +kernel
theorem dL_put_30 : decode cL_put 30 = .ok (.ireturn, 1) := by decide +kernel
theorem dL_take_0 : decode cL_take 0 = .ok (.aload_n 2, 1) := by decide +kernel
theorem dL_take_1 : decode cL_take 1 = .ok (.iconst 0, 1) := by decide +kernel
theorem dL_take_2 : decode cL_take 2 = .ok (.aload_n 0, 1) := by decide +kernel
theorem dL_take_3 : decode cL_take 3 = .ok (.iload_n 1, 1) := by decide +kernel
theorem dL_take_4 : decode cL_take 4 = .ok (.invokevirtual 19, 3) := by decide +kernel
theorem dL_take_7 : decode cL_take 7 = .ok (.i2l, 1) := by decide +kernel
theorem dL_take_8 : decode cL_take 8 = .ok (.lastore, 1) := by decide +kernel
theorem dL_take_9 : decode cL_take 9 = .ok (.goto 9, 3) := by decide +kernel
theorem dL_take_12 : decode cL_take 12 = .ok (.astore_n 3, 1) := by decide +kernel
theorem dL_take_13 : decode cL_take 13 = .ok (.iconst 1, 1) := by decide +kernel
theorem dL_take_14 : decode cL_take 14 = .ok (.ireturn, 1) := by decide +kernel
theorem dL_take_15 : decode cL_take 15 = .ok (.astore_n 3, 1) := by decide +kernel
theorem dL_take_16 : decode cL_take 16 = .ok (.iconst 2, 1) := by decide +kernel
theorem dL_take_17 : decode cL_take 17 = .ok (.ireturn, 1) := by decide +kernel
theorem dL_take_18 : decode cL_take 18 = .ok (.iconst 0, 1) := by decide +kernel
theorem dL_take_19 : decode cL_take 19 = .ok (.ireturn, 1) := by decide +kernel
theorem dL_isHeld_0 : decode cL_isHeld 0 = .ok (.aload_n 2, 1) := by decide +kernel
theorem dL_isHeld_1 : decode cL_isHeld 1 = .ok (.iconst 0, 1) := by decide +kernel
theorem dL_isHeld_2 : decode cL_isHeld 2 = .ok (.aload_n 0, 1) := by decide +kernel
theorem dL_isHeld_3 : decode cL_isHeld 3 = .ok (.iload_n 1, 1) := by decide +kernel
theorem dL_isHeld_4 : decode cL_isHeld 4 = .ok (.invokevirtual 25, 3) := by decide +kernel
theorem dL_isHeld_7 : decode cL_isHeld 7 = .ok (.ifCond .eq 7, 3) := by decide +kernel
theorem dL_isHeld_10 : decode cL_isHeld 10 = .ok (.lconst 1, 1) := by decide +kernel
theorem dL_isHeld_11 : decode cL_isHeld 11 = .ok (.goto 4, 3) := by decide +kernel
theorem dL_isHeld_14 : decode cL_isHeld 14 = .ok (.lconst 0, 1) := by decide +kernel
theorem dL_isHeld_15 : decode cL_isHeld 15 = .ok (.lastore, 1) := by decide +kernel
theorem dL_isHeld_16 : decode cL_isHeld 16 = .ok (.goto 6, 3) := by decide +kernel
theorem dL_isHeld_19 : decode cL_isHeld 19 = .ok (.astore_n 3, 1) := by decide +kernel
theorem dL_isHeld_20 : decode cL_isHeld 20 = .ok (.iconst 1, 1) := by decide +kernel
theorem dL_isHeld_21 : decode cL_isHeld 21 = .ok (.ireturn, 1) := by decide +kernel
theorem dL_isHeld_22 : decode cL_isHeld 22 = .ok (.iconst 0, 1) := by decide +kernel
theorem dL_isHeld_23 : decode cL_isHeld 23 = .ok (.ireturn, 1) := by decide +kernel
theorem dL_side_0 : decode cL_side 0 = .ok (.aload_n 3, 1) := by decide +kernel
theorem dL_side_1 : decode cL_side 1 = .ok (.iconst 0, 1) := by decide +kernel
theorem dL_side_2 : decode cL_side 2 = .ok (.aload_n 0, 1) := by decide +kernel
theorem dL_side_3 : decode cL_side 3 = .ok (.iload_n 1, 1) := by decide +kernel
theorem dL_side_4 : decode cL_side 4 = .ok (.iload_n 2, 1) := by decide +kernel
theorem dL_side_5 : decode cL_side 5 = .ok (.invokevirtual 29, 3) := by decide +kernel
theorem dL_side_8 : decode cL_side 8 = .ok (.i2l, 1) := by decide +kernel
theorem dL_side_9 : decode cL_side 9 = .ok (.lastore, 1) := by decide +kernel
theorem dL_side_10 : decode cL_side 10 = .ok (.goto 11, 3) := by decide +kernel
theorem dL_side_13 : decode cL_side 13 = .ok (.astore 4, 2) := by decide +kernel
theorem dL_side_15 : decode cL_side 15 = .ok (.iconst 1, 1) := by decide +kernel
theorem dL_side_16 : decode cL_side 16 = .ok (.ireturn, 1) := by decide +kernel
theorem dL_side_17 : decode cL_side 17 = .ok (.astore 4, 2) := by decide +kernel
theorem dL_side_19 : decode cL_side 19 = .ok (.iconst 2, 1) := by decide +kernel
theorem dL_side_20 : decode cL_side 20 = .ok (.ireturn, 1) := by decide +kernel
theorem dL_side_21 : decode cL_side 21 = .ok (.iconst 0, 1) := by decide +kernel
theorem dL_side_22 : decode cL_side 22 = .ok (.ireturn, 1) := by decide +kernel
theorem dL_copy_0 : decode cL_copy 0 = .ok (.aload_n 3, 1) := by decide +kernel
theorem dL_copy_1 : decode cL_copy 1 = .ok (.iconst 0, 1) := by decide +kernel
theorem dL_copy_2 : decode cL_copy 2 = .ok (.aload_n 0, 1) := by decide +kernel
theorem dL_copy_3 : decode cL_copy 3 = .ok (.iload_n 1, 1) := by decide +kernel
theorem dL_copy_4 : decode cL_copy 4 = .ok (.iload_n 2, 1) := by decide +kernel
theorem dL_copy_5 : decode cL_copy 5 = .ok (.invokevirtual 33, 3) := by decide +kernel
theorem dL_copy_8 : decode cL_copy 8 = .ok (.i2l, 1) := by decide +kernel
theorem dL_copy_9 : decode cL_copy 9 = .ok (.lastore, 1) := by decide +kernel
theorem dL_copy_10 : decode cL_copy 10 = .ok (.goto 11, 3) := by decide +kernel
theorem dL_copy_13 : decode cL_copy 13 = .ok (.astore 4, 2) := by decide +kernel
theorem dL_copy_15 : decode cL_copy 15 = .ok (.iconst 1, 1) := by decide +kernel
theorem dL_copy_16 : decode cL_copy 16 = .ok (.ireturn, 1) := by decide +kernel
theorem dL_copy_17 : decode cL_copy 17 = .ok (.astore 4, 2) := by decide +kernel
theorem dL_copy_19 : decode cL_copy 19 = .ok (.iconst 2, 1) := by decide +kernel
theorem dL_copy_20 : decode cL_copy 20 = .ok (.ireturn, 1) := by decide +kernel
theorem dL_copy_21 : decode cL_copy 21 = .ok (.iconst 0, 1) := by decide +kernel
theorem dL_copy_22 : decode cL_copy 22 = .ok (.ireturn, 1) := by decide +kernel
theorem dL_scale_0 : decode cL_scale 0 = .ok (.aload_n 3, 1) := by decide +kernel
theorem dL_scale_1 : decode cL_scale 1 = .ok (.iconst 0, 1) := by decide +kernel
theorem dL_scale_2 : decode cL_scale 2 = .ok (.aload_n 0, 1) := by decide +kernel
theorem dL_scale_3 : decode cL_scale 3 = .ok (.iload_n 1, 1) := by decide +kernel
theorem dL_scale_4 : decode cL_scale 4 = .ok (.iload_n 2, 1) := by decide +kernel
theorem dL_scale_5 : decode cL_scale 5 = .ok (.invokevirtual 36, 3) := by decide +kernel
theorem dL_scale_8 : decode cL_scale 8 = .ok (.i2l, 1) := by decide +kernel
theorem dL_scale_9 : decode cL_scale 9 = .ok (.lastore, 1) := by decide +kernel
theorem dL_scale_10 : decode cL_scale 10 = .ok (.goto 19, 3) := by decide +kernel
theorem dL_scale_13 : decode cL_scale 13 = .ok (.astore 4, 2) := by decide +kernel
theorem dL_scale_15 : decode cL_scale 15 = .ok (.iconst 1, 1) := by decide +kernel
theorem dL_scale_16 : decode cL_scale 16 = .ok (.ireturn, 1) := by decide +kernel
theorem dL_scale_17 : decode cL_scale 17 = .ok (.astore 4, 2) := by decide +kernel
theorem dL_scale_19 : decode cL_scale 19 = .ok (.iconst 2, 1) := by decide +kernel
theorem dL_scale_20 : decode cL_scale 20 = .ok (.ireturn, 1) := by decide +kernel
theorem dL_scale_21 : decode cL_scale 21 = .ok (.astore 4, 2) := by decide +kernel
theorem dL_scale_23 : decode cL_scale 23 = .ok (.iconst 3, 1) := by decide +kernel
theorem dL_scale_24 : decode cL_scale 24 = .ok (.ireturn, 1) := by decide +kernel
theorem dL_scale_25 : decode cL_scale 25 = .ok (.astore 4, 2) := by decide +kernel
theorem dL_scale_27 : decode cL_scale 27 = .ok (.iconst 4, 1) := by decide +kernel
theorem dL_scale_28 : decode cL_scale 28 = .ok (.ireturn, 1) := by decide +kernel
theorem dL_scale_29 : decode cL_scale 29 = .ok (.iconst 0, 1) := by decide +kernel
theorem dL_scale_30 : decode cL_scale 30 = .ok (.ireturn, 1) := by decide +kernel
theorem dL_reduce_0 : decode cL_reduce 0 = .ok (.aload_n 2, 1) := by decide +kernel
theorem dL_reduce_1 : decode cL_reduce 1 = .ok (.iconst 0, 1) := by decide +kernel
theorem dL_reduce_2 : decode cL_reduce 2 = .ok (.aload_n 0, 1) := by decide +kernel
theorem dL_reduce_3 : decode cL_reduce 3 = .ok (.iload_n 1, 1) := by decide +kernel
theorem dL_reduce_4 : decode cL_reduce 4 = .ok (.invokevirtual 39, 3) := by decide +kernel
theorem dL_reduce_7 : decode cL_reduce 7 = .ok (.i2l, 1) := by decide +kernel
theorem dL_reduce_8 : decode cL_reduce 8 = .ok (.lastore, 1) := by decide +kernel
theorem dL_reduce_9 : decode cL_reduce 9 = .ok (.goto 9, 3) := by decide +kernel
theorem dL_reduce_12 : decode cL_reduce 12 = .ok (.astore_n 3, 1) := by decide +kernel
theorem dL_reduce_13 : decode cL_reduce 13 = .ok (.iconst 1, 1) := by decide +kernel
theorem dL_reduce_14 : decode cL_reduce 14 = .ok (.ireturn, 1) := by decide +kernel
theorem dL_reduce_15 : decode cL_reduce 15 = .ok (.astore_n 3, 1) := by decide +kernel
theorem dL_reduce_16 : decode cL_reduce 16 = .ok (.iconst 2, 1) := by decide +kernel
theorem dL_reduce_17 : decode cL_reduce 17 = .ok (.ireturn, 1) := by decide +kernel
theorem dL_reduce_18 : decode cL_reduce 18 = .ok (.iconst 0, 1) := by decide +kernel
theorem dL_reduce_19 : decode cL_reduce 19 = .ok (.ireturn, 1) := by decide +kernel
theorem dL_join_0 : decode cL_join 0 = .ok (.aload 4, 2) := by decide +kernel
theorem dL_join_2 : decode cL_join 2 = .ok (.iconst 0, 1) := by decide +kernel
theorem dL_join_3 : decode cL_join 3 = .ok (.aload_n 0, 1) := by decide +kernel
theorem dL_join_4 : decode cL_join 4 = .ok (.iload_n 1, 1) := by decide +kernel
theorem dL_join_5 : decode cL_join 5 = .ok (.iload_n 2, 1) := by decide +kernel
theorem dL_join_6 : decode cL_join 6 = .ok (.iload_n 3, 1) := by decide +kernel
theorem dL_join_7 : decode cL_join 7 = .ok (.invokevirtual 42, 3) := by decide +kernel
theorem dL_join_10 : decode cL_join 10 = .ok (.i2l, 1) := by decide +kernel
theorem dL_join_11 : decode cL_join 11 = .ok (.lastore, 1) := by decide +kernel
theorem dL_join_12 : decode cL_join 12 = .ok (.goto 15, 3) := by decide +kernel
theorem dL_join_15 : decode cL_join 15 = .ok (.astore 5, 2) := by decide +kernel
theorem dL_join_17 : decode cL_join 17 = .ok (.iconst 1, 1) := by decide +kernel
theorem dL_join_18 : decode cL_join 18 = .ok (.ireturn, 1) := by decide +kernel
theorem dL_join_19 : decode cL_join 19 = .ok (.astore 5, 2) := by decide +kernel
theorem dL_join_21 : decode cL_join 21 = .ok (.iconst 2, 1) := by decide +kernel
theorem dL_join_22 : decode cL_join 22 = .ok (.ireturn, 1) := by decide +kernel
theorem dL_join_23 : decode cL_join 23 = .ok (.astore 5, 2) := by decide +kernel
theorem dL_join_25 : decode cL_join 25 = .ok (.iconst 3, 1) := by decide +kernel
theorem dL_join_26 : decode cL_join 26 = .ok (.ireturn, 1) := by decide +kernel
theorem dL_join_27 : decode cL_join 27 = .ok (.iconst 0, 1) := by decide +kernel
theorem dL_join_28 : decode cL_join 28 = .ok (.ireturn, 1) := by decide +kernel
theorem dL_kind_0 : decode cL_kind 0 = .ok (.aload_n 2, 1) := by decide +kernel
theorem dL_kind_1 : decode cL_kind 1 = .ok (.iconst 0, 1) := by decide +kernel
theorem dL_kind_2 : decode cL_kind 2 = .ok (.aload_n 0, 1) := by decide +kernel
theorem dL_kind_3 : decode cL_kind 3 = .ok (.iload_n 1, 1) := by decide +kernel
theorem dL_kind_4 : decode cL_kind 4 = .ok (.invokevirtual 46, 3) := by decide +kernel
theorem dL_kind_7 : decode cL_kind 7 = .ok (.i2l, 1) := by decide +kernel
theorem dL_kind_8 : decode cL_kind 8 = .ok (.lastore, 1) := by decide +kernel
theorem dL_kind_9 : decode cL_kind 9 = .ok (.goto 9, 3) := by decide +kernel
theorem dL_kind_12 : decode cL_kind 12 = .ok (.astore_n 3, 1) := by decide +kernel
theorem dL_kind_13 : decode cL_kind 13 = .ok (.iconst 1, 1) := by decide +kernel
theorem dL_kind_14 : decode cL_kind 14 = .ok (.ireturn, 1) := by decide +kernel
theorem dL_kind_15 : decode cL_kind 15 = .ok (.astore_n 3, 1) := by decide +kernel
theorem dL_kind_16 : decode cL_kind 16 = .ok (.iconst 2, 1) := by decide +kernel
theorem dL_kind_17 : decode cL_kind 17 = .ok (.ireturn, 1) := by decide +kernel
theorem dL_kind_18 : decode cL_kind 18 = .ok (.iconst 0, 1) := by decide +kernel
theorem dL_kind_19 : decode cL_kind 19 = .ok (.ireturn, 1) := by decide +kernel
theorem dL_angle_0 : decode cL_angle 0 = .ok (.aload_n 3, 1) := by decide +kernel
theorem dL_angle_1 : decode cL_angle 1 = .ok (.iconst 0, 1) := by decide +kernel
theorem dL_angle_2 : decode cL_angle 2 = .ok (.aload_n 0, 1) := by decide +kernel
theorem dL_angle_3 : decode cL_angle 3 = .ok (.iload_n 1, 1) := by decide +kernel
theorem dL_angle_4 : decode cL_angle 4 = .ok (.iload_n 2, 1) := by decide +kernel
theorem dL_angle_5 : decode cL_angle 5 = .ok (.invokevirtual 49, 3) := by decide +kernel
theorem dL_angle_8 : decode cL_angle 8 = .ok (.i2l, 1) := by decide +kernel
theorem dL_angle_9 : decode cL_angle 9 = .ok (.lastore, 1) := by decide +kernel
theorem dL_angle_10 : decode cL_angle 10 = .ok (.goto 11, 3) := by decide +kernel
theorem dL_angle_13 : decode cL_angle 13 = .ok (.astore 4, 2) := by decide +kernel
theorem dL_angle_15 : decode cL_angle 15 = .ok (.iconst 1, 1) := by decide +kernel
theorem dL_angle_16 : decode cL_angle 16 = .ok (.ireturn, 1) := by decide +kernel
theorem dL_angle_17 : decode cL_angle 17 = .ok (.astore 4, 2) := by decide +kernel
theorem dL_angle_19 : decode cL_angle 19 = .ok (.iconst 2, 1) := by decide +kernel
theorem dL_angle_20 : decode cL_angle 20 = .ok (.ireturn, 1) := by decide +kernel
theorem dL_angle_21 : decode cL_angle 21 = .ok (.iconst 0, 1) := by decide +kernel
theorem dL_angle_22 : decode cL_angle 22 = .ok (.ireturn, 1) := by decide +kernel
theorem dL_areaIsWhole_0 : decode cL_areaIsWhole 0 = .ok (.aload_n 2, 1) := by decide +kernel
theorem dL_areaIsWhole_1 : decode cL_areaIsWhole 1 = .ok (.iconst 0, 1) := by decide +kernel
theorem dL_areaIsWhole_2 : decode cL_areaIsWhole 2 = .ok (.aload_n 0, 1) := by decide +kernel
theorem dL_areaIsWhole_3 : decode cL_areaIsWhole 3 = .ok (.iload_n 1, 1) := by decide +kernel
theorem dL_areaIsWhole_4 : decode cL_areaIsWhole 4 = .ok (.invokevirtual 52, 3) := by decide +kernel
theorem dL_areaIsWhole_7 : decode cL_areaIsWhole 7 = .ok (.ifCond .eq 7, 3) := by decide +kernel
theorem dL_areaIsWhole_10 : decode cL_areaIsWhole 10 = .ok (.lconst 1, 1) := by decide +kernel
theorem dL_areaIsWhole_11 : decode cL_areaIsWhole 11 = .ok (.goto 4, 3) := by decide +kernel
theorem dL_areaIsWhole_14 : decode cL_areaIsWhole 14 = .ok (.lconst 0, 1) := by decide +kernel
theorem dL_areaIsWhole_15 : decode cL_areaIsWhole 15 = .ok (.lastore, 1) := by decide +kernel
theorem dL_areaIsWhole_16 : decode cL_areaIsWhole 16 = .ok (.goto 9, 3) := by decide +kernel
theorem dL_areaIsWhole_19 : decode cL_areaIsWhole 19 = .ok (.astore_n 3, 1) := by decide +kernel
theorem dL_areaIsWhole_20 : decode cL_areaIsWhole 20 = .ok (.iconst 1, 1) := by decide +kernel
theorem dL_areaIsWhole_21 : decode cL_areaIsWhole 21 = .ok (.ireturn, 1) := by decide +kernel
theorem dL_areaIsWhole_22 : decode cL_areaIsWhole 22 = .ok (.astore_n 3, 1) := by decide +kernel
theorem dL_areaIsWhole_23 : decode cL_areaIsWhole 23 = .ok (.iconst 2, 1) := by decide +kernel
theorem dL_areaIsWhole_24 : decode cL_areaIsWhole 24 = .ok (.ireturn, 1) := by decide +kernel
theorem dL_areaIsWhole_25 : decode cL_areaIsWhole 25 = .ok (.iconst 0, 1) := by decide +kernel
theorem dL_areaIsWhole_26 : decode cL_areaIsWhole 26 = .ok (.ireturn, 1) := by decide +kernel
theorem dL_area_0 : decode cL_area 0 = .ok (.aload_n 2, 1) := by decide +kernel
theorem dL_area_1 : decode cL_area 1 = .ok (.iconst 0, 1) := by decide +kernel
theorem dL_area_2 : decode cL_area 2 = .ok (.aload_n 0, 1) := by decide +kernel
theorem dL_area_3 : decode cL_area 3 = .ok (.iload_n 1, 1) := by decide +kernel
theorem dL_area_4 : decode cL_area 4 = .ok (.invokevirtual 55, 3) := by decide +kernel
theorem dL_area_7 : decode cL_area 7 = .ok (.lastore, 1) := by decide +kernel
theorem dL_area_8 : decode cL_area 8 = .ok (.goto 12, 3) := by decide +kernel
theorem dL_area_11 : decode cL_area 11 = .ok (.astore_n 3, 1) := by decide +kernel
theorem dL_area_12 : decode cL_area 12 = .ok (.iconst 1, 1) := by decide +kernel
theorem dL_area_13 : decode cL_area 13 = .ok (.ireturn, 1) := by decide +kernel
theorem dL_area_14 : decode cL_area 14 = .ok (.astore_n 3, 1) := by decide +kernel
theorem dL_area_15 : decode cL_area 15 = .ok (.iconst 2, 1) := by decide +kernel
theorem dL_area_16 : decode cL_area 16 = .ok (.ireturn, 1) := by decide +kernel
theorem dL_area_17 : decode cL_area 17 = .ok (.astore_n 3, 1) := by decide +kernel
theorem dL_area_18 : decode cL_area 18 = .ok (.iconst 3, 1) := by decide +kernel
theorem dL_area_19 : decode cL_area 19 = .ok (.ireturn, 1) := by decide +kernel
theorem dL_area_20 : decode cL_area 20 = .ok (.iconst 0, 1) := by decide +kernel
theorem dL_area_21 : decode cL_area 21 = .ok (.ireturn, 1) := by decide +kernel
theorem dL_circle_0 : decode cL_circle 0 = .ok (.aload_n 3, 1) := by decide +kernel
theorem dL_circle_1 : decode cL_circle 1 = .ok (.iconst 0, 1) := by decide +kernel
theorem dL_circle_2 : decode cL_circle 2 = .ok (.aload_n 0, 1) := by decide +kernel
theorem dL_circle_3 : decode cL_circle 3 = .ok (.iload_n 1, 1) := by decide +kernel
theorem dL_circle_4 : decode cL_circle 4 = .ok (.iload_n 2, 1) := by decide +kernel
theorem dL_circle_5 : decode cL_circle 5 = .ok (.invokevirtual 59, 3) := by decide +kernel
theorem dL_circle_8 : decode cL_circle 8 = .ok (.lastore, 1) := by decide +kernel
theorem dL_circle_9 : decode cL_circle 9 = .ok (.goto 19, 3) := by decide +kernel
theorem dL_circle_12 : decode cL_circle 12 = .ok (.astore 4, 2) := by decide +kernel
theorem dL_circle_14 : decode cL_circle 14 = .ok (.iconst 1, 1) := by decide +kernel
theorem dL_circle_15 : decode cL_circle 15 = .ok (.ireturn, 1) := by decide +kernel
theorem dL_circle_16 : decode cL_circle 16 = .ok (.astore 4, 2) := by decide +kernel
theorem dL_circle_18 : decode cL_circle 18 = .ok (.iconst 2, 1) := by decide +kernel
theorem dL_circle_19 : decode cL_circle 19 = .ok (.ireturn, 1) := by decide +kernel
theorem dL_circle_20 : decode cL_circle 20 = .ok (.astore 4, 2) := by decide +kernel
theorem dL_circle_22 : decode cL_circle 22 = .ok (.iconst 3, 1) := by decide +kernel
theorem dL_circle_23 : decode cL_circle 23 = .ok (.ireturn, 1) := by decide +kernel
theorem dL_circle_24 : decode cL_circle 24 = .ok (.astore 4, 2) := by decide +kernel
theorem dL_circle_26 : decode cL_circle 26 = .ok (.iconst 4, 1) := by decide +kernel
theorem dL_circle_27 : decode cL_circle 27 = .ok (.ireturn, 1) := by decide +kernel
theorem dL_circle_28 : decode cL_circle 28 = .ok (.iconst 0, 1) := by decide +kernel
theorem dL_circle_29 : decode cL_circle 29 = .ok (.ireturn, 1) := by decide +kernel
theorem dL_compareAreas_0 : decode cL_compareAreas 0 = .ok (.aload_n 3, 1) := by decide +kernel
theorem dL_compareAreas_1 : decode cL_compareAreas 1 = .ok (.iconst 0, 1) := by decide +kernel
theorem dL_compareAreas_2 : decode cL_compareAreas 2 = .ok (.aload_n 0, 1) := by decide +kernel
theorem dL_compareAreas_3 : decode cL_compareAreas 3 = .ok (.iload_n 1, 1) := by decide +kernel
theorem dL_compareAreas_4 : decode cL_compareAreas 4 = .ok (.iload_n 2, 1) := by decide +kernel
theorem dL_compareAreas_5 : decode cL_compareAreas 5 = .ok (.invokevirtual 63, 3) := by decide +kernel
theorem dL_compareAreas_8 : decode cL_compareAreas 8 = .ok (.i2l, 1) := by decide +kernel
theorem dL_compareAreas_9 : decode cL_compareAreas 9 = .ok (.lastore, 1) := by decide +kernel
theorem dL_compareAreas_10 : decode cL_compareAreas 10 = .ok (.goto 11, 3) := by decide +kernel
theorem dL_compareAreas_13 : decode cL_compareAreas 13 = .ok (.astore 4, 2) := by decide +kernel
theorem dL_compareAreas_15 : decode cL_compareAreas 15 = .ok (.iconst 1, 1) := by decide +kernel
theorem dL_compareAreas_16 : decode cL_compareAreas 16 = .ok (.ireturn, 1) := by decide +kernel
theorem dL_compareAreas_17 : decode cL_compareAreas 17 = .ok (.astore 4, 2) := by decide +kernel
theorem dL_compareAreas_19 : decode cL_compareAreas 19 = .ok (.iconst 2, 1) := by decide +kernel
theorem dL_compareAreas_20 : decode cL_compareAreas 20 = .ok (.ireturn, 1) := by decide +kernel
theorem dL_compareAreas_21 : decode cL_compareAreas 21 = .ok (.iconst 0, 1) := by decide +kernel
theorem dL_compareAreas_22 : decode cL_compareAreas 22 = .ok (.ireturn, 1) := by decide +kernel
theorem dL_product_0 : decode cL_product 0 = .ok (.aload_n 2, 1) := by decide +kernel
theorem dL_product_1 : decode cL_product 1 = .ok (.iconst 0, 1) := by decide +kernel
theorem dL_product_2 : decode cL_product 2 = .ok (.aload_n 0, 1) := by decide +kernel
theorem dL_product_3 : decode cL_product 3 = .ok (.iload_n 1, 1) := by decide +kernel
theorem dL_product_4 : decode cL_product 4 = .ok (.invokevirtual 66, 3) := by decide +kernel
theorem dL_product_7 : decode cL_product 7 = .ok (.lastore, 1) := by decide +kernel
theorem dL_product_8 : decode cL_product 8 = .ok (.goto 9, 3) := by decide +kernel
theorem dL_product_11 : decode cL_product 11 = .ok (.astore_n 3, 1) := by decide +kernel
theorem dL_product_12 : decode cL_product 12 = .ok (.iconst 1, 1) := by decide +kernel
theorem dL_product_13 : decode cL_product 13 = .ok (.ireturn, 1) := by decide +kernel
theorem dL_product_14 : decode cL_product 14 = .ok (.astore_n 3, 1) := by decide +kernel
theorem dL_product_15 : decode cL_product 15 = .ok (.iconst 2, 1) := by decide +kernel
theorem dL_product_16 : decode cL_product 16 = .ok (.ireturn, 1) := by decide +kernel
theorem dL_product_17 : decode cL_product 17 = .ok (.iconst 0, 1) := by decide +kernel
theorem dL_product_18 : decode cL_product 18 = .ok (.ireturn, 1) := by decide +kernel
theorem dL_bits_0 : decode cL_bits 0 = .ok (.aload_n 2, 1) := by decide +kernel
theorem dL_bits_1 : decode cL_bits 1 = .ok (.iconst 0, 1) := by decide +kernel
theorem dL_bits_2 : decode cL_bits 2 = .ok (.aload_n 0, 1) := by decide +kernel
theorem dL_bits_3 : decode cL_bits 3 = .ok (.iload_n 1, 1) := by decide +kernel
theorem dL_bits_4 : decode cL_bits 4 = .ok (.invokevirtual 69, 3) := by decide +kernel
theorem dL_bits_7 : decode cL_bits 7 = .ok (.i2l, 1) := by decide +kernel
theorem dL_bits_8 : decode cL_bits 8 = .ok (.lastore, 1) := by decide +kernel
theorem dL_bits_9 : decode cL_bits 9 = .ok (.goto 9, 3) := by decide +kernel
theorem dL_bits_12 : decode cL_bits 12 = .ok (.astore_n 3, 1) := by decide +kernel
theorem dL_bits_13 : decode cL_bits 13 = .ok (.iconst 1, 1) := by decide +kernel
theorem dL_bits_14 : decode cL_bits 14 = .ok (.ireturn, 1) := by decide +kernel
theorem dL_bits_15 : decode cL_bits 15 = .ok (.astore_n 3, 1) := by decide +kernel
theorem dL_bits_16 : decode cL_bits 16 = .ok (.iconst 2, 1) := by decide +kernel
theorem dL_bits_17 : decode cL_bits 17 = .ok (.ireturn, 1) := by decide +kernel
theorem dL_bits_18 : decode cL_bits 18 = .ok (.iconst 0, 1) := by decide +kernel
theorem dL_bits_19 : decode cL_bits 19 = .ok (.ireturn, 1) := by decide +kernel
theorem dL_hypot_0 : decode cL_hypot 0 = .ok (.aload 4, 2) := by decide +kernel
theorem dL_hypot_2 : decode cL_hypot 2 = .ok (.iconst 0, 1) := by decide +kernel
theorem dL_hypot_3 : decode cL_hypot 3 = .ok (.aload_n 0, 1) := by decide +kernel
theorem dL_hypot_4 : decode cL_hypot 4 = .ok (.iload_n 1, 1) := by decide +kernel
theorem dL_hypot_5 : decode cL_hypot 5 = .ok (.iload_n 2, 1) := by decide +kernel
theorem dL_hypot_6 : decode cL_hypot 6 = .ok (.iload_n 3, 1) := by decide +kernel
theorem dL_hypot_7 : decode cL_hypot 7 = .ok (.invokevirtual 72, 3) := by decide +kernel
theorem dL_hypot_10 : decode cL_hypot 10 = .ok (.dastore, 1) := by decide +kernel
theorem dL_hypot_11 : decode cL_hypot 11 = .ok (.goto 11, 3) := by decide +kernel
theorem dL_hypot_14 : decode cL_hypot 14 = .ok (.astore 5, 2) := by decide +kernel
theorem dL_hypot_16 : decode cL_hypot 16 = .ok (.iconst 1, 1) := by decide +kernel
theorem dL_hypot_17 : decode cL_hypot 17 = .ok (.ireturn, 1) := by decide +kernel
theorem dL_hypot_18 : decode cL_hypot 18 = .ok (.astore 5, 2) := by decide +kernel
theorem dL_hypot_20 : decode cL_hypot 20 = .ok (.iconst 2, 1) := by decide +kernel
theorem dL_hypot_21 : decode cL_hypot 21 = .ok (.ireturn, 1) := by decide +kernel
theorem dL_hypot_22 : decode cL_hypot 22 = .ok (.iconst 0, 1) := by decide +kernel
theorem dL_hypot_23 : decode cL_hypot 23 = .ok (.ireturn, 1) := by decide +kernel
theorem dL_root_0 : decode cL_root 0 = .ok (.aload_n 3, 1) := by decide +kernel
theorem dL_root_1 : decode cL_root 1 = .ok (.iconst 0, 1) := by decide +kernel
theorem dL_root_2 : decode cL_root 2 = .ok (.aload_n 0, 1) := by decide +kernel
theorem dL_root_3 : decode cL_root 3 = .ok (.lload_n 1, 1) := by decide +kernel
theorem dL_root_4 : decode cL_root 4 = .ok (.invokevirtual 76, 3) := by decide +kernel
theorem dL_root_7 : decode cL_root 7 = .ok (.dastore, 1) := by decide +kernel
theorem dL_root_8 : decode cL_root 8 = .ok (.goto 7, 3) := by decide +kernel
theorem dL_root_11 : decode cL_root 11 = .ok (.astore 4, 2) := by decide +kernel
theorem dL_root_13 : decode cL_root 13 = .ok (.iconst 1, 1) := by decide +kernel
theorem dL_root_14 : decode cL_root 14 = .ok (.ireturn, 1) := by decide +kernel
theorem dL_root_15 : decode cL_root 15 = .ok (.iconst 0, 1) := by decide +kernel
theorem dL_root_16 : decode cL_root 16 = .ok (.ireturn, 1) := by decide +kernel
theorem dL_shape_0 : decode cL_shape 0 = .ok (.aload_n 2, 1) := by decide +kernel
theorem dL_shape_1 : decode cL_shape 1 = .ok (.iconst 0, 1) := by decide +kernel
theorem dL_shape_2 : decode cL_shape 2 = .ok (.aload_n 0, 1) := by decide +kernel
theorem dL_shape_3 : decode cL_shape 3 = .ok (.iload_n 1, 1) := by decide +kernel
theorem dL_shape_4 : decode cL_shape 4 = .ok (.invokevirtual 80, 3) := by decide +kernel
theorem dL_shape_7 : decode cL_shape 7 = .ok (.f2d, 1) := by decide +kernel
theorem dL_shape_8 : decode cL_shape 8 = .ok (.dastore, 1) := by decide +kernel
theorem dL_shape_9 : decode cL_shape 9 = .ok (.goto 9, 3) := by decide +kernel
theorem dL_shape_12 : decode cL_shape 12 = .ok (.astore_n 3, 1) := by decide +kernel
theorem dL_shape_13 : decode cL_shape 13 = .ok (.iconst 1, 1) := by decide +kernel
theorem dL_shape_14 : decode cL_shape 14 = .ok (.ireturn, 1) := by decide +kernel
theorem dL_shape_15 : decode cL_shape 15 = .ok (.astore_n 3, 1) := by decide +kernel
theorem dL_shape_16 : decode cL_shape 16 = .ok (.iconst 2, 1) := by decide +kernel
theorem dL_shape_17 : decode cL_shape 17 = .ok (.ireturn, 1) := by decide +kernel
theorem dL_shape_18 : decode cL_shape 18 = .ok (.iconst 0, 1) := by decide +kernel
theorem dL_shape_19 : decode cL_shape 19 = .ok (.ireturn, 1) := by decide +kernel
theorem dL_euclid_0 : decode cL_euclid 0 = .ok (.aload 4, 2) := by decide +kernel
theorem dL_euclid_2 : decode cL_euclid 2 = .ok (.iconst 0, 1) := by decide +kernel
theorem dL_euclid_3 : decode cL_euclid 3 = .ok (.aload_n 0, 1) := by decide +kernel
theorem dL_euclid_4 : decode cL_euclid 4 = .ok (.iload_n 1, 1) := by decide +kernel
theorem dL_euclid_5 : decode cL_euclid 5 = .ok (.iload_n 2, 1) := by decide +kernel
theorem dL_euclid_6 : decode cL_euclid 6 = .ok (.iload_n 3, 1) := by decide +kernel
theorem dL_euclid_7 : decode cL_euclid 7 = .ok (.invokevirtual 84, 3) := by decide +kernel
theorem dL_euclid_10 : decode cL_euclid 10 = .ok (.i2l, 1) := by decide +kernel
theorem dL_euclid_11 : decode cL_euclid 11 = .ok (.lastore, 1) := by decide +kernel
theorem dL_euclid_12 : decode cL_euclid 12 = .ok (.goto 15, 3) := by decide +kernel
theorem dL_euclid_15 : decode cL_euclid 15 = .ok (.astore 5, 2) := by decide +kernel
theorem dL_euclid_17 : decode cL_euclid 17 = .ok (.iconst 1, 1) := by decide +kernel
theorem dL_euclid_18 : decode cL_euclid 18 = .ok (.ireturn, 1) := by decide +kernel
theorem dL_euclid_19 : decode cL_euclid 19 = .ok (.astore 5, 2) := by decide +kernel
theorem dL_euclid_21 : decode cL_euclid 21 = .ok (.iconst 2, 1) := by decide +kernel
theorem dL_euclid_22 : decode cL_euclid 22 = .ok (.ireturn, 1) := by decide +kernel
theorem dL_euclid_23 : decode cL_euclid 23 = .ok (.astore 5, 2) := by decide +kernel
theorem dL_euclid_25 : decode cL_euclid 25 = .ok (.iconst 3, 1) := by decide +kernel
theorem dL_euclid_26 : decode cL_euclid 26 = .ok (.ireturn, 1) := by decide +kernel
theorem dL_euclid_27 : decode cL_euclid 27 = .ok (.iconst 0, 1) := by decide +kernel
theorem dL_euclid_28 : decode cL_euclid 28 = .ok (.ireturn, 1) := by decide +kernel
theorem dL_step_0 : decode cL_step 0 = .ok (.aload_n 3, 1) := by decide +kernel
theorem dL_step_1 : decode cL_step 1 = .ok (.iconst 0, 1) := by decide +kernel
theorem dL_step_2 : decode cL_step 2 = .ok (.aload_n 0, 1) := by decide +kernel
theorem dL_step_3 : decode cL_step 3 = .ok (.iload_n 1, 1) := by decide +kernel
theorem dL_step_4 : decode cL_step 4 = .ok (.iload_n 2, 1) := by decide +kernel
theorem dL_step_5 : decode cL_step 5 = .ok (.invokevirtual 87, 3) := by decide +kernel
theorem dL_step_8 : decode cL_step 8 = .ok (.i2l, 1) := by decide +kernel
theorem dL_step_9 : decode cL_step 9 = .ok (.lastore, 1) := by decide +kernel
theorem dL_step_10 : decode cL_step 10 = .ok (.goto 19, 3) := by decide +kernel
theorem dL_step_13 : decode cL_step 13 = .ok (.astore 4, 2) := by decide +kernel
theorem dL_step_15 : decode cL_step 15 = .ok (.iconst 1, 1) := by decide +kernel
theorem dL_step_16 : decode cL_step 16 = .ok (.ireturn, 1) := by decide +kernel
theorem dL_step_17 : decode cL_step 17 = .ok (.astore 4, 2) := by decide +kernel
theorem dL_step_19 : decode cL_step 19 = .ok (.iconst 2, 1) := by decide +kernel
theorem dL_step_20 : decode cL_step 20 = .ok (.ireturn, 1) := by decide +kernel
theorem dL_step_21 : decode cL_step 21 = .ok (.astore 4, 2) := by decide +kernel
theorem dL_step_23 : decode cL_step 23 = .ok (.iconst 3, 1) := by decide +kernel
theorem dL_step_24 : decode cL_step 24 = .ok (.ireturn, 1) := by decide +kernel
theorem dL_step_25 : decode cL_step 25 = .ok (.astore 4, 2) := by decide +kernel
theorem dL_step_27 : decode cL_step 27 = .ok (.iconst 4, 1) := by decide +kernel
theorem dL_step_28 : decode cL_step 28 = .ok (.ireturn, 1) := by decide +kernel
theorem dL_step_29 : decode cL_step 29 = .ok (.iconst 0, 1) := by decide +kernel
theorem dL_step_30 : decode cL_step 30 = .ok (.ireturn, 1) := by decide +kernel
theorem dL_depth_0 : decode cL_depth 0 = .ok (.aload_n 2, 1) := by decide +kernel
theorem dL_depth_1 : decode cL_depth 1 = .ok (.iconst 0, 1) := by decide +kernel
theorem dL_depth_2 : decode cL_depth 2 = .ok (.aload_n 0, 1) := by decide +kernel
theorem dL_depth_3 : decode cL_depth 3 = .ok (.iload_n 1, 1) := by decide +kernel
theorem dL_depth_4 : decode cL_depth 4 = .ok (.invokevirtual 91, 3) := by decide +kernel
theorem dL_depth_7 : decode cL_depth 7 = .ok (.i2l, 1) := by decide +kernel
theorem dL_depth_8 : decode cL_depth 8 = .ok (.lastore, 1) := by decide +kernel
theorem dL_depth_9 : decode cL_depth 9 = .ok (.goto 12, 3) := by decide +kernel
theorem dL_depth_12 : decode cL_depth 12 = .ok (.astore_n 3, 1) := by decide +kernel
theorem dL_depth_13 : decode cL_depth 13 = .ok (.iconst 1, 1) := by decide +kernel
theorem dL_depth_14 : decode cL_depth 14 = .ok (.ireturn, 1) := by decide +kernel
theorem dL_depth_15 : decode cL_depth 15 = .ok (.astore_n 3, 1) := by decide +kernel
theorem dL_depth_16 : decode cL_depth 16 = .ok (.iconst 2, 1) := by decide +kernel
theorem dL_depth_17 : decode cL_depth 17 = .ok (.ireturn, 1) := by decide +kernel
theorem dL_depth_18 : decode cL_depth 18 = .ok (.astore_n 3, 1) := by decide +kernel
theorem dL_depth_19 : decode cL_depth 19 = .ok (.iconst 3, 1) := by decide +kernel
theorem dL_depth_20 : decode cL_depth 20 = .ok (.ireturn, 1) := by decide +kernel
theorem dL_depth_21 : decode cL_depth 21 = .ok (.iconst 0, 1) := by decide +kernel
theorem dL_depth_22 : decode cL_depth 22 = .ok (.ireturn, 1) := by decide +kernel
theorem dL_generator_0 : decode cL_generator 0 = .ok (.aload_n 3, 1) := by decide +kernel
theorem dL_generator_1 : decode cL_generator 1 = .ok (.iconst 0, 1) := by decide +kernel
theorem dL_generator_2 : decode cL_generator 2 = .ok (.aload_n 0, 1) := by decide +kernel
theorem dL_generator_3 : decode cL_generator 3 = .ok (.iload_n 1, 1) := by decide +kernel
theorem dL_generator_4 : decode cL_generator 4 = .ok (.iload_n 2, 1) := by decide +kernel
theorem dL_generator_5 : decode cL_generator 5 = .ok (.invokevirtual 94, 3) := by decide +kernel
theorem dL_generator_8 : decode cL_generator 8 = .ok (.i2l, 1) := by decide +kernel
theorem dL_generator_9 : decode cL_generator 9 = .ok (.lastore, 1) := by decide +kernel
theorem dL_generator_10 : decode cL_generator 10 = .ok (.goto 19, 3) := by decide +kernel
theorem dL_generator_13 : decode cL_generator 13 = .ok (.astore 4, 2) := by decide +kernel
theorem dL_generator_15 : decode cL_generator 15 = .ok (.iconst 1, 1) := by decide +kernel
theorem dL_generator_16 : decode cL_generator 16 = .ok (.ireturn, 1) := by decide +kernel
theorem dL_generator_17 : decode cL_generator 17 = .ok (.astore 4, 2) := by decide +kernel
theorem dL_generator_19 : decode cL_generator 19 = .ok (.iconst 2, 1) := by decide +kernel
theorem dL_generator_20 : decode cL_generator 20 = .ok (.ireturn, 1) := by decide +kernel
theorem dL_generator_21 : decode cL_generator 21 = .ok (.astore 4, 2) := by decide +kernel
theorem dL_generator_23 : decode cL_generator 23 = .ok (.iconst 3, 1) := by decide +kernel
theorem dL_generator_24 : decode cL_generator 24 = .ok (.ireturn, 1) := by decide +kernel
theorem dL_generator_25 : decode cL_generator 25 = .ok (.astore 4, 2) := by decide +kernel
theorem dL_generator_27 : decode cL_generator 27 = .ok (.iconst 4, 1) := by decide +kernel
theorem dL_generator_28 : decode cL_generator 28 = .ok (.ireturn, 1) := by decide +kernel
theorem dL_generator_29 : decode cL_generator 29 = .ok (.iconst 0, 1) := by decide +kernel
theorem dL_generator_30 : decode cL_generator 30 = .ok (.ireturn, 1) := by decide +kernel
theorem dL_list_0 : decode cL_list 0 = .ok (.aload_n 3, 1) := by decide +kernel
theorem dL_list_1 : decode cL_list 1 = .ok (.iconst 0, 1) := by decide +kernel
theorem dL_list_2 : decode cL_list 2 = .ok (.aload_n 0, 1) := by decide +kernel
theorem dL_list_3 : decode cL_list 3 = .ok (.iload_n 1, 1) := by decide +kernel
theorem dL_list_4 : decode cL_list 4 = .ok (.iload_n 2, 1) := by decide +kernel
theorem dL_list_5 : decode cL_list 5 = .ok (.invokevirtual 97, 3) := by decide +kernel
theorem dL_list_8 : decode cL_list 8 = .ok (.i2l, 1) := by decide +kernel
theorem dL_list_9 : decode cL_list 9 = .ok (.lastore, 1) := by decide +kernel
theorem dL_list_10 : decode cL_list 10 = .ok (.goto 7, 3) := by decide +kernel
theorem dL_list_13 : decode cL_list 13 = .ok (.astore 4, 2) := by decide +kernel
theorem dL_list_15 : decode cL_list 15 = .ok (.iconst 1, 1) := by decide +kernel
theorem dL_list_16 : decode cL_list 16 = .ok (.ireturn, 1) := by decide +kernel
theorem dL_list_17 : decode cL_list 17 = .ok (.iconst 0, 1) := by decide +kernel
theorem dL_list_18 : decode cL_list 18 = .ok (.ireturn, 1) := by decide +kernel
theorem dL_listed_0 : decode cL_listed 0 = .ok (.aload_n 3, 1) := by decide +kernel
theorem dL_listed_1 : decode cL_listed 1 = .ok (.iconst 0, 1) := by decide +kernel
theorem dL_listed_2 : decode cL_listed 2 = .ok (.aload_n 0, 1) := by decide +kernel
theorem dL_listed_3 : decode cL_listed 3 = .ok (.iload_n 1, 1) := by decide +kernel
theorem dL_listed_4 : decode cL_listed 4 = .ok (.iload_n 2, 1) := by decide +kernel
theorem dL_listed_5 : decode cL_listed 5 = .ok (.invokevirtual 101, 3) := by decide +kernel
theorem dL_listed_8 : decode cL_listed 8 = .ok (.i2l, 1) := by decide +kernel
theorem dL_listed_9 : decode cL_listed 9 = .ok (.lastore, 1) := by decide +kernel
theorem dL_listed_10 : decode cL_listed 10 = .ok (.goto 7, 3) := by decide +kernel
theorem dL_listed_13 : decode cL_listed 13 = .ok (.astore 4, 2) := by decide +kernel
theorem dL_listed_15 : decode cL_listed 15 = .ok (.iconst 1, 1) := by decide +kernel
theorem dL_listed_16 : decode cL_listed 16 = .ok (.ireturn, 1) := by decide +kernel
theorem dL_listed_17 : decode cL_listed 17 = .ok (.iconst 0, 1) := by decide +kernel
theorem dL_listed_18 : decode cL_listed 18 = .ok (.ireturn, 1) := by decide +kernel
theorem dL_counts_0 : decode cL_counts 0 = .ok (.aload_n 3, 1) := by decide +kernel
theorem dL_counts_1 : decode cL_counts 1 = .ok (.iconst 0, 1) := by decide +kernel
theorem dL_counts_2 : decode cL_counts 2 = .ok (.aload_n 0, 1) := by decide +kernel
theorem dL_counts_3 : decode cL_counts 3 = .ok (.iload_n 1, 1) := by decide +kernel
theorem dL_counts_4 : decode cL_counts 4 = .ok (.iload_n 2, 1) := by decide +kernel
theorem dL_counts_5 : decode cL_counts 5 = .ok (.invokevirtual 104, 3) := by decide +kernel
theorem dL_counts_8 : decode cL_counts 8 = .ok (.i2l, 1) := by decide +kernel
theorem dL_counts_9 : decode cL_counts 9 = .ok (.lastore, 1) := by decide +kernel
theorem dL_counts_10 : decode cL_counts 10 = .ok (.goto 7, 3) := by decide +kernel
theorem dL_counts_13 : decode cL_counts 13 = .ok (.astore 4, 2) := by decide +kernel
theorem dL_counts_15 : decode cL_counts 15 = .ok (.iconst 1, 1) := by decide +kernel
theorem dL_counts_16 : decode cL_counts 16 = .ok (.ireturn, 1) := by decide +kernel
theorem dL_counts_17 : decode cL_counts 17 = .ok (.iconst 0, 1) := by decide +kernel
theorem dL_counts_18 : decode cL_counts 18 = .ok (.ireturn, 1) := by decide +kernel
theorem dL_sort_0 : decode cL_sort 0 = .ok (.aload_n 2, 1) := by decide +kernel
theorem dL_sort_1 : decode cL_sort 1 = .ok (.iconst 0, 1) := by decide +kernel
theorem dL_sort_2 : decode cL_sort 2 = .ok (.aload_n 0, 1) := by decide +kernel
theorem dL_sort_3 : decode cL_sort 3 = .ok (.iload_n 1, 1) := by decide +kernel
theorem dL_sort_4 : decode cL_sort 4 = .ok (.invokevirtual 107, 3) := by decide +kernel
theorem dL_sort_7 : decode cL_sort 7 = .ok (.i2l, 1) := by decide +kernel
theorem dL_sort_8 : decode cL_sort 8 = .ok (.lastore, 1) := by decide +kernel
theorem dL_sort_9 : decode cL_sort 9 = .ok (.goto 6, 3) := by decide +kernel
theorem dL_sort_12 : decode cL_sort 12 = .ok (.astore_n 3, 1) := by decide +kernel
theorem dL_sort_13 : decode cL_sort 13 = .ok (.iconst 1, 1) := by decide +kernel
theorem dL_sort_14 : decode cL_sort 14 = .ok (.ireturn, 1) := by decide +kernel
theorem dL_sort_15 : decode cL_sort 15 = .ok (.iconst 0, 1) := by decide +kernel
theorem dL_sort_16 : decode cL_sort 16 = .ok (.ireturn, 1) := by decide +kernel
theorem dL_sorted_0 : decode cL_sorted 0 = .ok (.aload_n 2, 1) := by decide +kernel
theorem dL_sorted_1 : decode cL_sorted 1 = .ok (.iconst 0, 1) := by decide +kernel
theorem dL_sorted_2 : decode cL_sorted 2 = .ok (.aload_n 0, 1) := by decide +kernel
theorem dL_sorted_3 : decode cL_sorted 3 = .ok (.iload_n 1, 1) := by decide +kernel
theorem dL_sorted_4 : decode cL_sorted 4 = .ok (.invokevirtual 111, 3) := by decide +kernel
theorem dL_sorted_7 : decode cL_sorted 7 = .ok (.i2l, 1) := by decide +kernel
theorem dL_sorted_8 : decode cL_sorted 8 = .ok (.lastore, 1) := by decide +kernel
theorem dL_sorted_9 : decode cL_sorted 9 = .ok (.goto 6, 3) := by decide +kernel
theorem dL_sorted_12 : decode cL_sorted 12 = .ok (.astore_n 3, 1) := by decide +kernel
theorem dL_sorted_13 : decode cL_sorted 13 = .ok (.iconst 1, 1) := by decide +kernel
theorem dL_sorted_14 : decode cL_sorted 14 = .ok (.ireturn, 1) := by decide +kernel
theorem dL_sorted_15 : decode cL_sorted 15 = .ok (.iconst 0, 1) := by decide +kernel
theorem dL_sorted_16 : decode cL_sorted 16 = .ok (.ireturn, 1) := by decide +kernel
theorem dL_isTrue_0 : decode cL_isTrue 0 = .ok (.aload_n 2, 1) := by decide +kernel
theorem dL_isTrue_1 : decode cL_isTrue 1 = .ok (.iconst 0, 1) := by decide +kernel
theorem dL_isTrue_2 : decode cL_isTrue 2 = .ok (.aload_n 0, 1) := by decide +kernel
theorem dL_isTrue_3 : decode cL_isTrue 3 = .ok (.iload_n 1, 1) := by decide +kernel
theorem dL_isTrue_4 : decode cL_isTrue 4 = .ok (.invokevirtual 114, 3) := by decide +kernel
theorem dL_isTrue_7 : decode cL_isTrue 7 = .ok (.ifCond .eq 7, 3) := by decide +kernel
theorem dL_isTrue_10 : decode cL_isTrue 10 = .ok (.lconst 1, 1) := by decide +kernel
theorem dL_isTrue_11 : decode cL_isTrue 11 = .ok (.goto 4, 3) := by decide +kernel
theorem dL_isTrue_14 : decode cL_isTrue 14 = .ok (.lconst 0, 1) := by decide +kernel
theorem dL_isTrue_15 : decode cL_isTrue 15 = .ok (.lastore, 1) := by decide +kernel
theorem dL_isTrue_16 : decode cL_isTrue 16 = .ok (.goto 9, 3) := by decide +kernel
theorem dL_isTrue_19 : decode cL_isTrue 19 = .ok (.astore_n 3, 1) := by decide +kernel
theorem dL_isTrue_20 : decode cL_isTrue 20 = .ok (.iconst 1, 1) := by decide +kernel
theorem dL_isTrue_21 : decode cL_isTrue 21 = .ok (.ireturn, 1) := by decide +kernel
theorem dL_isTrue_22 : decode cL_isTrue 22 = .ok (.astore_n 3, 1) := by decide +kernel
theorem dL_isTrue_23 : decode cL_isTrue 23 = .ok (.iconst 2, 1) := by decide +kernel
theorem dL_isTrue_24 : decode cL_isTrue 24 = .ok (.ireturn, 1) := by decide +kernel
theorem dL_isTrue_25 : decode cL_isTrue 25 = .ok (.iconst 0, 1) := by decide +kernel
theorem dL_isTrue_26 : decode cL_isTrue 26 = .ok (.ireturn, 1) := by decide +kernel
theorem dL_rootIsTrue_0 : decode cL_rootIsTrue 0 = .ok (.aload_n 3, 1) := by decide +kernel
theorem dL_rootIsTrue_1 : decode cL_rootIsTrue 1 = .ok (.iconst 0, 1) := by decide +kernel
theorem dL_rootIsTrue_2 : decode cL_rootIsTrue 2 = .ok (.aload_n 0, 1) := by decide +kernel
theorem dL_rootIsTrue_3 : decode cL_rootIsTrue 3 = .ok (.lload_n 1, 1) := by decide +kernel
theorem dL_rootIsTrue_4 : decode cL_rootIsTrue 4 = .ok (.invokevirtual 117, 3) := by decide +kernel
theorem dL_rootIsTrue_7 : decode cL_rootIsTrue 7 = .ok (.ifCond .eq 7, 3) := by decide +kernel
theorem dL_rootIsTrue_10 : decode cL_rootIsTrue 10 = .ok (.lconst 1, 1) := by decide +kernel
theorem dL_rootIsTrue_11 : decode cL_rootIsTrue 11 = .ok (.goto 4, 3) := by decide +kernel
theorem dL_rootIsTrue_14 : decode cL_rootIsTrue 14 = .ok (.lconst 0, 1) := by decide +kernel
theorem dL_rootIsTrue_15 : decode cL_rootIsTrue 15 = .ok (.lastore, 1) := by decide +kernel
theorem dL_rootIsTrue_16 : decode cL_rootIsTrue 16 = .ok (.goto 7, 3) := by decide +kernel
theorem dL_rootIsTrue_19 : decode cL_rootIsTrue 19 = .ok (.astore 4, 2) := by decide +kernel
theorem dL_rootIsTrue_21 : decode cL_rootIsTrue 21 = .ok (.iconst 1, 1) := by decide +kernel
theorem dL_rootIsTrue_22 : decode cL_rootIsTrue 22 = .ok (.ireturn, 1) := by decide +kernel
theorem dL_rootIsTrue_23 : decode cL_rootIsTrue 23 = .ok (.iconst 0, 1) := by decide +kernel
theorem dL_rootIsTrue_24 : decode cL_rootIsTrue 24 = .ok (.ireturn, 1) := by decide +kernel
theorem dL_hypotIsTrue_0 : decode cL_hypotIsTrue 0 = .ok (.aload_n 3, 1) := by decide +kernel
theorem dL_hypotIsTrue_1 : decode cL_hypotIsTrue 1 = .ok (.iconst 0, 1) := by decide +kernel
theorem dL_hypotIsTrue_2 : decode cL_hypotIsTrue 2 = .ok (.aload_n 0, 1) := by decide +kernel
theorem dL_hypotIsTrue_3 : decode cL_hypotIsTrue 3 = .ok (.iload_n 1, 1) := by decide +kernel
theorem dL_hypotIsTrue_4 : decode cL_hypotIsTrue 4 = .ok (.iload_n 2, 1) := by decide +kernel
theorem dL_hypotIsTrue_5 : decode cL_hypotIsTrue 5 = .ok (.invokevirtual 121, 3) := by decide +kernel
theorem dL_hypotIsTrue_8 : decode cL_hypotIsTrue 8 = .ok (.ifCond .eq 7, 3) := by decide +kernel
theorem dL_hypotIsTrue_11 : decode cL_hypotIsTrue 11 = .ok (.lconst 1, 1) := by decide +kernel
theorem dL_hypotIsTrue_12 : decode cL_hypotIsTrue 12 = .ok (.goto 4, 3) := by decide +kernel
theorem dL_hypotIsTrue_15 : decode cL_hypotIsTrue 15 = .ok (.lconst 0, 1) := by decide +kernel
theorem dL_hypotIsTrue_16 : decode cL_hypotIsTrue 16 = .ok (.lastore, 1) := by decide +kernel
theorem dL_hypotIsTrue_17 : decode cL_hypotIsTrue 17 = .ok (.goto 7, 3) := by decide +kernel
theorem dL_hypotIsTrue_20 : decode cL_hypotIsTrue 20 = .ok (.astore 4, 2) := by decide +kernel
theorem dL_hypotIsTrue_22 : decode cL_hypotIsTrue 22 = .ok (.iconst 1, 1) := by decide +kernel
theorem dL_hypotIsTrue_23 : decode cL_hypotIsTrue 23 = .ok (.ireturn, 1) := by decide +kernel
theorem dL_hypotIsTrue_24 : decode cL_hypotIsTrue 24 = .ok (.iconst 0, 1) := by decide +kernel
theorem dL_hypotIsTrue_25 : decode cL_hypotIsTrue 25 = .ok (.ireturn, 1) := by decide +kernel
theorem dL_listIsTrue_0 : decode cL_listIsTrue 0 = .ok (.aload_n 2, 1) := by decide +kernel
theorem dL_listIsTrue_1 : decode cL_listIsTrue 1 = .ok (.iconst 0, 1) := by decide +kernel
theorem dL_listIsTrue_2 : decode cL_listIsTrue 2 = .ok (.aload_n 0, 1) := by decide +kernel
theorem dL_listIsTrue_3 : decode cL_listIsTrue 3 = .ok (.iload_n 1, 1) := by decide +kernel
theorem dL_listIsTrue_4 : decode cL_listIsTrue 4 = .ok (.invokevirtual 125, 3) := by decide +kernel
theorem dL_listIsTrue_7 : decode cL_listIsTrue 7 = .ok (.ifCond .eq 7, 3) := by decide +kernel
theorem dL_listIsTrue_10 : decode cL_listIsTrue 10 = .ok (.lconst 1, 1) := by decide +kernel
theorem dL_listIsTrue_11 : decode cL_listIsTrue 11 = .ok (.goto 4, 3) := by decide +kernel
theorem dL_listIsTrue_14 : decode cL_listIsTrue 14 = .ok (.lconst 0, 1) := by decide +kernel
theorem dL_listIsTrue_15 : decode cL_listIsTrue 15 = .ok (.lastore, 1) := by decide +kernel
theorem dL_listIsTrue_16 : decode cL_listIsTrue 16 = .ok (.goto 6, 3) := by decide +kernel
theorem dL_listIsTrue_19 : decode cL_listIsTrue 19 = .ok (.astore_n 3, 1) := by decide +kernel
theorem dL_listIsTrue_20 : decode cL_listIsTrue 20 = .ok (.iconst 1, 1) := by decide +kernel
theorem dL_listIsTrue_21 : decode cL_listIsTrue 21 = .ok (.ireturn, 1) := by decide +kernel
theorem dL_listIsTrue_22 : decode cL_listIsTrue 22 = .ok (.iconst 0, 1) := by decide +kernel
theorem dL_listIsTrue_23 : decode cL_listIsTrue 23 = .ok (.ireturn, 1) := by decide +kernel
theorem dL_countIsTrue_0 : decode cL_countIsTrue 0 = .ok (.aload_n 2, 1) := by decide +kernel
theorem dL_countIsTrue_1 : decode cL_countIsTrue 1 = .ok (.iconst 0, 1) := by decide +kernel
theorem dL_countIsTrue_2 : decode cL_countIsTrue 2 = .ok (.aload_n 0, 1) := by decide +kernel
theorem dL_countIsTrue_3 : decode cL_countIsTrue 3 = .ok (.iload_n 1, 1) := by decide +kernel
theorem dL_countIsTrue_4 : decode cL_countIsTrue 4 = .ok (.invokevirtual 128, 3) := by decide +kernel
theorem dL_countIsTrue_7 : decode cL_countIsTrue 7 = .ok (.ifCond .eq 7, 3) := by decide +kernel
theorem dL_countIsTrue_10 : decode cL_countIsTrue 10 = .ok (.lconst 1, 1) := by decide +kernel
theorem dL_countIsTrue_11 : decode cL_countIsTrue 11 = .ok (.goto 4, 3) := by decide +kernel
theorem dL_countIsTrue_14 : decode cL_countIsTrue 14 = .ok (.lconst 0, 1) := by decide +kernel
theorem dL_countIsTrue_15 : decode cL_countIsTrue 15 = .ok (.lastore, 1) := by decide +kernel
theorem dL_countIsTrue_16 : decode cL_countIsTrue 16 = .ok (.goto 6, 3) := by decide +kernel
theorem dL_countIsTrue_19 : decode cL_countIsTrue 19 = .ok (.astore_n 3, 1) := by decide +kernel
theorem dL_countIsTrue_20 : decode cL_countIsTrue 20 = .ok (.iconst 1, 1) := by decide +kernel
theorem dL_countIsTrue_21 : decode cL_countIsTrue 21 = .ok (.ireturn, 1) := by decide +kernel
theorem dL_countIsTrue_22 : decode cL_countIsTrue 22 = .ok (.iconst 0, 1) := by decide +kernel
theorem dL_countIsTrue_23 : decode cL_countIsTrue 23 = .ok (.ireturn, 1) := by decide +kernel

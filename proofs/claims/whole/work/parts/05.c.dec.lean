theorem dX5_wide_6 : decode cX5_wide 6 = .ok (.goto 4, 3) := by decide +kernel
theorem dX5_wide_9 : decode cX5_wide 9 = .ok (.iload_n 1, 1) := by decide +kernel
theorem dX5_wide_10 : decode cX5_wide 10 = .ok (.istore_n 2, 1) := by decide +kernel
theorem dX5_wide_11 : decode cX5_wide 11 = .ok (.iload_n 2, 1) := by decide +kernel
theorem dX5_wide_12 : decode cX5_wide 12 = .ok (.bipush 10, 2) := by decide +kernel
theorem dX5_wide_14 : decode cX5_wide 14 = .ok (.idiv, 1) := by decide +kernel
theorem dX5_wide_15 : decode cX5_wide 15 = .ok (.istore_n 3, 1) := by decide +kernel
theorem dX5_wide_16 : decode cX5_wide 16 = .ok (.iload_n 2, 1) := by decide +kernel
theorem dX5_wide_17 : decode cX5_wide 17 = .ok (.bipush 10, 2) := by decide +kernel
theorem dX5_wide_19 : decode cX5_wide 19 = .ok (.irem, 1) := by decide +kernel
theorem dX5_wide_20 : decode cX5_wide 20 = .ok (.istore 4, 2) := by decide +kernel
theorem dX5_wide_22 : decode cX5_wide 22 = .ok (.bipush 10, 2) := by decide +kernel
theorem dX5_wide_24 : decode cX5_wide 24 = .ok (.iload 4, 2) := by decide +kernel
theorem dX5_wide_26 : decode cX5_wide 26 = .ok (.isub, 1) := by decide +kernel
theorem dX5_wide_27 : decode cX5_wide 27 = .ok (.aload_n 0, 1) := by decide +kernel
theorem dX5_wide_28 : decode cX5_wide 28 = .ok (.getfield 7, 3) := by decide +kernel
theorem dX5_wide_31 : decode cX5_wide 31 = .ok (.iload_n 3, 1) := by decide +kernel
theorem dX5_wide_32 : decode cX5_wide 32 = .ok (.iaload, 1) := by decide +kernel
theorem dX5_wide_33 : decode cX5_wide 33 = .ok (.imul, 1) := by decide +kernel
theorem dX5_wide_34 : decode cX5_wide 34 = .ok (.iload 4, 2) := by decide +kernel
theorem dX5_wide_36 : decode cX5_wide 36 = .ok (.ifCond .le 17, 3) := by decide +kernel
theorem dX5_wide_39 : decode cX5_wide 39 = .ok (.iload 4, 2) := by decide +kernel
theorem dX5_wide_41 : decode cX5_wide 41 = .ok (.aload_n 0, 1) := by decide +kernel
theorem dX5_wide_42 : decode cX5_wide 42 = .ok (.getfield 7, 3) := by decide +kernel
theorem dX5_wide_45 : decode cX5_wide 45 = .ok (.iload_n 3, 1) := by decide +kernel
theorem dX5_wide_46 : decode cX5_wide 46 = .ok (.iconst 1, 1) := by decide +kernel
theorem dX5_wide_47 : decode cX5_wide 47 = .ok (.iadd, 1) := by decide +kernel
theorem dX5_wide_48 : decode cX5_wide 48 = .ok (.iaload, 1) := by decide +kernel
theorem dX5_wide_49 : decode cX5_wide 49 = .ok (.imul, 1) := by decide +kernel
theorem dX5_wide_50 : decode cX5_wide 50 = .ok (.goto 4, 3) := by decide +kernel
theorem dX5_wide_53 : decode cX5_wide 53 = .ok (.iconst 0, 1) := by decide +kernel
theorem dX5_wide_54 : decode cX5_wide 54 = .ok (.iadd, 1) := by decide +kernel
theorem dX5_wide_55 : decode cX5_wide 55 = .ok (.ireturn, 1) := by decide +kernel
theorem dX5_high_0 : decode cX5_high 0 = .ok (.iload_n 1, 1) := by decide +kernel
theorem dX5_high_1 : decode cX5_high 1 = .ok (.ifCond .ge 8, 3) := by decide +kernel
theorem dX5_high_4 : decode cX5_high 4 = .ok (.iload_n 1, 1) := by decide +kernel
theorem dX5_high_5 : decode cX5_high 5 = .ok (.ineg, 1) := by decide +kernel
theorem dX5_high_6 : decode cX5_high 6 = .ok (.goto 4, 3) := by decide +kernel
theorem dX5_high_9 : decode cX5_high 9 = .ok (.iload_n 1, 1) := by decide +kernel
theorem dX5_high_10 : decode cX5_high 10 = .ok (.istore_n 2, 1) := by decide +kernel
theorem dX5_high_11 : decode cX5_high 11 = .ok (.iload_n 2, 1) := by decide +kernel
theorem dX5_high_12 : decode cX5_high 12 = .ok (.bipush 10, 2) := by decide +kernel
theorem dX5_high_14 : decode cX5_high 14 = .ok (.idiv, 1) := by decide +kernel
theorem dX5_high_15 : decode cX5_high 15 = .ok (.istore_n 3, 1) := by decide +kernel
theorem dX5_high_16 : decode cX5_high 16 = .ok (.iload_n 2, 1) := by decide +kernel
theorem dX5_high_17 : decode cX5_high 17 = .ok (.bipush 10, 2) := by decide +kernel
theorem dX5_high_19 : decode cX5_high 19 = .ok (.irem, 1) := by decide +kernel
theorem dX5_high_20 : decode cX5_high 20 = .ok (.istore 4, 2) := by decide +kernel
theorem dX5_high_22 : decode cX5_high 22 = .ok (.bipush 10, 2) := by decide +kernel
theorem dX5_high_24 : decode cX5_high 24 = .ok (.iload 4, 2) := by decide +kernel
theorem dX5_high_26 : decode cX5_high 26 = .ok (.isub, 1) := by decide +kernel
theorem dX5_high_27 : decode cX5_high 27 = .ok (.aload_n 0, 1) := by decide +kernel
theorem dX5_high_28 : decode cX5_high 28 = .ok (.getfield 13, 3) := by decide +kernel
theorem dX5_high_31 : decode cX5_high 31 = .ok (.iload_n 3, 1) := by decide +kernel
theorem dX5_high_32 : decode cX5_high 32 = .ok (.iaload, 1) := by decide +kernel
theorem dX5_high_33 : decode cX5_high 33 = .ok (.imul, 1) := by decide +kernel
theorem dX5_high_34 : decode cX5_high 34 = .ok (.iload 4, 2) := by decide +kernel
theorem dX5_high_36 : decode cX5_high 36 = .ok (.ifCond .le 17, 3) := by decide +kernel
theorem dX5_high_39 : decode cX5_high 39 = .ok (.iload 4, 2) := by decide +kernel
theorem dX5_high_41 : decode cX5_high 41 = .ok (.aload_n 0, 1) := by decide +kernel
theorem dX5_high_42 : decode cX5_high 42 = .ok (.getfield 13, 3) := by decide +kernel
theorem dX5_high_45 : decode cX5_high 45 = .ok (.iload_n 3, 1) := by decide +kernel
theorem dX5_high_46 : decode cX5_high 46 = .ok (.iconst 1, 1) := by decide +kernel
theorem dX5_high_47 : decode cX5_high 47 = .ok (.iadd, 1) := by decide +kernel
theorem dX5_high_48 : decode cX5_high 48 = .ok (.iaload, 1) := by decide +kernel
theorem dX5_high_49 : decode cX5_high 49 = .ok (.imul, 1) := by decide +kernel
theorem dX5_high_50 : decode cX5_high 50 = .ok (.goto 4, 3) := by decide +kernel
theorem dX5_high_53 : decode cX5_high 53 = .ok (.iconst 0, 1) := by decide +kernel
theorem dX5_high_54 : decode cX5_high 54 = .ok (.iadd, 1) := by decide +kernel
theorem dX5_high_55 : decode cX5_high 55 = .ok (.istore 5, 2) := by decide +kernel
theorem dX5_high_57 : decode cX5_high 57 = .ok (.iload_n 1, 1) := by decide +kernel
theorem dX5_high_58 : decode cX5_high 58 = .ok (.ifCond .ge 9, 3) := by decide +kernel
theorem dX5_high_61 : decode cX5_high 61 = .ok (.iload 5, 2) := by decide +kernel
theorem dX5_high_63 : decode cX5_high 63 = .ok (.ineg, 1) := by decide +kernel
theorem dX5_high_64 : decode cX5_high 64 = .ok (.goto 5, 3) := by decide +kernel
theorem dX5_high_67 : decode cX5_high 67 = .ok (.iload 5, 2) := by decide +kernel
theorem dX5_high_69 : decode cX5_high 69 = .ok (.ireturn, 1) := by decide +kernel
theorem dX5_x_0 : decode cX5_x 0 = .ok (.aload_n 0, 1) := by decide +kernel
theorem dX5_x_1 : decode cX5_x 1 = .ok (.iload_n 1, 1) := by decide +kernel
theorem dX5_x_2 : decode cX5_x 2 = .ok (.invokestatic 52, 3) := by decide +kernel
theorem dX5_x_5 : decode cX5_x 5 = .ok (.ifCond .eq 14, 3) := by decide +kernel
theorem dX5_x_8 : decode cX5_x 8 = .ok (.iload_n 2, 1) := by decide +kernel
theorem dX5_x_9 : decode cX5_x 9 = .ok (.invokestatic 56, 3) := by decide +kernel
theorem dX5_x_12 : decode cX5_x 12 = .ok (.ifCond .eq 7, 3) := by decide +kernel
theorem dX5_x_15 : decode cX5_x 15 = .ok (.iconst 1, 1) := by decide +kernel
theorem dX5_x_16 : decode cX5_x 16 = .ok (.goto 4, 3) := by decide +kernel
theorem dX5_x_19 : decode cX5_x 19 = .ok (.iconst 0, 1) := by decide +kernel
theorem dX5_x_20 : decode cX5_x 20 = .ok (.invokevirtual 59, 3) := by decide +kernel
theorem dX5_x_23 : decode cX5_x 23 = .ok (.ifCond .eq 13, 3) := by decide +kernel
theorem dX5_x_26 : decode cX5_x 26 = .ok (.iload_n 2, 1) := by decide +kernel
theorem dX5_x_27 : decode cX5_x 27 = .ok (.aload_n 0, 1) := by decide +kernel
theorem dX5_x_28 : decode cX5_x 28 = .ok (.iload_n 1, 1) := by decide +kernel
theorem dX5_x_29 : decode cX5_x 29 = .ok (.invokevirtual 63, 3) := by decide +kernel
theorem dX5_x_32 : decode cX5_x 32 = .ok (.imul, 1) := by decide +kernel
theorem dX5_x_33 : decode cX5_x 33 = .ok (.goto 4, 3) := by decide +kernel
theorem dX5_x_36 : decode cX5_x 36 = .ok (.iconst 0, 1) := by decide +kernel
theorem dX5_x_37 : decode cX5_x 37 = .ok (.ireturn, 1) := by decide +kernel
theorem dX5_y_0 : decode cX5_y 0 = .ok (.aload_n 0, 1) := by decide +kernel
theorem dX5_y_1 : decode cX5_y 1 = .ok (.iload_n 1, 1) := by decide +kernel
theorem dX5_y_2 : decode cX5_y 2 = .ok (.invokestatic 52, 3) := by decide +kernel
theorem dX5_y_5 : decode cX5_y 5 = .ok (.invokevirtual 59, 3) := by decide +kernel
theorem dX5_y_8 : decode cX5_y 8 = .ok (.ifCond .eq 11, 3) := by decide +kernel
theorem dX5_y_11 : decode cX5_y 11 = .ok (.aload_n 0, 1) := by decide +kernel
theorem dX5_y_12 : decode cX5_y 12 = .ok (.iload_n 1, 1) := by decide +kernel
theorem dX5_y_13 : decode cX5_y 13 = .ok (.invokevirtual 67, 3) := by decide +kernel
theorem dX5_y_16 : decode cX5_y 16 = .ok (.goto 4, 3) := by decide +kernel
theorem dX5_y_19 : decode cX5_y 19 = .ok (.iconst 0, 1) := by decide +kernel
theorem dX5_y_20 : decode cX5_y 20 = .ok (.ireturn, 1) := by decide +kernel
theorem dX5_latitudeAt_0 : decode cX5_latitudeAt 0 = .ok (.aload_n 0, 1) := by decide +kernel
theorem dX5_latitudeAt_1 : decode cX5_latitudeAt 1 = .ok (.iload_n 1, 1) := by decide +kernel
theorem dX5_latitudeAt_2 : decode cX5_latitudeAt 2 = .ok (.ldc 70, 2) := by decide +kernel
theorem dX5_latitudeAt_4 : decode cX5_latitudeAt 4 = .ok (.if_icmp .lt 13, 3) := by decide +kernel
theorem dX5_latitudeAt_7 : decode cX5_latitudeAt 7 = .ok (.iload_n 1, 1) := by decide +kernel
theorem dX5_latitudeAt_8 : decode cX5_latitudeAt 8 = .ok (.ldc 71, 2) := by decide +kernel
theorem dX5_latitudeAt_10 : decode cX5_latitudeAt 10 = .ok (.if_icmp .gt 7, 3) := by decide +kernel
theorem dX5_latitudeAt_13 : decode cX5_latitudeAt 13 = .ok (.iconst 1, 1) := by decide +kernel
theorem dX5_latitudeAt_14 : decode cX5_latitudeAt 14 = .ok (.goto 4, 3) := by decide +kernel
theorem dX5_latitudeAt_17 : decode cX5_latitudeAt 17 = .ok (.iconst 0, 1) := by decide +kernel
theorem dX5_latitudeAt_18 : decode cX5_latitudeAt 18 = .ok (.aload_n 0, 1) := by decide +kernel
theorem dX5_latitudeAt_19 : decode cX5_latitudeAt 19 = .ok (.bipush (-90), 2) := by decide +kernel
theorem dX5_latitudeAt_21 : decode cX5_latitudeAt 21 = .ok (.invokevirtual 67, 3) := by decide +kernel
theorem dX5_latitudeAt_24 : decode cX5_latitudeAt 24 = .ok (.iload_n 1, 1) := by decide +kernel
theorem dX5_latitudeAt_25 : decode cX5_latitudeAt 25 = .ok (.if_icmp .gt 7, 3) := by decide +kernel
theorem dX5_latitudeAt_28 : decode cX5_latitudeAt 28 = .ok (.iconst 1, 1) := by decide +kernel
theorem dX5_latitudeAt_29 : decode cX5_latitudeAt 29 = .ok (.goto 4, 3) := by decide +kernel
theorem dX5_latitudeAt_32 : decode cX5_latitudeAt 32 = .ok (.iconst 0, 1) := by decide +kernel
theorem dX5_latitudeAt_33 : decode cX5_latitudeAt 33 = .ok (.invokevirtual 72, 3) := by decide +kernel
theorem dX5_latitudeAt_36 : decode cX5_latitudeAt 36 = .ok (.ifCond .ne 5, 3) := by decide +kernel
theorem dX5_latitudeAt_39 : decode cX5_latitudeAt 39 = .ok (.iconst 0, 1) := by decide +kernel
theorem dX5_latitudeAt_40 : decode cX5_latitudeAt 40 = .ok (.ireturn, 1) := by decide +kernel
theorem dX5_latitudeAt_41 : decode cX5_latitudeAt 41 = .ok (.bipush 90, 2) := by decide +kernel
theorem dX5_latitudeAt_43 : decode cX5_latitudeAt 43 = .ok (.istore_n 2, 1) := by decide +kernel
theorem dX5_latitudeAt_44 : decode cX5_latitudeAt 44 = .ok (.aload_n 0, 1) := by decide +kernel
theorem dX5_latitudeAt_45 : decode cX5_latitudeAt 45 = .ok (.iload_n 2, 1) := by decide +kernel
theorem dX5_latitudeAt_46 : decode cX5_latitudeAt 46 = .ok (.invokevirtual 67, 3) := by decide +kernel
theorem dX5_latitudeAt_49 : decode cX5_latitudeAt 49 = .ok (.iload_n 1, 1) := by decide +kernel
theorem dX5_latitudeAt_50 : decode cX5_latitudeAt 50 = .ok (.if_icmp .le 9, 3) := by decide +kernel
theorem dX5_latitudeAt_53 : decode cX5_latitudeAt 53 = .ok (.iinc 2 (-1), 3) := by decide +kernel
theorem dX5_latitudeAt_56 : decode cX5_latitudeAt 56 = .ok (.goto (-12), 3) := by decide +kernel
theorem dX5_latitudeAt_59 : decode cX5_latitudeAt 59 = .ok (.iload_n 2, 1) := by decide +kernel
theorem dX5_latitudeAt_60 : decode cX5_latitudeAt 60 = .ok (.ireturn, 1) := by decide +kernel
theorem dX5_areaOf_0 : decode cX5_areaOf 0 = .ok (.lconst 0, 1) := by decide +kernel
theorem dX5_areaOf_1 : decode cX5_areaOf 1 = .ok (.lstore 4, 2) := by decide +kernel
theorem dX5_areaOf_3 : decode cX5_areaOf 3 = .ok (.iload_n 1, 1) := by decide +kernel
theorem dX5_areaOf_4 : decode cX5_areaOf 4 = .ok (.istore 6, 2) := by decide +kernel
theorem dX5_areaOf_6 : decode cX5_areaOf 6 = .ok (.iload 6, 2) := by decide +kernel
theorem dX5_areaOf_8 : decode cX5_areaOf 8 = .ok (.iload_n 2, 1) := by decide +kernel
theorem dX5_areaOf_9 : decode cX5_areaOf 9 = .ok (.if_icmp .ge 50, 3) := by decide +kernel
theorem dX5_areaOf_12 : decode cX5_areaOf 12 = .ok (.lload 4, 2) := by decide +kernel
theorem dX5_areaOf_14 : decode cX5_areaOf 14 = .ok (.iload_n 3, 1) := by decide +kernel
theorem dX5_areaOf_15 : decode cX5_areaOf 15 = .ok (.i2l, 1) := by decide +kernel
theorem dX5_areaOf_16 : decode cX5_areaOf 16 = .ok (.aload_n 0, 1) := by decide +kernel
theorem dX5_areaOf_17 : decode cX5_areaOf 17 = .ok (.iload 6, 2) := by decide +kernel
theorem dX5_areaOf_19 : decode cX5_areaOf 19 = .ok (.invokevirtual 63, 3) := by decide +kernel
theorem dX5_areaOf_22 : decode cX5_areaOf 22 = .ok (.aload_n 0, 1) := by decide +kernel
theorem dX5_areaOf_23 : decode cX5_areaOf 23 = .ok (.iload 6, 2) := by decide +kernel
theorem dX5_areaOf_25 : decode cX5_areaOf 25 = .ok (.iconst 1, 1) := by decide +kernel
theorem dX5_areaOf_26 : decode cX5_areaOf 26 = .ok (.iadd, 1) := by decide +kernel
theorem dX5_areaOf_27 : decode cX5_areaOf 27 = .ok (.invokevirtual 63, 3) := by decide +kernel
theorem dX5_areaOf_30 : decode cX5_areaOf 30 = .ok (.iadd, 1) := by decide +kernel
theorem dX5_areaOf_31 : decode cX5_areaOf 31 = .ok (.i2l, 1) := by decide +kernel
theorem dX5_areaOf_32 : decode cX5_areaOf 32 = .ok (.lmul, 1) := by decide +kernel
theorem dX5_areaOf_33 : decode cX5_areaOf 33 = .ok (.aload_n 0, 1) := by decide +kernel
theorem dX5_areaOf_34 : decode cX5_areaOf 34 = .ok (.iload 6, 2) := by decide +kernel
theorem dX5_areaOf_36 : decode cX5_areaOf 36 = .ok (.iconst 1, 1) := by decide +kernel
theorem dX5_areaOf_37 : decode cX5_areaOf 37 = .ok (.iadd, 1) := by decide +kernel
theorem dX5_areaOf_38 : decode cX5_areaOf 38 = .ok (.invokevirtual 67, 3) := by decide +kernel
theorem dX5_areaOf_41 : decode cX5_areaOf 41 = .ok (.aload_n 0, 1) := by decide +kernel
theorem dX5_areaOf_42 : decode cX5_areaOf 42 = .ok (.iload 6, 2) := by decide +kernel
theorem dX5_areaOf_44 : decode cX5_areaOf 44 = .ok (.invokevirtual 67, 3) := by decide +kernel
theorem dX5_areaOf_47 : decode cX5_areaOf 47 = .ok (.isub, 1) := by decide +kernel
theorem dX5_areaOf_48 : decode cX5_areaOf 48 = .ok (.i2l, 1) := by decide +kernel
theorem dX5_areaOf_49 : decode cX5_areaOf 49 = .ok (.lmul, 1) := by decide +kernel
theorem dX5_areaOf_50 : decode cX5_areaOf 50 = .ok (.ladd, 1) := by decide +kernel
theorem dX5_areaOf_51 : decode cX5_areaOf 51 = .ok (.lstore 4, 2) := by decide +kernel
theorem dX5_areaOf_53 : decode cX5_areaOf 53 = .ok (.iinc 6 1, 3) := by decide +kernel
theorem dX5_areaOf_56 : decode cX5_areaOf 56 = .ok (.goto (-50), 3) := by decide +kernel
theorem dX5_areaOf_59 : decode cX5_areaOf 59 = .ok (.lload 4, 2) := by decide +kernel
theorem dX5_areaOf_61 : decode cX5_areaOf 61 = .ok (.lreturn, 1) := by decide +kernel
theorem dX5_area_0 : decode cX5_area 0 = .ok (.iload_n 1, 1) := by decide +kernel
theorem dX5_area_1 : decode cX5_area 1 = .ok (.invokestatic 52, 3) := by decide +kernel
theorem dX5_area_4 : decode cX5_area 4 = .ok (.ifCond .eq 40, 3) := by decide +kernel
theorem dX5_area_7 : decode cX5_area 7 = .ok (.iload_n 2, 1) := by decide +kernel
theorem dX5_area_8 : decode cX5_area 8 = .ok (.invokestatic 52, 3) := by decide +kernel
theorem dX5_area_11 : decode cX5_area 11 = .ok (.ifCond .eq 33, 3) := by decide +kernel
theorem dX5_area_14 : decode cX5_area 14 = .ok (.iload_n 1, 1) := by decide +kernel
theorem dX5_area_15 : decode cX5_area 15 = .ok (.iload_n 2, 1) := by decide +kernel
theorem dX5_area_16 : decode cX5_area 16 = .ok (.if_icmp .gt 28, 3) := by decide +kernel
theorem dX5_area_19 : decode cX5_area 19 = .ok (.iload_n 3, 1) := by decide +kernel
theorem dX5_area_20 : decode cX5_area 20 = .ok (.sipush (-180), 3) := by decide +kernel
theorem dX5_area_23 : decode cX5_area 23 = .ok (.if_icmp .lt 21, 3) := by decide +kernel
theorem dX5_area_26 : decode cX5_area 26 = .ok (.iload 4, 2) := by decide +kernel
theorem dX5_area_28 : decode cX5_area 28 = .ok (.sipush 180, 3) := by decide +kernel
theorem dX5_area_31 : decode cX5_area 31 = .ok (.if_icmp .gt 13, 3) := by decide +kernel
theorem dX5_area_34 : decode cX5_area 34 = .ok (.iload_n 3, 1) := by decide +kernel
theorem dX5_area_35 : decode cX5_area 35 = .ok (.iload 4, 2) := by decide +kernel
theorem dX5_area_37 : decode cX5_area 37 = .ok (.if_icmp .gt 7, 3) := by decide +kernel
theorem dX5_area_40 : decode cX5_area 40 = .ok (.iconst 1, 1) := by decide +kernel
theorem dX5_area_41 : decode cX5_area 41 = .ok (.goto 4, 3) := by decide +kernel
theorem dX5_area_44 : decode cX5_area 44 = .ok (.iconst 0, 1) := by decide +kernel
theorem dX5_area_45 : decode cX5_area 45 = .ok (.istore 5, 2) := by decide +kernel
theorem dX5_area_47 : decode cX5_area 47 = .ok (.aload_n 0, 1) := by decide +kernel
theorem dX5_area_48 : decode cX5_area 48 = .ok (.iload 5, 2) := by decide +kernel
theorem dX5_area_50 : decode cX5_area 50 = .ok (.invokevirtual 59, 3) := by decide +kernel
theorem dX5_area_53 : decode cX5_area 53 = .ok (.ifCond .eq 16, 3) := by decide +kernel
theorem dX5_area_56 : decode cX5_area 56 = .ok (.aload_n 0, 1) := by decide +kernel
theorem dX5_area_57 : decode cX5_area 57 = .ok (.iload_n 1, 1) := by decide +kernel
theorem dX5_area_58 : decode cX5_area 58 = .ok (.iload_n 2, 1) := by decide +kernel
theorem dX5_area_59 : decode cX5_area 59 = .ok (.iload 4, 2) := by decide +kernel
theorem dX5_area_61 : decode cX5_area 61 = .ok (.iload_n 3, 1) := by decide +kernel
theorem dX5_area_62 : decode cX5_area 62 = .ok (.isub, 1) := by decide +kernel
theorem dX5_area_63 : decode cX5_area 63 = .ok (.invokevirtual 76, 3) := by decide +kernel
theorem dX5_area_66 : decode cX5_area 66 = .ok (.goto 4, 3) := by decide +kernel
theorem dX5_area_69 : decode cX5_area 69 = .ok (.lconst 0, 1) := by decide +kernel
theorem dX5_area_70 : decode cX5_area 70 = .ok (.lreturn, 1) := by decide +kernel
theorem dX5_areaByCells_0 : decode cX5_areaByCells 0 = .ok (.aload_n 0, 1) := by decide +kernel
theorem dX5_areaByCells_1 : decode cX5_areaByCells 1 = .ok (.iload_n 1, 1) := by decide +kernel
theorem dX5_areaByCells_2 : decode cX5_areaByCells 2 = .ok (.iload_n 2, 1) := by decide +kernel
theorem dX5_areaByCells_3 : decode cX5_areaByCells 3 = .ok (.iload_n 3, 1) := by decide +kernel
theorem dX5_areaByCells_4 : decode cX5_areaByCells 4 = .ok (.iload 4, 2) := by decide +kernel
theorem dX5_areaByCells_6 : decode cX5_areaByCells 6 = .ok (.invokevirtual 80, 3) := by decide +kernel
theorem dX5_areaByCells_9 : decode cX5_areaByCells 9 = .ok (.lreturn, 1) := by decide +kernel
theorem dX5_bandOf_0 : decode cX5_bandOf 0 = .ok (.aload_n 0, 1) := by decide +kernel
theorem dX5_bandOf_1 : decode cX5_bandOf 1 = .ok (.bipush 10, 2) := by decide +kernel
theorem dX5_bandOf_3 : decode cX5_bandOf 3 = .ok (.iload_n 1, 1) := by decide +kernel
theorem dX5_bandOf_4 : decode cX5_bandOf 4 = .ok (.imul, 1) := by decide +kernel
theorem dX5_bandOf_5 : decode cX5_bandOf 5 = .ok (.bipush 10, 2) := by decide +kernel
theorem dX5_bandOf_7 : decode cX5_bandOf 7 = .ok (.iload_n 1, 1) := by decide +kernel
theorem dX5_bandOf_8 : decode cX5_bandOf 8 = .ok (.imul, 1) := by decide +kernel
theorem dX5_bandOf_9 : decode cX5_bandOf 9 = .ok (.bipush 10, 2) := by decide +kernel
theorem dX5_bandOf_11 : decode cX5_bandOf 11 = .ok (.iadd, 1) := by decide +kernel
theorem dX5_bandOf_12 : decode cX5_bandOf 12 = .ok (.sipush 360, 3) := by decide +kernel
theorem dX5_bandOf_15 : decode cX5_bandOf 15 = .ok (.invokevirtual 76, 3) := by decide +kernel
theorem dX5_bandOf_18 : decode cX5_bandOf 18 = .ok (.lreturn, 1) := by decide +kernel
theorem dX5_isBand_0 : decode cX5_isBand 0 = .ok (.iload_n 0, 1) := by decide +kernel
theorem dX5_isBand_1 : decode cX5_isBand 1 = .ok (.ifCond .lt 13, 3) := by decide +kernel
theorem dX5_isBand_4 : decode cX5_isBand 4 = .ok (.iload_n 0, 1) := by decide +kernel
theorem dX5_isBand_5 : decode cX5_isBand 5 = .ok (.bipush 8, 2) := by decide +kernel
theorem dX5_isBand_7 : decode cX5_isBand 7 = .ok (.if_icmp .gt 7, 3) := by decide +kernel
theorem dX5_isBand_10 : decode cX5_isBand 10 = .ok (.iconst 1, 1) := by decide +kernel
theorem dX5_isBand_11 : decode cX5_isBand 11 = .ok (.goto 4, 3) := by decide +kernel
theorem dX5_isBand_14 : decode cX5_isBand 14 = .ok (.iconst 0, 1) := by decide +kernel
theorem dX5_isBand_15 : decode cX5_isBand 15 = .ok (.ireturn, 1) := by decide +kernel
theorem dX5_truth_0 : decode cX5_truth 0 = .ok (.aload_n 0, 1) := by decide +kernel
theorem dX5_truth_1 : decode cX5_truth 1 = .ok (.iload_n 1, 1) := by decide +kernel
theorem dX5_truth_2 : decode cX5_truth 2 = .ok (.invokestatic 84, 3) := by decide +kernel
theorem dX5_truth_5 : decode cX5_truth 5 = .ok (.iload_n 2, 1) := by decide +kernel
theorem dX5_truth_6 : decode cX5_truth 6 = .ok (.iconst 1, 1) := by decide +kernel
theorem dX5_truth_7 : decode cX5_truth 7 = .ok (.if_icmp .lt 13, 3) := by decide +kernel
theorem dX5_truth_10 : decode cX5_truth 10 = .ok (.iload_n 2, 1) := by decide +kernel
theorem dX5_truth_11 : decode cX5_truth 11 = .ok (.ldc 87, 2) := by decide +kernel
theorem dX5_truth_13 : decode cX5_truth 13 = .ok (.if_icmp .gt 7, 3) := by decide +kernel
theorem dX5_truth_16 : decode cX5_truth 16 = .ok (.iconst 1, 1) := by decide +kernel
theorem dX5_truth_17 : decode cX5_truth 17 = .ok (.goto 4, 3) := by decide +kernel
theorem dX5_truth_20 : decode cX5_truth 20 = .ok (.iconst 0, 1) := by decide +kernel
theorem dX5_truth_21 : decode cX5_truth 21 = .ok (.invokevirtual 72, 3) := by decide +kernel
theorem dX5_truth_24 : decode cX5_truth 24 = .ok (.ifCond .ne 5, 3) := by decide +kernel
theorem dX5_truth_27 : decode cX5_truth 27 = .ok (.iconst 0, 1) := by decide +kernel
theorem dX5_truth_28 : decode cX5_truth 28 = .ok (.ireturn, 1) := by decide +kernel
theorem dX5_truth_29 : decode cX5_truth 29 = .ok (.aload_n 0, 1) := by decide +kernel
theorem dX5_truth_30 : decode cX5_truth 30 = .ok (.getfield 16, 3) := by decide +kernel
theorem dX5_truth_33 : decode cX5_truth 33 = .ok (.iload_n 1, 1) := by decide +kernel
theorem dX5_truth_34 : decode cX5_truth 34 = .ok (.iaload, 1) := by decide +kernel
theorem dX5_truth_35 : decode cX5_truth 35 = .ok (.istore_n 3, 1) := by decide +kernel
theorem dX5_truth_36 : decode cX5_truth 36 = .ok (.aload_n 0, 1) := by decide +kernel
theorem dX5_truth_37 : decode cX5_truth 37 = .ok (.getfield 16, 3) := by decide +kernel
theorem dX5_truth_40 : decode cX5_truth 40 = .ok (.iload_n 1, 1) := by decide +kernel
theorem dX5_truth_41 : decode cX5_truth 41 = .ok (.iload_n 2, 1) := by decide +kernel
theorem dX5_truth_42 : decode cX5_truth 42 = .ok (.iastore, 1) := by decide +kernel
theorem dX5_truth_43 : decode cX5_truth 43 = .ok (.iload_n 3, 1) := by decide +kernel
theorem dX5_truth_44 : decode cX5_truth 44 = .ok (.ireturn, 1) := by decide +kernel
theorem dX5_keepsAreas_0 : decode cX5_keepsAreas 0 = .ok (.aload_n 0, 1) := by decide +kernel
theorem dX5_keepsAreas_1 : decode cX5_keepsAreas 1 = .ok (.iconst 0, 1) := by decide +kernel
theorem dX5_keepsAreas_2 : decode cX5_keepsAreas 2 = .ok (.putfield 45, 3) := by decide +kernel
theorem dX5_keepsAreas_5 : decode cX5_keepsAreas 5 = .ok (.iconst 1, 1) := by decide +kernel
theorem dX5_keepsAreas_6 : decode cX5_keepsAreas 6 = .ok (.istore_n 1, 1) := by decide +kernel
theorem dX5_keepsAreas_7 : decode cX5_keepsAreas 7 = .ok (.iload_n 1, 1) := by decide +kernel
theorem dX5_keepsAreas_8 : decode cX5_keepsAreas 8 = .ok (.bipush 9, 2) := by decide +kernel
theorem dX5_keepsAreas_10 : decode cX5_keepsAreas 10 = .ok (.if_icmp .ge 54, 3) := by decide +kernel
theorem dX5_keepsAreas_13 : decode cX5_keepsAreas 13 = .ok (.iconst 0, 1) := by decide +kernel
theorem dX5_keepsAreas_14 : decode cX5_keepsAreas 14 = .ok (.istore_n 2, 1) := by decide +kernel
theorem dX5_keepsAreas_15 : decode cX5_keepsAreas 15 = .ok (.iload_n 2, 1) := by decide +kernel
theorem dX5_keepsAreas_16 : decode cX5_keepsAreas 16 = .ok (.iload_n 1, 1) := by decide +kernel
theorem dX5_keepsAreas_17 : decode cX5_keepsAreas 17 = .ok (.if_icmp .ge 41, 3) := by decide +kernel
theorem dX5_keepsAreas_20 : decode cX5_keepsAreas 20 = .ok (.aload_n 0, 1) := by decide +kernel
theorem dX5_keepsAreas_21 : decode cX5_keepsAreas 21 = .ok (.iload_n 1, 1) := by decide +kernel
theorem dX5_keepsAreas_22 : decode cX5_keepsAreas 22 = .ok (.invokevirtual 88, 3) := by decide +kernel
theorem dX5_keepsAreas_25 : decode cX5_keepsAreas 25 = .ok (.aload_n 0, 1) := by decide +kernel
theorem dX5_keepsAreas_26 : decode cX5_keepsAreas 26 = .ok (.getfield 16, 3) := by decide +kernel
theorem dX5_keepsAreas_29 : decode cX5_keepsAreas 29 = .ok (.iload_n 2, 1) := by decide +kernel
theorem dX5_keepsAreas_30 : decode cX5_keepsAreas 30 = .ok (.iaload, 1) := by decide +kernel
theorem dX5_keepsAreas_31 : decode cX5_keepsAreas 31 = .ok (.i2l, 1) := by decide +kernel
theorem dX5_keepsAreas_32 : decode cX5_keepsAreas 32 = .ok (.lmul, 1) := by decide +kernel
theorem dX5_keepsAreas_33 : decode cX5_keepsAreas 33 = .ok (.aload_n 0, 1) := by decide +kernel
theorem dX5_keepsAreas_34 : decode cX5_keepsAreas 34 = .ok (.iload_n 2, 1) := by decide +kernel
theorem dX5_keepsAreas_35 : decode cX5_keepsAreas 35 = .ok (.invokevirtual 88, 3) := by decide +kernel
theorem dX5_keepsAreas_38 : decode cX5_keepsAreas 38 = .ok (.aload_n 0, 1) := by decide +kernel
theorem dX5_keepsAreas_39 : decode cX5_keepsAreas 39 = .ok (.getfield 16, 3) := by decide +kernel
theorem dX5_keepsAreas_42 : decode cX5_keepsAreas 42 = .ok (.iload_n 1, 1) := by decide +kernel
theorem dX5_keepsAreas_43 : decode cX5_keepsAreas 43 = .ok (.iaload, 1) := by decide +kernel
theorem dX5_keepsAreas_44 : decode cX5_keepsAreas 44 = .ok (.i2l, 1) := by decide +kernel
theorem dX5_keepsAreas_45 : decode cX5_keepsAreas 45 = .ok (.lmul, 1) := by decide +kernel
theorem dX5_keepsAreas_46 : decode cX5_keepsAreas 46 = .ok (.lcmp, 1) := by decide +kernel
theorem dX5_keepsAreas_47 : decode cX5_keepsAreas 47 = .ok (.ifCond .eq 5, 3) := by decide +kernel
theorem dX5_keepsAreas_50 : decode cX5_keepsAreas 50 = .ok (.iconst 0, 1) := by decide +kernel
theorem dX5_keepsAreas_51 : decode cX5_keepsAreas 51 = .ok (.ireturn, 1) := by decide +kernel
theorem dX5_keepsAreas_52 : decode cX5_keepsAreas 52 = .ok (.iinc 2 1, 3) := by decide +kernel
theorem dX5_keepsAreas_55 : decode cX5_keepsAreas 55 = .ok (.goto (-40), 3) := by decide +kernel
theorem dX5_keepsAreas_58 : decode cX5_keepsAreas 58 = .ok (.iinc 1 1, 3) := by decide +kernel
theorem dX5_keepsAreas_61 : decode cX5_keepsAreas 61 = .ok (.goto (-54), 3) := by decide +kernel
theorem dX5_keepsAreas_64 : decode cX5_keepsAreas 64 = .ok (.iconst 1, 1) := by decide +kernel
theorem dX5_keepsAreas_65 : decode cX5_keepsAreas 65 = .ok (.ireturn, 1) := by decide +kernel
theorem dX5_widest_0 : decode cX5_widest 0 = .ok (.aload_n 0, 1) := by decide +kernel
theorem dX5_widest_1 : decode cX5_widest 1 = .ok (.iconst 0, 1) := by decide +kernel
theorem dX5_widest_2 : decode cX5_widest 2 = .ok (.putfield 45, 3) := by decide +kernel
theorem dX5_widest_5 : decode cX5_widest 5 = .ok (.iconst 0, 1) := by decide +kernel
theorem dX5_widest_6 : decode cX5_widest 6 = .ok (.istore_n 1, 1) := by decide +kernel
theorem dX5_widest_7 : decode cX5_widest 7 = .ok (.iconst 1, 1) := by decide +kernel
theorem dX5_widest_8 : decode cX5_widest 8 = .ok (.istore_n 2, 1) := by decide +kernel
theorem dX5_widest_9 : decode cX5_widest 9 = .ok (.iload_n 2, 1) := by decide +kernel
theorem dX5_widest_10 : decode cX5_widest 10 = .ok (.bipush 9, 2) := by decide +kernel
theorem dX5_widest_12 : decode cX5_widest 12 = .ok (.if_icmp .ge 45, 3) := by decide +kernel
theorem dX5_widest_15 : decode cX5_widest 15 = .ok (.aload_n 0, 1) := by decide +kernel
theorem dX5_widest_16 : decode cX5_widest 16 = .ok (.iload_n 2, 1) := by decide +kernel
theorem dX5_widest_17 : decode cX5_widest 17 = .ok (.invokevirtual 88, 3) := by decide +kernel
theorem dX5_widest_20 : decode cX5_widest 20 = .ok (.aload_n 0, 1) := by decide +kernel
theorem dX5_widest_21 : decode cX5_widest 21 = .ok (.getfield 16, 3) := by decide +kernel
theorem dX5_widest_24 : decode cX5_widest 24 = .ok (.iload_n 1, 1) := by decide +kernel
theorem dX5_widest_25 : decode cX5_widest 25 = .ok (.iaload, 1) := by decide +kernel
theorem dX5_widest_26 : decode cX5_widest 26 = .ok (.i2l, 1) := by decide +kernel
theorem dX5_widest_27 : decode cX5_widest 27 = .ok (.lmul, 1) := by decide +kernel
theorem dX5_widest_28 : decode cX5_widest 28 = .ok (.aload_n 0, 1) := by decide +kernel
theorem dX5_widest_29 : decode cX5_widest 29 = .ok (.iload_n 1, 1) := by decide +kernel
theorem dX5_widest_30 : decode cX5_widest 30 = .ok (.invokevirtual 88, 3) := by decide +kernel
theorem dX5_widest_33 : decode cX5_widest 33 = .ok (.aload_n 0, 1) := by decide +kernel
theorem dX5_widest_34 : decode cX5_widest 34 = .ok (.getfield 16, 3) := by decide +kernel
theorem dX5_widest_37 : decode cX5_widest 37 = .ok (.iload_n 2, 1) := by decide +kernel
theorem dX5_widest_38 : decode cX5_widest 38 = .ok (.iaload, 1) := by decide +kernel
theorem dX5_widest_39 : decode cX5_widest 39 = .ok (.i2l, 1) := by decide +kernel
theorem dX5_widest_40 : decode cX5_widest 40 = .ok (.lmul, 1) := by decide +kernel
theorem dX5_widest_41 : decode cX5_widest 41 = .ok (.lcmp, 1) := by decide +kernel
theorem dX5_widest_42 : decode cX5_widest 42 = .ok (.ifCond .le 7, 3) := by decide +kernel
theorem dX5_widest_45 : decode cX5_widest 45 = .ok (.iload_n 2, 1) := by decide +kernel
theorem dX5_widest_46 : decode cX5_widest 46 = .ok (.goto 4, 3) := by decide +kernel
theorem dX5_widest_49 : decode cX5_widest 49 = .ok (.iload_n 1, 1) := by decide +kernel
theorem dX5_widest_50 : decode cX5_widest 50 = .ok (.istore_n 1, 1) := by decide +kernel
theorem dX5_widest_51 : decode cX5_widest 51 = .ok (.iinc 2 1, 3) := by decide +kernel
theorem dX5_widest_54 : decode cX5_widest 54 = .ok (.goto (-45), 3) := by decide +kernel
theorem dX5_widest_57 : decode cX5_widest 57 = .ok (.iload_n 1, 1) := by decide +kernel
theorem dX5_widest_58 : decode cX5_widest 58 = .ok (.ireturn, 1) := by decide +kernel
theorem dX5_stretch_0 : decode cX5_stretch 0 = .ok (.aload_n 0, 1) := by decide +kernel
theorem dX5_stretch_1 : decode cX5_stretch 1 = .ok (.iload_n 1, 1) := by decide +kernel
theorem dX5_stretch_2 : decode cX5_stretch 2 = .ok (.invokestatic 84, 3) := by decide +kernel
theorem dX5_stretch_5 : decode cX5_stretch 5 = .ok (.invokevirtual 59, 3) := by decide +kernel
theorem dX5_stretch_8 : decode cX5_stretch 8 = .ok (.ifCond .eq 20, 3) := by decide +kernel
theorem dX5_stretch_11 : decode cX5_stretch 11 = .ok (.aload_n 0, 1) := by decide +kernel
theorem dX5_stretch_12 : decode cX5_stretch 12 = .ok (.iload_n 1, 1) := by decide +kernel
theorem dX5_stretch_13 : decode cX5_stretch 13 = .ok (.invokevirtual 88, 3) := by decide +kernel
theorem dX5_stretch_16 : decode cX5_stretch 16 = .ok (.l2f, 1) := by decide +kernel
theorem dX5_stretch_17 : decode cX5_stretch 17 = .ok (.aload_n 0, 1) := by decide +kernel
theorem dX5_stretch_18 : decode cX5_stretch 18 = .ok (.getfield 16, 3) := by decide +kernel
theorem dX5_stretch_21 : decode cX5_stretch 21 = .ok (.iload_n 1, 1) := by decide +kernel
theorem dX5_stretch_22 : decode cX5_stretch 22 = .ok (.iaload, 1) := by decide +kernel
theorem dX5_stretch_23 : decode cX5_stretch 23 = .ok (.i2f, 1) := by decide +kernel
theorem dX5_stretch_24 : decode cX5_stretch 24 = .ok (.fdiv, 1) := by decide +kernel
theorem dX5_stretch_25 : decode cX5_stretch 25 = .ok (.goto 4, 3) := by decide +kernel
theorem dX5_stretch_28 : decode cX5_stretch 28 = .ok (.fconst 0, 1) := by decide +kernel
theorem dX5_stretch_29 : decode cX5_stretch 29 = .ok (.freturn, 1) := by decide +kernel
theorem dX5_east_0 : decode cX5_east 0 = .ok (.iload_n 1, 1) := by decide +kernel
theorem dX5_east_1 : decode cX5_east 1 = .ok (.iload_n 0, 1) := by decide +kernel
theorem dX5_east_2 : decode cX5_east 2 = .ok (.if_icmp .ge 13, 3) := by decide +kernel
theorem dX5_east_5 : decode cX5_east 5 = .ok (.iload_n 1, 1) := by decide +kernel
theorem dX5_east_6 : decode cX5_east 6 = .ok (.iload_n 0, 1) := by decide +kernel
theorem dX5_east_7 : decode cX5_east 7 = .ok (.isub, 1) := by decide +kernel
theorem dX5_east_8 : decode cX5_east 8 = .ok (.sipush 360, 3) := by decide +kernel
theorem dX5_east_11 : decode cX5_east 11 = .ok (.iadd, 1) := by decide +kernel
theorem dX5_east_12 : decode cX5_east 12 = .ok (.goto 6, 3) := by decide +kernel
theorem dX5_east_15 : decode cX5_east 15 = .ok (.iload_n 1, 1) := by decide +kernel
theorem dX5_east_16 : decode cX5_east 16 = .ok (.iload_n 0, 1) := by decide +kernel
theorem dX5_east_17 : decode cX5_east 17 = .ok (.isub, 1) := by decide +kernel
theorem dX5_east_18 : decode cX5_east 18 = .ok (.ireturn, 1) := by decide +kernel
theorem dX5_shorter_0 : decode cX5_shorter 0 = .ok (.iload_n 0, 1) := by decide +kernel
theorem dX5_shorter_1 : decode cX5_shorter 1 = .ok (.iload_n 1, 1) := by decide +kernel
theorem dX5_shorter_2 : decode cX5_shorter 2 = .ok (.invokestatic 92, 3) := by decide +kernel
theorem dX5_shorter_5 : decode cX5_shorter 5 = .ok (.istore_n 2, 1) := by decide +kernel
theorem dX5_shorter_6 : decode cX5_shorter 6 = .ok (.iload_n 2, 1) := by decide +kernel
theorem dX5_shorter_7 : decode cX5_shorter 7 = .ok (.sipush 180, 3) := by decide +kernel
theorem dX5_shorter_10 : decode cX5_shorter 10 = .ok (.if_icmp .gt 7, 3) := by decide +kernel
theorem dX5_shorter_13 : decode cX5_shorter 13 = .ok (.iload_n 2, 1) := by decide +kernel
theorem dX5_shorter_14 : decode cX5_shorter 14 = .ok (.goto 8, 3) := by decide +kernel
theorem dX5_shorter_17 : decode cX5_shorter 17 = .ok (.sipush 360, 3) := by decide +kernel
theorem dX5_shorter_20 : decode cX5_shorter 20 = .ok (.iload_n 2, 1) := by decide +kernel
theorem dX5_shorter_21 : decode cX5_shorter 21 = .ok (.isub, 1) := by decide +kernel
theorem dX5_shorter_22 : decode cX5_shorter 22 = .ok (.ireturn, 1) := by decide +kernel
theorem dX5_apart_0 : decode cX5_apart 0 = .ok (.aload_n 0, 1) := by decide +kernel
theorem dX5_apart_1 : decode cX5_apart 1 = .ok (.iload_n 1, 1) := by decide +kernel
theorem dX5_apart_2 : decode cX5_apart 2 = .ok (.invokestatic 56, 3) := by decide +kernel
theorem dX5_apart_5 : decode cX5_apart 5 = .ok (.ifCond .eq 14, 3) := by decide +kernel
theorem dX5_apart_8 : decode cX5_apart 8 = .ok (.iload_n 2, 1) := by decide +kernel
theorem dX5_apart_9 : decode cX5_apart 9 = .ok (.invokestatic 56, 3) := by decide +kernel
theorem dX5_apart_12 : decode cX5_apart 12 = .ok (.ifCond .eq 7, 3) := by decide +kernel
theorem dX5_apart_15 : decode cX5_apart 15 = .ok (.iconst 1, 1) := by decide +kernel
theorem dX5_apart_16 : decode cX5_apart 16 = .ok (.goto 4, 3) := by decide +kernel
theorem dX5_apart_19 : decode cX5_apart 19 = .ok (.iconst 0, 1) := by decide +kernel
theorem dX5_apart_20 : decode cX5_apart 20 = .ok (.invokevirtual 59, 3) := by decide +kernel
theorem dX5_apart_23 : decode cX5_apart 23 = .ok (.ifCond .eq 11, 3) := by decide +kernel
theorem dX5_apart_26 : decode cX5_apart 26 = .ok (.iload_n 1, 1) := by decide +kernel
theorem dX5_apart_27 : decode cX5_apart 27 = .ok (.iload_n 2, 1) := by decide +kernel
theorem dX5_apart_28 : decode cX5_apart 28 = .ok (.invokestatic 96, 3) := by decide +kernel
theorem dX5_apart_31 : decode cX5_apart 31 = .ok (.goto 4, 3) := by decide +kernel
theorem dX5_apart_34 : decode cX5_apart 34 = .ok (.iconst 0, 1) := by decide +kernel
theorem dX5_apart_35 : decode cX5_apart 35 = .ok (.ireturn, 1) := by decide +kernel
theorem dX5_ringWay_0 : decode cX5_ringWay 0 = .ok (.aload_n 0, 1) := by decide +kernel
theorem dX5_ringWay_1 : decode cX5_ringWay 1 = .ok (.iload_n 1, 1) := by decide +kernel
theorem dX5_ringWay_2 : decode cX5_ringWay 2 = .ok (.invokestatic 52, 3) := by decide +kernel
theorem dX5_ringWay_5 : decode cX5_ringWay 5 = .ok (.ifCond .eq 21, 3) := by decide +kernel
theorem dX5_ringWay_8 : decode cX5_ringWay 8 = .ok (.iload_n 2, 1) := by decide +kernel
theorem dX5_ringWay_9 : decode cX5_ringWay 9 = .ok (.invokestatic 56, 3) := by decide +kernel
theorem dX5_ringWay_12 : decode cX5_ringWay 12 = .ok (.ifCond .eq 14, 3) := by decide +kernel
theorem dX5_ringWay_15 : decode cX5_ringWay 15 = .ok (.iload_n 3, 1) := by decide +kernel
theorem dX5_ringWay_16 : decode cX5_ringWay 16 = .ok (.invokestatic 56, 3) := by decide +kernel
theorem dX5_ringWay_19 : decode cX5_ringWay 19 = .ok (.ifCond .eq 7, 3) := by decide +kernel
theorem dX5_ringWay_22 : decode cX5_ringWay 22 = .ok (.iconst 1, 1) := by decide +kernel
theorem dX5_ringWay_23 : decode cX5_ringWay 23 = .ok (.goto 4, 3) := by decide +kernel
theorem dX5_ringWay_26 : decode cX5_ringWay 26 = .ok (.iconst 0, 1) := by decide +kernel
theorem dX5_ringWay_27 : decode cX5_ringWay 27 = .ok (.invokevirtual 59, 3) := by decide +kernel
theorem dX5_ringWay_30 : decode cX5_ringWay 30 = .ok (.ifCond .eq 17, 3) := by decide +kernel
theorem dX5_ringWay_33 : decode cX5_ringWay 33 = .ok (.iload_n 2, 1) := by decide +kernel
theorem dX5_ringWay_34 : decode cX5_ringWay 34 = .ok (.iload_n 3, 1) := by decide +kernel
theorem dX5_ringWay_35 : decode cX5_ringWay 35 = .ok (.invokestatic 96, 3) := by decide +kernel
theorem dX5_ringWay_38 : decode cX5_ringWay 38 = .ok (.aload_n 0, 1) := by decide +kernel
theorem dX5_ringWay_39 : decode cX5_ringWay 39 = .ok (.iload_n 1, 1) := by decide +kernel
theorem dX5_ringWay_40 : decode cX5_ringWay 40 = .ok (.invokevirtual 63, 3) := by decide +kernel
theorem dX5_ringWay_43 : decode cX5_ringWay 43 = .ok (.imul, 1) := by decide +kernel
theorem dX5_ringWay_44 : decode cX5_ringWay 44 = .ok (.goto 4, 3) := by decide +kernel
theorem dX5_ringWay_47 : decode cX5_ringWay 47 = .ok (.iconst 0, 1) := by decide +kernel
theorem dX5_ringWay_48 : decode cX5_ringWay 48 = .ok (.ireturn, 1) := by decide +kernel
theorem dX5_zones_0 : decode cX5_zones 0 = .ok (.aload_n 0, 1) := by decide +kernel
theorem dX5_zones_1 : decode cX5_zones 1 = .ok (.iload_n 1, 1) := by decide +kernel
theorem dX5_zones_2 : decode cX5_zones 2 = .ok (.iconst 1, 1) := by decide +kernel
theorem dX5_zones_3 : decode cX5_zones 3 = .ok (.if_icmp .lt 22, 3) := by decide +kernel
theorem dX5_zones_6 : decode cX5_zones 6 = .ok (.iload_n 1, 1) := by decide +kernel
theorem dX5_zones_7 : decode cX5_zones 7 = .ok (.sipush 360, 3) := by decide +kernel
theorem dX5_zones_10 : decode cX5_zones 10 = .ok (.if_icmp .gt 15, 3) := by decide +kernel
theorem dX5_zones_13 : decode cX5_zones 13 = .ok (.sipush 360, 3) := by decide +kernel
theorem dX5_zones_16 : decode cX5_zones 16 = .ok (.iload_n 1, 1) := by decide +kernel
theorem dX5_zones_17 : decode cX5_zones 17 = .ok (.irem, 1) := by decide +kernel
theorem dX5_zones_18 : decode cX5_zones 18 = .ok (.ifCond .ne 7, 3) := by decide +kernel
theorem dX5_zones_21 : decode cX5_zones 21 = .ok (.iconst 1, 1) := by decide +kernel
theorem dX5_zones_22 : decode cX5_zones 22 = .ok (.goto 4, 3) := by decide +kernel
theorem dX5_zones_25 : decode cX5_zones 25 = .ok (.iconst 0, 1) := by decide +kernel
theorem dX5_zones_26 : decode cX5_zones 26 = .ok (.invokevirtual 59, 3) := by decide +kernel
theorem dX5_zones_29 : decode cX5_zones 29 = .ok (.ifCond .ne 5, 3) := by decide +kernel
theorem dX5_zones_32 : decode cX5_zones 32 = .ok (.iconst 0, 1) := by decide +kernel
theorem dX5_zones_33 : decode cX5_zones 33 = .ok (.ireturn, 1) := by decide +kernel
theorem dX5_zones_34 : decode cX5_zones 34 = .ok (.aload_n 0, 1) := by decide +kernel
theorem dX5_zones_35 : decode cX5_zones 35 = .ok (.getfield 19, 3) := by decide +kernel
theorem dX5_zones_38 : decode cX5_zones 38 = .ok (.istore_n 2, 1) := by decide +kernel
theorem dX5_zones_39 : decode cX5_zones 39 = .ok (.aload_n 0, 1) := by decide +kernel
theorem dX5_zones_40 : decode cX5_zones 40 = .ok (.iload_n 1, 1) := by decide +kernel
theorem dX5_zones_41 : decode cX5_zones 41 = .ok (.putfield 19, 3) := by decide +kernel
theorem dX5_zones_44 : decode cX5_zones 44 = .ok (.iload_n 2, 1) := by decide +kernel
theorem dX5_zones_45 : decode cX5_zones 45 = .ok (.ireturn, 1) := by decide +kernel
theorem dX5_zoneOf_0 : decode cX5_zoneOf 0 = .ok (.iload_n 1, 1) := by decide +kernel
theorem dX5_zoneOf_1 : decode cX5_zoneOf 1 = .ok (.sipush 180, 3) := by decide +kernel
theorem dX5_zoneOf_4 : decode cX5_zoneOf 4 = .ok (.iadd, 1) := by decide +kernel
theorem dX5_zoneOf_5 : decode cX5_zoneOf 5 = .ok (.aload_n 0, 1) := by decide +kernel
theorem dX5_zoneOf_6 : decode cX5_zoneOf 6 = .ok (.getfield 19, 3) := by decide +kernel
theorem dX5_zoneOf_9 : decode cX5_zoneOf 9 = .ok (.idiv, 1) := by decide +kernel
theorem dX5_zoneOf_10 : decode cX5_zoneOf 10 = .ok (.ireturn, 1) := by decide +kernel
theorem dX5_zone_0 : decode cX5_zone 0 = .ok (.aload_n 0, 1) := by decide +kernel
theorem dX5_zone_1 : decode cX5_zone 1 = .ok (.iload_n 1, 1) := by decide +kernel
theorem dX5_zone_2 : decode cX5_zone 2 = .ok (.invokestatic 56, 3) := by decide +kernel
theorem dX5_zone_5 : decode cX5_zone 5 = .ok (.invokevirtual 59, 3) := by decide +kernel
theorem dX5_zone_8 : decode cX5_zone 8 = .ok (.ifCond .eq 11, 3) := by decide +kernel
theorem dX5_zone_11 : decode cX5_zone 11 = .ok (.aload_n 0, 1) := by decide +kernel
theorem dX5_zone_12 : decode cX5_zone 12 = .ok (.iload_n 1, 1) := by decide +kernel
theorem dX5_zone_13 : decode cX5_zone 13 = .ok (.invokevirtual 99, 3) := by decide +kernel
theorem dX5_zone_16 : decode cX5_zone 16 = .ok (.goto 4, 3) := by decide +kernel
theorem dX5_zone_19 : decode cX5_zone 19 = .ok (.iconst 0, 1) := by decide +kernel
theorem dX5_zone_20 : decode cX5_zone 20 = .ok (.ireturn, 1) := by decide +kernel
theorem dX5_crossed_0 : decode cX5_crossed 0 = .ok (.iload_n 1, 1) := by decide +kernel
theorem dX5_crossed_1 : decode cX5_crossed 1 = .ok (.iload_n 2, 1) := by decide +kernel
theorem dX5_crossed_2 : decode cX5_crossed 2 = .ok (.invokestatic 92, 3) := by decide +kernel
theorem dX5_crossed_5 : decode cX5_crossed 5 = .ok (.sipush 180, 3) := by decide +kernel
theorem dX5_crossed_8 : decode cX5_crossed 8 = .ok (.if_icmp .gt 7, 3) := by decide +kernel
theorem dX5_crossed_11 : decode cX5_crossed 11 = .ok (.iconst 1, 1) := by decide +kernel
theorem dX5_crossed_12 : decode cX5_crossed 12 = .ok (.goto 4, 3) := by decide +kernel
theorem dX5_crossed_15 : decode cX5_crossed 15 = .ok (.iconst (-1), 1) := by decide +kernel
theorem dX5_crossed_16 : decode cX5_crossed 16 = .ok (.istore 4, 2) := by decide +kernel
theorem dX5_crossed_18 : decode cX5_crossed 18 = .ok (.iload_n 1, 1) := by decide +kernel
theorem dX5_crossed_19 : decode cX5_crossed 19 = .ok (.istore 5, 2) := by decide +kernel
theorem dX5_crossed_21 : decode cX5_crossed 21 = .ok (.iconst 0, 1) := by decide +kernel
theorem dX5_crossed_22 : decode cX5_crossed 22 = .ok (.istore 6, 2) := by decide +kernel
theorem dX5_crossed_24 : decode cX5_crossed 24 = .ok (.iconst 0, 1) := by decide +kernel
theorem dX5_crossed_25 : decode cX5_crossed 25 = .ok (.istore 7, 2) := by decide +kernel
theorem dX5_crossed_27 : decode cX5_crossed 27 = .ok (.iload 5, 2) := by decide +kernel
theorem dX5_crossed_29 : decode cX5_crossed 29 = .ok (.iload_n 2, 1) := by decide +kernel
theorem dX5_crossed_30 : decode cX5_crossed 30 = .ok (.if_icmp .eq 118, 3) := by decide +kernel
theorem dX5_crossed_33 : decode cX5_crossed 33 = .ok (.iload 5, 2) := by decide +kernel
theorem dX5_crossed_35 : decode cX5_crossed 35 = .ok (.iload 4, 2) := by decide +kernel
theorem dX5_crossed_37 : decode cX5_crossed 37 = .ok (.iadd, 1) := by decide +kernel
theorem dX5_crossed_38 : decode cX5_crossed 38 = .ok (.istore 8, 2) := by decide +kernel
theorem dX5_crossed_40 : decode cX5_crossed 40 = .ok (.iload 8, 2) := by decide +kernel
theorem dX5_crossed_42 : decode cX5_crossed 42 = .ok (.sipush 179, 3) := by decide +kernel
theorem dX5_crossed_45 : decode cX5_crossed 45 = .ok (.if_icmp .gt 11, 3) := by decide +kernel
theorem dX5_crossed_48 : decode cX5_crossed 48 = .ok (.iload 8, 2) := by decide +kernel
theorem dX5_crossed_50 : decode cX5_crossed 50 = .ok (.sipush (-180), 3) := by decide +kernel
theorem dX5_crossed_53 : decode cX5_crossed 53 = .ok (.if_icmp .ge 7, 3) := by decide +kernel
theorem dX5_crossed_56 : decode cX5_crossed 56 = .ok (.iconst 1, 1) := by decide +kernel
theorem dX5_crossed_57 : decode cX5_crossed 57 = .ok (.goto 4, 3) := by decide +kernel
theorem dX5_crossed_60 : decode cX5_crossed 60 = .ok (.iconst 0, 1) := by decide +kernel
theorem dX5_crossed_61 : decode cX5_crossed 61 = .ok (.istore 9, 2) := by decide +kernel
theorem dX5_crossed_63 : decode cX5_crossed 63 = .ok (.iload 8, 2) := by decide +kernel
theorem dX5_crossed_65 : decode cX5_crossed 65 = .ok (.sipush 179, 3) := by decide +kernel
theorem dX5_crossed_68 : decode cX5_crossed 68 = .ok (.if_icmp .le 9, 3) := by decide +kernel
theorem dX5_crossed_71 : decode cX5_crossed 71 = .ok (.sipush (-180), 3) := by decide +kernel
theorem dX5_crossed_74 : decode cX5_crossed 74 = .ok (.goto 19, 3) := by decide +kernel
theorem dX5_crossed_77 : decode cX5_crossed 77 = .ok (.iload 8, 2) := by decide +kernel
theorem dX5_crossed_79 : decode cX5_crossed 79 = .ok (.sipush (-180), 3) := by decide +kernel
theorem dX5_crossed_82 : decode cX5_crossed 82 = .ok (.if_icmp .ge 9, 3) := by decide +kernel
theorem dX5_crossed_85 : decode cX5_crossed 85 = .ok (.sipush 179, 3) := by decide +kernel
theorem dX5_crossed_88 : decode cX5_crossed 88 = .ok (.goto 5, 3) := by decide +kernel
theorem dX5_crossed_91 : decode cX5_crossed 91 = .ok (.iload 8, 2) := by decide +kernel
theorem dX5_crossed_93 : decode cX5_crossed 93 = .ok (.istore 8, 2) := by decide +kernel
theorem dX5_crossed_95 : decode cX5_crossed 95 = .ok (.iload 7, 2) := by decide +kernel
theorem dX5_crossed_97 : decode cX5_crossed 97 = .ok (.iload 9, 2) := by decide +kernel
theorem dX5_crossed_99 : decode cX5_crossed 99 = .ok (.ifCond .eq 8, 3) := by decide +kernel
theorem dX5_crossed_102 : decode cX5_crossed 102 = .ok (.iload 4, 2) := by decide +kernel
theorem dX5_crossed_104 : decode cX5_crossed 104 = .ok (.goto 4, 3) := by decide +kernel
theorem dX5_crossed_107 : decode cX5_crossed 107 = .ok (.iconst 0, 1) := by decide +kernel
theorem dX5_crossed_108 : decode cX5_crossed 108 = .ok (.iadd, 1) := by decide +kernel
theorem dX5_crossed_109 : decode cX5_crossed 109 = .ok (.istore 7, 2) := by decide +kernel
theorem dX5_crossed_111 : decode cX5_crossed 111 = .ok (.iload 6, 2) := by decide +kernel
theorem dX5_crossed_113 : decode cX5_crossed 113 = .ok (.iload 9, 2) := by decide +kernel
theorem dX5_crossed_115 : decode cX5_crossed 115 = .ok (.ifCond .ne 18, 3) := by decide +kernel
theorem dX5_crossed_118 : decode cX5_crossed 118 = .ok (.aload_n 0, 1) := by decide +kernel
theorem dX5_crossed_119 : decode cX5_crossed 119 = .ok (.iload 5, 2) := by decide +kernel
theorem dX5_crossed_121 : decode cX5_crossed 121 = .ok (.invokevirtual 99, 3) := by decide +kernel
theorem dX5_crossed_124 : decode cX5_crossed 124 = .ok (.aload_n 0, 1) := by decide +kernel
theorem dX5_crossed_125 : decode cX5_crossed 125 = .ok (.iload 8, 2) := by decide +kernel
theorem dX5_crossed_127 : decode cX5_crossed 127 = .ok (.invokevirtual 99, 3) := by decide +kernel
theorem dX5_crossed_130 : decode cX5_crossed 130 = .ok (.if_icmp .eq 7, 3) := by decide +kernel
theorem dX5_crossed_133 : decode cX5_crossed 133 = .ok (.iconst 1, 1) := by decide +kernel
theorem dX5_crossed_134 : decode cX5_crossed 134 = .ok (.goto 4, 3) := by decide +kernel
theorem dX5_crossed_137 : decode cX5_crossed 137 = .ok (.iconst 0, 1) := by decide +kernel
theorem dX5_crossed_138 : decode cX5_crossed 138 = .ok (.iadd, 1) := by decide +kernel
theorem dX5_crossed_139 : decode cX5_crossed 139 = .ok (.istore 6, 2) := by decide +kernel
theorem dX5_crossed_141 : decode cX5_crossed 141 = .ok (.iload 8, 2) := by decide +kernel
theorem dX5_crossed_143 : decode cX5_crossed 143 = .ok (.istore 5, 2) := by decide +kernel
theorem dX5_crossed_145 : decode cX5_crossed 145 = .ok (.goto (-118), 3) := by decide +kernel
theorem dX5_crossed_148 : decode cX5_crossed 148 = .ok (.iload_n 3, 1) := by decide +kernel
theorem dX5_crossed_149 : decode cX5_crossed 149 = .ok (.ifCond .eq 8, 3) := by decide +kernel
theorem dX5_crossed_152 : decode cX5_crossed 152 = .ok (.iload 7, 2) := by decide +kernel
theorem dX5_crossed_154 : decode cX5_crossed 154 = .ok (.goto 5, 3) := by decide +kernel
theorem dX5_crossed_157 : decode cX5_crossed 157 = .ok (.iload 6, 2) := by decide +kernel
theorem dX5_crossed_159 : decode cX5_crossed 159 = .ok (.ireturn, 1) := by decide +kernel
theorem dX5_seams_0 : decode cX5_seams 0 = .ok (.aload_n 0, 1) := by decide +kernel
theorem dX5_seams_1 : decode cX5_seams 1 = .ok (.iload_n 1, 1) := by decide +kernel
theorem dX5_seams_2 : decode cX5_seams 2 = .ok (.invokestatic 56, 3) := by decide +kernel
theorem dX5_seams_5 : decode cX5_seams 5 = .ok (.ifCond .eq 14, 3) := by decide +kernel
theorem dX5_seams_8 : decode cX5_seams 8 = .ok (.iload_n 2, 1) := by decide +kernel
theorem dX5_seams_9 : decode cX5_seams 9 = .ok (.invokestatic 56, 3) := by decide +kernel
theorem dX5_seams_12 : decode cX5_seams 12 = .ok (.ifCond .eq 7, 3) := by decide +kernel
theorem dX5_seams_15 : decode cX5_seams 15 = .ok (.iconst 1, 1) := by decide +kernel
theorem dX5_seams_16 : decode cX5_seams 16 = .ok (.goto 4, 3) := by decide +kernel
theorem dX5_seams_19 : decode cX5_seams 19 = .ok (.iconst 0, 1) := by decide +kernel
theorem dX5_seams_20 : decode cX5_seams 20 = .ok (.invokevirtual 59, 3) := by decide +kernel
theorem dX5_seams_23 : decode cX5_seams 23 = .ok (.ifCond .eq 13, 3) := by decide +kernel
theorem dX5_seams_26 : decode cX5_seams 26 = .ok (.aload_n 0, 1) := by decide +kernel
theorem dX5_seams_27 : decode cX5_seams 27 = .ok (.iload_n 1, 1) := by decide +kernel
theorem dX5_seams_28 : decode cX5_seams 28 = .ok (.iload_n 2, 1) := by decide +kernel
theorem dX5_seams_29 : decode cX5_seams 29 = .ok (.iconst 0, 1) := by decide +kernel
theorem dX5_seams_30 : decode cX5_seams 30 = .ok (.invokevirtual 102, 3) := by decide +kernel
theorem dX5_seams_33 : decode cX5_seams 33 = .ok (.goto 4, 3) := by decide +kernel
theorem dX5_seams_36 : decode cX5_seams 36 = .ok (.iconst 0, 1) := by decide +kernel
theorem dX5_seams_37 : decode cX5_seams 37 = .ok (.ireturn, 1) := by decide +kernel
theorem dX5_dateLine_0 : decode cX5_dateLine 0 = .ok (.aload_n 0, 1) := by decide +kernel
theorem dX5_dateLine_1 : decode cX5_dateLine 1 = .ok (.iload_n 1, 1) := by decide +kernel
theorem dX5_dateLine_2 : decode cX5_dateLine 2 = .ok (.invokestatic 56, 3) := by decide +kernel
theorem dX5_dateLine_5 : decode cX5_dateLine 5 = .ok (.ifCond .eq 14, 3) := by decide +kernel
theorem dX5_dateLine_8 : decode cX5_dateLine 8 = .ok (.iload_n 2, 1) := by decide +kernel
theorem dX5_dateLine_9 : decode cX5_dateLine 9 = .ok (.invokestatic 56, 3) := by decide +kernel
theorem dX5_dateLine_12 : decode cX5_dateLine 12 = .ok (.ifCond .eq 7, 3) := by decide +kernel
theorem dX5_dateLine_15 : decode cX5_dateLine 15 = .ok (.iconst 1, 1) := by decide +kernel
theorem dX5_dateLine_16 : decode cX5_dateLine 16 = .ok (.goto 4, 3) := by decide +kernel
theorem dX5_dateLine_19 : decode cX5_dateLine 19 = .ok (.iconst 0, 1) := by decide +kernel
theorem dX5_dateLine_20 : decode cX5_dateLine 20 = .ok (.invokevirtual 59, 3) := by decide +kernel
theorem dX5_dateLine_23 : decode cX5_dateLine 23 = .ok (.ifCond .eq 13, 3) := by decide +kernel
theorem dX5_dateLine_26 : decode cX5_dateLine 26 = .ok (.aload_n 0, 1) := by decide +kernel
theorem dX5_dateLine_27 : decode cX5_dateLine 27 = .ok (.iload_n 1, 1) := by decide +kernel
theorem dX5_dateLine_28 : decode cX5_dateLine 28 = .ok (.iload_n 2, 1) := by decide +kernel
theorem dX5_dateLine_29 : decode cX5_dateLine 29 = .ok (.iconst 1, 1) := by decide +kernel
theorem dX5_dateLine_30 : decode cX5_dateLine 30 = .ok (.invokevirtual 102, 3) := by decide +kernel
theorem dX5_dateLine_33 : decode cX5_dateLine 33 = .ok (.goto 4, 3) := by decide +kernel
theorem dX5_dateLine_36 : decode cX5_dateLine 36 = .ok (.iconst 0, 1) := by decide +kernel
theorem dX5_dateLine_37 : decode cX5_dateLine 37 = .ok (.ireturn, 1) := by decide +kernel
theorem dX5_lay_0 : decode cX5_lay 0 = .ok (.aload_n 0, 1) := by decide +kernel
theorem dX5_lay_1 : decode cX5_lay 1 = .ok (.iconst 0, 1) := by decide +kernel
theorem dX5_lay_2 : decode cX5_lay 2 = .ok (.putfield 106, 3) := by decide +kernel
theorem dX5_lay_5 : decode cX5_lay 5 = .ok (.iconst 0, 1) := by decide +kernel
theorem dX5_lay_6 : decode cX5_lay 6 = .ok (.istore_n 1, 1) := by decide +kernel
theorem dX5_lay_7 : decode cX5_lay 7 = .ok (.iload_n 1, 1) := by decide +kernel
theorem dX5_lay_8 : decode cX5_lay 8 = .ok (.bipush 36, 2) := by decide +kernel
theorem dX5_lay_10 : decode cX5_lay 10 = .ok (.if_icmp .ge 43, 3) := by decide +kernel
theorem dX5_lay_13 : decode cX5_lay 13 = .ok (.aload_n 0, 1) := by decide +kernel
theorem dX5_lay_14 : decode cX5_lay 14 = .ok (.getfield 23, 3) := by decide +kernel
theorem dX5_lay_17 : decode cX5_lay 17 = .ok (.iload_n 1, 1) := by decide +kernel
theorem dX5_lay_18 : decode cX5_lay 18 = .ok (.iload_n 1, 1) := by decide +kernel
theorem dX5_lay_19 : decode cX5_lay 19 = .ok (.bipush 6, 2) := by decide +kernel
theorem dX5_lay_21 : decode cX5_lay 21 = .ok (.idiv, 1) := by decide +kernel
theorem dX5_lay_22 : decode cX5_lay 22 = .ok (.iastore, 1) := by decide +kernel
theorem dX5_lay_23 : decode cX5_lay 23 = .ok (.aload_n 0, 1) := by decide +kernel
theorem dX5_lay_24 : decode cX5_lay 24 = .ok (.getfield 26, 3) := by decide +kernel
theorem dX5_lay_27 : decode cX5_lay 27 = .ok (.iload_n 1, 1) := by decide +kernel
theorem dX5_lay_28 : decode cX5_lay 28 = .ok (.iload_n 1, 1) := by decide +kernel
theorem dX5_lay_29 : decode cX5_lay 29 = .ok (.bipush 6, 2) := by decide +kernel
theorem dX5_lay_31 : decode cX5_lay 31 = .ok (.irem, 1) := by decide +kernel
theorem dX5_lay_32 : decode cX5_lay 32 = .ok (.iastore, 1) := by decide +kernel
theorem dX5_lay_33 : decode cX5_lay 33 = .ok (.aload_n 0, 1) := by decide +kernel
theorem dX5_lay_34 : decode cX5_lay 34 = .ok (.getfield 29, 3) := by decide +kernel
theorem dX5_lay_37 : decode cX5_lay 37 = .ok (.iload_n 1, 1) := by decide +kernel
theorem dX5_lay_38 : decode cX5_lay 38 = .ok (.iconst 0, 1) := by decide +kernel
theorem dX5_lay_39 : decode cX5_lay 39 = .ok (.iastore, 1) := by decide +kernel
theorem dX5_lay_40 : decode cX5_lay 40 = .ok (.aload_n 0, 1) := by decide +kernel
theorem dX5_lay_41 : decode cX5_lay 41 = .ok (.getfield 32, 3) := by decide +kernel
theorem dX5_lay_44 : decode cX5_lay 44 = .ok (.iload_n 1, 1) := by decide +kernel
theorem dX5_lay_45 : decode cX5_lay 45 = .ok (.iconst 1, 1) := by decide +kernel
theorem dX5_lay_46 : decode cX5_lay 46 = .ok (.bastore, 1) := by decide +kernel
theorem dX5_lay_47 : decode cX5_lay 47 = .ok (.iinc 1 1, 3) := by decide +kernel
theorem dX5_lay_50 : decode cX5_lay 50 = .ok (.goto (-43), 3) := by decide +kernel
theorem dX5_lay_53 : decode cX5_lay 53 = .ok (.return_, 1) := by decide +kernel
theorem dX5_isPanel_0 : decode cX5_isPanel 0 = .ok (.iload_n 1, 1) := by decide +kernel
theorem dX5_isPanel_1 : decode cX5_isPanel 1 = .ok (.bipush 6, 2) := by decide +kernel
theorem dX5_isPanel_3 : decode cX5_isPanel 3 = .ok (.idiv, 1) := by decide +kernel
theorem dX5_isPanel_4 : decode cX5_isPanel 4 = .ok (.aload_n 0, 1) := by decide +kernel
theorem dX5_isPanel_5 : decode cX5_isPanel 5 = .ok (.getfield 36, 3) := by decide +kernel
theorem dX5_isPanel_8 : decode cX5_isPanel 8 = .ok (.if_icmp .ge 18, 3) := by decide +kernel
theorem dX5_isPanel_11 : decode cX5_isPanel 11 = .ok (.iload_n 1, 1) := by decide +kernel
theorem dX5_isPanel_12 : decode cX5_isPanel 12 = .ok (.bipush 6, 2) := by decide +kernel
theorem dX5_isPanel_14 : decode cX5_isPanel 14 = .ok (.irem, 1) := by decide +kernel
theorem dX5_isPanel_15 : decode cX5_isPanel 15 = .ok (.aload_n 0, 1) := by decide +kernel
theorem dX5_isPanel_16 : decode cX5_isPanel 16 = .ok (.getfield 39, 3) := by decide +kernel
theorem dX5_isPanel_19 : decode cX5_isPanel 19 = .ok (.if_icmp .ge 7, 3) := by decide +kernel
theorem dX5_isPanel_22 : decode cX5_isPanel 22 = .ok (.iconst 1, 1) := by decide +kernel
theorem dX5_isPanel_23 : decode cX5_isPanel 23 = .ok (.goto 4, 3) := by decide +kernel
theorem dX5_isPanel_26 : decode cX5_isPanel 26 = .ok (.iconst 0, 1) := by decide +kernel
theorem dX5_isPanel_27 : decode cX5_isPanel 27 = .ok (.ireturn, 1) := by decide +kernel
theorem dX5_sheet_0 : decode cX5_sheet 0 = .ok (.aload_n 0, 1) := by decide +kernel
theorem dX5_sheet_1 : decode cX5_sheet 1 = .ok (.iload_n 1, 1) := by decide +kernel
theorem dX5_sheet_2 : decode cX5_sheet 2 = .ok (.iconst 1, 1) := by decide +kernel
theorem dX5_sheet_3 : decode cX5_sheet 3 = .ok (.if_icmp .lt 24, 3) := by decide +kernel
theorem dX5_sheet_6 : decode cX5_sheet 6 = .ok (.iload_n 1, 1) := by decide +kernel
theorem dX5_sheet_7 : decode cX5_sheet 7 = .ok (.bipush 6, 2) := by decide +kernel
theorem dX5_sheet_9 : decode cX5_sheet 9 = .ok (.if_icmp .gt 18, 3) := by decide +kernel
theorem dX5_sheet_12 : decode cX5_sheet 12 = .ok (.iload_n 2, 1) := by decide +kernel
theorem dX5_sheet_13 : decode cX5_sheet 13 = .ok (.iconst 1, 1) := by decide +kernel
theorem dX5_sheet_14 : decode cX5_sheet 14 = .ok (.if_icmp .lt 13, 3) := by decide +kernel
theorem dX5_sheet_17 : decode cX5_sheet 17 = .ok (.iload_n 2, 1) := by decide +kernel
theorem dX5_sheet_18 : decode cX5_sheet 18 = .ok (.bipush 6, 2) := by decide +kernel
theorem dX5_sheet_20 : decode cX5_sheet 20 = .ok (.if_icmp .gt 7, 3) := by decide +kernel
theorem dX5_sheet_23 : decode cX5_sheet 23 = .ok (.iconst 1, 1) := by decide +kernel
theorem dX5_sheet_24 : decode cX5_sheet 24 = .ok (.goto 4, 3) := by decide +kernel
theorem dX5_sheet_27 : decode cX5_sheet 27 = .ok (.iconst 0, 1) := by decide +kernel
theorem dX5_sheet_28 : decode cX5_sheet 28 = .ok (.invokevirtual 59, 3) := by decide +kernel
theorem dX5_sheet_31 : decode cX5_sheet 31 = .ok (.ifCond .eq 17, 3) := by decide +kernel
theorem dX5_sheet_34 : decode cX5_sheet 34 = .ok (.aload_n 0, 1) := by decide +kernel
theorem dX5_sheet_35 : decode cX5_sheet 35 = .ok (.iload_n 1, 1) := by decide +kernel
theorem dX5_sheet_36 : decode cX5_sheet 36 = .ok (.putfield 36, 3) := by decide +kernel
theorem dX5_sheet_39 : decode cX5_sheet 39 = .ok (.aload_n 0, 1) := by decide +kernel
theorem dX5_sheet_40 : decode cX5_sheet 40 = .ok (.iload_n 2, 1) := by decide +kernel
theorem dX5_sheet_41 : decode cX5_sheet 41 = .ok (.putfield 39, 3) := by decide +kernel
theorem dX5_sheet_44 : decode cX5_sheet 44 = .ok (.aload_n 0, 1) := by decide +kernel
theorem dX5_sheet_45 : decode cX5_sheet 45 = .ok (.invokevirtual 42, 3) := by decide +kernel
theorem dX5_sheet_48 : decode cX5_sheet 48 = .ok (.return_, 1) := by decide +kernel
theorem dX5_ahead_0 : decode cX5_ahead 0 = .ok (.iconst 0, 1) := by decide +kernel
theorem dX5_ahead_1 : decode cX5_ahead 1 = .ok (.istore_n 3, 1) := by decide +kernel
theorem dX5_ahead_2 : decode cX5_ahead 2 = .ok (.iconst 0, 1) := by decide +kernel
theorem dX5_ahead_3 : decode cX5_ahead 3 = .ok (.istore 4, 2) := by decide +kernel
theorem dX5_ahead_5 : decode cX5_ahead 5 = .ok (.iload 4, 2) := by decide +kernel
theorem dX5_ahead_7 : decode cX5_ahead 7 = .ok (.bipush 36, 2) := by decide +kernel
theorem dX5_ahead_9 : decode cX5_ahead 9 = .ok (.if_icmp .ge 51, 3) := by decide +kernel
theorem dX5_ahead_12 : decode cX5_ahead 12 = .ok (.iload_n 3, 1) := by decide +kernel
theorem dX5_ahead_13 : decode cX5_ahead 13 = .ok (.aload_n 0, 1) := by decide +kernel
theorem dX5_ahead_14 : decode cX5_ahead 14 = .ok (.iload 4, 2) := by decide +kernel
theorem dX5_ahead_16 : decode cX5_ahead 16 = .ok (.invokevirtual 109, 3) := by decide +kernel
theorem dX5_ahead_19 : decode cX5_ahead 19 = .ok (.ifCond .eq 32, 3) := by decide +kernel
theorem dX5_ahead_22 : decode cX5_ahead 22 = .ok (.iload_n 2, 1) := by decide +kernel
theorem dX5_ahead_23 : decode cX5_ahead 23 = .ok (.ifCond .eq 13, 3) := by decide +kernel
theorem dX5_ahead_26 : decode cX5_ahead 26 = .ok (.aload_n 0, 1) := by decide +kernel
theorem dX5_ahead_27 : decode cX5_ahead 27 = .ok (.getfield 23, 3) := by decide +kernel
theorem dX5_ahead_30 : decode cX5_ahead 30 = .ok (.iload 4, 2) := by decide +kernel
theorem dX5_ahead_32 : decode cX5_ahead 32 = .ok (.iaload, 1) := by decide +kernel
theorem dX5_ahead_33 : decode cX5_ahead 33 = .ok (.goto 10, 3) := by decide +kernel
theorem dX5_ahead_36 : decode cX5_ahead 36 = .ok (.aload_n 0, 1) := by decide +kernel
theorem dX5_ahead_37 : decode cX5_ahead 37 = .ok (.getfield 26, 3) := by decide +kernel
theorem dX5_ahead_40 : decode cX5_ahead 40 = .ok (.iload 4, 2) := by decide +kernel
theorem dX5_ahead_42 : decode cX5_ahead 42 = .ok (.iaload, 1) := by decide +kernel
theorem dX5_ahead_43 : decode cX5_ahead 43 = .ok (.iload_n 1, 1) := by decide +kernel
theorem dX5_ahead_44 : decode cX5_ahead 44 = .ok (.if_icmp .ge 7, 3) := by decide +kernel
theorem dX5_ahead_47 : decode cX5_ahead 47 = .ok (.iconst 1, 1) := by decide +kernel
theorem dX5_ahead_48 : decode cX5_ahead 48 = .ok (.goto 4, 3) := by decide +kernel
theorem dX5_ahead_51 : decode cX5_ahead 51 = .ok (.iconst 0, 1) := by decide +kernel
theorem dX5_ahead_52 : decode cX5_ahead 52 = .ok (.iadd, 1) := by decide +kernel
theorem dX5_ahead_53 : decode cX5_ahead 53 = .ok (.istore_n 3, 1) := by decide +kernel
theorem dX5_ahead_54 : decode cX5_ahead 54 = .ok (.iinc 4 1, 3) := by decide +kernel
theorem dX5_ahead_57 : decode cX5_ahead 57 = .ok (.goto (-52), 3) := by decide +kernel
theorem dX5_ahead_60 : decode cX5_ahead 60 = .ok (.iload_n 3, 1) := by decide +kernel
theorem dX5_ahead_61 : decode cX5_ahead 61 = .ok (.ireturn, 1) := by decide +kernel
theorem dX5_fold_0 : decode cX5_fold 0 = .ok (.aload_n 0, 1) := by decide +kernel
theorem dX5_fold_1 : decode cX5_fold 1 = .ok (.iload_n 1, 1) := by decide +kernel
theorem dX5_fold_2 : decode cX5_fold 2 = .ok (.iload_n 2, 1) := by decide +kernel
theorem dX5_fold_3 : decode cX5_fold 3 = .ok (.invokevirtual 112, 3) := by decide +kernel
theorem dX5_fold_6 : decode cX5_fold 6 = .ok (.istore_n 3, 1) := by decide +kernel
theorem dX5_fold_7 : decode cX5_fold 7 = .ok (.aload_n 0, 1) := by decide +kernel
theorem dX5_fold_8 : decode cX5_fold 8 = .ok (.iload_n 3, 1) := by decide +kernel
theorem dX5_fold_9 : decode cX5_fold 9 = .ok (.ifCond .le 20, 3) := by decide +kernel
theorem dX5_fold_12 : decode cX5_fold 12 = .ok (.iload_n 3, 1) := by decide +kernel
theorem dX5_fold_13 : decode cX5_fold 13 = .ok (.aload_n 0, 1) := by decide +kernel
theorem dX5_fold_14 : decode cX5_fold 14 = .ok (.getfield 36, 3) := by decide +kernel
theorem dX5_fold_17 : decode cX5_fold 17 = .ok (.aload_n 0, 1) := by decide +kernel
theorem dX5_fold_18 : decode cX5_fold 18 = .ok (.getfield 39, 3) := by decide +kernel
theorem dX5_fold_21 : decode cX5_fold 21 = .ok (.imul, 1) := by decide +kernel
theorem dX5_fold_22 : decode cX5_fold 22 = .ok (.if_icmp .ge 7, 3) := by decide +kernel
theorem dX5_fold_25 : decode cX5_fold 25 = .ok (.iconst 1, 1) := by decide +kernel
theorem dX5_fold_26 : decode cX5_fold 26 = .ok (.goto 4, 3) := by decide +kernel
theorem dX5_fold_29 : decode cX5_fold 29 = .ok (.iconst 0, 1) := by decide +kernel
theorem dX5_fold_30 : decode cX5_fold 30 = .ok (.invokevirtual 59, 3) := by decide +kernel
theorem dX5_fold_33 : decode cX5_fold 33 = .ok (.ifCond .ne 5, 3) := by decide +kernel
theorem dX5_fold_36 : decode cX5_fold 36 = .ok (.iconst 0, 1) := by decide +kernel
theorem dX5_fold_37 : decode cX5_fold 37 = .ok (.ireturn, 1) := by decide +kernel
theorem dX5_fold_38 : decode cX5_fold 38 = .ok (.iconst 0, 1) := by decide +kernel
theorem dX5_fold_39 : decode cX5_fold 39 = .ok (.istore 4, 2) := by decide +kernel
theorem dX5_fold_41 : decode cX5_fold 41 = .ok (.iconst 0, 1) := by decide +kernel
theorem dX5_fold_42 : decode cX5_fold 42 = .ok (.istore 5, 2) := by decide +kernel
theorem dX5_fold_44 : decode cX5_fold 44 = .ok (.iload 5, 2) := by decide +kernel
theorem dX5_fold_46 : decode cX5_fold 46 = .ok (.bipush 36, 2) := by decide +kernel
theorem dX5_fold_48 : decode cX5_fold 48 = .ok (.if_icmp .ge 44, 3) := by decide +kernel

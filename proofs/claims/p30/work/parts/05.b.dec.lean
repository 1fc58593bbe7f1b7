theorem dX4_table_57 : decode cX4_table 57 = .ok (.iload_n 3, 1) := by decide +kernel
theorem dX4_table_58 : decode cX4_table 58 = .ok (.invokevirtual 49, 3) := by decide +kernel
theorem dX4_table_61 : decode cX4_table 61 = .ok (.ifCond .ne 13, 3) := by decide +kernel
theorem dX4_table_64 : decode cX4_table 64 = .ok (.new 53, 3) := by decide +kernel
theorem dX4_table_67 : decode cX4_table 67 = .ok (.dup, 1) := by decide +kernel
theorem dX4_table_68 : decode cX4_table 68 = .ok (.ldc 55, 2) := by decide +kernel
theorem dX4_table_70 : decode cX4_table 70 = .ok (.invokespecial 57, 3) := by decide +kernel
theorem dX4_table_73 : decode cX4_table 73 = .ok (.athrow, 1) := by decide +kernel
theorem dX4_table_74 : decode cX4_table 74 = .ok (.aload_n 0, 1) := by decide +kernel
theorem dX4_table_75 : decode cX4_table 75 = .ok (.getfield 10, 3) := by decide +kernel
theorem dX4_table_78 : decode cX4_table 78 = .ok (.iload_n 1, 1) := by decide +kernel
theorem dX4_table_79 : decode cX4_table 79 = .ok (.iload_n 2, 1) := by decide +kernel
theorem dX4_table_80 : decode cX4_table 80 = .ok (.iload_n 3, 1) := by decide +kernel
theorem dX4_table_81 : decode cX4_table 81 = .ok (.invokevirtual 58, 3) := by decide +kernel
theorem dX4_table_84 : decode cX4_table 84 = .ok (.return_, 1) := by decide +kernel
theorem dX4_x_0 : decode cX4_x 0 = .ok (.iload_n 1, 1) := by decide +kernel
theorem dX4_x_1 : decode cX4_x 1 = .ok (.invokestatic 62, 3) := by decide +kernel
theorem dX4_x_4 : decode cX4_x 4 = .ok (.iload_n 2, 1) := by decide +kernel
theorem dX4_x_5 : decode cX4_x 5 = .ok (.invokestatic 66, 3) := by decide +kernel
theorem dX4_x_8 : decode cX4_x 8 = .ok (.iload_n 2, 1) := by decide +kernel
theorem dX4_x_9 : decode cX4_x 9 = .ok (.aload_n 0, 1) := by decide +kernel
theorem dX4_x_10 : decode cX4_x 10 = .ok (.getfield 10, 3) := by decide +kernel
theorem dX4_x_13 : decode cX4_x 13 = .ok (.iload_n 1, 1) := by decide +kernel
theorem dX4_x_14 : decode cX4_x 14 = .ok (.invokevirtual 69, 3) := by decide +kernel
theorem dX4_x_17 : decode cX4_x 17 = .ok (.imul, 1) := by decide +kernel
theorem dX4_x_18 : decode cX4_x 18 = .ok (.ireturn, 1) := by decide +kernel
theorem dX4_y_0 : decode cX4_y 0 = .ok (.iload_n 1, 1) := by decide +kernel
theorem dX4_y_1 : decode cX4_y 1 = .ok (.invokestatic 62, 3) := by decide +kernel
theorem dX4_y_4 : decode cX4_y 4 = .ok (.aload_n 0, 1) := by decide +kernel
theorem dX4_y_5 : decode cX4_y 5 = .ok (.getfield 10, 3) := by decide +kernel
theorem dX4_y_8 : decode cX4_y 8 = .ok (.iload_n 1, 1) := by decide +kernel
theorem dX4_y_9 : decode cX4_y 9 = .ok (.invokevirtual 73, 3) := by decide +kernel
theorem dX4_y_12 : decode cX4_y 12 = .ok (.ireturn, 1) := by decide +kernel
theorem dX4_latitudeAt_0 : decode cX4_latitudeAt 0 = .ok (.iload_n 1, 1) := by decide +kernel
theorem dX4_latitudeAt_1 : decode cX4_latitudeAt 1 = .ok (.ldc 76, 2) := by decide +kernel
theorem dX4_latitudeAt_3 : decode cX4_latitudeAt 3 = .ok (.if_icmp .lt 9, 3) := by decide +kernel
theorem dX4_latitudeAt_6 : decode cX4_latitudeAt 6 = .ok (.iload_n 1, 1) := by decide +kernel
theorem dX4_latitudeAt_7 : decode cX4_latitudeAt 7 = .ok (.ldc 77, 2) := by decide +kernel
theorem dX4_latitudeAt_9 : decode cX4_latitudeAt 9 = .ok (.if_icmp .le 13, 3) := by decide +kernel
theorem dX4_latitudeAt_12 : decode cX4_latitudeAt 12 = .ok (.new 44, 3) := by decide +kernel
theorem dX4_latitudeAt_15 : decode cX4_latitudeAt 15 = .ok (.dup, 1) := by decide +kernel
theorem dX4_latitudeAt_16 : decode cX4_latitudeAt 16 = .ok (.ldc 78, 2) := by decide +kernel
theorem dX4_latitudeAt_18 : decode cX4_latitudeAt 18 = .ok (.invokespecial 48, 3) := by decide +kernel
theorem dX4_latitudeAt_21 : decode cX4_latitudeAt 21 = .ok (.athrow, 1) := by decide +kernel
theorem dX4_latitudeAt_22 : decode cX4_latitudeAt 22 = .ok (.aload_n 0, 1) := by decide +kernel
theorem dX4_latitudeAt_23 : decode cX4_latitudeAt 23 = .ok (.getfield 10, 3) := by decide +kernel
theorem dX4_latitudeAt_26 : decode cX4_latitudeAt 26 = .ok (.iload_n 1, 1) := by decide +kernel
theorem dX4_latitudeAt_27 : decode cX4_latitudeAt 27 = .ok (.invokevirtual 80, 3) := by decide +kernel
theorem dX4_latitudeAt_30 : decode cX4_latitudeAt 30 = .ok (.istore_n 2, 1) := by decide +kernel
theorem dX4_latitudeAt_31 : decode cX4_latitudeAt 31 = .ok (.iload_n 2, 1) := by decide +kernel
theorem dX4_latitudeAt_32 : decode cX4_latitudeAt 32 = .ok (.bipush (-90), 2) := by decide +kernel
theorem dX4_latitudeAt_34 : decode cX4_latitudeAt 34 = .ok (.if_icmp .ge 13, 3) := by decide +kernel
theorem dX4_latitudeAt_37 : decode cX4_latitudeAt 37 = .ok (.new 53, 3) := by decide +kernel
theorem dX4_latitudeAt_40 : decode cX4_latitudeAt 40 = .ok (.dup, 1) := by decide +kernel
theorem dX4_latitudeAt_41 : decode cX4_latitudeAt 41 = .ok (.ldc 83, 2) := by decide +kernel
theorem dX4_latitudeAt_43 : decode cX4_latitudeAt 43 = .ok (.invokespecial 57, 3) := by decide +kernel
theorem dX4_latitudeAt_46 : decode cX4_latitudeAt 46 = .ok (.athrow, 1) := by decide +kernel
theorem dX4_latitudeAt_47 : decode cX4_latitudeAt 47 = .ok (.iload_n 2, 1) := by decide +kernel
theorem dX4_latitudeAt_48 : decode cX4_latitudeAt 48 = .ok (.ireturn, 1) := by decide +kernel
theorem dX4_area_0 : decode cX4_area 0 = .ok (.iload_n 1, 1) := by decide +kernel
theorem dX4_area_1 : decode cX4_area 1 = .ok (.bipush (-90), 2) := by decide +kernel
theorem dX4_area_3 : decode cX4_area 3 = .ok (.if_icmp .lt 14, 3) := by decide +kernel
theorem dX4_area_6 : decode cX4_area 6 = .ok (.iload_n 1, 1) := by decide +kernel
theorem dX4_area_7 : decode cX4_area 7 = .ok (.iload_n 2, 1) := by decide +kernel
theorem dX4_area_8 : decode cX4_area 8 = .ok (.if_icmp .gt 9, 3) := by decide +kernel
theorem dX4_area_11 : decode cX4_area 11 = .ok (.iload_n 2, 1) := by decide +kernel
theorem dX4_area_12 : decode cX4_area 12 = .ok (.bipush 90, 2) := by decide +kernel
theorem dX4_area_14 : decode cX4_area 14 = .ok (.if_icmp .le 13, 3) := by decide +kernel
theorem dX4_area_17 : decode cX4_area 17 = .ok (.new 44, 3) := by decide +kernel
theorem dX4_area_20 : decode cX4_area 20 = .ok (.dup, 1) := by decide +kernel
theorem dX4_area_21 : decode cX4_area 21 = .ok (.ldc 85, 2) := by decide +kernel
theorem dX4_area_23 : decode cX4_area 23 = .ok (.invokespecial 48, 3) := by decide +kernel
theorem dX4_area_26 : decode cX4_area 26 = .ok (.athrow, 1) := by decide +kernel
theorem dX4_area_27 : decode cX4_area 27 = .ok (.iload_n 3, 1) := by decide +kernel
theorem dX4_area_28 : decode cX4_area 28 = .ok (.sipush (-180), 3) := by decide +kernel
theorem dX4_area_31 : decode cX4_area 31 = .ok (.if_icmp .lt 17, 3) := by decide +kernel
theorem dX4_area_34 : decode cX4_area 34 = .ok (.iload_n 3, 1) := by decide +kernel
theorem dX4_area_35 : decode cX4_area 35 = .ok (.iload 4, 2) := by decide +kernel
theorem dX4_area_37 : decode cX4_area 37 = .ok (.if_icmp .gt 11, 3) := by decide +kernel
theorem dX4_area_40 : decode cX4_area 40 = .ok (.iload 4, 2) := by decide +kernel
theorem dX4_area_42 : decode cX4_area 42 = .ok (.sipush 180, 3) := by decide +kernel
theorem dX4_area_45 : decode cX4_area 45 = .ok (.if_icmp .le 13, 3) := by decide +kernel
theorem dX4_area_48 : decode cX4_area 48 = .ok (.new 44, 3) := by decide +kernel
theorem dX4_area_51 : decode cX4_area 51 = .ok (.dup, 1) := by decide +kernel
theorem dX4_area_52 : decode cX4_area 52 = .ok (.ldc 87, 2) := by decide +kernel
theorem dX4_area_54 : decode cX4_area 54 = .ok (.invokespecial 48, 3) := by decide +kernel
theorem dX4_area_57 : decode cX4_area 57 = .ok (.athrow, 1) := by decide +kernel
theorem dX4_area_58 : decode cX4_area 58 = .ok (.aload_n 0, 1) := by decide +kernel
theorem dX4_area_59 : decode cX4_area 59 = .ok (.getfield 10, 3) := by decide +kernel
theorem dX4_area_62 : decode cX4_area 62 = .ok (.iload_n 1, 1) := by decide +kernel
theorem dX4_area_63 : decode cX4_area 63 = .ok (.iload_n 2, 1) := by decide +kernel
theorem dX4_area_64 : decode cX4_area 64 = .ok (.iload 4, 2) := by decide +kernel
theorem dX4_area_66 : decode cX4_area 66 = .ok (.iload_n 3, 1) := by decide +kernel
theorem dX4_area_67 : decode cX4_area 67 = .ok (.isub, 1) := by decide +kernel
theorem dX4_area_68 : decode cX4_area 68 = .ok (.invokevirtual 89, 3) := by decide +kernel
theorem dX4_area_71 : decode cX4_area 71 = .ok (.lreturn, 1) := by decide +kernel
theorem dX4_areaByCells_0 : decode cX4_areaByCells 0 = .ok (.aload_n 0, 1) := by decide +kernel
theorem dX4_areaByCells_1 : decode cX4_areaByCells 1 = .ok (.iload_n 1, 1) := by decide +kernel
theorem dX4_areaByCells_2 : decode cX4_areaByCells 2 = .ok (.iload_n 2, 1) := by decide +kernel
theorem dX4_areaByCells_3 : decode cX4_areaByCells 3 = .ok (.iload_n 3, 1) := by decide +kernel
theorem dX4_areaByCells_4 : decode cX4_areaByCells 4 = .ok (.iload 4, 2) := by decide +kernel
theorem dX4_areaByCells_6 : decode cX4_areaByCells 6 = .ok (.invokevirtual 93, 3) := by decide +kernel
theorem dX4_areaByCells_9 : decode cX4_areaByCells 9 = .ok (.lreturn, 1) := by decide +kernel
theorem dX4_truth_0 : decode cX4_truth 0 = .ok (.iload_n 1, 1) := by decide +kernel
theorem dX4_truth_1 : decode cX4_truth 1 = .ok (.invokestatic 97, 3) := by decide +kernel
theorem dX4_truth_4 : decode cX4_truth 4 = .ok (.iload_n 2, 1) := by decide +kernel
theorem dX4_truth_5 : decode cX4_truth 5 = .ok (.iconst 1, 1) := by decide +kernel
theorem dX4_truth_6 : decode cX4_truth 6 = .ok (.if_icmp .lt 9, 3) := by decide +kernel
theorem dX4_truth_9 : decode cX4_truth 9 = .ok (.iload_n 2, 1) := by decide +kernel
theorem dX4_truth_10 : decode cX4_truth 10 = .ok (.ldc 100, 2) := by decide +kernel
theorem dX4_truth_12 : decode cX4_truth 12 = .ok (.if_icmp .le 13, 3) := by decide +kernel
theorem dX4_truth_15 : decode cX4_truth 15 = .ok (.new 44, 3) := by decide +kernel
theorem dX4_truth_18 : decode cX4_truth 18 = .ok (.dup, 1) := by decide +kernel
theorem dX4_truth_19 : decode cX4_truth 19 = .ok (.ldc 101, 2) := by decide +kernel
theorem dX4_truth_21 : decode cX4_truth 21 = .ok (.invokespecial 48, 3) := by decide +kernel
theorem dX4_truth_24 : decode cX4_truth 24 = .ok (.athrow, 1) := by decide +kernel
theorem dX4_truth_25 : decode cX4_truth 25 = .ok (.aload_n 0, 1) := by decide +kernel
theorem dX4_truth_26 : decode cX4_truth 26 = .ok (.getfield 19, 3) := by decide +kernel
theorem dX4_truth_29 : decode cX4_truth 29 = .ok (.iload_n 1, 1) := by decide +kernel
theorem dX4_truth_30 : decode cX4_truth 30 = .ok (.iload_n 2, 1) := by decide +kernel
theorem dX4_truth_31 : decode cX4_truth 31 = .ok (.invokevirtual 103, 3) := by decide +kernel
theorem dX4_truth_34 : decode cX4_truth 34 = .ok (.ireturn, 1) := by decide +kernel
theorem dX4_keepsAreas_0 : decode cX4_keepsAreas 0 = .ok (.aload_n 0, 1) := by decide +kernel
theorem dX4_keepsAreas_1 : decode cX4_keepsAreas 1 = .ok (.getfield 19, 3) := by decide +kernel
theorem dX4_keepsAreas_4 : decode cX4_keepsAreas 4 = .ok (.aload_n 0, 1) := by decide +kernel
theorem dX4_keepsAreas_5 : decode cX4_keepsAreas 5 = .ok (.getfield 10, 3) := by decide +kernel
theorem dX4_keepsAreas_8 : decode cX4_keepsAreas 8 = .ok (.invokevirtual 107, 3) := by decide +kernel
theorem dX4_keepsAreas_11 : decode cX4_keepsAreas 11 = .ok (.ireturn, 1) := by decide +kernel
theorem dX4_widest_0 : decode cX4_widest 0 = .ok (.aload_n 0, 1) := by decide +kernel
theorem dX4_widest_1 : decode cX4_widest 1 = .ok (.getfield 19, 3) := by decide +kernel
theorem dX4_widest_4 : decode cX4_widest 4 = .ok (.aload_n 0, 1) := by decide +kernel
theorem dX4_widest_5 : decode cX4_widest 5 = .ok (.getfield 10, 3) := by decide +kernel
theorem dX4_widest_8 : decode cX4_widest 8 = .ok (.invokevirtual 111, 3) := by decide +kernel
theorem dX4_widest_11 : decode cX4_widest 11 = .ok (.ireturn, 1) := by decide +kernel
theorem dX4_stretch_0 : decode cX4_stretch 0 = .ok (.iload_n 1, 1) := by decide +kernel
theorem dX4_stretch_1 : decode cX4_stretch 1 = .ok (.invokestatic 97, 3) := by decide +kernel
theorem dX4_stretch_4 : decode cX4_stretch 4 = .ok (.aload_n 0, 1) := by decide +kernel
theorem dX4_stretch_5 : decode cX4_stretch 5 = .ok (.getfield 19, 3) := by decide +kernel
theorem dX4_stretch_8 : decode cX4_stretch 8 = .ok (.aload_n 0, 1) := by decide +kernel
theorem dX4_stretch_9 : decode cX4_stretch 9 = .ok (.getfield 10, 3) := by decide +kernel
theorem dX4_stretch_12 : decode cX4_stretch 12 = .ok (.iload_n 1, 1) := by decide +kernel
theorem dX4_stretch_13 : decode cX4_stretch 13 = .ok (.invokevirtual 115, 3) := by decide +kernel
theorem dX4_stretch_16 : decode cX4_stretch 16 = .ok (.freturn, 1) := by decide +kernel
theorem dX4_apart_0 : decode cX4_apart 0 = .ok (.iload_n 1, 1) := by decide +kernel
theorem dX4_apart_1 : decode cX4_apart 1 = .ok (.invokestatic 66, 3) := by decide +kernel
theorem dX4_apart_4 : decode cX4_apart 4 = .ok (.iload_n 2, 1) := by decide +kernel
theorem dX4_apart_5 : decode cX4_apart 5 = .ok (.invokestatic 66, 3) := by decide +kernel
theorem dX4_apart_8 : decode cX4_apart 8 = .ok (.iload_n 1, 1) := by decide +kernel
theorem dX4_apart_9 : decode cX4_apart 9 = .ok (.iload_n 2, 1) := by decide +kernel
theorem dX4_apart_10 : decode cX4_apart 10 = .ok (.invokestatic 119, 3) := by decide +kernel
theorem dX4_apart_13 : decode cX4_apart 13 = .ok (.ireturn, 1) := by decide +kernel
theorem dX4_ringWay_0 : decode cX4_ringWay 0 = .ok (.iload_n 1, 1) := by decide +kernel
theorem dX4_ringWay_1 : decode cX4_ringWay 1 = .ok (.invokestatic 62, 3) := by decide +kernel
theorem dX4_ringWay_4 : decode cX4_ringWay 4 = .ok (.iload_n 2, 1) := by decide +kernel
theorem dX4_ringWay_5 : decode cX4_ringWay 5 = .ok (.invokestatic 66, 3) := by decide +kernel
theorem dX4_ringWay_8 : decode cX4_ringWay 8 = .ok (.iload_n 3, 1) := by decide +kernel
theorem dX4_ringWay_9 : decode cX4_ringWay 9 = .ok (.invokestatic 66, 3) := by decide +kernel
theorem dX4_ringWay_12 : decode cX4_ringWay 12 = .ok (.iload_n 2, 1) := by decide +kernel
theorem dX4_ringWay_13 : decode cX4_ringWay 13 = .ok (.iload_n 3, 1) := by decide +kernel
theorem dX4_ringWay_14 : decode cX4_ringWay 14 = .ok (.invokestatic 119, 3) := by decide +kernel
theorem dX4_ringWay_17 : decode cX4_ringWay 17 = .ok (.aload_n 0, 1) := by decide +kernel
theorem dX4_ringWay_18 : decode cX4_ringWay 18 = .ok (.getfield 10, 3) := by decide +kernel
theorem dX4_ringWay_21 : decode cX4_ringWay 21 = .ok (.iload_n 1, 1) := by decide +kernel
theorem dX4_ringWay_22 : decode cX4_ringWay 22 = .ok (.invokevirtual 69, 3) := by decide +kernel
theorem dX4_ringWay_25 : decode cX4_ringWay 25 = .ok (.imul, 1) := by decide +kernel
theorem dX4_ringWay_26 : decode cX4_ringWay 26 = .ok (.ireturn, 1) := by decide +kernel
theorem dX4_zones_0 : decode cX4_zones 0 = .ok (.iload_n 1, 1) := by decide +kernel
theorem dX4_zones_1 : decode cX4_zones 1 = .ok (.iconst 1, 1) := by decide +kernel
theorem dX4_zones_2 : decode cX4_zones 2 = .ok (.if_icmp .lt 18, 3) := by decide +kernel
theorem dX4_zones_5 : decode cX4_zones 5 = .ok (.iload_n 1, 1) := by decide +kernel
theorem dX4_zones_6 : decode cX4_zones 6 = .ok (.sipush 360, 3) := by decide +kernel
theorem dX4_zones_9 : decode cX4_zones 9 = .ok (.if_icmp .gt 11, 3) := by decide +kernel
theorem dX4_zones_12 : decode cX4_zones 12 = .ok (.sipush 360, 3) := by decide +kernel
theorem dX4_zones_15 : decode cX4_zones 15 = .ok (.iload_n 1, 1) := by decide +kernel
theorem dX4_zones_16 : decode cX4_zones 16 = .ok (.irem, 1) := by decide +kernel
theorem dX4_zones_17 : decode cX4_zones 17 = .ok (.ifCond .eq 13, 3) := by decide +kernel
theorem dX4_zones_20 : decode cX4_zones 20 = .ok (.new 44, 3) := by decide +kernel
theorem dX4_zones_23 : decode cX4_zones 23 = .ok (.dup, 1) := by decide +kernel
theorem dX4_zones_24 : decode cX4_zones 24 = .ok (.ldc 122, 2) := by decide +kernel
theorem dX4_zones_26 : decode cX4_zones 26 = .ok (.invokespecial 48, 3) := by decide +kernel
theorem dX4_zones_29 : decode cX4_zones 29 = .ok (.athrow, 1) := by decide +kernel
theorem dX4_zones_30 : decode cX4_zones 30 = .ok (.aload_n 0, 1) := by decide +kernel
theorem dX4_zones_31 : decode cX4_zones 31 = .ok (.getfield 26, 3) := by decide +kernel
theorem dX4_zones_34 : decode cX4_zones 34 = .ok (.iload_n 1, 1) := by decide +kernel
theorem dX4_zones_35 : decode cX4_zones 35 = .ok (.invokevirtual 124, 3) := by decide +kernel
theorem dX4_zones_38 : decode cX4_zones 38 = .ok (.ireturn, 1) := by decide +kernel
theorem dX4_zone_0 : decode cX4_zone 0 = .ok (.iload_n 1, 1) := by decide +kernel
theorem dX4_zone_1 : decode cX4_zone 1 = .ok (.invokestatic 66, 3) := by decide +kernel
theorem dX4_zone_4 : decode cX4_zone 4 = .ok (.aload_n 0, 1) := by decide +kernel
theorem dX4_zone_5 : decode cX4_zone 5 = .ok (.getfield 26, 3) := by decide +kernel
theorem dX4_zone_8 : decode cX4_zone 8 = .ok (.iload_n 1, 1) := by decide +kernel
theorem dX4_zone_9 : decode cX4_zone 9 = .ok (.invokevirtual 127, 3) := by decide +kernel
theorem dX4_zone_12 : decode cX4_zone 12 = .ok (.ireturn, 1) := by decide +kernel
theorem dX4_seams_0 : decode cX4_seams 0 = .ok (.iload_n 1, 1) := by decide +kernel
theorem dX4_seams_1 : decode cX4_seams 1 = .ok (.invokestatic 66, 3) := by decide +kernel
theorem dX4_seams_4 : decode cX4_seams 4 = .ok (.iload_n 2, 1) := by decide +kernel
theorem dX4_seams_5 : decode cX4_seams 5 = .ok (.invokestatic 66, 3) := by decide +kernel
theorem dX4_seams_8 : decode cX4_seams 8 = .ok (.iload_n 1, 1) := by decide +kernel
theorem dX4_seams_9 : decode cX4_seams 9 = .ok (.iload_n 2, 1) := by decide +kernel
theorem dX4_seams_10 : decode cX4_seams 10 = .ok (.invokestatic 130, 3) := by decide +kernel
theorem dX4_seams_13 : decode cX4_seams 13 = .ok (.ifCond .eq 7, 3) := by decide +kernel
theorem dX4_seams_16 : decode cX4_seams 16 = .ok (.iload_n 1, 1) := by decide +kernel
theorem dX4_seams_17 : decode cX4_seams 17 = .ok (.goto 4, 3) := by decide +kernel
theorem dX4_seams_20 : decode cX4_seams 20 = .ok (.iload_n 2, 1) := by decide +kernel
theorem dX4_seams_21 : decode cX4_seams 21 = .ok (.istore_n 3, 1) := by decide +kernel
theorem dX4_seams_22 : decode cX4_seams 22 = .ok (.aload_n 0, 1) := by decide +kernel
theorem dX4_seams_23 : decode cX4_seams 23 = .ok (.getfield 26, 3) := by decide +kernel
theorem dX4_seams_26 : decode cX4_seams 26 = .ok (.iload_n 3, 1) := by decide +kernel
theorem dX4_seams_27 : decode cX4_seams 27 = .ok (.iload_n 1, 1) := by decide +kernel
theorem dX4_seams_28 : decode cX4_seams 28 = .ok (.iload_n 2, 1) := by decide +kernel
theorem dX4_seams_29 : decode cX4_seams 29 = .ok (.invokestatic 119, 3) := by decide +kernel
theorem dX4_seams_32 : decode cX4_seams 32 = .ok (.invokevirtual 133, 3) := by decide +kernel
theorem dX4_seams_35 : decode cX4_seams 35 = .ok (.ireturn, 1) := by decide +kernel
theorem dX4_dateLine_0 : decode cX4_dateLine 0 = .ok (.iload_n 1, 1) := by decide +kernel
theorem dX4_dateLine_1 : decode cX4_dateLine 1 = .ok (.invokestatic 66, 3) := by decide +kernel
theorem dX4_dateLine_4 : decode cX4_dateLine 4 = .ok (.iload_n 2, 1) := by decide +kernel
theorem dX4_dateLine_5 : decode cX4_dateLine 5 = .ok (.invokestatic 66, 3) := by decide +kernel
theorem dX4_dateLine_8 : decode cX4_dateLine 8 = .ok (.iload_n 1, 1) := by decide +kernel
theorem dX4_dateLine_9 : decode cX4_dateLine 9 = .ok (.iload_n 2, 1) := by decide +kernel
theorem dX4_dateLine_10 : decode cX4_dateLine 10 = .ok (.invokestatic 130, 3) := by decide +kernel
theorem dX4_dateLine_13 : decode cX4_dateLine 13 = .ok (.ifCond .eq 14, 3) := by decide +kernel
theorem dX4_dateLine_16 : decode cX4_dateLine 16 = .ok (.iload_n 2, 1) := by decide +kernel
theorem dX4_dateLine_17 : decode cX4_dateLine 17 = .ok (.iload_n 1, 1) := by decide +kernel
theorem dX4_dateLine_18 : decode cX4_dateLine 18 = .ok (.if_icmp .ge 7, 3) := by decide +kernel
theorem dX4_dateLine_21 : decode cX4_dateLine 21 = .ok (.iconst 1, 1) := by decide +kernel
theorem dX4_dateLine_22 : decode cX4_dateLine 22 = .ok (.goto 4, 3) := by decide +kernel
theorem dX4_dateLine_25 : decode cX4_dateLine 25 = .ok (.iconst 0, 1) := by decide +kernel
theorem dX4_dateLine_26 : decode cX4_dateLine 26 = .ok (.ireturn, 1) := by decide +kernel
theorem dX4_dateLine_27 : decode cX4_dateLine 27 = .ok (.iload_n 2, 1) := by decide +kernel
theorem dX4_dateLine_28 : decode cX4_dateLine 28 = .ok (.iload_n 1, 1) := by decide +kernel
theorem dX4_dateLine_29 : decode cX4_dateLine 29 = .ok (.if_icmp .le 7, 3) := by decide +kernel
theorem dX4_dateLine_32 : decode cX4_dateLine 32 = .ok (.iconst (-1), 1) := by decide +kernel
theorem dX4_dateLine_33 : decode cX4_dateLine 33 = .ok (.goto 4, 3) := by decide +kernel
theorem dX4_dateLine_36 : decode cX4_dateLine 36 = .ok (.iconst 0, 1) := by decide +kernel
theorem dX4_dateLine_37 : decode cX4_dateLine 37 = .ok (.ireturn, 1) := by decide +kernel
theorem dX4_sheet_0 : decode cX4_sheet 0 = .ok (.iload_n 1, 1) := by decide +kernel
theorem dX4_sheet_1 : decode cX4_sheet 1 = .ok (.iconst 1, 1) := by decide +kernel
theorem dX4_sheet_2 : decode cX4_sheet 2 = .ok (.if_icmp .lt 20, 3) := by decide +kernel
theorem dX4_sheet_5 : decode cX4_sheet 5 = .ok (.iload_n 1, 1) := by decide +kernel
theorem dX4_sheet_6 : decode cX4_sheet 6 = .ok (.bipush 6, 2) := by decide +kernel
theorem dX4_sheet_8 : decode cX4_sheet 8 = .ok (.if_icmp .gt 14, 3) := by decide +kernel
theorem dX4_sheet_11 : decode cX4_sheet 11 = .ok (.iload_n 2, 1) := by decide +kernel
theorem dX4_sheet_12 : decode cX4_sheet 12 = .ok (.iconst 1, 1) := by decide +kernel
theorem dX4_sheet_13 : decode cX4_sheet 13 = .ok (.if_icmp .lt 9, 3) := by decide +kernel
theorem dX4_sheet_16 : decode cX4_sheet 16 = .ok (.iload_n 2, 1) := by decide +kernel
theorem dX4_sheet_17 : decode cX4_sheet 17 = .ok (.bipush 6, 2) := by decide +kernel
theorem dX4_sheet_19 : decode cX4_sheet 19 = .ok (.if_icmp .le 13, 3) := by decide +kernel
theorem dX4_sheet_22 : decode cX4_sheet 22 = .ok (.new 44, 3) := by decide +kernel
theorem dX4_sheet_25 : decode cX4_sheet 25 = .ok (.dup, 1) := by decide +kernel
theorem dX4_sheet_26 : decode cX4_sheet 26 = .ok (.ldc 136, 2) := by decide +kernel
theorem dX4_sheet_28 : decode cX4_sheet 28 = .ok (.invokespecial 48, 3) := by decide +kernel
theorem dX4_sheet_31 : decode cX4_sheet 31 = .ok (.athrow, 1) := by decide +kernel
theorem dX4_sheet_32 : decode cX4_sheet 32 = .ok (.aload_n 0, 1) := by decide +kernel
theorem dX4_sheet_33 : decode cX4_sheet 33 = .ok (.getfield 33, 3) := by decide +kernel
theorem dX4_sheet_36 : decode cX4_sheet 36 = .ok (.iload_n 1, 1) := by decide +kernel
theorem dX4_sheet_37 : decode cX4_sheet 37 = .ok (.iload_n 2, 1) := by decide +kernel
theorem dX4_sheet_38 : decode cX4_sheet 38 = .ok (.invokevirtual 138, 3) := by decide +kernel
theorem dX4_sheet_41 : decode cX4_sheet 41 = .ok (.return_, 1) := by decide +kernel
theorem dX4_foldColumns_0 : decode cX4_foldColumns 0 = .ok (.aload_n 0, 1) := by decide +kernel
theorem dX4_foldColumns_1 : decode cX4_foldColumns 1 = .ok (.getfield 33, 3) := by decide +kernel
theorem dX4_foldColumns_4 : decode cX4_foldColumns 4 = .ok (.iload_n 1, 1) := by decide +kernel
theorem dX4_foldColumns_5 : decode cX4_foldColumns 5 = .ok (.invokevirtual 142, 3) := by decide +kernel
theorem dX4_foldColumns_8 : decode cX4_foldColumns 8 = .ok (.invokestatic 145, 3) := by decide +kernel
theorem dX4_foldColumns_11 : decode cX4_foldColumns 11 = .ok (.ireturn, 1) := by decide +kernel
theorem dX4_foldRows_0 : decode cX4_foldRows 0 = .ok (.aload_n 0, 1) := by decide +kernel
theorem dX4_foldRows_1 : decode cX4_foldRows 1 = .ok (.getfield 33, 3) := by decide +kernel
theorem dX4_foldRows_4 : decode cX4_foldRows 4 = .ok (.iload_n 1, 1) := by decide +kernel
theorem dX4_foldRows_5 : decode cX4_foldRows 5 = .ok (.invokevirtual 148, 3) := by decide +kernel
theorem dX4_foldRows_8 : decode cX4_foldRows 8 = .ok (.invokestatic 145, 3) := by decide +kernel
theorem dX4_foldRows_11 : decode cX4_foldRows 11 = .ok (.ireturn, 1) := by decide +kernel
theorem dX4_unfold_0 : decode cX4_unfold 0 = .ok (.aload_n 0, 1) := by decide +kernel
theorem dX4_unfold_1 : decode cX4_unfold 1 = .ok (.getfield 33, 3) := by decide +kernel
theorem dX4_unfold_4 : decode cX4_unfold 4 = .ok (.invokevirtual 151, 3) := by decide +kernel
theorem dX4_unfold_7 : decode cX4_unfold 7 = .ok (.ireturn, 1) := by decide +kernel
theorem dX4_panel_0 : decode cX4_panel 0 = .ok (.iload_n 1, 1) := by decide +kernel
theorem dX4_panel_1 : decode cX4_panel 1 = .ok (.invokestatic 62, 3) := by decide +kernel
theorem dX4_panel_4 : decode cX4_panel 4 = .ok (.iload_n 2, 1) := by decide +kernel
theorem dX4_panel_5 : decode cX4_panel 5 = .ok (.invokestatic 66, 3) := by decide +kernel
theorem dX4_panel_8 : decode cX4_panel 8 = .ok (.bipush 10, 2) := by decide +kernel
theorem dX4_panel_10 : decode cX4_panel 10 = .ok (.aload_n 0, 1) := by decide +kernel
theorem dX4_panel_11 : decode cX4_panel 11 = .ok (.getfield 33, 3) := by decide +kernel
theorem dX4_panel_14 : decode cX4_panel 14 = .ok (.iload_n 2, 1) := by decide +kernel
theorem dX4_panel_15 : decode cX4_panel 15 = .ok (.invokevirtual 155, 3) := by decide +kernel
theorem dX4_panel_18 : decode cX4_panel 18 = .ok (.imul, 1) := by decide +kernel
theorem dX4_panel_19 : decode cX4_panel 19 = .ok (.aload_n 0, 1) := by decide +kernel
theorem dX4_panel_20 : decode cX4_panel 20 = .ok (.getfield 33, 3) := by decide +kernel
theorem dX4_panel_23 : decode cX4_panel 23 = .ok (.iload_n 1, 1) := by decide +kernel
theorem dX4_panel_24 : decode cX4_panel 24 = .ok (.invokevirtual 158, 3) := by decide +kernel
theorem dX4_panel_27 : decode cX4_panel 27 = .ok (.iadd, 1) := by decide +kernel
theorem dX4_panel_28 : decode cX4_panel 28 = .ok (.ireturn, 1) := by decide +kernel
theorem dX4_placeX_0 : decode cX4_placeX 0 = .ok (.aload_n 0, 1) := by decide +kernel
theorem dX4_placeX_1 : decode cX4_placeX 1 = .ok (.iload_n 1, 1) := by decide +kernel
theorem dX4_placeX_2 : decode cX4_placeX 2 = .ok (.iload_n 2, 1) := by decide +kernel
theorem dX4_placeX_3 : decode cX4_placeX 3 = .ok (.invokevirtual 161, 3) := by decide +kernel
theorem dX4_placeX_6 : decode cX4_placeX 6 = .ok (.aload_n 0, 1) := by decide +kernel
theorem dX4_placeX_7 : decode cX4_placeX 7 = .ok (.getfield 33, 3) := by decide +kernel
theorem dX4_placeX_10 : decode cX4_placeX 10 = .ok (.iload_n 1, 1) := by decide +kernel
theorem dX4_placeX_11 : decode cX4_placeX 11 = .ok (.iload_n 2, 1) := by decide +kernel
theorem dX4_placeX_12 : decode cX4_placeX 12 = .ok (.invokevirtual 164, 3) := by decide +kernel
theorem dX4_placeX_15 : decode cX4_placeX 15 = .ok (.ireturn, 1) := by decide +kernel
theorem dX4_placeY_0 : decode cX4_placeY 0 = .ok (.aload_n 0, 1) := by decide +kernel
theorem dX4_placeY_1 : decode cX4_placeY 1 = .ok (.iload_n 1, 1) := by decide +kernel
theorem dX4_placeY_2 : decode cX4_placeY 2 = .ok (.iload_n 2, 1) := by decide +kernel
theorem dX4_placeY_3 : decode cX4_placeY 3 = .ok (.invokevirtual 161, 3) := by decide +kernel
theorem dX4_placeY_6 : decode cX4_placeY 6 = .ok (.aload_n 0, 1) := by decide +kernel
theorem dX4_placeY_7 : decode cX4_placeY 7 = .ok (.getfield 33, 3) := by decide +kernel
theorem dX4_placeY_10 : decode cX4_placeY 10 = .ok (.iload_n 1, 1) := by decide +kernel
theorem dX4_placeY_11 : decode cX4_placeY 11 = .ok (.iload_n 2, 1) := by decide +kernel
theorem dX4_placeY_12 : decode cX4_placeY 12 = .ok (.invokevirtual 167, 3) := by decide +kernel
theorem dX4_placeY_15 : decode cX4_placeY 15 = .ok (.ireturn, 1) := by decide +kernel
theorem dX4_above_0 : decode cX4_above 0 = .ok (.aload_n 0, 1) := by decide +kernel
theorem dX4_above_1 : decode cX4_above 1 = .ok (.iload_n 1, 1) := by decide +kernel
theorem dX4_above_2 : decode cX4_above 2 = .ok (.iload_n 2, 1) := by decide +kernel
theorem dX4_above_3 : decode cX4_above 3 = .ok (.invokevirtual 161, 3) := by decide +kernel
theorem dX4_above_6 : decode cX4_above 6 = .ok (.aload_n 0, 1) := by decide +kernel
theorem dX4_above_7 : decode cX4_above 7 = .ok (.getfield 33, 3) := by decide +kernel
theorem dX4_above_10 : decode cX4_above 10 = .ok (.iload_n 1, 1) := by decide +kernel
theorem dX4_above_11 : decode cX4_above 11 = .ok (.iload_n 2, 1) := by decide +kernel
theorem dX4_above_12 : decode cX4_above 12 = .ok (.invokevirtual 170, 3) := by decide +kernel
theorem dX4_above_15 : decode cX4_above 15 = .ok (.ireturn, 1) := by decide +kernel
theorem dX4_isUp_0 : decode cX4_isUp 0 = .ok (.aload_n 0, 1) := by decide +kernel
theorem dX4_isUp_1 : decode cX4_isUp 1 = .ok (.iload_n 1, 1) := by decide +kernel
theorem dX4_isUp_2 : decode cX4_isUp 2 = .ok (.iload_n 2, 1) := by decide +kernel
theorem dX4_isUp_3 : decode cX4_isUp 3 = .ok (.invokevirtual 161, 3) := by decide +kernel
theorem dX4_isUp_6 : decode cX4_isUp 6 = .ok (.aload_n 0, 1) := by decide +kernel
theorem dX4_isUp_7 : decode cX4_isUp 7 = .ok (.getfield 33, 3) := by decide +kernel
theorem dX4_isUp_10 : decode cX4_isUp 10 = .ok (.iload_n 1, 1) := by decide +kernel
theorem dX4_isUp_11 : decode cX4_isUp 11 = .ok (.iload_n 2, 1) := by decide +kernel
theorem dX4_isUp_12 : decode cX4_isUp 12 = .ok (.invokevirtual 173, 3) := by decide +kernel
theorem dX4_isUp_15 : decode cX4_isUp 15 = .ok (.ireturn, 1) := by decide +kernel
theorem dX4_thickness_0 : decode cX4_thickness 0 = .ok (.aload_n 0, 1) := by decide +kernel
theorem dX4_thickness_1 : decode cX4_thickness 1 = .ok (.getfield 33, 3) := by decide +kernel
theorem dX4_thickness_4 : decode cX4_thickness 4 = .ok (.invokevirtual 176, 3) := by decide +kernel
theorem dX4_thickness_7 : decode cX4_thickness 7 = .ok (.ireturn, 1) := by decide +kernel
theorem dX4_readable_0 : decode cX4_readable 0 = .ok (.aload_n 0, 1) := by decide +kernel
theorem dX4_readable_1 : decode cX4_readable 1 = .ok (.getfield 33, 3) := by decide +kernel
theorem dX4_readable_4 : decode cX4_readable 4 = .ok (.invokevirtual 179, 3) := by decide +kernel
theorem dX4_readable_7 : decode cX4_readable 7 = .ok (.ireturn, 1) := by decide +kernel
theorem dX4_requireLatitude_0 : decode cX4_requireLatitude 0 = .ok (.iload_n 0, 1) := by decide +kernel
theorem dX4_requireLatitude_1 : decode cX4_requireLatitude 1 = .ok (.bipush (-90), 2) := by decide +kernel
theorem dX4_requireLatitude_3 : decode cX4_requireLatitude 3 = .ok (.if_icmp .lt 9, 3) := by decide +kernel
theorem dX4_requireLatitude_6 : decode cX4_requireLatitude 6 = .ok (.iload_n 0, 1) := by decide +kernel
theorem dX4_requireLatitude_7 : decode cX4_requireLatitude 7 = .ok (.bipush 90, 2) := by decide +kernel
theorem dX4_requireLatitude_9 : decode cX4_requireLatitude 9 = .ok (.if_icmp .le 13, 3) := by decide +kernel
theorem dX4_requireLatitude_12 : decode cX4_requireLatitude 12 = .ok (.new 44, 3) := by decide +kernel
theorem dX4_requireLatitude_15 : decode cX4_requireLatitude 15 = .ok (.dup, 1) := by decide +kernel
theorem dX4_requireLatitude_16 : decode cX4_requireLatitude 16 = .ok (.ldc 182, 2) := by decide +kernel
theorem dX4_requireLatitude_18 : decode cX4_requireLatitude 18 = .ok (.invokespecial 48, 3) := by decide +kernel
theorem dX4_requireLatitude_21 : decode cX4_requireLatitude 21 = .ok (.athrow, 1) := by decide +kernel
theorem dX4_requireLatitude_22 : decode cX4_requireLatitude 22 = .ok (.return_, 1) := by decide +kernel
theorem dX4_requireLongitude_0 : decode cX4_requireLongitude 0 = .ok (.iload_n 0, 1) := by decide +kernel
theorem dX4_requireLongitude_1 : decode cX4_requireLongitude 1 = .ok (.sipush (-180), 3) := by decide +kernel
theorem dX4_requireLongitude_4 : decode cX4_requireLongitude 4 = .ok (.if_icmp .lt 10, 3) := by decide +kernel
theorem dX4_requireLongitude_7 : decode cX4_requireLongitude 7 = .ok (.iload_n 0, 1) := by decide +kernel
theorem dX4_requireLongitude_8 : decode cX4_requireLongitude 8 = .ok (.sipush 179, 3) := by decide +kernel
theorem dX4_requireLongitude_11 : decode cX4_requireLongitude 11 = .ok (.if_icmp .le 13, 3) := by decide +kernel
theorem dX4_requireLongitude_14 : decode cX4_requireLongitude 14 = .ok (.new 44, 3) := by decide +kernel
theorem dX4_requireLongitude_17 : decode cX4_requireLongitude 17 = .ok (.dup, 1) := by decide +kernel
theorem dX4_requireLongitude_18 : decode cX4_requireLongitude 18 = .ok (.ldc 184, 2) := by decide +kernel
theorem dX4_requireLongitude_20 : decode cX4_requireLongitude 20 = .ok (.invokespecial 48, 3) := by decide +kernel
theorem dX4_requireLongitude_23 : decode cX4_requireLongitude 23 = .ok (.athrow, 1) := by decide +kernel
theorem dX4_requireLongitude_24 : decode cX4_requireLongitude 24 = .ok (.return_, 1) := by decide +kernel
theorem dX4_requireBand_0 : decode cX4_requireBand 0 = .ok (.iload_n 0, 1) := by decide +kernel
theorem dX4_requireBand_1 : decode cX4_requireBand 1 = .ok (.ifCond .lt 9, 3) := by decide +kernel
theorem dX4_requireBand_4 : decode cX4_requireBand 4 = .ok (.iload_n 0, 1) := by decide +kernel
theorem dX4_requireBand_5 : decode cX4_requireBand 5 = .ok (.bipush 9, 2) := by decide +kernel
theorem dX4_requireBand_7 : decode cX4_requireBand 7 = .ok (.if_icmp .lt 13, 3) := by decide +kernel
theorem dX4_requireBand_10 : decode cX4_requireBand 10 = .ok (.new 37, 3) := by decide +kernel
theorem dX4_requireBand_13 : decode cX4_requireBand 13 = .ok (.dup, 1) := by decide +kernel
theorem dX4_requireBand_14 : decode cX4_requireBand 14 = .ok (.ldc 186, 2) := by decide +kernel
theorem dX4_requireBand_16 : decode cX4_requireBand 16 = .ok (.invokespecial 41, 3) := by decide +kernel
theorem dX4_requireBand_19 : decode cX4_requireBand 19 = .ok (.athrow, 1) := by decide +kernel
theorem dX4_requireBand_20 : decode cX4_requireBand 20 = .ok (.return_, 1) := by decide +kernel
theorem dX4_requirePanel_0 : decode cX4_requirePanel 0 = .ok (.aload_n 0, 1) := by decide +kernel
theorem dX4_requirePanel_1 : decode cX4_requirePanel 1 = .ok (.getfield 33, 3) := by decide +kernel
theorem dX4_requirePanel_4 : decode cX4_requirePanel 4 = .ok (.iload_n 1, 1) := by decide +kernel
theorem dX4_requirePanel_5 : decode cX4_requirePanel 5 = .ok (.iload_n 2, 1) := by decide +kernel
theorem dX4_requirePanel_6 : decode cX4_requirePanel 6 = .ok (.invokevirtual 188, 3) := by decide +kernel
theorem dX4_requirePanel_9 : decode cX4_requirePanel 9 = .ok (.ifCond .ne 13, 3) := by decide +kernel
theorem dX4_requirePanel_12 : decode cX4_requirePanel 12 = .ok (.new 37, 3) := by decide +kernel
theorem dX4_requirePanel_15 : decode cX4_requirePanel 15 = .ok (.dup, 1) := by decide +kernel
theorem dX4_requirePanel_16 : decode cX4_requirePanel 16 = .ok (.ldc 191, 2) := by decide +kernel
theorem dX4_requirePanel_18 : decode cX4_requirePanel 18 = .ok (.invokespecial 41, 3) := by decide +kernel
theorem dX4_requirePanel_21 : decode cX4_requirePanel 21 = .ok (.athrow, 1) := by decide +kernel
theorem dX4_requirePanel_22 : decode cX4_requirePanel 22 = .ok (.return_, 1) := by decide +kernel
theorem dX4_someTurned_0 : decode cX4_someTurned 0 = .ok (.iload_n 0, 1) := by decide +kernel
theorem dX4_someTurned_1 : decode cX4_someTurned 1 = .ok (.ifCond .ne 13, 3) := by decide +kernel
theorem dX4_someTurned_4 : decode cX4_someTurned 4 = .ok (.new 53, 3) := by decide +kernel
theorem dX4_someTurned_7 : decode cX4_someTurned 7 = .ok (.dup, 1) := by decide +kernel
theorem dX4_someTurned_8 : decode cX4_someTurned 8 = .ok (.ldc 193, 2) := by decide +kernel
theorem dX4_someTurned_10 : decode cX4_someTurned 10 = .ok (.invokespecial 57, 3) := by decide +kernel
theorem dX4_someTurned_13 : decode cX4_someTurned 13 = .ok (.athrow, 1) := by decide +kernel
theorem dX4_someTurned_14 : decode cX4_someTurned 14 = .ok (.iload_n 0, 1) := by decide +kernel
theorem dX4_someTurned_15 : decode cX4_someTurned 15 = .ok (.ireturn, 1) := by decide +kernel
theorem dX4_degreesEast_0 : decode cX4_degreesEast 0 = .ok (.iload_n 1, 1) := by decide +kernel
theorem dX4_degreesEast_1 : decode cX4_degreesEast 1 = .ok (.iload_n 0, 1) := by decide +kernel
theorem dX4_degreesEast_2 : decode cX4_degreesEast 2 = .ok (.isub, 1) := by decide +kernel
theorem dX4_degreesEast_3 : decode cX4_degreesEast 3 = .ok (.istore_n 2, 1) := by decide +kernel
theorem dX4_degreesEast_4 : decode cX4_degreesEast 4 = .ok (.iload_n 2, 1) := by decide +kernel
theorem dX4_degreesEast_5 : decode cX4_degreesEast 5 = .ok (.ifCond .ge 11, 3) := by decide +kernel
theorem dX4_degreesEast_8 : decode cX4_degreesEast 8 = .ok (.iload_n 2, 1) := by decide +kernel
theorem dX4_degreesEast_9 : decode cX4_degreesEast 9 = .ok (.sipush 360, 3) := by decide +kernel
theorem dX4_degreesEast_12 : decode cX4_degreesEast 12 = .ok (.iadd, 1) := by decide +kernel
theorem dX4_degreesEast_13 : decode cX4_degreesEast 13 = .ok (.goto 4, 3) := by decide +kernel
theorem dX4_degreesEast_16 : decode cX4_degreesEast 16 = .ok (.iload_n 2, 1) := by decide +kernel
theorem dX4_degreesEast_17 : decode cX4_degreesEast 17 = .ok (.ireturn, 1) := by decide +kernel
theorem dX4_goesEast_0 : decode cX4_goesEast 0 = .ok (.iload_n 0, 1) := by decide +kernel
theorem dX4_goesEast_1 : decode cX4_goesEast 1 = .ok (.iload_n 1, 1) := by decide +kernel
theorem dX4_goesEast_2 : decode cX4_goesEast 2 = .ok (.invokestatic 195, 3) := by decide +kernel
theorem dX4_goesEast_5 : decode cX4_goesEast 5 = .ok (.sipush 180, 3) := by decide +kernel
theorem dX4_goesEast_8 : decode cX4_goesEast 8 = .ok (.if_icmp .gt 7, 3) := by decide +kernel
theorem dX4_goesEast_11 : decode cX4_goesEast 11 = .ok (.iconst 1, 1) := by decide +kernel
theorem dX4_goesEast_12 : decode cX4_goesEast 12 = .ok (.goto 4, 3) := by decide +kernel
theorem dX4_goesEast_15 : decode cX4_goesEast 15 = .ok (.iconst 0, 1) := by decide +kernel
theorem dX4_goesEast_16 : decode cX4_goesEast 16 = .ok (.ireturn, 1) := by decide +kernel
theorem dX4_shorterWay_0 : decode cX4_shorterWay 0 = .ok (.iload_n 0, 1) := by decide +kernel
theorem dX4_shorterWay_1 : decode cX4_shorterWay 1 = .ok (.iload_n 1, 1) := by decide +kernel
theorem dX4_shorterWay_2 : decode cX4_shorterWay 2 = .ok (.invokestatic 195, 3) := by decide +kernel
theorem dX4_shorterWay_5 : decode cX4_shorterWay 5 = .ok (.istore_n 2, 1) := by decide +kernel
theorem dX4_shorterWay_6 : decode cX4_shorterWay 6 = .ok (.iload_n 2, 1) := by decide +kernel
theorem dX4_shorterWay_7 : decode cX4_shorterWay 7 = .ok (.sipush 360, 3) := by decide +kernel
theorem dX4_shorterWay_10 : decode cX4_shorterWay 10 = .ok (.iload_n 2, 1) := by decide +kernel
theorem dX4_shorterWay_11 : decode cX4_shorterWay 11 = .ok (.isub, 1) := by decide +kernel
theorem dX4_shorterWay_12 : decode cX4_shorterWay 12 = .ok (.invokestatic 198, 3) := by decide +kernel
theorem dX4_shorterWay_15 : decode cX4_shorterWay 15 = .ok (.ireturn, 1) := by decide +kernel
theorem dJ13_compare_74951_0 : decode cJ13_compare_74951 0 = .ok (.lload_n 0, 1) := by decide +kernel
theorem dJ13_compare_74951_1 : decode cJ13_compare_74951 1 = .ok (.lload_n 2, 1) := by decide +kernel
theorem dJ13_compare_74951_2 : decode cJ13_compare_74951 2 = .ok (.lcmp, 1) := by decide +kernel
theorem dJ13_compare_74951_3 : decode cJ13_compare_74951 3 = .ok (.ifCond .ge 7, 3) := by decide +kernel
theorem dJ13_compare_74951_6 : decode cJ13_compare_74951 6 = .ok (.iconst (-1), 1) := by decide +kernel
theorem dJ13_compare_74951_7 : decode cJ13_compare_74951 7 = .ok (.goto 14, 3) := by decide +kernel
theorem dJ13_compare_74951_10 : decode cJ13_compare_74951 10 = .ok (.lload_n 0, 1) := by decide +kernel
theorem dJ13_compare_74951_11 : decode cJ13_compare_74951 11 = .ok (.lload_n 2, 1) := by decide +kernel
theorem dJ13_compare_74951_12 : decode cJ13_compare_74951 12 = .ok (.lcmp, 1) := by decide +kernel
theorem dJ13_compare_74951_13 : decode cJ13_compare_74951 13 = .ok (.ifCond .ne 7, 3) := by decide +kernel
theorem dJ13_compare_74951_16 : decode cJ13_compare_74951 16 = .ok (.iconst 0, 1) := by decide +kernel
theorem dJ13_compare_74951_17 : decode cJ13_compare_74951 17 = .ok (.goto 4, 3) := by decide +kernel
theorem dJ13_compare_74951_20 : decode cJ13_compare_74951 20 = .ok (.iconst 1, 1) := by decide +kernel
theorem dJ13_compare_74951_21 : decode cJ13_compare_74951 21 = .ok (.ireturn, 1) := by decide +kernel
theorem dJ9_abs_0f7a4_0 : decode cJ9_abs_0f7a4 0 = .ok (.iload_n 0, 1) := by decide +kernel
theorem dJ9_abs_0f7a4_1 : decode cJ9_abs_0f7a4 1 = .ok (.ifCond .ge 8, 3) := by decide +kernel
theorem dJ9_abs_0f7a4_4 : decode cJ9_abs_0f7a4 4 = .ok (.iload_n 0, 1) := by decide +kernel
theorem dJ9_abs_0f7a4_5 : decode cJ9_abs_0f7a4 5 = .ok (.ineg, 1) := by decide +kernel
theorem dJ9_abs_0f7a4_6 : decode cJ9_abs_0f7a4 6 = .ok (.goto 4, 3) := by decide +kernel
theorem dJ9_abs_0f7a4_9 : decode cJ9_abs_0f7a4 9 = .ok (.iload_n 0, 1) := by decide +kernel
theorem dJ9_abs_0f7a4_10 : decode cJ9_abs_0f7a4 10 = .ok (.ireturn, 1) := by decide +kernel
theorem dJ9_max_7cf53_0 : decode cJ9_max_7cf53 0 = .ok (.iload_n 0, 1) := by decide +kernel
theorem dJ9_max_7cf53_1 : decode cJ9_max_7cf53 1 = .ok (.iload_n 1, 1) := by decide +kernel
theorem dJ9_max_7cf53_2 : decode cJ9_max_7cf53 2 = .ok (.if_icmp .lt 7, 3) := by decide +kernel
theorem dJ9_max_7cf53_5 : decode cJ9_max_7cf53 5 = .ok (.iload_n 0, 1) := by decide +kernel
theorem dJ9_max_7cf53_6 : decode cJ9_max_7cf53 6 = .ok (.goto 4, 3) := by decide +kernel
theorem dJ9_max_7cf53_9 : decode cJ9_max_7cf53 9 = .ok (.iload_n 1, 1) := by decide +kernel
theorem dJ9_max_7cf53_10 : decode cJ9_max_7cf53 10 = .ok (.ireturn, 1) := by decide +kernel
theorem dJ9_min_7cf53_0 : decode cJ9_min_7cf53 0 = .ok (.iload_n 0, 1) := by decide +kernel
theorem dJ9_min_7cf53_1 : decode cJ9_min_7cf53 1 = .ok (.iload_n 1, 1) := by decide +kernel
theorem dJ9_min_7cf53_2 : decode cJ9_min_7cf53 2 = .ok (.if_icmp .gt 7, 3) := by decide +kernel
theorem dJ9_min_7cf53_5 : decode cJ9_min_7cf53 5 = .ok (.iload_n 0, 1) := by decide +kernel
theorem dJ9_min_7cf53_6 : decode cJ9_min_7cf53 6 = .ok (.goto 4, 3) := by decide +kernel
theorem dJ9_min_7cf53_9 : decode cJ9_min_7cf53 9 = .ok (.iload_n 1, 1) := by decide +kernel
theorem dJ9_min_7cf53_10 : decode cJ9_min_7cf53 10 = .ok (.ireturn, 1) := by decide +kernel
theorem dL_cell_0 : decode cL_cell 0 = .ok (.iload_n 1, 1) := by decide +kernel
theorem dL_cell_1 : decode cL_cell 1 = .ok (.aload_n 0, 1) := by decide +kernel
theorem dL_cell_2 : decode cL_cell 2 = .ok (.arraylength, 1) := by decide +kernel
theorem dL_cell_3 : decode cL_cell 3 = .ok (.if_icmp .ge 9, 3) := by decide +kernel
theorem dL_cell_6 : decode cL_cell 6 = .ok (.aload_n 0, 1) := by decide +kernel
theorem dL_cell_7 : decode cL_cell 7 = .ok (.iload_n 1, 1) := by decide +kernel
theorem dL_cell_8 : decode cL_cell 8 = .ok (.iaload, 1) := by decide +kernel
theorem dL_cell_9 : decode cL_cell 9 = .ok (.goto 20, 3) := by decide +kernel
theorem dL_cell_12 : decode cL_cell 12 = .ok (.ldc2_w 7, 3) := by decide +kernel
theorem dL_cell_15 : decode cL_cell 15 = .ok (.iload_n 1, 1) := by decide +kernel
theorem dL_cell_16 : decode cL_cell 16 = .ok (.bipush 15, 2) := by decide +kernel
theorem dL_cell_18 : decode cL_cell 18 = .ok (.iadd, 1) := by decide +kernel
theorem dL_cell_19 : decode cL_cell 19 = .ok (.i2l, 1) := by decide +kernel
theorem dL_cell_20 : decode cL_cell 20 = .ok (.lmul, 1) := by decide +kernel
theorem dL_cell_21 : decode cL_cell 21 = .ok (.iconst 4, 1) := by decide +kernel
theorem dL_cell_22 : decode cL_cell 22 = .ok (.lushr, 1) := by decide +kernel
theorem dL_cell_23 : decode cL_cell 23 = .ok (.l2i, 1) := by decide +kernel
theorem dL_cell_24 : decode cL_cell 24 = .ok (.iload_n 1, 1) := by decide +kernel
theorem dL_cell_25 : decode cL_cell 25 = .ok (.ldc 9, 2) := by decide +kernel
theorem dL_cell_27 : decode cL_cell 27 = .ok (.imul, 1) := by decide +kernel
theorem dL_cell_28 : decode cL_cell 28 = .ok (.ixor, 1) := by decide +kernel
theorem dL_cell_29 : decode cL_cell 29 = .ok (.ireturn, 1) := by decide +kernel
theorem dL_some_0 : decode cL_some 0 = .ok (.iload_n 0, 1) := by decide +kernel
theorem dL_some_1 : decode cL_some 1 = .ok (.iconst 2, 1) := by decide +kernel
theorem dL_some_2 : decode cL_some 2 = .ok (.iushr, 1) := by decide +kernel
theorem dL_some_3 : decode cL_some 3 = .ok (.iload_n 1, 1) := by decide +kernel
theorem dL_some_4 : decode cL_some 4 = .ok (.irem, 1) := by decide +kernel
theorem dL_some_5 : decode cL_some 5 = .ok (.ireturn, 1) := by decide +kernel
theorem dL_read_0 : decode cL_read 0 = .ok (.bipush 10, 2) := by decide +kernel
theorem dL_read_2 : decode cL_read 2 = .ok (.aload_n 0, 1) := by decide +kernel
theorem dL_read_3 : decode cL_read 3 = .ok (.iload_n 1, 1) := by decide +kernel
theorem dL_read_4 : decode cL_read 4 = .ok (.iload_n 2, 1) := by decide +kernel
theorem dL_read_5 : decode cL_read 5 = .ok (.bipush 10, 2) := by decide +kernel
theorem dL_read_7 : decode cL_read 7 = .ok (.idiv, 1) := by decide +kernel
theorem dL_read_8 : decode cL_read 8 = .ok (.iadd, 1) := by decide +kernel
theorem dL_read_9 : decode cL_read 9 = .ok (.iaload, 1) := by decide +kernel
theorem dL_read_10 : decode cL_read 10 = .ok (.imul, 1) := by decide +kernel
theorem dL_read_11 : decode cL_read 11 = .ok (.istore_n 3, 1) := by decide +kernel
theorem dL_read_12 : decode cL_read 12 = .ok (.iload_n 2, 1) := by decide +kernel
theorem dL_read_13 : decode cL_read 13 = .ok (.bipush 10, 2) := by decide +kernel
theorem dL_read_15 : decode cL_read 15 = .ok (.idiv, 1) := by decide +kernel
theorem dL_read_16 : decode cL_read 16 = .ok (.bipush 10, 2) := by decide +kernel
theorem dL_read_18 : decode cL_read 18 = .ok (.imul, 1) := by decide +kernel
theorem dL_read_19 : decode cL_read 19 = .ok (.istore 4, 2) := by decide +kernel
theorem dL_read_21 : decode cL_read 21 = .ok (.iload 4, 2) := by decide +kernel
theorem dL_read_23 : decode cL_read 23 = .ok (.iload_n 2, 1) := by decide +kernel
theorem dL_read_24 : decode cL_read 24 = .ok (.if_icmp .ge 33, 3) := by decide +kernel
theorem dL_read_27 : decode cL_read 27 = .ok (.iload_n 3, 1) := by decide +kernel
theorem dL_read_28 : decode cL_read 28 = .ok (.aload_n 0, 1) := by decide +kernel
theorem dL_read_29 : decode cL_read 29 = .ok (.iload_n 1, 1) := by decide +kernel
theorem dL_read_30 : decode cL_read 30 = .ok (.iload 4, 2) := by decide +kernel
theorem dL_read_32 : decode cL_read 32 = .ok (.bipush 10, 2) := by decide +kernel
theorem dL_read_34 : decode cL_read 34 = .ok (.idiv, 1) := by decide +kernel
theorem dL_read_35 : decode cL_read 35 = .ok (.iadd, 1) := by decide +kernel
theorem dL_read_36 : decode cL_read 36 = .ok (.iconst 1, 1) := by decide +kernel
theorem dL_read_37 : decode cL_read 37 = .ok (.iadd, 1) := by decide +kernel
theorem dL_read_38 : decode cL_read 38 = .ok (.iaload, 1) := by decide +kernel
theorem dL_read_39 : decode cL_read 39 = .ok (.aload_n 0, 1) := by decide +kernel
theorem dL_read_40 : decode cL_read 40 = .ok (.iload_n 1, 1) := by decide +kernel
theorem dL_read_41 : decode cL_read 41 = .ok (.iload 4, 2) := by decide +kernel
theorem dL_read_43 : decode cL_read 43 = .ok (.bipush 10, 2) := by decide +kernel
theorem dL_read_45 : decode cL_read 45 = .ok (.idiv, 1) := by decide +kernel
theorem dL_read_46 : decode cL_read 46 = .ok (.iadd, 1) := by decide +kernel
theorem dL_read_47 : decode cL_read 47 = .ok (.iaload, 1) := by decide +kernel
theorem dL_read_48 : decode cL_read 48 = .ok (.isub, 1) := by decide +kernel
theorem dL_read_49 : decode cL_read 49 = .ok (.iadd, 1) := by decide +kernel
theorem dL_read_50 : decode cL_read 50 = .ok (.istore_n 3, 1) := by decide +kernel
theorem dL_read_51 : decode cL_read 51 = .ok (.iinc 4 1, 3) := by decide +kernel
theorem dL_read_54 : decode cL_read 54 = .ok (.goto (-33), 3) := by decide +kernel
theorem dL_read_57 : decode cL_read 57 = .ok (.iload_n 3, 1) := by decide +kernel
theorem dL_read_58 : decode cL_read 58 = .ok (.ireturn, 1) := by decide +kernel
theorem dL_wide_0 : decode cL_wide 0 = .ok (.aload_n 0, 1) := by decide +kernel
theorem dL_wide_1 : decode cL_wide 1 = .ok (.iconst 0, 1) := by decide +kernel
theorem dL_wide_2 : decode cL_wide 2 = .ok (.iload_n 1, 1) := by decide +kernel
theorem dL_wide_3 : decode cL_wide 3 = .ok (.ifCond .le 7, 3) := by decide +kernel
theorem dL_wide_6 : decode cL_wide 6 = .ok (.iload_n 1, 1) := by decide +kernel
theorem dL_wide_7 : decode cL_wide 7 = .ok (.goto 5, 3) := by decide +kernel
theorem dL_wide_10 : decode cL_wide 10 = .ok (.iload_n 1, 1) := by decide +kernel
theorem dL_wide_11 : decode cL_wide 11 = .ok (.ineg, 1) := by decide +kernel
theorem dL_wide_12 : decode cL_wide 12 = .ok (.invokestatic 10, 3) := by decide +kernel
theorem dL_wide_15 : decode cL_wide 15 = .ok (.ireturn, 1) := by decide +kernel
theorem dL_high_0 : decode cL_high 0 = .ok (.iload_n 1, 1) := by decide +kernel
theorem dL_high_1 : decode cL_high 1 = .ok (.ifCond .ge 15, 3) := by decide +kernel
theorem dL_high_4 : decode cL_high 4 = .ok (.aload_n 0, 1) := by decide +kernel
theorem dL_high_5 : decode cL_high 5 = .ok (.bipush 10, 2) := by decide +kernel
theorem dL_high_7 : decode cL_high 7 = .ok (.iload_n 1, 1) := by decide +kernel
theorem dL_high_8 : decode cL_high 8 = .ok (.ineg, 1) := by decide +kernel
theorem dL_high_9 : decode cL_high 9 = .ok (.invokestatic 10, 3) := by decide +kernel
theorem dL_high_12 : decode cL_high 12 = .ok (.ineg, 1) := by decide +kernel
theorem dL_high_13 : decode cL_high 13 = .ok (.goto 10, 3) := by decide +kernel
theorem dL_high_16 : decode cL_high 16 = .ok (.aload_n 0, 1) := by decide +kernel
theorem dL_high_17 : decode cL_high 17 = .ok (.bipush 10, 2) := by decide +kernel
theorem dL_high_19 : decode cL_high 19 = .ok (.iload_n 1, 1) := by decide +kernel
theorem dL_high_20 : decode cL_high 20 = .ok (.invokestatic 10, 3) := by decide +kernel
theorem dL_high_23 : decode cL_high 23 = .ok (.ireturn, 1) := by decide +kernel
theorem dL_area_0 : decode cL_area 0 = .ok (.lconst 0, 1) := by decide +kernel
theorem dL_area_1 : decode cL_area 1 = .ok (.lstore 4, 2) := by decide +kernel
theorem dL_area_3 : decode cL_area 3 = .ok (.iload_n 1, 1) := by decide +kernel
theorem dL_area_4 : decode cL_area 4 = .ok (.istore 6, 2) := by decide +kernel
theorem dL_area_6 : decode cL_area 6 = .ok (.iload 6, 2) := by decide +kernel
theorem dL_area_8 : decode cL_area 8 = .ok (.iload_n 2, 1) := by decide +kernel
theorem dL_area_9 : decode cL_area 9 = .ok (.if_icmp .ge 61, 3) := by decide +kernel
theorem dL_area_12 : decode cL_area 12 = .ok (.aload_n 0, 1) := by decide +kernel
theorem dL_area_13 : decode cL_area 13 = .ok (.iload 6, 2) := by decide +kernel
theorem dL_area_15 : decode cL_area 15 = .ok (.iconst 1, 1) := by decide +kernel
theorem dL_area_16 : decode cL_area 16 = .ok (.iadd, 1) := by decide +kernel
theorem dL_area_17 : decode cL_area 17 = .ok (.invokestatic 16, 3) := by decide +kernel
theorem dL_area_20 : decode cL_area 20 = .ok (.aload_n 0, 1) := by decide +kernel
theorem dL_area_21 : decode cL_area 21 = .ok (.iload 6, 2) := by decide +kernel
theorem dL_area_23 : decode cL_area 23 = .ok (.invokestatic 16, 3) := by decide +kernel
theorem dL_area_26 : decode cL_area 26 = .ok (.isub, 1) := by decide +kernel
theorem dL_area_27 : decode cL_area 27 = .ok (.i2l, 1) := by decide +kernel
theorem dL_area_28 : decode cL_area 28 = .ok (.lstore 7, 2) := by decide +kernel
theorem dL_area_30 : decode cL_area 30 = .ok (.lload 4, 2) := by decide +kernel
theorem dL_area_32 : decode cL_area 32 = .ok (.lload 7, 2) := by decide +kernel
theorem dL_area_34 : decode cL_area 34 = .ok (.aload_n 0, 1) := by decide +kernel
theorem dL_area_35 : decode cL_area 35 = .ok (.iload 6, 2) := by decide +kernel
theorem dL_area_37 : decode cL_area 37 = .ok (.invokestatic 20, 3) := by decide +kernel
theorem dL_area_40 : decode cL_area 40 = .ok (.i2l, 1) := by decide +kernel
theorem dL_area_41 : decode cL_area 41 = .ok (.lmul, 1) := by decide +kernel
theorem dL_area_42 : decode cL_area 42 = .ok (.iload_n 3, 1) := by decide +kernel
theorem dL_area_43 : decode cL_area 43 = .ok (.i2l, 1) := by decide +kernel
theorem dL_area_44 : decode cL_area 44 = .ok (.lmul, 1) := by decide +kernel
theorem dL_area_45 : decode cL_area 45 = .ok (.lload 7, 2) := by decide +kernel
theorem dL_area_47 : decode cL_area 47 = .ok (.aload_n 0, 1) := by decide +kernel
theorem dL_area_48 : decode cL_area 48 = .ok (.iload 6, 2) := by decide +kernel
theorem dL_area_50 : decode cL_area 50 = .ok (.iconst 1, 1) := by decide +kernel
theorem dL_area_51 : decode cL_area 51 = .ok (.iadd, 1) := by decide +kernel
theorem dL_area_52 : decode cL_area 52 = .ok (.invokestatic 20, 3) := by decide +kernel
theorem dL_area_55 : decode cL_area 55 = .ok (.i2l, 1) := by decide +kernel
theorem dL_area_56 : decode cL_area 56 = .ok (.lmul, 1) := by decide +kernel
theorem dL_area_57 : decode cL_area 57 = .ok (.iload_n 3, 1) := by decide +kernel
theorem dL_area_58 : decode cL_area 58 = .ok (.i2l, 1) := by decide +kernel
theorem dL_area_59 : decode cL_area 59 = .ok (.lmul, 1) := by decide +kernel
theorem dL_area_60 : decode cL_area 60 = .ok (.ladd, 1) := by decide +kernel
theorem dL_area_61 : decode cL_area 61 = .ok (.ladd, 1) := by decide +kernel
theorem dL_area_62 : decode cL_area 62 = .ok (.lstore 4, 2) := by decide +kernel
theorem dL_area_64 : decode cL_area 64 = .ok (.iinc 6 1, 3) := by decide +kernel
theorem dL_area_67 : decode cL_area 67 = .ok (.goto (-61), 3) := by decide +kernel
theorem dL_area_70 : decode cL_area 70 = .ok (.lload 4, 2) := by decide +kernel
theorem dL_area_72 : decode cL_area 72 = .ok (.lreturn, 1) := by decide +kernel
theorem dL_tabled_0 : decode cL_tabled 0 = .ok (.aload_n 0, 1) := by decide +kernel
theorem dL_tabled_1 : decode cL_tabled 1 = .ok (.iload_n 1, 1) := by decide +kernel
theorem dL_tabled_2 : decode cL_tabled 2 = .ok (.iload_n 2, 1) := by decide +kernel
theorem dL_tabled_3 : decode cL_tabled 3 = .ok (.iload_n 3, 1) := by decide +kernel
theorem dL_tabled_4 : decode cL_tabled 4 = .ok (.invokevirtual 23, 3) := by decide +kernel
theorem dL_tabled_7 : decode cL_tabled 7 = .ok (.iconst 0, 1) := by decide +kernel
theorem dL_tabled_8 : decode cL_tabled 8 = .ok (.ireturn, 1) := by decide +kernel
theorem dL_tabled_9 : decode cL_tabled 9 = .ok (.astore 4, 2) := by decide +kernel
theorem dL_tabled_11 : decode cL_tabled 11 = .ok (.iconst (-1), 1) := by decide +kernel
theorem dL_tabled_12 : decode cL_tabled 12 = .ok (.ireturn, 1) := by decide +kernel
theorem dL_tabled_13 : decode cL_tabled 13 = .ok (.astore 4, 2) := by decide +kernel
theorem dL_tabled_15 : decode cL_tabled 15 = .ok (.bipush (-2), 2) := by decide +kernel
theorem dL_tabled_17 : decode cL_tabled 17 = .ok (.ireturn, 1) := by decide +kernel
theorem dL_tabled_18 : decode cL_tabled 18 = .ok (.astore 4, 2) := by decide +kernel
theorem dL_tabled_20 : decode cL_tabled 20 = .ok (.bipush (-3), 2) := by decide +kernel
theorem dL_tabled_22 : decode cL_tabled 22 = .ok (.ireturn, 1) := by decide +kernel
theorem dL_by_0 : decode cL_by 0 = .ok (.iload_n 1, 1) := by decide +kernel
theorem dL_by_1 : decode cL_by 1 = .ok (.ifCond .ne 12, 3) := by decide +kernel
theorem dL_by_4 : decode cL_by 4 = .ok (.aload_n 0, 1) := by decide +kernel
theorem dL_by_5 : decode cL_by 5 = .ok (.iload_n 2, 1) := by decide +kernel
theorem dL_by_6 : decode cL_by 6 = .ok (.iload_n 3, 1) := by decide +kernel
theorem dL_by_7 : decode cL_by 7 = .ok (.invokevirtual 35, 3) := by decide +kernel
theorem dL_by_10 : decode cL_by 10 = .ok (.goto 108, 3) := by decide +kernel
theorem dL_by_13 : decode cL_by 13 = .ok (.iload_n 1, 1) := by decide +kernel
theorem dL_by_14 : decode cL_by 14 = .ok (.iconst 1, 1) := by decide +kernel
theorem dL_by_15 : decode cL_by 15 = .ok (.if_icmp .ne 11, 3) := by decide +kernel
theorem dL_by_18 : decode cL_by 18 = .ok (.aload_n 0, 1) := by decide +kernel
theorem dL_by_19 : decode cL_by 19 = .ok (.iload_n 2, 1) := by decide +kernel
theorem dL_by_20 : decode cL_by 20 = .ok (.invokevirtual 39, 3) := by decide +kernel
theorem dL_by_23 : decode cL_by 23 = .ok (.goto 95, 3) := by decide +kernel
theorem dL_by_26 : decode cL_by 26 = .ok (.iload_n 1, 1) := by decide +kernel
theorem dL_by_27 : decode cL_by 27 = .ok (.iconst 2, 1) := by decide +kernel
theorem dL_by_28 : decode cL_by 28 = .ok (.if_icmp .ne 12, 3) := by decide +kernel
theorem dL_by_31 : decode cL_by 31 = .ok (.aload_n 0, 1) := by decide +kernel
theorem dL_by_32 : decode cL_by 32 = .ok (.iload_n 2, 1) := by decide +kernel
theorem dL_by_33 : decode cL_by 33 = .ok (.iload_n 3, 1) := by decide +kernel
theorem dL_by_34 : decode cL_by 34 = .ok (.invokevirtual 43, 3) := by decide +kernel
theorem dL_by_37 : decode cL_by 37 = .ok (.goto 81, 3) := by decide +kernel
theorem dL_by_40 : decode cL_by 40 = .ok (.iload_n 1, 1) := by decide +kernel
theorem dL_by_41 : decode cL_by 41 = .ok (.iconst 3, 1) := by decide +kernel
theorem dL_by_42 : decode cL_by 42 = .ok (.if_icmp .ne 14, 3) := by decide +kernel
theorem dL_by_45 : decode cL_by 45 = .ok (.aload_n 0, 1) := by decide +kernel
theorem dL_by_46 : decode cL_by 46 = .ok (.iload 4, 2) := by decide +kernel
theorem dL_by_48 : decode cL_by 48 = .ok (.iload_n 2, 1) := by decide +kernel
theorem dL_by_49 : decode cL_by 49 = .ok (.iload_n 3, 1) := by decide +kernel
theorem dL_by_50 : decode cL_by 50 = .ok (.invokevirtual 46, 3) := by decide +kernel
theorem dL_by_53 : decode cL_by 53 = .ok (.goto 65, 3) := by decide +kernel
theorem dL_by_56 : decode cL_by 56 = .ok (.iload_n 1, 1) := by decide +kernel
theorem dL_by_57 : decode cL_by 57 = .ok (.iconst 4, 1) := by decide +kernel
theorem dL_by_58 : decode cL_by 58 = .ok (.if_icmp .ne 11, 3) := by decide +kernel
theorem dL_by_61 : decode cL_by 61 = .ok (.aload_n 0, 1) := by decide +kernel
theorem dL_by_62 : decode cL_by 62 = .ok (.iload_n 2, 1) := by decide +kernel
theorem dL_by_63 : decode cL_by 63 = .ok (.invokevirtual 50, 3) := by decide +kernel
theorem dL_by_66 : decode cL_by 66 = .ok (.goto 52, 3) := by decide +kernel
theorem dL_by_69 : decode cL_by 69 = .ok (.iload_n 1, 1) := by decide +kernel
theorem dL_by_70 : decode cL_by 70 = .ok (.iconst 5, 1) := by decide +kernel
theorem dL_by_71 : decode cL_by 71 = .ok (.if_icmp .ne 12, 3) := by decide +kernel
theorem dL_by_74 : decode cL_by 74 = .ok (.aload_n 0, 1) := by decide +kernel
theorem dL_by_75 : decode cL_by 75 = .ok (.iload_n 2, 1) := by decide +kernel
theorem dL_by_76 : decode cL_by 76 = .ok (.iload_n 3, 1) := by decide +kernel
theorem dL_by_77 : decode cL_by 77 = .ok (.invokevirtual 53, 3) := by decide +kernel
theorem dL_by_80 : decode cL_by 80 = .ok (.goto 38, 3) := by decide +kernel
theorem dL_by_83 : decode cL_by 83 = .ok (.iload_n 1, 1) := by decide +kernel
theorem dL_by_84 : decode cL_by 84 = .ok (.bipush 6, 2) := by decide +kernel
theorem dL_by_86 : decode cL_by 86 = .ok (.if_icmp .ne 12, 3) := by decide +kernel
theorem dL_by_89 : decode cL_by 89 = .ok (.aload_n 0, 1) := by decide +kernel
theorem dL_by_90 : decode cL_by 90 = .ok (.iload_n 2, 1) := by decide +kernel
theorem dL_by_91 : decode cL_by 91 = .ok (.iload_n 3, 1) := by decide +kernel
theorem dL_by_92 : decode cL_by 92 = .ok (.invokevirtual 56, 3) := by decide +kernel
theorem dL_by_95 : decode cL_by 95 = .ok (.goto 23, 3) := by decide +kernel
theorem dL_by_98 : decode cL_by 98 = .ok (.iload_n 1, 1) := by decide +kernel
theorem dL_by_99 : decode cL_by 99 = .ok (.bipush 7, 2) := by decide +kernel
theorem dL_by_101 : decode cL_by 101 = .ok (.if_icmp .ne 12, 3) := by decide +kernel
theorem dL_by_104 : decode cL_by 104 = .ok (.aload_n 0, 1) := by decide +kernel
theorem dL_by_105 : decode cL_by 105 = .ok (.iload_n 2, 1) := by decide +kernel
theorem dL_by_106 : decode cL_by 106 = .ok (.iload_n 3, 1) := by decide +kernel
theorem dL_by_107 : decode cL_by 107 = .ok (.invokevirtual 59, 3) := by decide +kernel
theorem dL_by_110 : decode cL_by 110 = .ok (.goto 8, 3) := by decide +kernel
theorem dL_by_113 : decode cL_by 113 = .ok (.aload_n 0, 1) := by decide +kernel
theorem dL_by_114 : decode cL_by 114 = .ok (.iload_n 2, 1) := by decide +kernel
theorem dL_by_115 : decode cL_by 115 = .ok (.invokevirtual 62, 3) := by decide +kernel
theorem dL_by_118 : decode cL_by 118 = .ok (.ireturn, 1) := by decide +kernel
theorem dL_by_119 : decode cL_by 119 = .ok (.astore 5, 2) := by decide +kernel
theorem dL_by_121 : decode cL_by 121 = .ok (.ldc 65, 2) := by decide +kernel
theorem dL_by_123 : decode cL_by 123 = .ok (.ireturn, 1) := by decide +kernel
theorem dL_latitude_0 : decode cL_latitude 0 = .ok (.aload_n 0, 1) := by decide +kernel
theorem dL_latitude_1 : decode cL_latitude 1 = .ok (.iload_n 1, 1) := by decide +kernel
theorem dL_latitude_2 : decode cL_latitude 2 = .ok (.invokevirtual 66, 3) := by decide +kernel
theorem dL_latitude_5 : decode cL_latitude 5 = .ok (.ireturn, 1) := by decide +kernel
theorem dL_latitude_6 : decode cL_latitude 6 = .ok (.astore_n 2, 1) := by decide +kernel
theorem dL_latitude_7 : decode cL_latitude 7 = .ok (.sipush (-1001), 3) := by decide +kernel
theorem dL_latitude_10 : decode cL_latitude 10 = .ok (.ireturn, 1) := by decide +kernel
theorem dL_latitude_11 : decode cL_latitude 11 = .ok (.astore_n 2, 1) := by decide +kernel
theorem dL_latitude_12 : decode cL_latitude 12 = .ok (.sipush (-1002), 3) := by decide +kernel
theorem dL_latitude_15 : decode cL_latitude 15 = .ok (.ireturn, 1) := by decide +kernel
theorem dL_field_0 : decode cL_field 0 = .ok (.iload_n 1, 1) := by decide +kernel
theorem dL_field_1 : decode cL_field 1 = .ok (.ifCond .eq 16, 3) := by decide +kernel
theorem dL_field_4 : decode cL_field 4 = .ok (.aload_n 0, 1) := by decide +kernel
theorem dL_field_5 : decode cL_field 5 = .ok (.iload_n 2, 1) := by decide +kernel
theorem dL_field_6 : decode cL_field 6 = .ok (.iload_n 3, 1) := by decide +kernel
theorem dL_field_7 : decode cL_field 7 = .ok (.iload 4, 2) := by decide +kernel
theorem dL_field_9 : decode cL_field 9 = .ok (.iload 5, 2) := by decide +kernel
theorem dL_field_11 : decode cL_field 11 = .ok (.invokevirtual 69, 3) := by decide +kernel
theorem dL_field_14 : decode cL_field 14 = .ok (.goto 13, 3) := by decide +kernel
theorem dL_field_17 : decode cL_field 17 = .ok (.aload_n 0, 1) := by decide +kernel
theorem dL_field_18 : decode cL_field 18 = .ok (.iload_n 2, 1) := by decide +kernel
theorem dL_field_19 : decode cL_field 19 = .ok (.iload_n 3, 1) := by decide +kernel
theorem dL_field_20 : decode cL_field 20 = .ok (.iload 4, 2) := by decide +kernel
theorem dL_field_22 : decode cL_field 22 = .ok (.iload 5, 2) := by decide +kernel
theorem dL_field_24 : decode cL_field 24 = .ok (.invokevirtual 73, 3) := by decide +kernel
theorem dL_field_27 : decode cL_field 27 = .ok (.lreturn, 1) := by decide +kernel
theorem dL_field_28 : decode cL_field 28 = .ok (.astore 6, 2) := by decide +kernel
theorem dL_field_30 : decode cL_field 30 = .ok (.ldc2_w 76, 3) := by decide +kernel
theorem dL_field_33 : decode cL_field 33 = .ok (.lreturn, 1) := by decide +kernel
theorem dL_truth_0 : decode cL_truth 0 = .ok (.aload_n 0, 1) := by decide +kernel
theorem dL_truth_1 : decode cL_truth 1 = .ok (.iload_n 1, 1) := by decide +kernel
theorem dL_truth_2 : decode cL_truth 2 = .ok (.iload_n 2, 1) := by decide +kernel
theorem dL_truth_3 : decode cL_truth 3 = .ok (.invokevirtual 78, 3) := by decide +kernel
theorem dL_truth_6 : decode cL_truth 6 = .ok (.ireturn, 1) := by decide +kernel
theorem dL_truth_7 : decode cL_truth 7 = .ok (.astore_n 3, 1) := by decide +kernel
theorem dL_truth_8 : decode cL_truth 8 = .ok (.iconst (-1), 1) := by decide +kernel
theorem dL_truth_9 : decode cL_truth 9 = .ok (.ireturn, 1) := by decide +kernel
theorem dL_truth_10 : decode cL_truth 10 = .ok (.astore_n 3, 1) := by decide +kernel
theorem dL_truth_11 : decode cL_truth 11 = .ok (.bipush (-2), 2) := by decide +kernel
theorem dL_truth_13 : decode cL_truth 13 = .ok (.ireturn, 1) := by decide +kernel
theorem dL_stretch_0 : decode cL_stretch 0 = .ok (.aload_n 0, 1) := by decide +kernel
theorem dL_stretch_1 : decode cL_stretch 1 = .ok (.iload_n 1, 1) := by decide +kernel
theorem dL_stretch_2 : decode cL_stretch 2 = .ok (.invokevirtual 81, 3) := by decide +kernel
theorem dL_stretch_5 : decode cL_stretch 5 = .ok (.freturn, 1) := by decide +kernel
theorem dL_stretch_6 : decode cL_stretch 6 = .ok (.astore_n 2, 1) := by decide +kernel
theorem dL_stretch_7 : decode cL_stretch 7 = .ok (.ldc 85, 2) := by decide +kernel
theorem dL_stretch_9 : decode cL_stretch 9 = .ok (.freturn, 1) := by decide +kernel
theorem dL_sheet_0 : decode cL_sheet 0 = .ok (.aload_n 0, 1) := by decide +kernel
theorem dL_sheet_1 : decode cL_sheet 1 = .ok (.iload_n 1, 1) := by decide +kernel
theorem dL_sheet_2 : decode cL_sheet 2 = .ok (.iload_n 2, 1) := by decide +kernel
theorem dL_sheet_3 : decode cL_sheet 3 = .ok (.invokevirtual 86, 3) := by decide +kernel
theorem dL_sheet_6 : decode cL_sheet 6 = .ok (.iconst 0, 1) := by decide +kernel
theorem dL_sheet_7 : decode cL_sheet 7 = .ok (.ireturn, 1) := by decide +kernel
theorem dL_sheet_8 : decode cL_sheet 8 = .ok (.astore_n 3, 1) := by decide +kernel
theorem dL_sheet_9 : decode cL_sheet 9 = .ok (.iconst (-1), 1) := by decide +kernel
theorem dL_sheet_10 : decode cL_sheet 10 = .ok (.ireturn, 1) := by decide +kernel
theorem dL_folded_0 : decode cL_folded 0 = .ok (.iload_n 1, 1) := by decide +kernel
theorem dL_folded_1 : decode cL_folded 1 = .ok (.ifCond .eq 11, 3) := by decide +kernel
theorem dL_folded_4 : decode cL_folded 4 = .ok (.aload_n 0, 1) := by decide +kernel
theorem dL_folded_5 : decode cL_folded 5 = .ok (.iload_n 2, 1) := by decide +kernel
theorem dL_folded_6 : decode cL_folded 6 = .ok (.invokevirtual 90, 3) := by decide +kernel
theorem dL_folded_9 : decode cL_folded 9 = .ok (.goto 8, 3) := by decide +kernel
theorem dL_folded_12 : decode cL_folded 12 = .ok (.aload_n 0, 1) := by decide +kernel
theorem dL_folded_13 : decode cL_folded 13 = .ok (.iload_n 2, 1) := by decide +kernel
theorem dL_folded_14 : decode cL_folded 14 = .ok (.invokevirtual 93, 3) := by decide +kernel
theorem dL_folded_17 : decode cL_folded 17 = .ok (.ireturn, 1) := by decide +kernel
theorem dL_folded_18 : decode cL_folded 18 = .ok (.astore_n 3, 1) := by decide +kernel
theorem dL_folded_19 : decode cL_folded 19 = .ok (.iconst (-1), 1) := by decide +kernel
theorem dL_folded_20 : decode cL_folded 20 = .ok (.ireturn, 1) := by decide +kernel
theorem dL_of_0 : decode cL_of 0 = .ok (.iload_n 1, 1) := by decide +kernel
theorem dL_of_1 : decode cL_of 1 = .ok (.ifCond .ne 12, 3) := by decide +kernel
theorem dL_of_4 : decode cL_of 4 = .ok (.aload_n 0, 1) := by decide +kernel
theorem dL_of_5 : decode cL_of 5 = .ok (.iload_n 2, 1) := by decide +kernel
theorem dL_of_6 : decode cL_of 6 = .ok (.iload_n 3, 1) := by decide +kernel
theorem dL_of_7 : decode cL_of 7 = .ok (.invokevirtual 96, 3) := by decide +kernel
theorem dL_of_10 : decode cL_of 10 = .ok (.goto 45, 3) := by decide +kernel
theorem dL_of_13 : decode cL_of 13 = .ok (.iload_n 1, 1) := by decide +kernel
theorem dL_of_14 : decode cL_of 14 = .ok (.iconst 1, 1) := by decide +kernel
theorem dL_of_15 : decode cL_of 15 = .ok (.if_icmp .ne 12, 3) := by decide +kernel
theorem dL_of_18 : decode cL_of 18 = .ok (.aload_n 0, 1) := by decide +kernel
theorem dL_of_19 : decode cL_of 19 = .ok (.iload_n 2, 1) := by decide +kernel
theorem dL_of_20 : decode cL_of 20 = .ok (.iload_n 3, 1) := by decide +kernel
theorem dL_of_21 : decode cL_of 21 = .ok (.invokevirtual 99, 3) := by decide +kernel
theorem dL_of_24 : decode cL_of 24 = .ok (.goto 31, 3) := by decide +kernel
theorem dL_of_27 : decode cL_of 27 = .ok (.iload_n 1, 1) := by decide +kernel
theorem dL_of_28 : decode cL_of 28 = .ok (.iconst 2, 1) := by decide +kernel
theorem dL_of_29 : decode cL_of 29 = .ok (.if_icmp .ne 12, 3) := by decide +kernel
theorem dL_of_32 : decode cL_of 32 = .ok (.aload_n 0, 1) := by decide +kernel
theorem dL_of_33 : decode cL_of 33 = .ok (.iload_n 2, 1) := by decide +kernel
theorem dL_of_34 : decode cL_of 34 = .ok (.iload_n 3, 1) := by decide +kernel
theorem dL_of_35 : decode cL_of 35 = .ok (.invokevirtual 102, 3) := by decide +kernel
theorem dL_of_38 : decode cL_of 38 = .ok (.goto 17, 3) := by decide +kernel
theorem dL_of_41 : decode cL_of 41 = .ok (.aload_n 0, 1) := by decide +kernel
theorem dL_of_42 : decode cL_of 42 = .ok (.iload_n 2, 1) := by decide +kernel
theorem dL_of_43 : decode cL_of 43 = .ok (.iload_n 3, 1) := by decide +kernel
theorem dL_of_44 : decode cL_of 44 = .ok (.invokevirtual 105, 3) := by decide +kernel
theorem dL_of_47 : decode cL_of 47 = .ok (.ifCond .eq 7, 3) := by decide +kernel
theorem dL_of_50 : decode cL_of 50 = .ok (.iconst 1, 1) := by decide +kernel
theorem dL_of_51 : decode cL_of 51 = .ok (.goto 4, 3) := by decide +kernel
theorem dL_of_54 : decode cL_of 54 = .ok (.iconst 0, 1) := by decide +kernel
theorem dL_of_55 : decode cL_of 55 = .ok (.ireturn, 1) := by decide +kernel
theorem dL_of_56 : decode cL_of 56 = .ok (.astore 4, 2) := by decide +kernel
theorem dL_of_58 : decode cL_of 58 = .ok (.sipush (-1001), 3) := by decide +kernel
theorem dL_of_61 : decode cL_of 61 = .ok (.ireturn, 1) := by decide +kernel
theorem dL_flat_0 : decode cL_flat 0 = .ok (.aload_n 0, 1) := by decide +kernel
theorem dL_flat_1 : decode cL_flat 1 = .ok (.bipush 32, 2) := by decide +kernel
theorem dL_flat_3 : decode cL_flat 3 = .ok (.iconst 0, 1) := by decide +kernel
theorem dL_flat_4 : decode cL_flat 4 = .ok (.iastore, 1) := by decide +kernel
theorem dL_flat_5 : decode cL_flat 5 = .ok (.iconst 0, 1) := by decide +kernel
theorem dL_flat_6 : decode cL_flat 6 = .ok (.istore 5, 2) := by decide +kernel
theorem dL_flat_8 : decode cL_flat 8 = .ok (.iload 5, 2) := by decide +kernel
theorem dL_flat_10 : decode cL_flat 10 = .ok (.bipush 36, 2) := by decide +kernel
theorem dL_flat_12 : decode cL_flat 12 = .ok (.if_icmp .ge 42, 3) := by decide +kernel
theorem dL_flat_15 : decode cL_flat 15 = .ok (.aload_n 1, 1) := by decide +kernel
theorem dL_flat_16 : decode cL_flat 16 = .ok (.iload 5, 2) := by decide +kernel
theorem dL_flat_18 : decode cL_flat 18 = .ok (.iload 5, 2) := by decide +kernel
theorem dL_flat_20 : decode cL_flat 20 = .ok (.aload_n 0, 1) := by decide +kernel
theorem dL_flat_21 : decode cL_flat 21 = .ok (.bipush 30, 2) := by decide +kernel
theorem dL_flat_23 : decode cL_flat 23 = .ok (.iaload, 1) := by decide +kernel
theorem dL_flat_24 : decode cL_flat 24 = .ok (.irem, 1) := by decide +kernel
theorem dL_flat_25 : decode cL_flat 25 = .ok (.iastore, 1) := by decide +kernel
theorem dL_flat_26 : decode cL_flat 26 = .ok (.aload_n 2, 1) := by decide +kernel
theorem dL_flat_27 : decode cL_flat 27 = .ok (.iload 5, 2) := by decide +kernel
theorem dL_flat_29 : decode cL_flat 29 = .ok (.iload 5, 2) := by decide +kernel
theorem dL_flat_31 : decode cL_flat 31 = .ok (.aload_n 0, 1) := by decide +kernel
theorem dL_flat_32 : decode cL_flat 32 = .ok (.bipush 30, 2) := by decide +kernel
theorem dL_flat_34 : decode cL_flat 34 = .ok (.iaload, 1) := by decide +kernel
theorem dL_flat_35 : decode cL_flat 35 = .ok (.idiv, 1) := by decide +kernel
theorem dL_flat_36 : decode cL_flat 36 = .ok (.iastore, 1) := by decide +kernel
theorem dL_flat_37 : decode cL_flat 37 = .ok (.aload_n 3, 1) := by decide +kernel
theorem dL_flat_38 : decode cL_flat 38 = .ok (.iload 5, 2) := by decide +kernel
theorem dL_flat_40 : decode cL_flat 40 = .ok (.iconst 0, 1) := by decide +kernel
theorem dL_flat_41 : decode cL_flat 41 = .ok (.iastore, 1) := by decide +kernel
theorem dL_flat_42 : decode cL_flat 42 = .ok (.aload 4, 2) := by decide +kernel
theorem dL_flat_44 : decode cL_flat 44 = .ok (.iload 5, 2) := by decide +kernel
theorem dL_flat_46 : decode cL_flat 46 = .ok (.iconst 1, 1) := by decide +kernel
theorem dL_flat_47 : decode cL_flat 47 = .ok (.iastore, 1) := by decide +kernel
theorem dL_flat_48 : decode cL_flat 48 = .ok (.iinc 5 1, 3) := by decide +kernel
theorem dL_flat_51 : decode cL_flat 51 = .ok (.goto (-43), 3) := by decide +kernel
theorem dL_flat_54 : decode cL_flat 54 = .ok (.return_, 1) := by decide +kernel
theorem dL_acts_0 : decode cL_acts 0 = .ok (.aload_n 3, 1) := by decide +kernel
theorem dL_acts_1 : decode cL_acts 1 = .ok (.bipush 30, 2) := by decide +kernel

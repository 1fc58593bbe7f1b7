theorem dX2_valueAt_16 : decode cX2_valueAt 16 = .ok (.iconst 0, 1) := by decide +kernel
theorem dX2_valueAt_17 : decode cX2_valueAt 17 = .ok (.ireturn, 1) := by decide +kernel
theorem dX3_init_0 : decode cX3_init 0 = .ok (.aload_n 0, 1) := by decide +kernel
theorem dX3_init_1 : decode cX3_init 1 = .ok (.invokespecial 3, 3) := by decide +kernel
theorem dX3_init_4 : decode cX3_init 4 = .ok (.aload_n 0, 1) := by decide +kernel
theorem dX3_init_5 : decode cX3_init 5 = .ok (.bipush 15, 2) := by decide +kernel
theorem dX3_init_7 : decode cX3_init 7 = .ok (.putfield 9, 3) := by decide +kernel
theorem dX3_init_10 : decode cX3_init 10 = .ok (.return_, 1) := by decide +kernel
theorem dX3_replaceBreadth_0 : decode cX3_replaceBreadth 0 = .ok (.aload_n 0, 1) := by decide +kernel
theorem dX3_replaceBreadth_1 : decode cX3_replaceBreadth 1 = .ok (.getfield 9, 3) := by decide +kernel
theorem dX3_replaceBreadth_4 : decode cX3_replaceBreadth 4 = .ok (.istore_n 2, 1) := by decide +kernel
theorem dX3_replaceBreadth_5 : decode cX3_replaceBreadth 5 = .ok (.aload_n 0, 1) := by decide +kernel
theorem dX3_replaceBreadth_6 : decode cX3_replaceBreadth 6 = .ok (.iload_n 1, 1) := by decide +kernel
theorem dX3_replaceBreadth_7 : decode cX3_replaceBreadth 7 = .ok (.putfield 9, 3) := by decide +kernel
theorem dX3_replaceBreadth_10 : decode cX3_replaceBreadth 10 = .ok (.iload_n 2, 1) := by decide +kernel
theorem dX3_replaceBreadth_11 : decode cX3_replaceBreadth 11 = .ok (.ireturn, 1) := by decide +kernel
theorem dX3_zonesBefore_0 : decode cX3_zonesBefore 0 = .ok (.aload_n 0, 1) := by decide +kernel
theorem dX3_zonesBefore_1 : decode cX3_zonesBefore 1 = .ok (.getfield 9, 3) := by decide +kernel
theorem dX3_zonesBefore_4 : decode cX3_zonesBefore 4 = .ok (.iconst 1, 1) := by decide +kernel
theorem dX3_zonesBefore_5 : decode cX3_zonesBefore 5 = .ok (.if_icmp .ge 7, 3) := by decide +kernel
theorem dX3_zonesBefore_8 : decode cX3_zonesBefore 8 = .ok (.iconst 0, 1) := by decide +kernel
theorem dX3_zonesBefore_9 : decode cX3_zonesBefore 9 = .ok (.goto 13, 3) := by decide +kernel
theorem dX3_zonesBefore_12 : decode cX3_zonesBefore 12 = .ok (.iload_n 1, 1) := by decide +kernel
theorem dX3_zonesBefore_13 : decode cX3_zonesBefore 13 = .ok (.sipush (-180), 3) := by decide +kernel
theorem dX3_zonesBefore_16 : decode cX3_zonesBefore 16 = .ok (.isub, 1) := by decide +kernel
theorem dX3_zonesBefore_17 : decode cX3_zonesBefore 17 = .ok (.aload_n 0, 1) := by decide +kernel
theorem dX3_zonesBefore_18 : decode cX3_zonesBefore 18 = .ok (.getfield 9, 3) := by decide +kernel
theorem dX3_zonesBefore_21 : decode cX3_zonesBefore 21 = .ok (.idiv, 1) := by decide +kernel
theorem dX3_zonesBefore_22 : decode cX3_zonesBefore 22 = .ok (.ireturn, 1) := by decide +kernel
theorem dX3_seamsEastOf_0 : decode cX3_seamsEastOf 0 = .ok (.aload_n 0, 1) := by decide +kernel
theorem dX3_seamsEastOf_1 : decode cX3_seamsEastOf 1 = .ok (.iload_n 1, 1) := by decide +kernel
theorem dX3_seamsEastOf_2 : decode cX3_seamsEastOf 2 = .ok (.iload_n 2, 1) := by decide +kernel
theorem dX3_seamsEastOf_3 : decode cX3_seamsEastOf 3 = .ok (.iadd, 1) := by decide +kernel
theorem dX3_seamsEastOf_4 : decode cX3_seamsEastOf 4 = .ok (.invokevirtual 15, 3) := by decide +kernel
theorem dX3_seamsEastOf_7 : decode cX3_seamsEastOf 7 = .ok (.aload_n 0, 1) := by decide +kernel
theorem dX3_seamsEastOf_8 : decode cX3_seamsEastOf 8 = .ok (.iload_n 1, 1) := by decide +kernel
theorem dX3_seamsEastOf_9 : decode cX3_seamsEastOf 9 = .ok (.invokevirtual 15, 3) := by decide +kernel
theorem dX3_seamsEastOf_12 : decode cX3_seamsEastOf 12 = .ok (.isub, 1) := by decide +kernel
theorem dX3_seamsEastOf_13 : decode cX3_seamsEastOf 13 = .ok (.ireturn, 1) := by decide +kernel
theorem dX4_init_0 : decode cX4_init 0 = .ok (.aload_n 0, 1) := by decide +kernel
theorem dX4_init_1 : decode cX4_init 1 = .ok (.invokespecial 1, 3) := by decide +kernel
theorem dX4_init_4 : decode cX4_init 4 = .ok (.aload_n 0, 1) := by decide +kernel
theorem dX4_init_5 : decode cX4_init 5 = .ok (.new 7, 3) := by decide +kernel
theorem dX4_init_8 : decode cX4_init 8 = .ok (.dup, 1) := by decide +kernel
theorem dX4_init_9 : decode cX4_init 9 = .ok (.invokespecial 9, 3) := by decide +kernel
theorem dX4_init_12 : decode cX4_init 12 = .ok (.putfield 10, 3) := by decide +kernel
theorem dX4_init_15 : decode cX4_init 15 = .ok (.aload_n 0, 1) := by decide +kernel
theorem dX4_init_16 : decode cX4_init 16 = .ok (.new 16, 3) := by decide +kernel
theorem dX4_init_19 : decode cX4_init 19 = .ok (.dup, 1) := by decide +kernel
theorem dX4_init_20 : decode cX4_init 20 = .ok (.invokespecial 18, 3) := by decide +kernel
theorem dX4_init_23 : decode cX4_init 23 = .ok (.putfield 19, 3) := by decide +kernel
theorem dX4_init_26 : decode cX4_init 26 = .ok (.aload_n 0, 1) := by decide +kernel
theorem dX4_init_27 : decode cX4_init 27 = .ok (.new 23, 3) := by decide +kernel
theorem dX4_init_30 : decode cX4_init 30 = .ok (.dup, 1) := by decide +kernel
theorem dX4_init_31 : decode cX4_init 31 = .ok (.invokespecial 25, 3) := by decide +kernel
theorem dX4_init_34 : decode cX4_init 34 = .ok (.putfield 26, 3) := by decide +kernel
theorem dX4_init_37 : decode cX4_init 37 = .ok (.aload_n 0, 1) := by decide +kernel
theorem dX4_init_38 : decode cX4_init 38 = .ok (.new 30, 3) := by decide +kernel
theorem dX4_init_41 : decode cX4_init 41 = .ok (.dup, 1) := by decide +kernel
theorem dX4_init_42 : decode cX4_init 42 = .ok (.invokespecial 32, 3) := by decide +kernel
theorem dX4_init_45 : decode cX4_init 45 = .ok (.putfield 33, 3) := by decide +kernel
theorem dX4_init_48 : decode cX4_init 48 = .ok (.return_, 1) := by decide +kernel
theorem dX4_table_0 : decode cX4_table 0 = .ok (.iload_n 1, 1) := by decide +kernel
theorem dX4_table_1 : decode cX4_table 1 = .ok (.ifCond .lt 9, 3) := by decide +kernel
theorem dX4_table_4 : decode cX4_table 4 = .ok (.iload_n 1, 1) := by decide +kernel
theorem dX4_table_5 : decode cX4_table 5 = .ok (.bipush 10, 2) := by decide +kernel
theorem dX4_table_7 : decode cX4_table 7 = .ok (.if_icmp .lt 13, 3) := by decide +kernel
theorem dX4_table_10 : decode cX4_table 10 = .ok (.new 37, 3) := by decide +kernel
theorem dX4_table_13 : decode cX4_table 13 = .ok (.dup, 1) := by decide +kernel
theorem dX4_table_14 : decode cX4_table 14 = .ok (.ldc 39, 2) := by decide +kernel
theorem dX4_table_16 : decode cX4_table 16 = .ok (.invokespecial 41, 3) := by decide +kernel
theorem dX4_table_19 : decode cX4_table 19 = .ok (.athrow, 1) := by decide +kernel
theorem dX4_table_20 : decode cX4_table 20 = .ok (.iload_n 2, 1) := by decide +kernel
theorem dX4_table_21 : decode cX4_table 21 = .ok (.ifCond .lt 21, 3) := by decide +kernel
theorem dX4_table_24 : decode cX4_table 24 = .ok (.iload_n 2, 1) := by decide +kernel
theorem dX4_table_25 : decode cX4_table 25 = .ok (.sipush 1000, 3) := by decide +kernel
theorem dX4_table_28 : decode cX4_table 28 = .ok (.if_icmp .gt 14, 3) := by decide +kernel
theorem dX4_table_31 : decode cX4_table 31 = .ok (.iload_n 3, 1) := by decide +kernel
theorem dX4_table_32 : decode cX4_table 32 = .ok (.ifCond .lt 10, 3) := by decide +kernel
theorem dX4_table_35 : decode cX4_table 35 = .ok (.iload_n 3, 1) := by decide +kernel
theorem dX4_table_36 : decode cX4_table 36 = .ok (.sipush 9999, 3) := by decide +kernel
theorem dX4_table_39 : decode cX4_table 39 = .ok (.if_icmp .le 13, 3) := by decide +kernel
theorem dX4_table_42 : decode cX4_table 42 = .ok (.new 44, 3) := by decide +kernel
theorem dX4_table_45 : decode cX4_table 45 = .ok (.dup, 1) := by decide +kernel
theorem dX4_table_46 : decode cX4_table 46 = .ok (.ldc 46, 2) := by decide +kernel
theorem dX4_table_48 : decode cX4_table 48 = .ok (.invokespecial 48, 3) := by decide +kernel
theorem dX4_table_51 : decode cX4_table 51 = .ok (.athrow, 1) := by decide +kernel
theorem dX4_table_52 : decode cX4_table 52 = .ok (.aload_n 0, 1) := by decide +kernel
theorem dX4_table_53 : decode cX4_table 53 = .ok (.getfield 10, 3) := by decide +kernel
theorem dX4_table_56 : decode cX4_table 56 = .ok (.iload_n 1, 1) := by decide +kernel
theorem dX4_table_57 : decode cX4_table 57 = .ok (.iload_n 3, 1) := by decide +kernel
theorem dX4_table_58 : decode cX4_table 58 = .ok (.invokevirtual 49, 3) := by decide +kernel
theorem dX4_table_61 : decode cX4_table 61 = .ok (.ifCond .ne 13, 3) := by decide +kernel
theorem dX4_table_64 : decode cX4_table 64 = .ok (.new 53, 3) := by decide +kernel
theorem dX4_table_67 : decode cX4_table 67 = .ok (.dup, 1) := by decide +kernel
theorem dX4_table_68 : decode cX4_table 68 = .ok (.ldc 55, 2) := by decide +kernel
theorem dX4_table_70 : decode cX4_table 70 = .ok (.invokespecial 57, 3) := by decide +kernel
theorem dX4_table_73 : decode cX4_table 73 = .ok (.athrow, 1) := by decide +kernel
theorem dX4_table_74 : decode cX4_table 74 = .ok (.aload_n 0, 1) := by decide +kernel
theorem dX4_table_75 : decode cX4_table 75 = .ok (.getfield 10, 3) := by decide +kernel
theorem dX4_table_78 : decode cX4_table 78 = .ok (.iload_n 1, 1) := by decide +kernel
theorem dX4_table_79 : decode cX4_table 79 = .ok (.iload_n 2, 1) := by decide +kernel
theorem dX4_table_80 : decode cX4_table 80 = .ok (.iload_n 3, 1) := by decide +kernel
theorem dX4_table_81 : decode cX4_table 81 = .ok (.invokevirtual 58, 3) := by decide +kernel
theorem dX4_table_84 : decode cX4_table 84 = .ok (.return_, 1) := by decide +kernel
theorem dX4_x_0 : decode cX4_x 0 = .ok (.iload_n 1, 1) := by decide +kernel
theorem dX4_x_1 : decode cX4_x 1 = .ok (.invokestatic 62, 3) := by decide +kernel
theorem dX4_x_4 : decode cX4_x 4 = .ok (.iload_n 2, 1) := by decide +kernel
theorem dX4_x_5 : decode cX4_x 5 = .ok (.invokestatic 66, 3) := by decide +kernel
theorem dX4_x_8 : decode cX4_x 8 = .ok (.iload_n 2, 1) := by decide +kernel
theorem dX4_x_9 : decode cX4_x 9 = .ok (.aload_n 0, 1) := by decide +kernel
theorem dX4_x_10 : decode cX4_x 10 = .ok (.getfield 10, 3) := by decide +kernel
theorem dX4_x_13 : decode cX4_x 13 = .ok (.iload_n 1, 1) := by decide +kernel
theorem dX4_x_14 : decode cX4_x 14 = .ok (.invokevirtual 69, 3) := by decide +kernel
theorem dX4_x_17 : decode cX4_x 17 = .ok (.imul, 1) := by decide +kernel
theorem dX4_x_18 : decode cX4_x 18 = .ok (.ireturn, 1) := by decide +kernel
theorem dX4_y_0 : decode cX4_y 0 = .ok (.iload_n 1, 1) := by decide +kernel
theorem dX4_y_1 : decode cX4_y 1 = .ok (.invokestatic 62, 3) := by decide +kernel
theorem dX4_y_4 : decode cX4_y 4 = .ok (.aload_n 0, 1) := by decide +kernel
theorem dX4_y_5 : decode cX4_y 5 = .ok (.getfield 10, 3) := by decide +kernel
theorem dX4_y_8 : decode cX4_y 8 = .ok (.iload_n 1, 1) := by decide +kernel
theorem dX4_y_9 : decode cX4_y 9 = .ok (.invokevirtual 73, 3) := by decide +kernel
theorem dX4_y_12 : decode cX4_y 12 = .ok (.ireturn, 1) := by decide +kernel
theorem dX4_latitudeAt_0 : decode cX4_latitudeAt 0 = .ok (.iload_n 1, 1) := by decide +kernel
theorem dX4_latitudeAt_1 : decode cX4_latitudeAt 1 = .ok (.ldc 76, 2) := by decide +kernel
theorem dX4_latitudeAt_3 : decode cX4_latitudeAt 3 = .ok (.if_icmp .lt 9, 3) := by decide +kernel
theorem dX4_latitudeAt_6 : decode cX4_latitudeAt 6 = .ok (.iload_n 1, 1) := by decide +kernel
theorem dX4_latitudeAt_7 : decode cX4_latitudeAt 7 = .ok (.ldc 77, 2) := by decide +kernel
theorem dX4_latitudeAt_9 : decode cX4_latitudeAt 9 = .ok (.if_icmp .le 13, 3) := by decide +kernel
theorem dX4_latitudeAt_12 : decode cX4_latitudeAt 12 = .ok (.new 44, 3) := by decide +kernel
theorem dX4_latitudeAt_15 : decode cX4_latitudeAt 15 = .ok (.dup, 1) := by decide +kernel
theorem dX4_latitudeAt_16 : decode cX4_latitudeAt 16 = .ok (.ldc 78, 2) := by decide +kernel
theorem dX4_latitudeAt_18 : decode cX4_latitudeAt 18 = .ok (.invokespecial 48, 3) := by decide +kernel
theorem dX4_latitudeAt_21 : decode cX4_latitudeAt 21 = .ok (.athrow, 1) := by decide +kernel
theorem dX4_latitudeAt_22 : decode cX4_latitudeAt 22 = .ok (.aload_n 0, 1) := by decide +kernel
theorem dX4_latitudeAt_23 : decode cX4_latitudeAt 23 = .ok (.getfield 10, 3) := by decide +kernel
theorem dX4_latitudeAt_26 : decode cX4_latitudeAt 26 = .ok (.iload_n 1, 1) := by decide +kernel
theorem dX4_latitudeAt_27 : decode cX4_latitudeAt 27 = .ok (.invokevirtual 80, 3) := by decide +kernel
theorem dX4_latitudeAt_30 : decode cX4_latitudeAt 30 = .ok (.istore_n 2, 1) := by decide +kernel
theorem dX4_latitudeAt_31 : decode cX4_latitudeAt 31 = .ok (.iload_n 2, 1) := by decide +kernel
theorem dX4_latitudeAt_32 : decode cX4_latitudeAt 32 = .ok (.bipush (-90), 2) := by decide +kernel
theorem dX4_latitudeAt_34 : decode cX4_latitudeAt 34 = .ok (.if_icmp .ge 13, 3) := by decide +kernel
theorem dX4_latitudeAt_37 : decode cX4_latitudeAt 37 = .ok (.new 53, 3) := by decide +kernel
theorem dX4_latitudeAt_40 : decode cX4_latitudeAt 40 = .ok (.dup, 1) := by decide +kernel
theorem dX4_latitudeAt_41 : decode cX4_latitudeAt 41 = .ok (.ldc 83, 2) := by decide +kernel
theorem dX4_latitudeAt_43 : decode cX4_latitudeAt 43 = .ok (.invokespecial 57, 3) := by decide +kernel
theorem dX4_latitudeAt_46 : decode cX4_latitudeAt 46 = .ok (.athrow, 1) := by decide +kernel
theorem dX4_latitudeAt_47 : decode cX4_latitudeAt 47 = .ok (.iload_n 2, 1) := by decide +kernel
theorem dX4_latitudeAt_48 : decode cX4_latitudeAt 48 = .ok (.ireturn, 1) := by decide +kernel
theorem dX4_area_0 : decode cX4_area 0 = .ok (.iload_n 1, 1) := by decide +kernel
theorem dX4_area_1 : decode cX4_area 1 = .ok (.bipush (-90), 2) := by decide +kernel
theorem dX4_area_3 : decode cX4_area 3 = .ok (.if_icmp .lt 14, 3) := by decide +kernel
theorem dX4_area_6 : decode cX4_area 6 = .ok (.iload_n 1, 1) := by decide +kernel
theorem dX4_area_7 : decode cX4_area 7 = .ok (.iload_n 2, 1) := by decide +kernel
theorem dX4_area_8 : decode cX4_area 8 = .ok (.if_icmp .gt 9, 3) := by decide +kernel
theorem dX4_area_11 : decode cX4_area 11 = .ok (.iload_n 2, 1) := by decide +kernel
theorem dX4_area_12 : decode cX4_area 12 = .ok (.bipush 90, 2) := by decide +kernel
theorem dX4_area_14 : decode cX4_area 14 = .ok (.if_icmp .le 13, 3) := by decide +kernel
theorem dX4_area_17 : decode cX4_area 17 = .ok (.new 44, 3) := by decide +kernel
theorem dX4_area_20 : decode cX4_area 20 = .ok (.dup, 1) := by decide +kernel
theorem dX4_area_21 : decode cX4_area 21 = .ok (.ldc 85, 2) := by decide +kernel
theorem dX4_area_23 : decode cX4_area 23 = .ok (.invokespecial 48, 3) := by decide +kernel
theorem dX4_area_26 : decode cX4_area 26 = .ok (.athrow, 1) := by decide +kernel
theorem dX4_area_27 : decode cX4_area 27 = .ok (.iload_n 3, 1) := by decide +kernel
theorem dX4_area_28 : decode cX4_area 28 = .ok (.sipush (-180), 3) := by decide +kernel
theorem dX4_area_31 : decode cX4_area 31 = .ok (.if_icmp .lt 17, 3) := by decide +kernel
theorem dX4_area_34 : decode cX4_area 34 = .ok (.iload_n 3, 1) := by decide +kernel
theorem dX4_area_35 : decode cX4_area 35 = .ok (.iload 4, 2) := by decide +kernel
theorem dX4_area_37 : decode cX4_area 37 = .ok (.if_icmp .gt 11, 3) := by decide +kernel
theorem dX4_area_40 : decode cX4_area 40 = .ok (.iload 4, 2) := by decide +kernel
theorem dX4_area_42 : decode cX4_area 42 = .ok (.sipush 180, 3) := by decide +kernel
theorem dX4_area_45 : decode cX4_area 45 = .ok (.if_icmp .le 13, 3) := by decide +kernel
theorem dX4_area_48 : decode cX4_area 48 = .ok (.new 44, 3) := by decide +kernel
theorem dX4_area_51 : decode cX4_area 51 = .ok (.dup, 1) := by decide +kernel
theorem dX4_area_52 : decode cX4_area 52 = .ok (.ldc 87, 2) := by decide +kernel
theorem dX4_area_54 : decode cX4_area 54 = .ok (.invokespecial 48, 3) := by decide +kernel
theorem dX4_area_57 : decode cX4_area 57 = .ok (.athrow, 1) := by decide +kernel
theorem dX4_area_58 : decode cX4_area 58 = .ok (.aload_n 0, 1) := by decide +kernel
theorem dX4_area_59 : decode cX4_area 59 = .ok (.getfield 10, 3) := by decide +kernel
theorem dX4_area_62 : decode cX4_area 62 = .ok (.iload_n 1, 1) := by decide +kernel
theorem dX4_area_63 : decode cX4_area 63 = .ok (.iload_n 2, 1) := by decide +kernel
theorem dX4_area_64 : decode cX4_area 64 = .ok (.iload 4, 2) := by decide +kernel
theorem dX4_area_66 : decode cX4_area 66 = .ok (.iload_n 3, 1) := by decide +kernel
theorem dX4_area_67 : decode cX4_area 67 = .ok (.isub, 1) := by decide +kernel
theorem dX4_area_68 : decode cX4_area 68 = .ok (.invokevirtual 89, 3) := by decide +kernel
theorem dX4_area_71 : decode cX4_area 71 = .ok (.lreturn, 1) := by decide +kernel
theorem dX4_areaByCells_0 : decode cX4_areaByCells 0 = .ok (.aload_n 0, 1) := by decide +kernel
theorem dX4_areaByCells_1 : decode cX4_areaByCells 1 = .ok (.iload_n 1, 1) := by decide +kernel
theorem dX4_areaByCells_2 : decode cX4_areaByCells 2 = .ok (.iload_n 2, 1) := by decide +kernel
theorem dX4_areaByCells_3 : decode cX4_areaByCells 3 = .ok (.iload_n 3, 1) := by decide +kernel
theorem dX4_areaByCells_4 : decode cX4_areaByCells 4 = .ok (.iload 4, 2) := by decide +kernel
theorem dX4_areaByCells_6 : decode cX4_areaByCells 6 = .ok (.invokevirtual 93, 3) := by decide +kernel
theorem dX4_areaByCells_9 : decode cX4_areaByCells 9 = .ok (.lreturn, 1) := by decide +kernel
theorem dX4_truth_0 : decode cX4_truth 0 = .ok (.iload_n 1, 1) := by decide +kernel
theorem dX4_truth_1 : decode cX4_truth 1 = .ok (.invokestatic 97, 3) := by decide +kernel
theorem dX4_truth_4 : decode cX4_truth 4 = .ok (.iload_n 2, 1) := by decide +kernel
theorem dX4_truth_5 : decode cX4_truth 5 = .ok (.iconst 1, 1) := by decide +kernel
theorem dX4_truth_6 : decode cX4_truth 6 = .ok (.if_icmp .lt 9, 3) := by decide +kernel
theorem dX4_truth_9 : decode cX4_truth 9 = .ok (.iload_n 2, 1) := by decide +kernel
theorem dX4_truth_10 : decode cX4_truth 10 = .ok (.ldc 100, 2) := by decide +kernel
theorem dX4_truth_12 : decode cX4_truth 12 = .ok (.if_icmp .le 13, 3) := by decide +kernel
theorem dX4_truth_15 : decode cX4_truth 15 = .ok (.new 44, 3) := by decide +kernel
theorem dX4_truth_18 : decode cX4_truth 18 = .ok (.dup, 1) := by decide +kernel
theorem dX4_truth_19 : decode cX4_truth 19 = .ok (.ldc 101, 2) := by decide +kernel
theorem dX4_truth_21 : decode cX4_truth 21 = .ok (.invokespecial 48, 3) := by decide +kernel
theorem dX4_truth_24 : decode cX4_truth 24 = .ok (.athrow, 1) := by decide +kernel
theorem dX4_truth_25 : decode cX4_truth 25 = .ok (.aload_n 0, 1) := by decide +kernel
theorem dX4_truth_26 : decode cX4_truth 26 = .ok (.getfield 19, 3) := by decide +kernel
theorem dX4_truth_29 : decode cX4_truth 29 = .ok (.iload_n 1, 1) := by decide +kernel
theorem dX4_truth_30 : decode cX4_truth 30 = .ok (.iload_n 2, 1) := by decide +kernel
theorem dX4_truth_31 : decode cX4_truth 31 = .ok (.invokevirtual 103, 3) := by decide +kernel
theorem dX4_truth_34 : decode cX4_truth 34 = .ok (.ireturn, 1) := by decide +kernel
theorem dX4_keepsAreas_0 : decode cX4_keepsAreas 0 = .ok (.aload_n 0, 1) := by decide +kernel
theorem dX4_keepsAreas_1 : decode cX4_keepsAreas 1 = .ok (.getfield 19, 3) := by decide +kernel
theorem dX4_keepsAreas_4 : decode cX4_keepsAreas 4 = .ok (.aload_n 0, 1) := by decide +kernel
theorem dX4_keepsAreas_5 : decode cX4_keepsAreas 5 = .ok (.getfield 10, 3) := by decide +kernel
theorem dX4_keepsAreas_8 : decode cX4_keepsAreas 8 = .ok (.invokevirtual 107, 3) := by decide +kernel
theorem dX4_keepsAreas_11 : decode cX4_keepsAreas 11 = .ok (.ireturn, 1) := by decide +kernel
theorem dX4_widest_0 : decode cX4_widest 0 = .ok (.aload_n 0, 1) := by decide +kernel
theorem dX4_widest_1 : decode cX4_widest 1 = .ok (.getfield 19, 3) := by decide +kernel
theorem dX4_widest_4 : decode cX4_widest 4 = .ok (.aload_n 0, 1) := by decide +kernel
theorem dX4_widest_5 : decode cX4_widest 5 = .ok (.getfield 10, 3) := by decide +kernel
theorem dX4_widest_8 : decode cX4_widest 8 = .ok (.invokevirtual 111, 3) := by decide +kernel
theorem dX4_widest_11 : decode cX4_widest 11 = .ok (.ireturn, 1) := by decide +kernel
theorem dX4_stretch_0 : decode cX4_stretch 0 = .ok (.iload_n 1, 1) := by decide +kernel
theorem dX4_stretch_1 : decode cX4_stretch 1 = .ok (.invokestatic 97, 3) := by decide +kernel
theorem dX4_stretch_4 : decode cX4_stretch 4 = .ok (.aload_n 0, 1) := by decide +kernel
theorem dX4_stretch_5 : decode cX4_stretch 5 = .ok (.getfield 19, 3) := by decide +kernel
theorem dX4_stretch_8 : decode cX4_stretch 8 = .ok (.aload_n 0, 1) := by decide +kernel
theorem dX4_stretch_9 : decode cX4_stretch 9 = .ok (.getfield 10, 3) := by decide +kernel
theorem dX4_stretch_12 : decode cX4_stretch 12 = .ok (.iload_n 1, 1) := by decide +kernel
theorem dX4_stretch_13 : decode cX4_stretch 13 = .ok (.invokevirtual 115, 3) := by decide +kernel
theorem dX4_stretch_16 : decode cX4_stretch 16 = .ok (.freturn, 1) := by decide +kernel
theorem dX4_apart_0 : decode cX4_apart 0 = .ok (.iload_n 1, 1) := by decide +kernel
theorem dX4_apart_1 : decode cX4_apart 1 = .ok (.invokestatic 66, 3) := by decide +kernel
theorem dX4_apart_4 : decode cX4_apart 4 = .ok (.iload_n 2, 1) := by decide +kernel
theorem dX4_apart_5 : decode cX4_apart 5 = .ok (.invokestatic 66, 3) := by decide +kernel
theorem dX4_apart_8 : decode cX4_apart 8 = .ok (.iload_n 1, 1) := by decide +kernel
theorem dX4_apart_9 : decode cX4_apart 9 = .ok (.iload_n 2, 1) := by decide +kernel
theorem dX4_apart_10 : decode cX4_apart 10 = .ok (.invokestatic 119, 3) := by decide +kernel
theorem dX4_apart_13 : decode cX4_apart 13 = .ok (.ireturn, 1) := by decide +kernel
theorem dX4_ringWay_0 : decode cX4_ringWay 0 = .ok (.iload_n 1, 1) := by decide +kernel
theorem dX4_ringWay_1 : decode cX4_ringWay 1 = .ok (.invokestatic 62, 3) := by decide +kernel
theorem dX4_ringWay_4 : decode cX4_ringWay 4 = .ok (.iload_n 2, 1) := by decide +kernel
theorem dX4_ringWay_5 : decode cX4_ringWay 5 = .ok (.invokestatic 66, 3) := by decide +kernel
theorem dX4_ringWay_8 : decode cX4_ringWay 8 = .ok (.iload_n 3, 1) := by decide +kernel
theorem dX4_ringWay_9 : decode cX4_ringWay 9 = .ok (.invokestatic 66, 3) := by decide +kernel
theorem dX4_ringWay_12 : decode cX4_ringWay 12 = .ok (.iload_n 2, 1) := by decide +kernel
theorem dX4_ringWay_13 : decode cX4_ringWay 13 = .ok (.iload_n 3, 1) := by decide +kernel
theorem dX4_ringWay_14 : decode cX4_ringWay 14 = .ok (.invokestatic 119, 3) := by decide +kernel
theorem dX4_ringWay_17 : decode cX4_ringWay 17 = .ok (.aload_n 0, 1) := by decide +kernel
theorem dX4_ringWay_18 : decode cX4_ringWay 18 = .ok (.getfield 10, 3) := by decide +kernel
theorem dX4_ringWay_21 : decode cX4_ringWay 21 = .ok (.iload_n 1, 1) := by decide +kernel
theorem dX4_ringWay_22 : decode cX4_ringWay 22 = .ok (.invokevirtual 69, 3) := by decide +kernel
theorem dX4_ringWay_25 : decode cX4_ringWay 25 = .ok (.imul, 1) := by decide +kernel
theorem dX4_ringWay_26 : decode cX4_ringWay 26 = .ok (.ireturn, 1) := by decide +kernel
theorem dX4_zones_0 : decode cX4_zones 0 = .ok (.iload_n 1, 1) := by decide +kernel
theorem dX4_zones_1 : decode cX4_zones 1 = .ok (.iconst 1, 1) := by decide +kernel
theorem dX4_zones_2 : decode cX4_zones 2 = .ok (.if_icmp .lt 18, 3) := by decide +kernel
theorem dX4_zones_5 : decode cX4_zones 5 = .ok (.iload_n 1, 1) := by decide +kernel
theorem dX4_zones_6 : decode cX4_zones 6 = .ok (.sipush 360, 3) := by decide +kernel
theorem dX4_zones_9 : decode cX4_zones 9 = .ok (.if_icmp .gt 11, 3) := by decide +kernel
theorem dX4_zones_12 : decode cX4_zones 12 = .ok (.sipush 360, 3) := by decide +kernel
theorem dX4_zones_15 : decode cX4_zones 15 = .ok (.iload_n 1, 1) := by decide +kernel
theorem dX4_zones_16 : decode cX4_zones 16 = .ok (.irem, 1) := by decide +kernel
theorem dX4_zones_17 : decode cX4_zones 17 = .ok (.ifCond .eq 13, 3) := by decide +kernel
theorem dX4_zones_20 : decode cX4_zones 20 = .ok (.new 44, 3) := by decide +kernel
theorem dX4_zones_23 : decode cX4_zones 23 = .ok (.dup, 1) := by decide +kernel
theorem dX4_zones_24 : decode cX4_zones 24 = .ok (.ldc 122, 2) := by decide +kernel
theorem dX4_zones_26 : decode cX4_zones 26 = .ok (.invokespecial 48, 3) := by decide +kernel
theorem dX4_zones_29 : decode cX4_zones 29 = .ok (.athrow, 1) := by decide +kernel
theorem dX4_zones_30 : decode cX4_zones 30 = .ok (.aload_n 0, 1) := by decide +kernel
theorem dX4_zones_31 : decode cX4_zones 31 = .ok (.getfield 26, 3) := by decide +kernel
theorem dX4_zones_34 : decode cX4_zones 34 = .ok (.iload_n 1, 1) := by decide +kernel
theorem dX4_zones_35 : decode cX4_zones 35 = .ok (.invokevirtual 124, 3) := by decide +kernel
theorem dX4_zones_38 : decode cX4_zones 38 = .ok (.ireturn, 1) := by decide +kernel
theorem dX4_zone_0 : decode cX4_zone 0 = .ok (.iload_n 1, 1) := by decide +kernel
theorem dX4_zone_1 : decode cX4_zone 1 = .ok (.invokestatic 66, 3) := by decide +kernel
theorem dX4_zone_4 : decode cX4_zone 4 = .ok (.aload_n 0, 1) := by decide +kernel
theorem dX4_zone_5 : decode cX4_zone 5 = .ok (.getfield 26, 3) := by decide +kernel
theorem dX4_zone_8 : decode cX4_zone 8 = .ok (.iload_n 1, 1) := by decide +kernel
theorem dX4_zone_9 : decode cX4_zone 9 = .ok (.invokevirtual 127, 3) := by decide +kernel
theorem dX4_zone_12 : decode cX4_zone 12 = .ok (.ireturn, 1) := by decide +kernel
theorem dX4_seams_0 : decode cX4_seams 0 = .ok (.iload_n 1, 1) := by decide +kernel
theorem dX4_seams_1 : decode cX4_seams 1 = .ok (.invokestatic 66, 3) := by decide +kernel
theorem dX4_seams_4 : decode cX4_seams 4 = .ok (.iload_n 2, 1) := by decide +kernel
theorem dX4_seams_5 : decode cX4_seams 5 = .ok (.invokestatic 66, 3) := by decide +kernel
theorem dX4_seams_8 : decode cX4_seams 8 = .ok (.iload_n 1, 1) := by decide +kernel
theorem dX4_seams_9 : decode cX4_seams 9 = .ok (.iload_n 2, 1) := by decide +kernel
theorem dX4_seams_10 : decode cX4_seams 10 = .ok (.invokestatic 130, 3) := by decide +kernel
theorem dX4_seams_13 : decode cX4_seams 13 = .ok (.ifCond .eq 7, 3) := by decide +kernel
theorem dX4_seams_16 : decode cX4_seams 16 = .ok (.iload_n 1, 1) := by decide +kernel
theorem dX4_seams_17 : decode cX4_seams 17 = .ok (.goto 4, 3) := by decide +kernel
theorem dX4_seams_20 : decode cX4_seams 20 = .ok (.iload_n 2, 1) := by decide +kernel
theorem dX4_seams_21 : decode cX4_seams 21 = .ok (.istore_n 3, 1) := by decide +kernel
theorem dX4_seams_22 : decode cX4_seams 22 = .ok (.aload_n 0, 1) := by decide +kernel
theorem dX4_seams_23 : decode cX4_seams 23 = .ok (.getfield 26, 3) := by decide +kernel
theorem dX4_seams_26 : decode cX4_seams 26 = .ok (.iload_n 3, 1) := by decide +kernel
theorem dX4_seams_27 : decode cX4_seams 27 = .ok (.iload_n 1, 1) := by decide +kernel
theorem dX4_seams_28 : decode cX4_seams 28 = .ok (.iload_n 2, 1) := by decide +kernel
theorem dX4_seams_29 : decode cX4_seams 29 = .ok (.invokestatic 119, 3) := by decide +kernel
theorem dX4_seams_32 : decode cX4_seams 32 = .ok (.invokevirtual 133, 3) := by decide +kernel
theorem dX4_seams_35 : decode cX4_seams 35 = .ok (.ireturn, 1) := by decide +kernel
theorem dX4_dateLine_0 : decode cX4_dateLine 0 = .ok (.iload_n 1, 1) := by decide +kernel
theorem dX4_dateLine_1 : decode cX4_dateLine 1 = .ok (.invokestatic 66, 3) := by decide +kernel
theorem dX4_dateLine_4 : decode cX4_dateLine 4 = .ok (.iload_n 2, 1) := by decide +kernel
theorem dX4_dateLine_5 : decode cX4_dateLine 5 = .ok (.invokestatic 66, 3) := by decide +kernel
theorem dX4_dateLine_8 : decode cX4_dateLine 8 = .ok (.iload_n 1, 1) := by decide +kernel
theorem dX4_dateLine_9 : decode cX4_dateLine 9 = .ok (.iload_n 2, 1) := by decide +kernel
theorem dX4_dateLine_10 : decode cX4_dateLine 10 = .ok (.invokestatic 130, 3) := by decide +kernel
theorem dX4_dateLine_13 : decode cX4_dateLine 13 = .ok (.ifCond .eq 14, 3) := by decide +kernel
theorem dX4_dateLine_16 : decode cX4_dateLine 16 = .ok (.iload_n 2, 1) := by decide +kernel
theorem dX4_dateLine_17 : decode cX4_dateLine 17 = .ok (.iload_n 1, 1) := by decide +kernel
theorem dX4_dateLine_18 : decode cX4_dateLine 18 = .ok (.if_icmp .ge 7, 3) := by decide +kernel
theorem dX4_dateLine_21 : decode cX4_dateLine 21 = .ok (.iconst 1, 1) := by decide +kernel
theorem dX4_dateLine_22 : decode cX4_dateLine 22 = .ok (.goto 4, 3) := by decide +kernel
theorem dX4_dateLine_25 : decode cX4_dateLine 25 = .ok (.iconst 0, 1) := by decide +kernel
theorem dX4_dateLine_26 : decode cX4_dateLine 26 = .ok (.ireturn, 1) := by decide +kernel
theorem dX4_dateLine_27 : decode cX4_dateLine 27 = .ok (.iload_n 2, 1) := by decide +kernel
theorem dX4_dateLine_28 : decode cX4_dateLine 28 = .ok (.iload_n 1, 1) := by decide +kernel
theorem dX4_dateLine_29 : decode cX4_dateLine 29 = .ok (.if_icmp .le 7, 3) := by decide +kernel
theorem dX4_dateLine_32 : decode cX4_dateLine 32 = .ok (.iconst (-1), 1) := by decide +kernel
theorem dX4_dateLine_33 : decode cX4_dateLine 33 = .ok (.goto 4, 3) := by decide +kernel
theorem dX4_dateLine_36 : decode cX4_dateLine 36 = .ok (.iconst 0, 1) := by decide +kernel
theorem dX4_dateLine_37 : decode cX4_dateLine 37 = .ok (.ireturn, 1) := by decide +kernel
theorem dX4_sheet_0 : decode cX4_sheet 0 = .ok (.iload_n 1, 1) := by decide +kernel
theorem dX4_sheet_1 : decode cX4_sheet 1 = .ok (.iconst 1, 1) := by decide +kernel
theorem dX4_sheet_2 : decode cX4_sheet 2 = .ok (.if_icmp .lt 20, 3) := by decide +kernel
theorem dX4_sheet_5 : decode cX4_sheet 5 = .ok (.iload_n 1, 1) := by decide +kernel
theorem dX4_sheet_6 : decode cX4_sheet 6 = .ok (.bipush 6, 2) := by decide +kernel
theorem dX4_sheet_8 : decode cX4_sheet 8 = .ok (.if_icmp .gt 14, 3) := by decide +kernel
theorem dX4_sheet_11 : decode cX4_sheet 11 = .ok (.iload_n 2, 1) := by decide +kernel
theorem dX4_sheet_12 : decode cX4_sheet 12 = .ok (.iconst 1, 1) := by decide +kernel
theorem dX4_sheet_13 : decode cX4_sheet 13 = .ok (.if_icmp .lt 9, 3) := by decide +kernel
theorem dX4_sheet_16 : decode cX4_sheet 16 = .ok (.iload_n 2, 1) := by decide +kernel
theorem dX4_sheet_17 : decode cX4_sheet 17 = .ok (.bipush 6, 2) := by decide +kernel
theorem dX4_sheet_19 : decode cX4_sheet 19 = .ok (.if_icmp .le 13, 3) := by decide +kernel
theorem dX4_sheet_22 : decode cX4_sheet 22 = .ok (.new 44, 3) := by decide +kernel
theorem dX4_sheet_25 : decode cX4_sheet 25 = .ok (.dup, 1) := by decide +kernel
theorem dX4_sheet_26 : decode cX4_sheet 26 = .ok (.ldc 136, 2) := by decide +kernel
theorem dX4_sheet_28 : decode cX4_sheet 28 = .ok (.invokespecial 48, 3) := by decide +kernel
theorem dX4_sheet_31 : decode cX4_sheet 31 = .ok (.athrow, 1) := by decide +kernel
theorem dX4_sheet_32 : decode cX4_sheet 32 = .ok (.aload_n 0, 1) := by decide +kernel
theorem dX4_sheet_33 : decode cX4_sheet 33 = .ok (.getfield 33, 3) := by decide +kernel
theorem dX4_sheet_36 : decode cX4_sheet 36 = .ok (.iload_n 1, 1) := by decide +kernel
theorem dX4_sheet_37 : decode cX4_sheet 37 = .ok (.iload_n 2, 1) := by decide +kernel
theorem dX4_sheet_38 : decode cX4_sheet 38 = .ok (.invokevirtual 138, 3) := by decide +kernel
theorem dX4_sheet_41 : decode cX4_sheet 41 = .ok (.return_, 1) := by decide +kernel
theorem dX4_foldColumns_0 : decode cX4_foldColumns 0 = .ok (.aload_n 0, 1) := by decide +kernel
theorem dX4_foldColumns_1 : decode cX4_foldColumns 1 = .ok (.getfield 33, 3) := by decide +kernel
theorem dX4_foldColumns_4 : decode cX4_foldColumns 4 = .ok (.iload_n 1, 1) := by decide +kernel
theorem dX4_foldColumns_5 : decode cX4_foldColumns 5 = .ok (.invokevirtual 142, 3) := by decide +kernel
theorem dX4_foldColumns_8 : decode cX4_foldColumns 8 = .ok (.invokestatic 145, 3) := by decide +kernel
theorem dX4_foldColumns_11 : decode cX4_foldColumns 11 = .ok (.ireturn, 1) := by decide +kernel
theorem dX4_foldRows_0 : decode cX4_foldRows 0 = .ok (.aload_n 0, 1) := by decide +kernel
theorem dX4_foldRows_1 : decode cX4_foldRows 1 = .ok (.getfield 33, 3) := by decide +kernel
theorem dX4_foldRows_4 : decode cX4_foldRows 4 = .ok (.iload_n 1, 1) := by decide +kernel
theorem dX4_foldRows_5 : decode cX4_foldRows 5 = .ok (.invokevirtual 148, 3) := by decide +kernel
theorem dX4_foldRows_8 : decode cX4_foldRows 8 = .ok (.invokestatic 145, 3) := by decide +kernel
theorem dX4_foldRows_11 : decode cX4_foldRows 11 = .ok (.ireturn, 1) := by decide +kernel
theorem dX4_unfold_0 : decode cX4_unfold 0 = .ok (.aload_n 0, 1) := by decide +kernel
theorem dX4_unfold_1 : decode cX4_unfold 1 = .ok (.getfield 33, 3) := by decide +kernel
theorem dX4_unfold_4 : decode cX4_unfold 4 = .ok (.invokevirtual 151, 3) := by decide +kernel
theorem dX4_unfold_7 : decode cX4_unfold 7 = .ok (.ireturn, 1) := by decide +kernel
theorem dX4_panel_0 : decode cX4_panel 0 = .ok (.iload_n 1, 1) := by decide +kernel
theorem dX4_panel_1 : decode cX4_panel 1 = .ok (.invokestatic 62, 3) := by decide +kernel
theorem dX4_panel_4 : decode cX4_panel 4 = .ok (.iload_n 2, 1) := by decide +kernel
theorem dX4_panel_5 : decode cX4_panel 5 = .ok (.invokestatic 66, 3) := by decide +kernel
theorem dX4_panel_8 : decode cX4_panel 8 = .ok (.bipush 10, 2) := by decide +kernel
theorem dX4_panel_10 : decode cX4_panel 10 = .ok (.aload_n 0, 1) := by decide +kernel
theorem dX4_panel_11 : decode cX4_panel 11 = .ok (.getfield 33, 3) := by decide +kernel
theorem dX4_panel_14 : decode cX4_panel 14 = .ok (.iload_n 2, 1) := by decide +kernel
theorem dX4_panel_15 : decode cX4_panel 15 = .ok (.invokevirtual 155, 3) := by decide +kernel
theorem dX4_panel_18 : decode cX4_panel 18 = .ok (.imul, 1) := by decide +kernel
theorem dX4_panel_19 : decode cX4_panel 19 = .ok (.aload_n 0, 1) := by decide +kernel
theorem dX4_panel_20 : decode cX4_panel 20 = .ok (.getfield 33, 3) := by decide +kernel
theorem dX4_panel_23 : decode cX4_panel 23 = .ok (.iload_n 1, 1) := by decide +kernel
theorem dX4_panel_24 : decode cX4_panel 24 = .ok (.invokevirtual 158, 3) := by decide +kernel
theorem dX4_panel_27 : decode cX4_panel 27 = .ok (.iadd, 1) := by decide +kernel
theorem dX4_panel_28 : decode cX4_panel 28 = .ok (.ireturn, 1) := by decide +kernel
theorem dX4_placeX_0 : decode cX4_placeX 0 = .ok (.aload_n 0, 1) := by decide +kernel
theorem dX4_placeX_1 : decode cX4_placeX 1 = .ok (.iload_n 1, 1) := by decide +kernel
theorem dX4_placeX_2 : decode cX4_placeX 2 = .ok (.iload_n 2, 1) := by decide +kernel
theorem dX4_placeX_3 : decode cX4_placeX 3 = .ok (.invokevirtual 161, 3) := by decide +kernel
theorem dX4_placeX_6 : decode cX4_placeX 6 = .ok (.aload_n 0, 1) := by decide +kernel
theorem dX4_placeX_7 : decode cX4_placeX 7 = .ok (.getfield 33, 3) := by decide +kernel
theorem dX4_placeX_10 : decode cX4_placeX 10 = .ok (.iload_n 1, 1) := by decide +kernel
theorem dX4_placeX_11 : decode cX4_placeX 11 = .ok (.iload_n 2, 1) := by decide +kernel
theorem dX4_placeX_12 : decode cX4_placeX 12 = .ok (.invokevirtual 164, 3) := by decide +kernel
theorem dX4_placeX_15 : decode cX4_placeX 15 = .ok (.ireturn, 1) := by decide +kernel
theorem dX4_placeY_0 : decode cX4_placeY 0 = .ok (.aload_n 0, 1) := by decide +kernel
theorem dX4_placeY_1 : decode cX4_placeY 1 = .ok (.iload_n 1, 1) := by decide +kernel
theorem dX4_placeY_2 : decode cX4_placeY 2 = .ok (.iload_n 2, 1) := by decide +kernel
theorem dX4_placeY_3 : decode cX4_placeY 3 = .ok (.invokevirtual 161, 3) := by decide +kernel
theorem dX4_placeY_6 : decode cX4_placeY 6 = .ok (.aload_n 0, 1) := by decide +kernel
theorem dX4_placeY_7 : decode cX4_placeY 7 = .ok (.getfield 33, 3) := by decide +kernel
theorem dX4_placeY_10 : decode cX4_placeY 10 = .ok (.iload_n 1, 1) := by decide +kernel
theorem dX4_placeY_11 : decode cX4_placeY 11 = .ok (.iload_n 2, 1) := by decide +kernel
theorem dX4_placeY_12 : decode cX4_placeY 12 = .ok (.invokevirtual 167, 3) := by decide +kernel
theorem dX4_placeY_15 : decode cX4_placeY 15 = .ok (.ireturn, 1) := by decide +kernel
theorem dX4_above_0 : decode cX4_above 0 = .ok (.aload_n 0, 1) := by decide +kernel
theorem dX4_above_1 : decode cX4_above 1 = .ok (.iload_n 1, 1) := by decide +kernel
theorem dX4_above_2 : decode cX4_above 2 = .ok (.iload_n 2, 1) := by decide +kernel
theorem dX4_above_3 : decode cX4_above 3 = .ok (.invokevirtual 161, 3) := by decide +kernel
theorem dX4_above_6 : decode cX4_above 6 = .ok (.aload_n 0, 1) := by decide +kernel
theorem dX4_above_7 : decode cX4_above 7 = .ok (.getfield 33, 3) := by decide +kernel
theorem dX4_above_10 : decode cX4_above 10 = .ok (.iload_n 1, 1) := by decide +kernel
theorem dX4_above_11 : decode cX4_above 11 = .ok (.iload_n 2, 1) := by decide +kernel
theorem dX4_above_12 : decode cX4_above 12 = .ok (.invokevirtual 170, 3) := by decide +kernel
theorem dX4_above_15 : decode cX4_above 15 = .ok (.ireturn, 1) := by decide +kernel
theorem dX4_isUp_0 : decode cX4_isUp 0 = .ok (.aload_n 0, 1) := by decide +kernel
theorem dX4_isUp_1 : decode cX4_isUp 1 = .ok (.iload_n 1, 1) := by decide +kernel
theorem dX4_isUp_2 : decode cX4_isUp 2 = .ok (.iload_n 2, 1) := by decide +kernel
theorem dX4_isUp_3 : decode cX4_isUp 3 = .ok (.invokevirtual 161, 3) := by decide +kernel
theorem dX4_isUp_6 : decode cX4_isUp 6 = .ok (.aload_n 0, 1) := by decide +kernel
theorem dX4_isUp_7 : decode cX4_isUp 7 = .ok (.getfield 33, 3) := by decide +kernel
theorem dX4_isUp_10 : decode cX4_isUp 10 = .ok (.iload_n 1, 1) := by decide +kernel
theorem dX4_isUp_11 : decode cX4_isUp 11 = .ok (.iload_n 2, 1) := by decide +kernel
theorem dX4_isUp_12 : decode cX4_isUp 12 = .ok (.invokevirtual 173, 3) := by decide +kernel
theorem dX4_isUp_15 : decode cX4_isUp 15 = .ok (.ireturn, 1) := by decide +kernel
theorem dX4_thickness_0 : decode cX4_thickness 0 = .ok (.aload_n 0, 1) := by decide +kernel
theorem dX4_thickness_1 : decode cX4_thickness 1 = .ok (.getfield 33, 3) := by decide +kernel
theorem dX4_thickness_4 : decode cX4_thickness 4 = .ok (.invokevirtual 176, 3) := by decide +kernel
theorem dX4_thickness_7 : decode cX4_thickness 7 = .ok (.ireturn, 1) := by decide +kernel
theorem dX4_readable_0 : decode cX4_readable 0 = .ok (.aload_n 0, 1) := by decide +kernel
theorem dX4_readable_1 : decode cX4_readable 1 = .ok (.getfield 33, 3) := by decide +kernel
theorem dX4_readable_4 : decode cX4_readable 4 = .ok (.invokevirtual 179, 3) := by decide +kernel
theorem dX4_readable_7 : decode cX4_readable 7 = .ok (.ireturn, 1) := by decide +kernel
theorem dX4_requireLatitude_0 : decode cX4_requireLatitude 0 = .ok (.iload_n 0, 1) := by decide +kernel
theorem dX4_requireLatitude_1 : decode cX4_requireLatitude 1 = .ok (.bipush (-90), 2) := by decide +kernel
theorem dX4_requireLatitude_3 : decode cX4_requireLatitude 3 = .ok (.if_icmp .lt 9, 3) := by decide +kernel
theorem dX4_requireLatitude_6 : decode cX4_requireLatitude 6 = .ok (.iload_n 0, 1) := by decide +kernel
theorem dX4_requireLatitude_7 : decode cX4_requireLatitude 7 = .ok (.bipush 90, 2) := by decide +kernel
theorem dX4_requireLatitude_9 : decode cX4_requireLatitude 9 = .ok (.if_icmp .le 13, 3) := by decide +kernel
theorem dX4_requireLatitude_12 : decode cX4_requireLatitude 12 = .ok (.new 44, 3) := by decide +kernel
theorem dX4_requireLatitude_15 : decode cX4_requireLatitude 15 = .ok (.dup, 1) := by decide +kernel
theorem dX4_requireLatitude_16 : decode cX4_requireLatitude 16 = .ok (.ldc 182, 2) := by decide +kernel
theorem dX4_requireLatitude_18 : decode cX4_requireLatitude 18 = .ok (.invokespecial 48, 3) := by decide +kernel
theorem dX4_requireLatitude_21 : decode cX4_requireLatitude 21 = .ok (.athrow, 1) := by decide +kernel
theorem dX4_requireLatitude_22 : decode cX4_requireLatitude 22 = .ok (.return_, 1) := by decide +kernel
theorem dX4_requireLongitude_0 : decode cX4_requireLongitude 0 = .ok (.iload_n 0, 1) := by decide +kernel
theorem dX4_requireLongitude_1 : decode cX4_requireLongitude 1 = .ok (.sipush (-180), 3) := by decide +kernel
theorem dX4_requireLongitude_4 : decode cX4_requireLongitude 4 = .ok (.if_icmp .lt 10, 3) := by decide +kernel
theorem dX4_requireLongitude_7 : decode cX4_requireLongitude 7 = .ok (.iload_n 0, 1) := by decide +kernel
theorem dX4_requireLongitude_8 : decode cX4_requireLongitude 8 = .ok (.sipush 179, 3) := by decide +kernel
theorem dX4_requireLongitude_11 : decode cX4_requireLongitude 11 = .ok (.if_icmp .le 13, 3) := by decide +kernel
theorem dX4_requireLongitude_14 : decode cX4_requireLongitude 14 = .ok (.new 44, 3) := by decide +kernel
theorem dX4_requireLongitude_17 : decode cX4_requireLongitude 17 = .ok (.dup, 1) := by decide +kernel
theorem dX4_requireLongitude_18 : decode cX4_requireLongitude 18 = .ok (.ldc 184, 2) := by decide +kernel
theorem dX4_requireLongitude_20 : decode cX4_requireLongitude 20 = .ok (.invokespecial 48, 3) := by decide +kernel
theorem dX4_requireLongitude_23 : decode cX4_requireLongitude 23 = .ok (.athrow, 1) := by decide +kernel
theorem dX4_requireLongitude_24 : decode cX4_requireLongitude 24 = .ok (.return_, 1) := by decide +kernel
theorem dX4_requireBand_0 : decode cX4_requireBand 0 = .ok (.iload_n 0, 1) := by decide +kernel
theorem dX4_requireBand_1 : decode cX4_requireBand 1 = .ok (.ifCond .lt 9, 3) := by decide +kernel
theorem dX4_requireBand_4 : decode cX4_requireBand 4 = .ok (.iload_n 0, 1) := by decide +kernel
theorem dX4_requireBand_5 : decode cX4_requireBand 5 = .ok (.bipush 9, 2) := by decide +kernel
theorem dX4_requireBand_7 : decode cX4_requireBand 7 = .ok (.if_icmp .lt 13, 3) := by decide +kernel
theorem dX4_requireBand_10 : decode cX4_requireBand 10 = .ok (.new 37, 3) := by decide +kernel
theorem dX4_requireBand_13 : decode cX4_requireBand 13 = .ok (.dup, 1) := by decide +kernel
theorem dX4_requireBand_14 : decode cX4_requireBand 14 = .ok (.ldc 186, 2) := by decide +kernel
theorem dX4_requireBand_16 : decode cX4_requireBand 16 = .ok (.invokespecial 41, 3) := by decide +kernel
theorem dX4_requireBand_19 : decode cX4_requireBand 19 = .ok (.athrow, 1) := by decide +kernel
theorem dX4_requireBand_20 : decode cX4_requireBand 20 = .ok (.return_, 1) := by decide +kernel
theorem dX4_requirePanel_0 : decode cX4_requirePanel 0 = .ok (.aload_n 0, 1) := by decide +kernel
theorem dX4_requirePanel_1 : decode cX4_requirePanel 1 = .ok (.getfield 33, 3) := by decide +kernel
theorem dX4_requirePanel_4 : decode cX4_requirePanel 4 = .ok (.iload_n 1, 1) := by decide +kernel
theorem dX4_requirePanel_5 : decode cX4_requirePanel 5 = .ok (.iload_n 2, 1) := by decide +kernel
theorem dX4_requirePanel_6 : decode cX4_requirePanel 6 = .ok (.invokevirtual 188, 3) := by decide +kernel
theorem dX4_requirePanel_9 : decode cX4_requirePanel 9 = .ok (.ifCond .ne 13, 3) := by decide +kernel
theorem dX4_requirePanel_12 : decode cX4_requirePanel 12 = .ok (.new 37, 3) := by decide +kernel
theorem dX4_requirePanel_15 : decode cX4_requirePanel 15 = .ok (.dup, 1) := by decide +kernel
theorem dX4_requirePanel_16 : decode cX4_requirePanel 16 = .ok (.ldc 191, 2) := by decide +kernel
theorem dX4_requirePanel_18 : decode cX4_requirePanel 18 = .ok (.invokespecial 41, 3) := by decide +kernel
theorem dX4_requirePanel_21 : decode cX4_requirePanel 21 = .ok (.athrow, 1) := by decide +kernel
theorem dX4_requirePanel_22 : decode cX4_requirePanel 22 = .ok (.return_, 1) := by decide +kernel
theorem dX4_someTurned_0 : decode cX4_someTurned 0 = .ok (.iload_n 0, 1) := by decide +kernel
theorem dX4_someTurned_1 : decode cX4_someTurned 1 = .ok (.ifCond .ne 13, 3) := by decide +kernel
theorem dX4_someTurned_4 : decode cX4_someTurned 4 = .ok (.new 53, 3) := by decide +kernel
theorem dX4_someTurned_7 : decode cX4_someTurned 7 = .ok (.dup, 1) := by decide +kernel
theorem dX4_someTurned_8 : decode cX4_someTurned 8 = .ok (.ldc 193, 2) := by decide +kernel
theorem dX4_someTurned_10 : decode cX4_someTurned 10 = .ok (.invokespecial 57, 3) := by decide +kernel
theorem dX4_someTurned_13 : decode cX4_someTurned 13 = .ok (.athrow, 1) := by decide +kernel
theorem dX4_someTurned_14 : decode cX4_someTurned 14 = .ok (.iload_n 0, 1) := by decide +kernel
theorem dX4_someTurned_15 : decode cX4_someTurned 15 = .ok (.ireturn, 1) := by decide +kernel
theorem dX4_degreesEast_0 : decode cX4_degreesEast 0 = .ok (.iload_n 1, 1) := by decide +kernel
theorem dX4_degreesEast_1 : decode cX4_degreesEast 1 = .ok (.iload_n 0, 1) := by decide +kernel
theorem dX4_degreesEast_2 : decode cX4_degreesEast 2 = .ok (.isub, 1) := by decide +kernel
theorem dX4_degreesEast_3 : decode cX4_degreesEast 3 = .ok (.istore_n 2, 1) := by decide +kernel
theorem dX4_degreesEast_4 : decode cX4_degreesEast 4 = .ok (.iload_n 2, 1) := by decide +kernel
theorem dX4_degreesEast_5 : decode cX4_degreesEast 5 = .ok (.ifCond .ge 11, 3) := by decide +kernel
theorem dX4_degreesEast_8 : decode cX4_degreesEast 8 = .ok (.iload_n 2, 1) := by decide +kernel
theorem dX4_degreesEast_9 : decode cX4_degreesEast 9 = .ok (.sipush 360, 3) := by decide +kernel
theorem dX4_degreesEast_12 : decode cX4_degreesEast 12 = .ok (.iadd, 1) := by decide +kernel
theorem dX4_degreesEast_13 : decode cX4_degreesEast 13 = .ok (.goto 4, 3) := by decide +kernel
theorem dX4_degreesEast_16 : decode cX4_degreesEast 16 = .ok (.iload_n 2, 1) := by decide +kernel
theorem dX4_degreesEast_17 : decode cX4_degreesEast 17 = .ok (.ireturn, 1) := by decide +kernel
theorem dX4_goesEast_0 : decode cX4_goesEast 0 = .ok (.iload_n 0, 1) := by decide +kernel
theorem dX4_goesEast_1 : decode cX4_goesEast 1 = .ok (.iload_n 1, 1) := by decide +kernel
theorem dX4_goesEast_2 : decode cX4_goesEast 2 = .ok (.invokestatic 195, 3) := by decide +kernel
theorem dX4_goesEast_5 : decode cX4_goesEast 5 = .ok (.sipush 180, 3) := by decide +kernel
theorem dX4_goesEast_8 : decode cX4_goesEast 8 = .ok (.if_icmp .gt 7, 3) := by decide +kernel
theorem dX4_goesEast_11 : decode cX4_goesEast 11 = .ok (.iconst 1, 1) := by decide +kernel
theorem dX4_goesEast_12 : decode cX4_goesEast 12 = .ok (.goto 4, 3) := by decide +kernel
theorem dX4_goesEast_15 : decode cX4_goesEast 15 = .ok (.iconst 0, 1) := by decide +kernel
theorem dX4_goesEast_16 : decode cX4_goesEast 16 = .ok (.ireturn, 1) := by decide +kernel
theorem dX4_shorterWay_0 : decode cX4_shorterWay 0 = .ok (.iload_n 0, 1) := by decide +kernel
theorem dX4_shorterWay_1 : decode cX4_shorterWay 1 = .ok (.iload_n 1, 1) := by decide +kernel
theorem dX4_shorterWay_2 : decode cX4_shorterWay 2 = .ok (.invokestatic 195, 3) := by decide +kernel
theorem dX4_shorterWay_5 : decode cX4_shorterWay 5 = .ok (.istore_n 2, 1) := by decide +kernel
theorem dX4_shorterWay_6 : decode cX4_shorterWay 6 = .ok (.iload_n 2, 1) := by decide +kernel
theorem dX4_shorterWay_7 : decode cX4_shorterWay 7 = .ok (.sipush 360, 3) := by decide +kernel
theorem dX4_shorterWay_10 : decode cX4_shorterWay 10 = .ok (.iload_n 2, 1) := by decide +kernel
theorem dX4_shorterWay_11 : decode cX4_shorterWay 11 = .ok (.isub, 1) := by decide +kernel
theorem dX4_shorterWay_12 : decode cX4_shorterWay 12 = .ok (.invokestatic 198, 3) := by decide +kernel
theorem dX4_shorterWay_15 : decode cX4_shorterWay 15 = .ok (.ireturn, 1) := by decide +kernel
theorem dX5_init_0 : decode cX5_init 0 = .ok (.aload_n 0, 1) := by decide +kernel
theorem dX5_init_1 : decode cX5_init 1 = .ok (.invokespecial 1, 3) := by decide +kernel
theorem dX5_init_4 : decode cX5_init 4 = .ok (.aload_n 0, 1) := by decide +kernel
theorem dX5_init_5 : decode cX5_init 5 = .ok (.bipush 10, 2) := by decide +kernel
theorem dX5_init_7 : decode cX5_init 7 = .ok (.newarray .int, 2) := by decide +kernel
theorem dX5_init_9 : decode cX5_init 9 = .ok (.putfield 7, 3) := by decide +kernel
theorem dX5_init_12 : decode cX5_init 12 = .ok (.aload_n 0, 1) := by decide +kernel
theorem dX5_init_13 : decode cX5_init 13 = .ok (.bipush 10, 2) := by decide +kernel
theorem dX5_init_15 : decode cX5_init 15 = .ok (.newarray .int, 2) := by decide +kernel
theorem dX5_init_17 : decode cX5_init 17 = .ok (.putfield 13, 3) := by decide +kernel
theorem dX5_init_20 : decode cX5_init 20 = .ok (.aload_n 0, 1) := by decide +kernel
theorem dX5_init_21 : decode cX5_init 21 = .ok (.bipush 9, 2) := by decide +kernel
theorem dX5_init_23 : decode cX5_init 23 = .ok (.newarray .int, 2) := by decide +kernel
theorem dX5_init_25 : decode cX5_init 25 = .ok (.putfield 16, 3) := by decide +kernel
theorem dX5_init_28 : decode cX5_init 28 = .ok (.aload_n 0, 1) := by decide +kernel
theorem dX5_init_29 : decode cX5_init 29 = .ok (.bipush 15, 2) := by decide +kernel
theorem dX5_init_31 : decode cX5_init 31 = .ok (.putfield 19, 3) := by decide +kernel
theorem dX5_init_34 : decode cX5_init 34 = .ok (.aload_n 0, 1) := by decide +kernel
theorem dX5_init_35 : decode cX5_init 35 = .ok (.bipush 36, 2) := by decide +kernel
theorem dX5_init_37 : decode cX5_init 37 = .ok (.newarray .int, 2) := by decide +kernel
theorem dX5_init_39 : decode cX5_init 39 = .ok (.putfield 23, 3) := by decide +kernel
theorem dX5_init_42 : decode cX5_init 42 = .ok (.aload_n 0, 1) := by decide +kernel
theorem dX5_init_43 : decode cX5_init 43 = .ok (.bipush 36, 2) := by decide +kernel
theorem dX5_init_45 : decode cX5_init 45 = .ok (.newarray .int, 2) := by decide +kernel
theorem dX5_init_47 : decode cX5_init 47 = .ok (.putfield 26, 3) := by decide +kernel
theorem dX5_init_50 : decode cX5_init 50 = .ok (.aload_n 0, 1) := by decide +kernel
theorem dX5_init_51 : decode cX5_init 51 = .ok (.bipush 36, 2) := by decide +kernel
theorem dX5_init_53 : decode cX5_init 53 = .ok (.newarray .int, 2) := by decide +kernel
theorem dX5_init_55 : decode cX5_init 55 = .ok (.putfield 29, 3) := by decide +kernel
theorem dX5_init_58 : decode cX5_init 58 = .ok (.aload_n 0, 1) := by decide +kernel
theorem dX5_init_59 : decode cX5_init 59 = .ok (.bipush 36, 2) := by decide +kernel
theorem dX5_init_61 : decode cX5_init 61 = .ok (.newarray .boolean, 2) := by decide +kernel
theorem dX5_init_63 : decode cX5_init 63 = .ok (.putfield 32, 3) := by decide +kernel
theorem dX5_init_66 : decode cX5_init 66 = .ok (.iconst 0, 1) := by decide +kernel
theorem dX5_init_67 : decode cX5_init 67 = .ok (.istore_n 1, 1) := by decide +kernel
theorem dX5_init_68 : decode cX5_init 68 = .ok (.iload_n 1, 1) := by decide +kernel
theorem dX5_init_69 : decode cX5_init 69 = .ok (.bipush 10, 2) := by decide +kernel
theorem dX5_init_71 : decode cX5_init 71 = .ok (.if_icmp .ge 34, 3) := by decide +kernel
theorem dX5_init_74 : decode cX5_init 74 = .ok (.aload_n 0, 1) := by decide +kernel
theorem dX5_init_75 : decode cX5_init 75 = .ok (.getfield 7, 3) := by decide +kernel
theorem dX5_init_78 : decode cX5_init 78 = .ok (.iload_n 1, 1) := by decide +kernel
theorem dX5_init_79 : decode cX5_init 79 = .ok (.sipush 1000, 3) := by decide +kernel
theorem dX5_init_82 : decode cX5_init 82 = .ok (.bipush 100, 2) := by decide +kernel
theorem dX5_init_84 : decode cX5_init 84 = .ok (.iload_n 1, 1) := by decide +kernel
theorem dX5_init_85 : decode cX5_init 85 = .ok (.imul, 1) := by decide +kernel
theorem dX5_init_86 : decode cX5_init 86 = .ok (.isub, 1) := by decide +kernel
theorem dX5_init_87 : decode cX5_init 87 = .ok (.iastore, 1) := by decide +kernel
theorem dX5_init_88 : decode cX5_init 88 = .ok (.aload_n 0, 1) := by decide +kernel
theorem dX5_init_89 : decode cX5_init 89 = .ok (.getfield 13, 3) := by decide +kernel
theorem dX5_init_92 : decode cX5_init 92 = .ok (.iload_n 1, 1) := by decide +kernel
theorem dX5_init_93 : decode cX5_init 93 = .ok (.sipush 1000, 3) := by decide +kernel
theorem dX5_init_96 : decode cX5_init 96 = .ok (.iload_n 1, 1) := by decide +kernel
theorem dX5_init_97 : decode cX5_init 97 = .ok (.imul, 1) := by decide +kernel
theorem dX5_init_98 : decode cX5_init 98 = .ok (.iastore, 1) := by decide +kernel
theorem dX5_init_99 : decode cX5_init 99 = .ok (.iinc 1 1, 3) := by decide +kernel
theorem dX5_init_102 : decode cX5_init 102 = .ok (.goto (-34), 3) := by decide +kernel
theorem dX5_init_105 : decode cX5_init 105 = .ok (.iconst 0, 1) := by decide +kernel
theorem dX5_init_106 : decode cX5_init 106 = .ok (.istore_n 1, 1) := by decide +kernel
theorem dX5_init_107 : decode cX5_init 107 = .ok (.iload_n 1, 1) := by decide +kernel
theorem dX5_init_108 : decode cX5_init 108 = .ok (.bipush 9, 2) := by decide +kernel
theorem dX5_init_110 : decode cX5_init 110 = .ok (.if_icmp .ge 18, 3) := by decide +kernel
theorem dX5_init_113 : decode cX5_init 113 = .ok (.aload_n 0, 1) := by decide +kernel
theorem dX5_init_114 : decode cX5_init 114 = .ok (.getfield 16, 3) := by decide +kernel
theorem dX5_init_117 : decode cX5_init 117 = .ok (.iload_n 1, 1) := by decide +kernel
theorem dX5_init_118 : decode cX5_init 118 = .ok (.sipush 1000, 3) := by decide +kernel
theorem dX5_init_121 : decode cX5_init 121 = .ok (.iastore, 1) := by decide +kernel
theorem dX5_init_122 : decode cX5_init 122 = .ok (.iinc 1 1, 3) := by decide +kernel
theorem dX5_init_125 : decode cX5_init 125 = .ok (.goto (-18), 3) := by decide +kernel
theorem dX5_init_128 : decode cX5_init 128 = .ok (.aload_n 0, 1) := by decide +kernel
theorem dX5_init_129 : decode cX5_init 129 = .ok (.iconst 1, 1) := by decide +kernel
theorem dX5_init_130 : decode cX5_init 130 = .ok (.putfield 36, 3) := by decide +kernel
theorem dX5_init_133 : decode cX5_init 133 = .ok (.aload_n 0, 1) := by decide +kernel
theorem dX5_init_134 : decode cX5_init 134 = .ok (.iconst 1, 1) := by decide +kernel
theorem dX5_init_135 : decode cX5_init 135 = .ok (.putfield 39, 3) := by decide +kernel
theorem dX5_init_138 : decode cX5_init 138 = .ok (.aload_n 0, 1) := by decide +kernel
theorem dX5_init_139 : decode cX5_init 139 = .ok (.invokevirtual 42, 3) := by decide +kernel
theorem dX5_init_142 : decode cX5_init 142 = .ok (.return_, 1) := by decide +kernel
theorem dX5_thrown_0 : decode cX5_thrown 0 = .ok (.aload_n 0, 1) := by decide +kernel
theorem dX5_thrown_1 : decode cX5_thrown 1 = .ok (.getfield 45, 3) := by decide +kernel
theorem dX5_thrown_4 : decode cX5_thrown 4 = .ok (.ireturn, 1) := by decide +kernel
theorem dX5_may_0 : decode cX5_may 0 = .ok (.aload_n 0, 1) := by decide +kernel
theorem dX5_may_1 : decode cX5_may 1 = .ok (.iload_n 1, 1) := by decide +kernel
theorem dX5_may_2 : decode cX5_may 2 = .ok (.ifCond .eq 7, 3) := by decide +kernel
theorem dX5_may_5 : decode cX5_may 5 = .ok (.iconst 0, 1) := by decide +kernel
theorem dX5_may_6 : decode cX5_may 6 = .ok (.goto 4, 3) := by decide +kernel
theorem dX5_may_9 : decode cX5_may 9 = .ok (.iconst 1, 1) := by decide +kernel
theorem dX5_may_10 : decode cX5_may 10 = .ok (.putfield 45, 3) := by decide +kernel
theorem dX5_may_13 : decode cX5_may 13 = .ok (.iload_n 1, 1) := by decide +kernel
theorem dX5_may_14 : decode cX5_may 14 = .ok (.ireturn, 1) := by decide +kernel
theorem dX5_mayBoth_0 : decode cX5_mayBoth 0 = .ok (.aload_n 0, 1) := by decide +kernel
theorem dX5_mayBoth_1 : decode cX5_mayBoth 1 = .ok (.iload_n 1, 1) := by decide +kernel
theorem dX5_mayBoth_2 : decode cX5_mayBoth 2 = .ok (.ifCond .ne 7, 3) := by decide +kernel
theorem dX5_mayBoth_5 : decode cX5_mayBoth 5 = .ok (.iconst 1, 1) := by decide +kernel
theorem dX5_mayBoth_6 : decode cX5_mayBoth 6 = .ok (.goto 12, 3) := by decide +kernel
theorem dX5_mayBoth_9 : decode cX5_mayBoth 9 = .ok (.iload_n 2, 1) := by decide +kernel
theorem dX5_mayBoth_10 : decode cX5_mayBoth 10 = .ok (.ifCond .ne 7, 3) := by decide +kernel
theorem dX5_mayBoth_13 : decode cX5_mayBoth 13 = .ok (.iconst 2, 1) := by decide +kernel
theorem dX5_mayBoth_14 : decode cX5_mayBoth 14 = .ok (.goto 4, 3) := by decide +kernel
theorem dX5_mayBoth_17 : decode cX5_mayBoth 17 = .ok (.iconst 0, 1) := by decide +kernel
theorem dX5_mayBoth_18 : decode cX5_mayBoth 18 = .ok (.putfield 45, 3) := by decide +kernel
theorem dX5_mayBoth_21 : decode cX5_mayBoth 21 = .ok (.aload_n 0, 1) := by decide +kernel
theorem dX5_mayBoth_22 : decode cX5_mayBoth 22 = .ok (.getfield 45, 3) := by decide +kernel
theorem dX5_mayBoth_25 : decode cX5_mayBoth 25 = .ok (.ifCond .ne 7, 3) := by decide +kernel
theorem dX5_mayBoth_28 : decode cX5_mayBoth 28 = .ok (.iconst 1, 1) := by decide +kernel
theorem dX5_mayBoth_29 : decode cX5_mayBoth 29 = .ok (.goto 4, 3) := by decide +kernel
theorem dX5_mayBoth_32 : decode cX5_mayBoth 32 = .ok (.iconst 0, 1) := by decide +kernel
theorem dX5_mayBoth_33 : decode cX5_mayBoth 33 = .ok (.ireturn, 1) := by decide +kernel
theorem dX5_mayAll_0 : decode cX5_mayAll 0 = .ok (.aload_n 0, 1) := by decide +kernel
theorem dX5_mayAll_1 : decode cX5_mayAll 1 = .ok (.iload_n 1, 1) := by decide +kernel
theorem dX5_mayAll_2 : decode cX5_mayAll 2 = .ok (.ifCond .ne 7, 3) := by decide +kernel
theorem dX5_mayAll_5 : decode cX5_mayAll 5 = .ok (.iconst 1, 1) := by decide +kernel
theorem dX5_mayAll_6 : decode cX5_mayAll 6 = .ok (.goto 20, 3) := by decide +kernel
theorem dX5_mayAll_9 : decode cX5_mayAll 9 = .ok (.iload_n 2, 1) := by decide +kernel
theorem dX5_mayAll_10 : decode cX5_mayAll 10 = .ok (.ifCond .ne 7, 3) := by decide +kernel
theorem dX5_mayAll_13 : decode cX5_mayAll 13 = .ok (.iconst 2, 1) := by decide +kernel
theorem dX5_mayAll_14 : decode cX5_mayAll 14 = .ok (.goto 12, 3) := by decide +kernel
theorem dX5_mayAll_17 : decode cX5_mayAll 17 = .ok (.iload_n 3, 1) := by decide +kernel
theorem dX5_mayAll_18 : decode cX5_mayAll 18 = .ok (.ifCond .ne 7, 3) := by decide +kernel
theorem dX5_mayAll_21 : decode cX5_mayAll 21 = .ok (.iconst 3, 1) := by decide +kernel
theorem dX5_mayAll_22 : decode cX5_mayAll 22 = .ok (.goto 4, 3) := by decide +kernel
theorem dX5_mayAll_25 : decode cX5_mayAll 25 = .ok (.iconst 0, 1) := by decide +kernel
theorem dX5_mayAll_26 : decode cX5_mayAll 26 = .ok (.putfield 45, 3) := by decide +kernel
theorem dX5_mayAll_29 : decode cX5_mayAll 29 = .ok (.aload_n 0, 1) := by decide +kernel
theorem dX5_mayAll_30 : decode cX5_mayAll 30 = .ok (.getfield 45, 3) := by decide +kernel
theorem dX5_mayAll_33 : decode cX5_mayAll 33 = .ok (.ifCond .ne 7, 3) := by decide +kernel
theorem dX5_mayAll_36 : decode cX5_mayAll 36 = .ok (.iconst 1, 1) := by decide +kernel
theorem dX5_mayAll_37 : decode cX5_mayAll 37 = .ok (.goto 4, 3) := by decide +kernel
theorem dX5_mayAll_40 : decode cX5_mayAll 40 = .ok (.iconst 0, 1) := by decide +kernel
theorem dX5_mayAll_41 : decode cX5_mayAll 41 = .ok (.ireturn, 1) := by decide +kernel
theorem dX5_isLatitude_0 : decode cX5_isLatitude 0 = .ok (.iload_n 0, 1) := by decide +kernel
theorem dX5_isLatitude_1 : decode cX5_isLatitude 1 = .ok (.bipush (-90), 2) := by decide +kernel
theorem dX5_isLatitude_3 : decode cX5_isLatitude 3 = .ok (.if_icmp .lt 13, 3) := by decide +kernel
theorem dX5_isLatitude_6 : decode cX5_isLatitude 6 = .ok (.iload_n 0, 1) := by decide +kernel
theorem dX5_isLatitude_7 : decode cX5_isLatitude 7 = .ok (.bipush 90, 2) := by decide +kernel
theorem dX5_isLatitude_9 : decode cX5_isLatitude 9 = .ok (.if_icmp .gt 7, 3) := by decide +kernel
theorem dX5_isLatitude_12 : decode cX5_isLatitude 12 = .ok (.iconst 1, 1) := by decide +kernel
theorem dX5_isLatitude_13 : decode cX5_isLatitude 13 = .ok (.goto 4, 3) := by decide +kernel
theorem dX5_isLatitude_16 : decode cX5_isLatitude 16 = .ok (.iconst 0, 1) := by decide +kernel
theorem dX5_isLatitude_17 : decode cX5_isLatitude 17 = .ok (.ireturn, 1) := by decide +kernel
theorem dX5_isLongitude_0 : decode cX5_isLongitude 0 = .ok (.iload_n 0, 1) := by decide +kernel
theorem dX5_isLongitude_1 : decode cX5_isLongitude 1 = .ok (.sipush (-180), 3) := by decide +kernel
theorem dX5_isLongitude_4 : decode cX5_isLongitude 4 = .ok (.if_icmp .lt 14, 3) := by decide +kernel
theorem dX5_isLongitude_7 : decode cX5_isLongitude 7 = .ok (.iload_n 0, 1) := by decide +kernel
theorem dX5_isLongitude_8 : decode cX5_isLongitude 8 = .ok (.sipush 179, 3) := by decide +kernel
theorem dX5_isLongitude_11 : decode cX5_isLongitude 11 = .ok (.if_icmp .gt 7, 3) := by decide +kernel
theorem dX5_isLongitude_14 : decode cX5_isLongitude 14 = .ok (.iconst 1, 1) := by decide +kernel
theorem dX5_isLongitude_15 : decode cX5_isLongitude 15 = .ok (.goto 4, 3) := by decide +kernel
theorem dX5_isLongitude_18 : decode cX5_isLongitude 18 = .ok (.iconst 0, 1) := by decide +kernel
theorem dX5_isLongitude_19 : decode cX5_isLongitude 19 = .ok (.ireturn, 1) := by decide +kernel
theorem dX5_table_0 : decode cX5_table 0 = .ok (.iload_n 1, 1) := by decide +kernel
theorem dX5_table_1 : decode cX5_table 1 = .ok (.ifCond .lt 13, 3) := by decide +kernel
theorem dX5_table_4 : decode cX5_table 4 = .ok (.iload_n 1, 1) := by decide +kernel
theorem dX5_table_5 : decode cX5_table 5 = .ok (.bipush 9, 2) := by decide +kernel
theorem dX5_table_7 : decode cX5_table 7 = .ok (.if_icmp .gt 7, 3) := by decide +kernel
theorem dX5_table_10 : decode cX5_table 10 = .ok (.iconst 1, 1) := by decide +kernel
theorem dX5_table_11 : decode cX5_table 11 = .ok (.goto 4, 3) := by decide +kernel
theorem dX5_table_14 : decode cX5_table 14 = .ok (.iconst 0, 1) := by decide +kernel
theorem dX5_table_15 : decode cX5_table 15 = .ok (.istore 4, 2) := by decide +kernel
theorem dX5_table_17 : decode cX5_table 17 = .ok (.iload_n 2, 1) := by decide +kernel
theorem dX5_table_18 : decode cX5_table 18 = .ok (.ifCond .lt 25, 3) := by decide +kernel
theorem dX5_table_21 : decode cX5_table 21 = .ok (.iload_n 2, 1) := by decide +kernel
theorem dX5_table_22 : decode cX5_table 22 = .ok (.sipush 1000, 3) := by decide +kernel
theorem dX5_table_25 : decode cX5_table 25 = .ok (.if_icmp .gt 18, 3) := by decide +kernel
theorem dX5_table_28 : decode cX5_table 28 = .ok (.iload_n 3, 1) := by decide +kernel
theorem dX5_table_29 : decode cX5_table 29 = .ok (.ifCond .lt 14, 3) := by decide +kernel
theorem dX5_table_32 : decode cX5_table 32 = .ok (.iload_n 3, 1) := by decide +kernel
theorem dX5_table_33 : decode cX5_table 33 = .ok (.sipush 9999, 3) := by decide +kernel
theorem dX5_table_36 : decode cX5_table 36 = .ok (.if_icmp .gt 7, 3) := by decide +kernel
theorem dX5_table_39 : decode cX5_table 39 = .ok (.iconst 1, 1) := by decide +kernel
theorem dX5_table_40 : decode cX5_table 40 = .ok (.goto 4, 3) := by decide +kernel
theorem dX5_table_43 : decode cX5_table 43 = .ok (.iconst 0, 1) := by decide +kernel
theorem dX5_table_44 : decode cX5_table 44 = .ok (.istore 5, 2) := by decide +kernel
theorem dX5_table_46 : decode cX5_table 46 = .ok (.iload 4, 2) := by decide +kernel
theorem dX5_table_48 : decode cX5_table 48 = .ok (.ifCond .eq 48, 3) := by decide +kernel
theorem dX5_table_51 : decode cX5_table 51 = .ok (.iload_n 1, 1) := by decide +kernel
theorem dX5_table_52 : decode cX5_table 52 = .ok (.ifCond .le 18, 3) := by decide +kernel
theorem dX5_table_55 : decode cX5_table 55 = .ok (.iload_n 3, 1) := by decide +kernel
theorem dX5_table_56 : decode cX5_table 56 = .ok (.aload_n 0, 1) := by decide +kernel
theorem dX5_table_57 : decode cX5_table 57 = .ok (.getfield 13, 3) := by decide +kernel
theorem dX5_table_60 : decode cX5_table 60 = .ok (.iload_n 1, 1) := by decide +kernel
theorem dX5_table_61 : decode cX5_table 61 = .ok (.iconst 1, 1) := by decide +kernel
theorem dX5_table_62 : decode cX5_table 62 = .ok (.isub, 1) := by decide +kernel
theorem dX5_table_63 : decode cX5_table 63 = .ok (.iaload, 1) := by decide +kernel
theorem dX5_table_64 : decode cX5_table 64 = .ok (.if_icmp .le 32, 3) := by decide +kernel
theorem dX5_table_67 : decode cX5_table 67 = .ok (.goto 7, 3) := by decide +kernel
theorem dX5_table_70 : decode cX5_table 70 = .ok (.iload_n 3, 1) := by decide +kernel
theorem dX5_table_71 : decode cX5_table 71 = .ok (.ifCond .ne 25, 3) := by decide +kernel
theorem dX5_table_74 : decode cX5_table 74 = .ok (.iload_n 1, 1) := by decide +kernel
theorem dX5_table_75 : decode cX5_table 75 = .ok (.bipush 9, 2) := by decide +kernel
theorem dX5_table_77 : decode cX5_table 77 = .ok (.if_icmp .eq 15, 3) := by decide +kernel
theorem dX5_table_80 : decode cX5_table 80 = .ok (.iload_n 3, 1) := by decide +kernel
theorem dX5_table_81 : decode cX5_table 81 = .ok (.aload_n 0, 1) := by decide +kernel
theorem dX5_table_82 : decode cX5_table 82 = .ok (.getfield 13, 3) := by decide +kernel
theorem dX5_table_85 : decode cX5_table 85 = .ok (.iload_n 1, 1) := by decide +kernel
theorem dX5_table_86 : decode cX5_table 86 = .ok (.iconst 1, 1) := by decide +kernel
theorem dX5_table_87 : decode cX5_table 87 = .ok (.iadd, 1) := by decide +kernel
theorem dX5_table_88 : decode cX5_table 88 = .ok (.iaload, 1) := by decide +kernel
theorem dX5_table_89 : decode cX5_table 89 = .ok (.if_icmp .ge 7, 3) := by decide +kernel
theorem dX5_table_92 : decode cX5_table 92 = .ok (.iconst 1, 1) := by decide +kernel
theorem dX5_table_93 : decode cX5_table 93 = .ok (.goto 4, 3) := by decide +kernel
theorem dX5_table_96 : decode cX5_table 96 = .ok (.iconst 0, 1) := by decide +kernel
theorem dX5_table_97 : decode cX5_table 97 = .ok (.istore 6, 2) := by decide +kernel
theorem dX5_table_99 : decode cX5_table 99 = .ok (.aload_n 0, 1) := by decide +kernel
theorem dX5_table_100 : decode cX5_table 100 = .ok (.iload 4, 2) := by decide +kernel
theorem dX5_table_102 : decode cX5_table 102 = .ok (.iload 5, 2) := by decide +kernel
theorem dX5_table_104 : decode cX5_table 104 = .ok (.iload 6, 2) := by decide +kernel
theorem dX5_table_106 : decode cX5_table 106 = .ok (.invokevirtual 48, 3) := by decide +kernel
theorem dX5_table_109 : decode cX5_table 109 = .ok (.ifCond .eq 17, 3) := by decide +kernel
theorem dX5_table_112 : decode cX5_table 112 = .ok (.aload_n 0, 1) := by decide +kernel
theorem dX5_table_113 : decode cX5_table 113 = .ok (.getfield 7, 3) := by decide +kernel
theorem dX5_table_116 : decode cX5_table 116 = .ok (.iload_n 1, 1) := by decide +kernel
theorem dX5_table_117 : decode cX5_table 117 = .ok (.iload_n 2, 1) := by decide +kernel
theorem dX5_table_118 : decode cX5_table 118 = .ok (.iastore, 1) := by decide +kernel
theorem dX5_table_119 : decode cX5_table 119 = .ok (.aload_n 0, 1) := by decide +kernel
theorem dX5_table_120 : decode cX5_table 120 = .ok (.getfield 13, 3) := by decide +kernel
theorem dX5_table_123 : decode cX5_table 123 = .ok (.iload_n 1, 1) := by decide +kernel
theorem dX5_table_124 : decode cX5_table 124 = .ok (.iload_n 3, 1) := by decide +kernel
theorem dX5_table_125 : decode cX5_table 125 = .ok (.iastore, 1) := by decide +kernel
theorem dX5_table_126 : decode cX5_table 126 = .ok (.return_, 1) := by decide +kernel
theorem dX5_wide_0 : decode cX5_wide 0 = .ok (.iload_n 1, 1) := by decide +kernel
theorem dX5_wide_1 : decode cX5_wide 1 = .ok (.ifCond .ge 8, 3) := by decide +kernel
theorem dX5_wide_4 : decode cX5_wide 4 = .ok (.iload_n 1, 1) := by decide +kernel
theorem dX5_wide_5 : decode cX5_wide 5 = .ok (.ineg, 1) := by decide +kernel

theorem dX0_init_0 : decode cX0_init 0 = .ok (.aload_n 0, 1) := by decide +kernel
theorem dX0_init_1 : decode cX0_init 1 = .ok (.invokespecial 3, 3) := by decide +kernel
theorem dX0_init_4 : decode cX0_init 4 = .ok (.aload_n 0, 1) := by decide +kernel
theorem dX0_init_5 : decode cX0_init 5 = .ok (.bipush 9, 2) := by decide +kernel
theorem dX0_init_7 : decode cX0_init 7 = .ok (.newarray .int, 2) := by decide +kernel
theorem dX0_init_9 : decode cX0_init 9 = .ok (.putfield 9, 3) := by decide +kernel
theorem dX0_init_12 : decode cX0_init 12 = .ok (.iconst 0, 1) := by decide +kernel
theorem dX0_init_13 : decode cX0_init 13 = .ok (.istore_n 1, 1) := by decide +kernel
theorem dX0_init_14 : decode cX0_init 14 = .ok (.iload_n 1, 1) := by decide +kernel
theorem dX0_init_15 : decode cX0_init 15 = .ok (.bipush 9, 2) := by decide +kernel
theorem dX0_init_17 : decode cX0_init 17 = .ok (.if_icmp .ge 18, 3) := by decide +kernel
theorem dX0_init_20 : decode cX0_init 20 = .ok (.aload_n 0, 1) := by decide +kernel
theorem dX0_init_21 : decode cX0_init 21 = .ok (.getfield 9, 3) := by decide +kernel
theorem dX0_init_24 : decode cX0_init 24 = .ok (.iload_n 1, 1) := by decide +kernel
theorem dX0_init_25 : decode cX0_init 25 = .ok (.sipush 1000, 3) := by decide +kernel
theorem dX0_init_28 : decode cX0_init 28 = .ok (.iastore, 1) := by decide +kernel
theorem dX0_init_29 : decode cX0_init 29 = .ok (.iinc 1 1, 3) := by decide +kernel
theorem dX0_init_32 : decode cX0_init 32 = .ok (.goto (-18), 3) := by decide +kernel
theorem dX0_init_35 : decode cX0_init 35 = .ok (.return_, 1) := by decide +kernel
theorem dX0_replaceTruth_0 : decode cX0_replaceTruth 0 = .ok (.aload_n 0, 1) := by decide +kernel
theorem dX0_replaceTruth_1 : decode cX0_replaceTruth 1 = .ok (.iload_n 1, 1) := by decide +kernel
theorem dX0_replaceTruth_2 : decode cX0_replaceTruth 2 = .ok (.invokevirtual 15, 3) := by decide +kernel
theorem dX0_replaceTruth_5 : decode cX0_replaceTruth 5 = .ok (.istore_n 3, 1) := by decide +kernel
theorem dX0_replaceTruth_6 : decode cX0_replaceTruth 6 = .ok (.iload_n 1, 1) := by decide +kernel
theorem dX0_replaceTruth_7 : decode cX0_replaceTruth 7 = .ok (.ifCond .lt 16, 3) := by decide +kernel
theorem dX0_replaceTruth_10 : decode cX0_replaceTruth 10 = .ok (.iload_n 1, 1) := by decide +kernel
theorem dX0_replaceTruth_11 : decode cX0_replaceTruth 11 = .ok (.bipush 9, 2) := by decide +kernel
theorem dX0_replaceTruth_13 : decode cX0_replaceTruth 13 = .ok (.if_icmp .ge 10, 3) := by decide +kernel
theorem dX0_replaceTruth_16 : decode cX0_replaceTruth 16 = .ok (.aload_n 0, 1) := by decide +kernel
theorem dX0_replaceTruth_17 : decode cX0_replaceTruth 17 = .ok (.getfield 9, 3) := by decide +kernel
theorem dX0_replaceTruth_20 : decode cX0_replaceTruth 20 = .ok (.iload_n 1, 1) := by decide +kernel
theorem dX0_replaceTruth_21 : decode cX0_replaceTruth 21 = .ok (.iload_n 2, 1) := by decide +kernel
theorem dX0_replaceTruth_22 : decode cX0_replaceTruth 22 = .ok (.iastore, 1) := by decide +kernel
theorem dX0_replaceTruth_23 : decode cX0_replaceTruth 23 = .ok (.iload_n 3, 1) := by decide +kernel
theorem dX0_replaceTruth_24 : decode cX0_replaceTruth 24 = .ok (.ireturn, 1) := by decide +kernel
theorem dX0_areAllAlike_0 : decode cX0_areAllAlike 0 = .ok (.iconst 1, 1) := by decide +kernel
theorem dX0_areAllAlike_1 : decode cX0_areAllAlike 1 = .ok (.istore_n 2, 1) := by decide +kernel
theorem dX0_areAllAlike_2 : decode cX0_areAllAlike 2 = .ok (.iload_n 2, 1) := by decide +kernel
theorem dX0_areAllAlike_3 : decode cX0_areAllAlike 3 = .ok (.bipush 9, 2) := by decide +kernel
theorem dX0_areAllAlike_5 : decode cX0_areAllAlike 5 = .ok (.if_icmp .ge 21, 3) := by decide +kernel
theorem dX0_areAllAlike_8 : decode cX0_areAllAlike 8 = .ok (.aload_n 0, 1) := by decide +kernel
theorem dX0_areAllAlike_9 : decode cX0_areAllAlike 9 = .ok (.aload_n 1, 1) := by decide +kernel
theorem dX0_areAllAlike_10 : decode cX0_areAllAlike 10 = .ok (.iload_n 2, 1) := by decide +kernel
theorem dX0_areAllAlike_11 : decode cX0_areAllAlike 11 = .ok (.iconst 0, 1) := by decide +kernel
theorem dX0_areAllAlike_12 : decode cX0_areAllAlike 12 = .ok (.invokevirtual 19, 3) := by decide +kernel
theorem dX0_areAllAlike_15 : decode cX0_areAllAlike 15 = .ok (.ifCond .eq 5, 3) := by decide +kernel
theorem dX0_areAllAlike_18 : decode cX0_areAllAlike 18 = .ok (.iconst 0, 1) := by decide +kernel
theorem dX0_areAllAlike_19 : decode cX0_areAllAlike 19 = .ok (.ireturn, 1) := by decide +kernel
theorem dX0_areAllAlike_20 : decode cX0_areAllAlike 20 = .ok (.iinc 2 1, 3) := by decide +kernel
theorem dX0_areAllAlike_23 : decode cX0_areAllAlike 23 = .ok (.goto (-21), 3) := by decide +kernel
theorem dX0_areAllAlike_26 : decode cX0_areAllAlike 26 = .ok (.iconst 1, 1) := by decide +kernel
theorem dX0_areAllAlike_27 : decode cX0_areAllAlike 27 = .ok (.ireturn, 1) := by decide +kernel
theorem dX0_greatest_0 : decode cX0_greatest 0 = .ok (.iconst 0, 1) := by decide +kernel
theorem dX0_greatest_1 : decode cX0_greatest 1 = .ok (.istore_n 2, 1) := by decide +kernel
theorem dX0_greatest_2 : decode cX0_greatest 2 = .ok (.iconst 1, 1) := by decide +kernel
theorem dX0_greatest_3 : decode cX0_greatest 3 = .ok (.istore_n 3, 1) := by decide +kernel
theorem dX0_greatest_4 : decode cX0_greatest 4 = .ok (.iload_n 3, 1) := by decide +kernel
theorem dX0_greatest_5 : decode cX0_greatest 5 = .ok (.bipush 9, 2) := by decide +kernel
theorem dX0_greatest_7 : decode cX0_greatest 7 = .ok (.if_icmp .ge 21, 3) := by decide +kernel
theorem dX0_greatest_10 : decode cX0_greatest 10 = .ok (.aload_n 0, 1) := by decide +kernel
theorem dX0_greatest_11 : decode cX0_greatest 11 = .ok (.aload_n 1, 1) := by decide +kernel
theorem dX0_greatest_12 : decode cX0_greatest 12 = .ok (.iload_n 3, 1) := by decide +kernel
theorem dX0_greatest_13 : decode cX0_greatest 13 = .ok (.iload_n 2, 1) := by decide +kernel
theorem dX0_greatest_14 : decode cX0_greatest 14 = .ok (.invokevirtual 19, 3) := by decide +kernel
theorem dX0_greatest_17 : decode cX0_greatest 17 = .ok (.ifCond .le 5, 3) := by decide +kernel
theorem dX0_greatest_20 : decode cX0_greatest 20 = .ok (.iload_n 3, 1) := by decide +kernel
theorem dX0_greatest_21 : decode cX0_greatest 21 = .ok (.istore_n 2, 1) := by decide +kernel
theorem dX0_greatest_22 : decode cX0_greatest 22 = .ok (.iinc 3 1, 3) := by decide +kernel
theorem dX0_greatest_25 : decode cX0_greatest 25 = .ok (.goto (-21), 3) := by decide +kernel
theorem dX0_greatest_28 : decode cX0_greatest 28 = .ok (.iload_n 2, 1) := by decide +kernel
theorem dX0_greatest_29 : decode cX0_greatest 29 = .ok (.ireturn, 1) := by decide +kernel
theorem dX0_areaByTruth_0 : decode cX0_areaByTruth 0 = .ok (.aload_n 1, 1) := by decide +kernel
theorem dX0_areaByTruth_1 : decode cX0_areaByTruth 1 = .ok (.iload_n 2, 1) := by decide +kernel
theorem dX0_areaByTruth_2 : decode cX0_areaByTruth 2 = .ok (.invokevirtual 23, 3) := by decide +kernel
theorem dX0_areaByTruth_5 : decode cX0_areaByTruth 5 = .ok (.l2f, 1) := by decide +kernel
theorem dX0_areaByTruth_6 : decode cX0_areaByTruth 6 = .ok (.aload_n 0, 1) := by decide +kernel
theorem dX0_areaByTruth_7 : decode cX0_areaByTruth 7 = .ok (.iload_n 2, 1) := by decide +kernel
theorem dX0_areaByTruth_8 : decode cX0_areaByTruth 8 = .ok (.invokevirtual 15, 3) := by decide +kernel
theorem dX0_areaByTruth_11 : decode cX0_areaByTruth 11 = .ok (.i2f, 1) := by decide +kernel
theorem dX0_areaByTruth_12 : decode cX0_areaByTruth 12 = .ok (.fdiv, 1) := by decide +kernel
theorem dX0_areaByTruth_13 : decode cX0_areaByTruth 13 = .ok (.freturn, 1) := by decide +kernel
theorem dX0_compareBands_0 : decode cX0_compareBands 0 = .ok (.aload_n 1, 1) := by decide +kernel
theorem dX0_compareBands_1 : decode cX0_compareBands 1 = .ok (.iload_n 2, 1) := by decide +kernel
theorem dX0_compareBands_2 : decode cX0_compareBands 2 = .ok (.invokevirtual 23, 3) := by decide +kernel
theorem dX0_compareBands_5 : decode cX0_compareBands 5 = .ok (.aload_n 0, 1) := by decide +kernel
theorem dX0_compareBands_6 : decode cX0_compareBands 6 = .ok (.iload_n 3, 1) := by decide +kernel
theorem dX0_compareBands_7 : decode cX0_compareBands 7 = .ok (.invokevirtual 15, 3) := by decide +kernel
theorem dX0_compareBands_10 : decode cX0_compareBands 10 = .ok (.i2l, 1) := by decide +kernel
theorem dX0_compareBands_11 : decode cX0_compareBands 11 = .ok (.lmul, 1) := by decide +kernel
theorem dX0_compareBands_12 : decode cX0_compareBands 12 = .ok (.aload_n 1, 1) := by decide +kernel
theorem dX0_compareBands_13 : decode cX0_compareBands 13 = .ok (.iload_n 3, 1) := by decide +kernel
theorem dX0_compareBands_14 : decode cX0_compareBands 14 = .ok (.invokevirtual 23, 3) := by decide +kernel
theorem dX0_compareBands_17 : decode cX0_compareBands 17 = .ok (.aload_n 0, 1) := by decide +kernel
theorem dX0_compareBands_18 : decode cX0_compareBands 18 = .ok (.iload_n 2, 1) := by decide +kernel
theorem dX0_compareBands_19 : decode cX0_compareBands 19 = .ok (.invokevirtual 15, 3) := by decide +kernel
theorem dX0_compareBands_22 : decode cX0_compareBands 22 = .ok (.i2l, 1) := by decide +kernel
theorem dX0_compareBands_23 : decode cX0_compareBands 23 = .ok (.lmul, 1) := by decide +kernel
theorem dX0_compareBands_24 : decode cX0_compareBands 24 = .ok (.invokestatic 29, 3) := by decide +kernel
theorem dX0_compareBands_27 : decode cX0_compareBands 27 = .ok (.ireturn, 1) := by decide +kernel
theorem dX0_truthOf_0 : decode cX0_truthOf 0 = .ok (.iload_n 1, 1) := by decide +kernel
theorem dX0_truthOf_1 : decode cX0_truthOf 1 = .ok (.ifCond .lt 18, 3) := by decide +kernel
theorem dX0_truthOf_4 : decode cX0_truthOf 4 = .ok (.iload_n 1, 1) := by decide +kernel
theorem dX0_truthOf_5 : decode cX0_truthOf 5 = .ok (.bipush 9, 2) := by decide +kernel
theorem dX0_truthOf_7 : decode cX0_truthOf 7 = .ok (.if_icmp .ge 12, 3) := by decide +kernel
theorem dX0_truthOf_10 : decode cX0_truthOf 10 = .ok (.aload_n 0, 1) := by decide +kernel
theorem dX0_truthOf_11 : decode cX0_truthOf 11 = .ok (.getfield 9, 3) := by decide +kernel
theorem dX0_truthOf_14 : decode cX0_truthOf 14 = .ok (.iload_n 1, 1) := by decide +kernel
theorem dX0_truthOf_15 : decode cX0_truthOf 15 = .ok (.iaload, 1) := by decide +kernel
theorem dX0_truthOf_16 : decode cX0_truthOf 16 = .ok (.goto 6, 3) := by decide +kernel
theorem dX0_truthOf_19 : decode cX0_truthOf 19 = .ok (.sipush 1000, 3) := by decide +kernel
theorem dX0_truthOf_22 : decode cX0_truthOf 22 = .ok (.ireturn, 1) := by decide +kernel
theorem dX1_init_0 : decode cX1_init 0 = .ok (.aload_n 0, 1) := by decide +kernel
theorem dX1_init_1 : decode cX1_init 1 = .ok (.invokespecial 3, 3) := by decide +kernel
theorem dX1_init_4 : decode cX1_init 4 = .ok (.bipush 36, 2) := by decide +kernel
theorem dX1_init_6 : decode cX1_init 6 = .ok (.istore_n 1, 1) := by decide +kernel
theorem dX1_init_7 : decode cX1_init 7 = .ok (.aload_n 0, 1) := by decide +kernel
theorem dX1_init_8 : decode cX1_init 8 = .ok (.iload_n 1, 1) := by decide +kernel
theorem dX1_init_9 : decode cX1_init 9 = .ok (.newarray .int, 2) := by decide +kernel
theorem dX1_init_11 : decode cX1_init 11 = .ok (.putfield 9, 3) := by decide +kernel
theorem dX1_init_14 : decode cX1_init 14 = .ok (.aload_n 0, 1) := by decide +kernel
theorem dX1_init_15 : decode cX1_init 15 = .ok (.iload_n 1, 1) := by decide +kernel
theorem dX1_init_16 : decode cX1_init 16 = .ok (.newarray .int, 2) := by decide +kernel
theorem dX1_init_18 : decode cX1_init 18 = .ok (.putfield 15, 3) := by decide +kernel
theorem dX1_init_21 : decode cX1_init 21 = .ok (.aload_n 0, 1) := by decide +kernel
theorem dX1_init_22 : decode cX1_init 22 = .ok (.iload_n 1, 1) := by decide +kernel
theorem dX1_init_23 : decode cX1_init 23 = .ok (.newarray .int, 2) := by decide +kernel
theorem dX1_init_25 : decode cX1_init 25 = .ok (.putfield 18, 3) := by decide +kernel
theorem dX1_init_28 : decode cX1_init 28 = .ok (.aload_n 0, 1) := by decide +kernel
theorem dX1_init_29 : decode cX1_init 29 = .ok (.iload_n 1, 1) := by decide +kernel
theorem dX1_init_30 : decode cX1_init 30 = .ok (.newarray .boolean, 2) := by decide +kernel
theorem dX1_init_32 : decode cX1_init 32 = .ok (.putfield 21, 3) := by decide +kernel
theorem dX1_init_35 : decode cX1_init 35 = .ok (.aload_n 0, 1) := by decide +kernel
theorem dX1_init_36 : decode cX1_init 36 = .ok (.iconst 1, 1) := by decide +kernel
theorem dX1_init_37 : decode cX1_init 37 = .ok (.iconst 1, 1) := by decide +kernel
theorem dX1_init_38 : decode cX1_init 38 = .ok (.invokevirtual 25, 3) := by decide +kernel
theorem dX1_init_41 : decode cX1_init 41 = .ok (.return_, 1) := by decide +kernel
theorem dX1_layOut_0 : decode cX1_layOut 0 = .ok (.aload_n 0, 1) := by decide +kernel
theorem dX1_layOut_1 : decode cX1_layOut 1 = .ok (.iload_n 1, 1) := by decide +kernel
theorem dX1_layOut_2 : decode cX1_layOut 2 = .ok (.putfield 29, 3) := by decide +kernel
theorem dX1_layOut_5 : decode cX1_layOut 5 = .ok (.aload_n 0, 1) := by decide +kernel
theorem dX1_layOut_6 : decode cX1_layOut 6 = .ok (.iload_n 2, 1) := by decide +kernel
theorem dX1_layOut_7 : decode cX1_layOut 7 = .ok (.putfield 33, 3) := by decide +kernel
theorem dX1_layOut_10 : decode cX1_layOut 10 = .ok (.aload_n 0, 1) := by decide +kernel
theorem dX1_layOut_11 : decode cX1_layOut 11 = .ok (.invokevirtual 36, 3) := by decide +kernel
theorem dX1_layOut_14 : decode cX1_layOut 14 = .ok (.pop, 1) := by decide +kernel
theorem dX1_layOut_15 : decode cX1_layOut 15 = .ok (.return_, 1) := by decide +kernel
theorem dX1_spread_0 : decode cX1_spread 0 = .ok (.iconst 0, 1) := by decide +kernel
theorem dX1_spread_1 : decode cX1_spread 1 = .ok (.istore_n 1, 1) := by decide +kernel
theorem dX1_spread_2 : decode cX1_spread 2 = .ok (.iload_n 1, 1) := by decide +kernel
theorem dX1_spread_3 : decode cX1_spread 3 = .ok (.aload_n 0, 1) := by decide +kernel
theorem dX1_spread_4 : decode cX1_spread 4 = .ok (.getfield 29, 3) := by decide +kernel
theorem dX1_spread_7 : decode cX1_spread 7 = .ok (.if_icmp .ge 60, 3) := by decide +kernel
theorem dX1_spread_10 : decode cX1_spread 10 = .ok (.iconst 0, 1) := by decide +kernel
theorem dX1_spread_11 : decode cX1_spread 11 = .ok (.istore_n 2, 1) := by decide +kernel
theorem dX1_spread_12 : decode cX1_spread 12 = .ok (.iload_n 2, 1) := by decide +kernel
theorem dX1_spread_13 : decode cX1_spread 13 = .ok (.aload_n 0, 1) := by decide +kernel
theorem dX1_spread_14 : decode cX1_spread 14 = .ok (.getfield 33, 3) := by decide +kernel
theorem dX1_spread_17 : decode cX1_spread 17 = .ok (.if_icmp .ge 44, 3) := by decide +kernel
theorem dX1_spread_20 : decode cX1_spread 20 = .ok (.aload_n 0, 1) := by decide +kernel
theorem dX1_spread_21 : decode cX1_spread 21 = .ok (.iload_n 1, 1) := by decide +kernel
theorem dX1_spread_22 : decode cX1_spread 22 = .ok (.iload_n 2, 1) := by decide +kernel
theorem dX1_spread_23 : decode cX1_spread 23 = .ok (.invokevirtual 40, 3) := by decide +kernel
theorem dX1_spread_26 : decode cX1_spread 26 = .ok (.istore_n 3, 1) := by decide +kernel
theorem dX1_spread_27 : decode cX1_spread 27 = .ok (.aload_n 0, 1) := by decide +kernel
theorem dX1_spread_28 : decode cX1_spread 28 = .ok (.getfield 9, 3) := by decide +kernel
theorem dX1_spread_31 : decode cX1_spread 31 = .ok (.iload_n 3, 1) := by decide +kernel
theorem dX1_spread_32 : decode cX1_spread 32 = .ok (.iload_n 1, 1) := by decide +kernel
theorem dX1_spread_33 : decode cX1_spread 33 = .ok (.iastore, 1) := by decide +kernel
theorem dX1_spread_34 : decode cX1_spread 34 = .ok (.aload_n 0, 1) := by decide +kernel
theorem dX1_spread_35 : decode cX1_spread 35 = .ok (.getfield 15, 3) := by decide +kernel
theorem dX1_spread_38 : decode cX1_spread 38 = .ok (.iload_n 3, 1) := by decide +kernel
theorem dX1_spread_39 : decode cX1_spread 39 = .ok (.iload_n 2, 1) := by decide +kernel
theorem dX1_spread_40 : decode cX1_spread 40 = .ok (.iastore, 1) := by decide +kernel
theorem dX1_spread_41 : decode cX1_spread 41 = .ok (.aload_n 0, 1) := by decide +kernel
theorem dX1_spread_42 : decode cX1_spread 42 = .ok (.getfield 18, 3) := by decide +kernel
theorem dX1_spread_45 : decode cX1_spread 45 = .ok (.iload_n 3, 1) := by decide +kernel
theorem dX1_spread_46 : decode cX1_spread 46 = .ok (.iconst 0, 1) := by decide +kernel
theorem dX1_spread_47 : decode cX1_spread 47 = .ok (.iastore, 1) := by decide +kernel
theorem dX1_spread_48 : decode cX1_spread 48 = .ok (.aload_n 0, 1) := by decide +kernel
theorem dX1_spread_49 : decode cX1_spread 49 = .ok (.getfield 21, 3) := by decide +kernel
theorem dX1_spread_52 : decode cX1_spread 52 = .ok (.iload_n 3, 1) := by decide +kernel
theorem dX1_spread_53 : decode cX1_spread 53 = .ok (.iconst 1, 1) := by decide +kernel
theorem dX1_spread_54 : decode cX1_spread 54 = .ok (.bastore, 1) := by decide +kernel
theorem dX1_spread_55 : decode cX1_spread 55 = .ok (.iinc 2 1, 3) := by decide +kernel
theorem dX1_spread_58 : decode cX1_spread 58 = .ok (.goto (-46), 3) := by decide +kernel
theorem dX1_spread_61 : decode cX1_spread 61 = .ok (.iinc 1 1, 3) := by decide +kernel
theorem dX1_spread_64 : decode cX1_spread 64 = .ok (.goto (-62), 3) := by decide +kernel
theorem dX1_spread_67 : decode cX1_spread 67 = .ok (.aload_n 0, 1) := by decide +kernel
theorem dX1_spread_68 : decode cX1_spread 68 = .ok (.getfield 44, 3) := by decide +kernel
theorem dX1_spread_71 : decode cX1_spread 71 = .ok (.istore_n 1, 1) := by decide +kernel
theorem dX1_spread_72 : decode cX1_spread 72 = .ok (.aload_n 0, 1) := by decide +kernel
theorem dX1_spread_73 : decode cX1_spread 73 = .ok (.iconst 0, 1) := by decide +kernel
theorem dX1_spread_74 : decode cX1_spread 74 = .ok (.putfield 44, 3) := by decide +kernel
theorem dX1_spread_77 : decode cX1_spread 77 = .ok (.iload_n 1, 1) := by decide +kernel
theorem dX1_spread_78 : decode cX1_spread 78 = .ok (.ireturn, 1) := by decide +kernel
theorem dX1_columnOf_0 : decode cX1_columnOf 0 = .ok (.iload_n 1, 1) := by decide +kernel
theorem dX1_columnOf_1 : decode cX1_columnOf 1 = .ok (.sipush (-180), 3) := by decide +kernel
theorem dX1_columnOf_4 : decode cX1_columnOf 4 = .ok (.isub, 1) := by decide +kernel
theorem dX1_columnOf_5 : decode cX1_columnOf 5 = .ok (.aload_n 0, 1) := by decide +kernel
theorem dX1_columnOf_6 : decode cX1_columnOf 6 = .ok (.getfield 29, 3) := by decide +kernel
theorem dX1_columnOf_9 : decode cX1_columnOf 9 = .ok (.imul, 1) := by decide +kernel
theorem dX1_columnOf_10 : decode cX1_columnOf 10 = .ok (.sipush 360, 3) := by decide +kernel
theorem dX1_columnOf_13 : decode cX1_columnOf 13 = .ok (.idiv, 1) := by decide +kernel
theorem dX1_columnOf_14 : decode cX1_columnOf 14 = .ok (.ireturn, 1) := by decide +kernel
theorem dX1_rowOf_0 : decode cX1_rowOf 0 = .ok (.bipush 90, 2) := by decide +kernel
theorem dX1_rowOf_2 : decode cX1_rowOf 2 = .ok (.iload_n 1, 1) := by decide +kernel
theorem dX1_rowOf_3 : decode cX1_rowOf 3 = .ok (.isub, 1) := by decide +kernel
theorem dX1_rowOf_4 : decode cX1_rowOf 4 = .ok (.aload_n 0, 1) := by decide +kernel
theorem dX1_rowOf_5 : decode cX1_rowOf 5 = .ok (.getfield 33, 3) := by decide +kernel
theorem dX1_rowOf_8 : decode cX1_rowOf 8 = .ok (.imul, 1) := by decide +kernel
theorem dX1_rowOf_9 : decode cX1_rowOf 9 = .ok (.sipush 180, 3) := by decide +kernel
theorem dX1_rowOf_12 : decode cX1_rowOf 12 = .ok (.idiv, 1) := by decide +kernel
theorem dX1_rowOf_13 : decode cX1_rowOf 13 = .ok (.aload_n 0, 1) := by decide +kernel
theorem dX1_rowOf_14 : decode cX1_rowOf 14 = .ok (.getfield 33, 3) := by decide +kernel
theorem dX1_rowOf_17 : decode cX1_rowOf 17 = .ok (.iconst 1, 1) := by decide +kernel
theorem dX1_rowOf_18 : decode cX1_rowOf 18 = .ok (.isub, 1) := by decide +kernel
theorem dX1_rowOf_19 : decode cX1_rowOf 19 = .ok (.invokestatic 47, 3) := by decide +kernel
theorem dX1_rowOf_22 : decode cX1_rowOf 22 = .ok (.ireturn, 1) := by decide +kernel
theorem dX1_hasPanel_0 : decode cX1_hasPanel 0 = .ok (.iload_n 1, 1) := by decide +kernel
theorem dX1_hasPanel_1 : decode cX1_hasPanel 1 = .ok (.ifCond .lt 27, 3) := by decide +kernel
theorem dX1_hasPanel_4 : decode cX1_hasPanel 4 = .ok (.iload_n 1, 1) := by decide +kernel
theorem dX1_hasPanel_5 : decode cX1_hasPanel 5 = .ok (.aload_n 0, 1) := by decide +kernel
theorem dX1_hasPanel_6 : decode cX1_hasPanel 6 = .ok (.getfield 29, 3) := by decide +kernel
theorem dX1_hasPanel_9 : decode cX1_hasPanel 9 = .ok (.if_icmp .ge 19, 3) := by decide +kernel
theorem dX1_hasPanel_12 : decode cX1_hasPanel 12 = .ok (.iload_n 2, 1) := by decide +kernel
theorem dX1_hasPanel_13 : decode cX1_hasPanel 13 = .ok (.ifCond .lt 15, 3) := by decide +kernel
theorem dX1_hasPanel_16 : decode cX1_hasPanel 16 = .ok (.iload_n 2, 1) := by decide +kernel
theorem dX1_hasPanel_17 : decode cX1_hasPanel 17 = .ok (.aload_n 0, 1) := by decide +kernel
theorem dX1_hasPanel_18 : decode cX1_hasPanel 18 = .ok (.getfield 33, 3) := by decide +kernel
theorem dX1_hasPanel_21 : decode cX1_hasPanel 21 = .ok (.if_icmp .ge 7, 3) := by decide +kernel
theorem dX1_hasPanel_24 : decode cX1_hasPanel 24 = .ok (.iconst 1, 1) := by decide +kernel
theorem dX1_hasPanel_25 : decode cX1_hasPanel 25 = .ok (.goto 4, 3) := by decide +kernel
theorem dX1_hasPanel_28 : decode cX1_hasPanel 28 = .ok (.iconst 0, 1) := by decide +kernel
theorem dX1_hasPanel_29 : decode cX1_hasPanel 29 = .ok (.ireturn, 1) := by decide +kernel
theorem dX1_columnPlace_0 : decode cX1_columnPlace 0 = .ok (.aload_n 0, 1) := by decide +kernel
theorem dX1_columnPlace_1 : decode cX1_columnPlace 1 = .ok (.iload_n 1, 1) := by decide +kernel
theorem dX1_columnPlace_2 : decode cX1_columnPlace 2 = .ok (.iload_n 2, 1) := by decide +kernel
theorem dX1_columnPlace_3 : decode cX1_columnPlace 3 = .ok (.invokevirtual 52, 3) := by decide +kernel
theorem dX1_columnPlace_6 : decode cX1_columnPlace 6 = .ok (.ifCond .eq 17, 3) := by decide +kernel
theorem dX1_columnPlace_9 : decode cX1_columnPlace 9 = .ok (.aload_n 0, 1) := by decide +kernel
theorem dX1_columnPlace_10 : decode cX1_columnPlace 10 = .ok (.getfield 9, 3) := by decide +kernel
theorem dX1_columnPlace_13 : decode cX1_columnPlace 13 = .ok (.aload_n 0, 1) := by decide +kernel
theorem dX1_columnPlace_14 : decode cX1_columnPlace 14 = .ok (.iload_n 1, 1) := by decide +kernel
theorem dX1_columnPlace_15 : decode cX1_columnPlace 15 = .ok (.iload_n 2, 1) := by decide +kernel
theorem dX1_columnPlace_16 : decode cX1_columnPlace 16 = .ok (.invokevirtual 40, 3) := by decide +kernel
theorem dX1_columnPlace_19 : decode cX1_columnPlace 19 = .ok (.iaload, 1) := by decide +kernel
theorem dX1_columnPlace_20 : decode cX1_columnPlace 20 = .ok (.goto 4, 3) := by decide +kernel
theorem dX1_columnPlace_23 : decode cX1_columnPlace 23 = .ok (.iconst 0, 1) := by decide +kernel
theorem dX1_columnPlace_24 : decode cX1_columnPlace 24 = .ok (.ireturn, 1) := by decide +kernel
theorem dX1_rowPlace_0 : decode cX1_rowPlace 0 = .ok (.aload_n 0, 1) := by decide +kernel
theorem dX1_rowPlace_1 : decode cX1_rowPlace 1 = .ok (.iload_n 1, 1) := by decide +kernel
theorem dX1_rowPlace_2 : decode cX1_rowPlace 2 = .ok (.iload_n 2, 1) := by decide +kernel
theorem dX1_rowPlace_3 : decode cX1_rowPlace 3 = .ok (.invokevirtual 52, 3) := by decide +kernel
theorem dX1_rowPlace_6 : decode cX1_rowPlace 6 = .ok (.ifCond .eq 17, 3) := by decide +kernel
theorem dX1_rowPlace_9 : decode cX1_rowPlace 9 = .ok (.aload_n 0, 1) := by decide +kernel
theorem dX1_rowPlace_10 : decode cX1_rowPlace 10 = .ok (.getfield 15, 3) := by decide +kernel
theorem dX1_rowPlace_13 : decode cX1_rowPlace 13 = .ok (.aload_n 0, 1) := by decide +kernel
theorem dX1_rowPlace_14 : decode cX1_rowPlace 14 = .ok (.iload_n 1, 1) := by decide +kernel
theorem dX1_rowPlace_15 : decode cX1_rowPlace 15 = .ok (.iload_n 2, 1) := by decide +kernel
theorem dX1_rowPlace_16 : decode cX1_rowPlace 16 = .ok (.invokevirtual 40, 3) := by decide +kernel
theorem dX1_rowPlace_19 : decode cX1_rowPlace 19 = .ok (.iaload, 1) := by decide +kernel
theorem dX1_rowPlace_20 : decode cX1_rowPlace 20 = .ok (.goto 4, 3) := by decide +kernel
theorem dX1_rowPlace_23 : decode cX1_rowPlace 23 = .ok (.iconst 0, 1) := by decide +kernel
theorem dX1_rowPlace_24 : decode cX1_rowPlace 24 = .ok (.ireturn, 1) := by decide +kernel
theorem dX1_liesFaceUp_0 : decode cX1_liesFaceUp 0 = .ok (.aload_n 0, 1) := by decide +kernel
theorem dX1_liesFaceUp_1 : decode cX1_liesFaceUp 1 = .ok (.iload_n 1, 1) := by decide +kernel
theorem dX1_liesFaceUp_2 : decode cX1_liesFaceUp 2 = .ok (.iload_n 2, 1) := by decide +kernel
theorem dX1_liesFaceUp_3 : decode cX1_liesFaceUp 3 = .ok (.invokevirtual 52, 3) := by decide +kernel
theorem dX1_liesFaceUp_6 : decode cX1_liesFaceUp 6 = .ok (.ifCond .eq 21, 3) := by decide +kernel
theorem dX1_liesFaceUp_9 : decode cX1_liesFaceUp 9 = .ok (.aload_n 0, 1) := by decide +kernel
theorem dX1_liesFaceUp_10 : decode cX1_liesFaceUp 10 = .ok (.getfield 21, 3) := by decide +kernel
theorem dX1_liesFaceUp_13 : decode cX1_liesFaceUp 13 = .ok (.aload_n 0, 1) := by decide +kernel
theorem dX1_liesFaceUp_14 : decode cX1_liesFaceUp 14 = .ok (.iload_n 1, 1) := by decide +kernel
theorem dX1_liesFaceUp_15 : decode cX1_liesFaceUp 15 = .ok (.iload_n 2, 1) := by decide +kernel
theorem dX1_liesFaceUp_16 : decode cX1_liesFaceUp 16 = .ok (.invokevirtual 40, 3) := by decide +kernel
theorem dX1_liesFaceUp_19 : decode cX1_liesFaceUp 19 = .ok (.baload, 1) := by decide +kernel
theorem dX1_liesFaceUp_20 : decode cX1_liesFaceUp 20 = .ok (.ifCond .eq 7, 3) := by decide +kernel
theorem dX1_liesFaceUp_23 : decode cX1_liesFaceUp 23 = .ok (.iconst 1, 1) := by decide +kernel
theorem dX1_liesFaceUp_24 : decode cX1_liesFaceUp 24 = .ok (.goto 4, 3) := by decide +kernel
theorem dX1_liesFaceUp_27 : decode cX1_liesFaceUp 27 = .ok (.iconst 0, 1) := by decide +kernel
theorem dX1_liesFaceUp_28 : decode cX1_liesFaceUp 28 = .ok (.ireturn, 1) := by decide +kernel
theorem dX1_panelsAbove_0 : decode cX1_panelsAbove 0 = .ok (.aload_n 0, 1) := by decide +kernel
theorem dX1_panelsAbove_1 : decode cX1_panelsAbove 1 = .ok (.iload_n 1, 1) := by decide +kernel
theorem dX1_panelsAbove_2 : decode cX1_panelsAbove 2 = .ok (.iload_n 2, 1) := by decide +kernel
theorem dX1_panelsAbove_3 : decode cX1_panelsAbove 3 = .ok (.invokevirtual 52, 3) := by decide +kernel
theorem dX1_panelsAbove_6 : decode cX1_panelsAbove 6 = .ok (.ifCond .eq 16, 3) := by decide +kernel
theorem dX1_panelsAbove_9 : decode cX1_panelsAbove 9 = .ok (.aload_n 0, 1) := by decide +kernel
theorem dX1_panelsAbove_10 : decode cX1_panelsAbove 10 = .ok (.aload_n 0, 1) := by decide +kernel
theorem dX1_panelsAbove_11 : decode cX1_panelsAbove 11 = .ok (.iload_n 1, 1) := by decide +kernel
theorem dX1_panelsAbove_12 : decode cX1_panelsAbove 12 = .ok (.iload_n 2, 1) := by decide +kernel
theorem dX1_panelsAbove_13 : decode cX1_panelsAbove 13 = .ok (.invokevirtual 40, 3) := by decide +kernel
theorem dX1_panelsAbove_16 : decode cX1_panelsAbove 16 = .ok (.invokevirtual 56, 3) := by decide +kernel
theorem dX1_panelsAbove_19 : decode cX1_panelsAbove 19 = .ok (.goto 4, 3) := by decide +kernel
theorem dX1_panelsAbove_22 : decode cX1_panelsAbove 22 = .ok (.iconst 0, 1) := by decide +kernel
theorem dX1_panelsAbove_23 : decode cX1_panelsAbove 23 = .ok (.ireturn, 1) := by decide +kernel
theorem dX1_turnOverColumns_0 : decode cX1_turnOverColumns 0 = .ok (.aload_n 0, 1) := by decide +kernel
theorem dX1_turnOverColumns_1 : decode cX1_turnOverColumns 1 = .ok (.aload_n 0, 1) := by decide +kernel
theorem dX1_turnOverColumns_2 : decode cX1_turnOverColumns 2 = .ok (.getfield 9, 3) := by decide +kernel
theorem dX1_turnOverColumns_5 : decode cX1_turnOverColumns 5 = .ok (.iload_n 1, 1) := by decide +kernel
theorem dX1_turnOverColumns_6 : decode cX1_turnOverColumns 6 = .ok (.invokevirtual 60, 3) := by decide +kernel
theorem dX1_turnOverColumns_9 : decode cX1_turnOverColumns 9 = .ok (.ireturn, 1) := by decide +kernel
theorem dX1_turnOverRows_0 : decode cX1_turnOverRows 0 = .ok (.aload_n 0, 1) := by decide +kernel
theorem dX1_turnOverRows_1 : decode cX1_turnOverRows 1 = .ok (.aload_n 0, 1) := by decide +kernel
theorem dX1_turnOverRows_2 : decode cX1_turnOverRows 2 = .ok (.getfield 15, 3) := by decide +kernel
theorem dX1_turnOverRows_5 : decode cX1_turnOverRows 5 = .ok (.iload_n 1, 1) := by decide +kernel
theorem dX1_turnOverRows_6 : decode cX1_turnOverRows 6 = .ok (.invokevirtual 60, 3) := by decide +kernel
theorem dX1_turnOverRows_9 : decode cX1_turnOverRows 9 = .ok (.ireturn, 1) := by decide +kernel
theorem dX1_mostPanels_0 : decode cX1_mostPanels 0 = .ok (.iconst 0, 1) := by decide +kernel
theorem dX1_mostPanels_1 : decode cX1_mostPanels 1 = .ok (.istore_n 1, 1) := by decide +kernel
theorem dX1_mostPanels_2 : decode cX1_mostPanels 2 = .ok (.iconst 0, 1) := by decide +kernel
theorem dX1_mostPanels_3 : decode cX1_mostPanels 3 = .ok (.istore_n 2, 1) := by decide +kernel
theorem dX1_mostPanels_4 : decode cX1_mostPanels 4 = .ok (.iload_n 2, 1) := by decide +kernel
theorem dX1_mostPanels_5 : decode cX1_mostPanels 5 = .ok (.aload_n 0, 1) := by decide +kernel
theorem dX1_mostPanels_6 : decode cX1_mostPanels 6 = .ok (.invokevirtual 64, 3) := by decide +kernel
theorem dX1_mostPanels_9 : decode cX1_mostPanels 9 = .ok (.if_icmp .ge 21, 3) := by decide +kernel
theorem dX1_mostPanels_12 : decode cX1_mostPanels 12 = .ok (.iload_n 1, 1) := by decide +kernel
theorem dX1_mostPanels_13 : decode cX1_mostPanels 13 = .ok (.aload_n 0, 1) := by decide +kernel
theorem dX1_mostPanels_14 : decode cX1_mostPanels 14 = .ok (.iload_n 2, 1) := by decide +kernel
theorem dX1_mostPanels_15 : decode cX1_mostPanels 15 = .ok (.invokevirtual 56, 3) := by decide +kernel
theorem dX1_mostPanels_18 : decode cX1_mostPanels 18 = .ok (.iconst 1, 1) := by decide +kernel
theorem dX1_mostPanels_19 : decode cX1_mostPanels 19 = .ok (.iadd, 1) := by decide +kernel
theorem dX1_mostPanels_20 : decode cX1_mostPanels 20 = .ok (.invokestatic 67, 3) := by decide +kernel
theorem dX1_mostPanels_23 : decode cX1_mostPanels 23 = .ok (.istore_n 1, 1) := by decide +kernel
theorem dX1_mostPanels_24 : decode cX1_mostPanels 24 = .ok (.iinc 2 1, 3) := by decide +kernel
theorem dX1_mostPanels_27 : decode cX1_mostPanels 27 = .ok (.goto (-23), 3) := by decide +kernel
theorem dX1_mostPanels_30 : decode cX1_mostPanels 30 = .ok (.iload_n 1, 1) := by decide +kernel
theorem dX1_mostPanels_31 : decode cX1_mostPanels 31 = .ok (.ireturn, 1) := by decide +kernel
theorem dX1_readablePanels_0 : decode cX1_readablePanels 0 = .ok (.iconst 0, 1) := by decide +kernel
theorem dX1_readablePanels_1 : decode cX1_readablePanels 1 = .ok (.istore_n 1, 1) := by decide +kernel
theorem dX1_readablePanels_2 : decode cX1_readablePanels 2 = .ok (.iconst 0, 1) := by decide +kernel
theorem dX1_readablePanels_3 : decode cX1_readablePanels 3 = .ok (.istore_n 2, 1) := by decide +kernel
theorem dX1_readablePanels_4 : decode cX1_readablePanels 4 = .ok (.iload_n 2, 1) := by decide +kernel
theorem dX1_readablePanels_5 : decode cX1_readablePanels 5 = .ok (.aload_n 0, 1) := by decide +kernel
theorem dX1_readablePanels_6 : decode cX1_readablePanels 6 = .ok (.invokevirtual 64, 3) := by decide +kernel
theorem dX1_readablePanels_9 : decode cX1_readablePanels 9 = .ok (.if_icmp .ge 29, 3) := by decide +kernel
theorem dX1_readablePanels_12 : decode cX1_readablePanels 12 = .ok (.aload_n 0, 1) := by decide +kernel
theorem dX1_readablePanels_13 : decode cX1_readablePanels 13 = .ok (.getfield 21, 3) := by decide +kernel
theorem dX1_readablePanels_16 : decode cX1_readablePanels 16 = .ok (.iload_n 2, 1) := by decide +kernel
theorem dX1_readablePanels_17 : decode cX1_readablePanels 17 = .ok (.baload, 1) := by decide +kernel
theorem dX1_readablePanels_18 : decode cX1_readablePanels 18 = .ok (.ifCond .eq 14, 3) := by decide +kernel
theorem dX1_readablePanels_21 : decode cX1_readablePanels 21 = .ok (.aload_n 0, 1) := by decide +kernel
theorem dX1_readablePanels_22 : decode cX1_readablePanels 22 = .ok (.iload_n 2, 1) := by decide +kernel
theorem dX1_readablePanels_23 : decode cX1_readablePanels 23 = .ok (.invokevirtual 56, 3) := by decide +kernel
theorem dX1_readablePanels_26 : decode cX1_readablePanels 26 = .ok (.ifCond .ne 6, 3) := by decide +kernel
theorem dX1_readablePanels_29 : decode cX1_readablePanels 29 = .ok (.iinc 1 1, 3) := by decide +kernel
theorem dX1_readablePanels_32 : decode cX1_readablePanels 32 = .ok (.iinc 2 1, 3) := by decide +kernel
theorem dX1_readablePanels_35 : decode cX1_readablePanels 35 = .ok (.goto (-31), 3) := by decide +kernel
theorem dX1_readablePanels_38 : decode cX1_readablePanels 38 = .ok (.iload_n 1, 1) := by decide +kernel
theorem dX1_readablePanels_39 : decode cX1_readablePanels 39 = .ok (.ireturn, 1) := by decide +kernel
theorem dX1_panels_0 : decode cX1_panels 0 = .ok (.aload_n 0, 1) := by decide +kernel
theorem dX1_panels_1 : decode cX1_panels 1 = .ok (.getfield 29, 3) := by decide +kernel
theorem dX1_panels_4 : decode cX1_panels 4 = .ok (.aload_n 0, 1) := by decide +kernel
theorem dX1_panels_5 : decode cX1_panels 5 = .ok (.getfield 33, 3) := by decide +kernel
theorem dX1_panels_8 : decode cX1_panels 8 = .ok (.imul, 1) := by decide +kernel
theorem dX1_panels_9 : decode cX1_panels 9 = .ok (.ireturn, 1) := by decide +kernel
theorem dX1_number_0 : decode cX1_number 0 = .ok (.iload_n 1, 1) := by decide +kernel
theorem dX1_number_1 : decode cX1_number 1 = .ok (.aload_n 0, 1) := by decide +kernel
theorem dX1_number_2 : decode cX1_number 2 = .ok (.getfield 33, 3) := by decide +kernel
theorem dX1_number_5 : decode cX1_number 5 = .ok (.imul, 1) := by decide +kernel
theorem dX1_number_6 : decode cX1_number 6 = .ok (.iload_n 2, 1) := by decide +kernel
theorem dX1_number_7 : decode cX1_number 7 = .ok (.iadd, 1) := by decide +kernel
theorem dX1_number_8 : decode cX1_number 8 = .ok (.ireturn, 1) := by decide +kernel
theorem dX1_turnOver_0 : decode cX1_turnOver 0 = .ok (.aload_n 0, 1) := by decide +kernel
theorem dX1_turnOver_1 : decode cX1_turnOver 1 = .ok (.aload_n 1, 1) := by decide +kernel
theorem dX1_turnOver_2 : decode cX1_turnOver 2 = .ok (.iload_n 2, 1) := by decide +kernel
theorem dX1_turnOver_3 : decode cX1_turnOver 3 = .ok (.invokevirtual 70, 3) := by decide +kernel
theorem dX1_turnOver_6 : decode cX1_turnOver 6 = .ok (.istore_n 3, 1) := by decide +kernel
theorem dX1_turnOver_7 : decode cX1_turnOver 7 = .ok (.iload_n 3, 1) := by decide +kernel
theorem dX1_turnOver_8 : decode cX1_turnOver 8 = .ok (.ifCond .eq 11, 3) := by decide +kernel
theorem dX1_turnOver_11 : decode cX1_turnOver 11 = .ok (.iload_n 3, 1) := by decide +kernel
theorem dX1_turnOver_12 : decode cX1_turnOver 12 = .ok (.aload_n 0, 1) := by decide +kernel
theorem dX1_turnOver_13 : decode cX1_turnOver 13 = .ok (.invokevirtual 64, 3) := by decide +kernel
theorem dX1_turnOver_16 : decode cX1_turnOver 16 = .ok (.if_icmp .ne 5, 3) := by decide +kernel
theorem dX1_turnOver_19 : decode cX1_turnOver 19 = .ok (.iconst 0, 1) := by decide +kernel
theorem dX1_turnOver_20 : decode cX1_turnOver 20 = .ok (.ireturn, 1) := by decide +kernel
theorem dX1_turnOver_21 : decode cX1_turnOver 21 = .ok (.aload_n 0, 1) := by decide +kernel
theorem dX1_turnOver_22 : decode cX1_turnOver 22 = .ok (.invokevirtual 73, 3) := by decide +kernel
theorem dX1_turnOver_25 : decode cX1_turnOver 25 = .ok (.istore 4, 2) := by decide +kernel
theorem dX1_turnOver_27 : decode cX1_turnOver 27 = .ok (.iconst 0, 1) := by decide +kernel
theorem dX1_turnOver_28 : decode cX1_turnOver 28 = .ok (.istore 5, 2) := by decide +kernel
theorem dX1_turnOver_30 : decode cX1_turnOver 30 = .ok (.iload 5, 2) := by decide +kernel
theorem dX1_turnOver_32 : decode cX1_turnOver 32 = .ok (.aload_n 0, 1) := by decide +kernel
theorem dX1_turnOver_33 : decode cX1_turnOver 33 = .ok (.invokevirtual 64, 3) := by decide +kernel
theorem dX1_turnOver_36 : decode cX1_turnOver 36 = .ok (.if_icmp .ge 74, 3) := by decide +kernel
theorem dX1_turnOver_39 : decode cX1_turnOver 39 = .ok (.aload_n 1, 1) := by decide +kernel
theorem dX1_turnOver_40 : decode cX1_turnOver 40 = .ok (.iload 5, 2) := by decide +kernel
theorem dX1_turnOver_42 : decode cX1_turnOver 42 = .ok (.iaload, 1) := by decide +kernel
theorem dX1_turnOver_43 : decode cX1_turnOver 43 = .ok (.iload_n 2, 1) := by decide +kernel
theorem dX1_turnOver_44 : decode cX1_turnOver 44 = .ok (.if_icmp .ge 60, 3) := by decide +kernel
theorem dX1_turnOver_47 : decode cX1_turnOver 47 = .ok (.aload_n 1, 1) := by decide +kernel
theorem dX1_turnOver_48 : decode cX1_turnOver 48 = .ok (.iload 5, 2) := by decide +kernel
theorem dX1_turnOver_50 : decode cX1_turnOver 50 = .ok (.iconst 2, 1) := by decide +kernel
theorem dX1_turnOver_51 : decode cX1_turnOver 51 = .ok (.iload_n 2, 1) := by decide +kernel
theorem dX1_turnOver_52 : decode cX1_turnOver 52 = .ok (.imul, 1) := by decide +kernel
theorem dX1_turnOver_53 : decode cX1_turnOver 53 = .ok (.iconst 1, 1) := by decide +kernel
theorem dX1_turnOver_54 : decode cX1_turnOver 54 = .ok (.isub, 1) := by decide +kernel
theorem dX1_turnOver_55 : decode cX1_turnOver 55 = .ok (.aload_n 1, 1) := by decide +kernel
theorem dX1_turnOver_56 : decode cX1_turnOver 56 = .ok (.iload 5, 2) := by decide +kernel
theorem dX1_turnOver_58 : decode cX1_turnOver 58 = .ok (.iaload, 1) := by decide +kernel
theorem dX1_turnOver_59 : decode cX1_turnOver 59 = .ok (.isub, 1) := by decide +kernel
theorem dX1_turnOver_60 : decode cX1_turnOver 60 = .ok (.iastore, 1) := by decide +kernel
theorem dX1_turnOver_61 : decode cX1_turnOver 61 = .ok (.aload_n 0, 1) := by decide +kernel
theorem dX1_turnOver_62 : decode cX1_turnOver 62 = .ok (.getfield 18, 3) := by decide +kernel
theorem dX1_turnOver_65 : decode cX1_turnOver 65 = .ok (.iload 5, 2) := by decide +kernel
theorem dX1_turnOver_67 : decode cX1_turnOver 67 = .ok (.iconst 2, 1) := by decide +kernel
theorem dX1_turnOver_68 : decode cX1_turnOver 68 = .ok (.iload 4, 2) := by decide +kernel
theorem dX1_turnOver_70 : decode cX1_turnOver 70 = .ok (.imul, 1) := by decide +kernel
theorem dX1_turnOver_71 : decode cX1_turnOver 71 = .ok (.iconst 1, 1) := by decide +kernel
theorem dX1_turnOver_72 : decode cX1_turnOver 72 = .ok (.iadd, 1) := by decide +kernel
theorem dX1_turnOver_73 : decode cX1_turnOver 73 = .ok (.aload_n 0, 1) := by decide +kernel
theorem dX1_turnOver_74 : decode cX1_turnOver 74 = .ok (.getfield 18, 3) := by decide +kernel
theorem dX1_turnOver_77 : decode cX1_turnOver 77 = .ok (.iload 5, 2) := by decide +kernel
theorem dX1_turnOver_79 : decode cX1_turnOver 79 = .ok (.iaload, 1) := by decide +kernel
theorem dX1_turnOver_80 : decode cX1_turnOver 80 = .ok (.isub, 1) := by decide +kernel
theorem dX1_turnOver_81 : decode cX1_turnOver 81 = .ok (.iastore, 1) := by decide +kernel
theorem dX1_turnOver_82 : decode cX1_turnOver 82 = .ok (.aload_n 0, 1) := by decide +kernel
theorem dX1_turnOver_83 : decode cX1_turnOver 83 = .ok (.getfield 21, 3) := by decide +kernel
theorem dX1_turnOver_86 : decode cX1_turnOver 86 = .ok (.iload 5, 2) := by decide +kernel
theorem dX1_turnOver_88 : decode cX1_turnOver 88 = .ok (.aload_n 0, 1) := by decide +kernel
theorem dX1_turnOver_89 : decode cX1_turnOver 89 = .ok (.getfield 21, 3) := by decide +kernel
theorem dX1_turnOver_92 : decode cX1_turnOver 92 = .ok (.iload 5, 2) := by decide +kernel
theorem dX1_turnOver_94 : decode cX1_turnOver 94 = .ok (.baload, 1) := by decide +kernel
theorem dX1_turnOver_95 : decode cX1_turnOver 95 = .ok (.ifCond .ne 7, 3) := by decide +kernel
theorem dX1_turnOver_98 : decode cX1_turnOver 98 = .ok (.iconst 1, 1) := by decide +kernel
theorem dX1_turnOver_99 : decode cX1_turnOver 99 = .ok (.goto 4, 3) := by decide +kernel
theorem dX1_turnOver_102 : decode cX1_turnOver 102 = .ok (.iconst 0, 1) := by decide +kernel
theorem dX1_turnOver_103 : decode cX1_turnOver 103 = .ok (.bastore, 1) := by decide +kernel
theorem dX1_turnOver_104 : decode cX1_turnOver 104 = .ok (.iinc 5 1, 3) := by decide +kernel
theorem dX1_turnOver_107 : decode cX1_turnOver 107 = .ok (.goto (-77), 3) := by decide +kernel
theorem dX1_turnOver_110 : decode cX1_turnOver 110 = .ok (.aload_n 0, 1) := by decide +kernel
theorem dX1_turnOver_111 : decode cX1_turnOver 111 = .ok (.dup, 1) := by decide +kernel
theorem dX1_turnOver_112 : decode cX1_turnOver 112 = .ok (.getfield 44, 3) := by decide +kernel
theorem dX1_turnOver_115 : decode cX1_turnOver 115 = .ok (.iconst 1, 1) := by decide +kernel
theorem dX1_turnOver_116 : decode cX1_turnOver 116 = .ok (.iadd, 1) := by decide +kernel
theorem dX1_turnOver_117 : decode cX1_turnOver 117 = .ok (.putfield 44, 3) := by decide +kernel
theorem dX1_turnOver_120 : decode cX1_turnOver 120 = .ok (.iload_n 3, 1) := by decide +kernel
theorem dX1_turnOver_121 : decode cX1_turnOver 121 = .ok (.ireturn, 1) := by decide +kernel
theorem dX1_placesBelow_0 : decode cX1_placesBelow 0 = .ok (.iconst 0, 1) := by decide +kernel
theorem dX1_placesBelow_1 : decode cX1_placesBelow 1 = .ok (.istore_n 3, 1) := by decide +kernel
theorem dX1_placesBelow_2 : decode cX1_placesBelow 2 = .ok (.iconst 0, 1) := by decide +kernel
theorem dX1_placesBelow_3 : decode cX1_placesBelow 3 = .ok (.istore 4, 2) := by decide +kernel
theorem dX1_placesBelow_5 : decode cX1_placesBelow 5 = .ok (.iload 4, 2) := by decide +kernel
theorem dX1_placesBelow_7 : decode cX1_placesBelow 7 = .ok (.aload_n 0, 1) := by decide +kernel
theorem dX1_placesBelow_8 : decode cX1_placesBelow 8 = .ok (.invokevirtual 64, 3) := by decide +kernel
theorem dX1_placesBelow_11 : decode cX1_placesBelow 11 = .ok (.if_icmp .ge 20, 3) := by decide +kernel
theorem dX1_placesBelow_14 : decode cX1_placesBelow 14 = .ok (.aload_n 1, 1) := by decide +kernel
theorem dX1_placesBelow_15 : decode cX1_placesBelow 15 = .ok (.iload 4, 2) := by decide +kernel
theorem dX1_placesBelow_17 : decode cX1_placesBelow 17 = .ok (.iaload, 1) := by decide +kernel
theorem dX1_placesBelow_18 : decode cX1_placesBelow 18 = .ok (.iload_n 2, 1) := by decide +kernel
theorem dX1_placesBelow_19 : decode cX1_placesBelow 19 = .ok (.if_icmp .ge 6, 3) := by decide +kernel
theorem dX1_placesBelow_22 : decode cX1_placesBelow 22 = .ok (.iinc 3 1, 3) := by decide +kernel
theorem dX1_placesBelow_25 : decode cX1_placesBelow 25 = .ok (.iinc 4 1, 3) := by decide +kernel
theorem dX1_placesBelow_28 : decode cX1_placesBelow 28 = .ok (.goto (-23), 3) := by decide +kernel
theorem dX1_placesBelow_31 : decode cX1_placesBelow 31 = .ok (.iload_n 3, 1) := by decide +kernel
theorem dX1_placesBelow_32 : decode cX1_placesBelow 32 = .ok (.ireturn, 1) := by decide +kernel
theorem dX1_highestLayer_0 : decode cX1_highestLayer 0 = .ok (.iconst 0, 1) := by decide +kernel
theorem dX1_highestLayer_1 : decode cX1_highestLayer 1 = .ok (.istore_n 1, 1) := by decide +kernel
theorem dX1_highestLayer_2 : decode cX1_highestLayer 2 = .ok (.iconst 0, 1) := by decide +kernel
theorem dX1_highestLayer_3 : decode cX1_highestLayer 3 = .ok (.istore_n 2, 1) := by decide +kernel
theorem dX1_highestLayer_4 : decode cX1_highestLayer 4 = .ok (.iload_n 2, 1) := by decide +kernel
theorem dX1_highestLayer_5 : decode cX1_highestLayer 5 = .ok (.aload_n 0, 1) := by decide +kernel
theorem dX1_highestLayer_6 : decode cX1_highestLayer 6 = .ok (.invokevirtual 64, 3) := by decide +kernel
theorem dX1_highestLayer_9 : decode cX1_highestLayer 9 = .ok (.if_icmp .ge 20, 3) := by decide +kernel
theorem dX1_highestLayer_12 : decode cX1_highestLayer 12 = .ok (.iload_n 1, 1) := by decide +kernel
theorem dX1_highestLayer_13 : decode cX1_highestLayer 13 = .ok (.aload_n 0, 1) := by decide +kernel
theorem dX1_highestLayer_14 : decode cX1_highestLayer 14 = .ok (.getfield 18, 3) := by decide +kernel
theorem dX1_highestLayer_17 : decode cX1_highestLayer 17 = .ok (.iload_n 2, 1) := by decide +kernel
theorem dX1_highestLayer_18 : decode cX1_highestLayer 18 = .ok (.iaload, 1) := by decide +kernel
theorem dX1_highestLayer_19 : decode cX1_highestLayer 19 = .ok (.invokestatic 67, 3) := by decide +kernel
theorem dX1_highestLayer_22 : decode cX1_highestLayer 22 = .ok (.istore_n 1, 1) := by decide +kernel
theorem dX1_highestLayer_23 : decode cX1_highestLayer 23 = .ok (.iinc 2 1, 3) := by decide +kernel
theorem dX1_highestLayer_26 : decode cX1_highestLayer 26 = .ok (.goto (-22), 3) := by decide +kernel
theorem dX1_highestLayer_29 : decode cX1_highestLayer 29 = .ok (.iload_n 1, 1) := by decide +kernel
theorem dX1_highestLayer_30 : decode cX1_highestLayer 30 = .ok (.ireturn, 1) := by decide +kernel
theorem dX1_higherThan_0 : decode cX1_higherThan 0 = .ok (.iconst 0, 1) := by decide +kernel
theorem dX1_higherThan_1 : decode cX1_higherThan 1 = .ok (.istore_n 2, 1) := by decide +kernel
theorem dX1_higherThan_2 : decode cX1_higherThan 2 = .ok (.iconst 0, 1) := by decide +kernel
theorem dX1_higherThan_3 : decode cX1_higherThan 3 = .ok (.istore_n 3, 1) := by decide +kernel
theorem dX1_higherThan_4 : decode cX1_higherThan 4 = .ok (.iload_n 3, 1) := by decide +kernel
theorem dX1_higherThan_5 : decode cX1_higherThan 5 = .ok (.aload_n 0, 1) := by decide +kernel
theorem dX1_higherThan_6 : decode cX1_higherThan 6 = .ok (.invokevirtual 64, 3) := by decide +kernel
theorem dX1_higherThan_9 : decode cX1_higherThan 9 = .ok (.if_icmp .ge 57, 3) := by decide +kernel
theorem dX1_higherThan_12 : decode cX1_higherThan 12 = .ok (.aload_n 0, 1) := by decide +kernel
theorem dX1_higherThan_13 : decode cX1_higherThan 13 = .ok (.getfield 9, 3) := by decide +kernel
theorem dX1_higherThan_16 : decode cX1_higherThan 16 = .ok (.iload_n 3, 1) := by decide +kernel
theorem dX1_higherThan_17 : decode cX1_higherThan 17 = .ok (.iaload, 1) := by decide +kernel
theorem dX1_higherThan_18 : decode cX1_higherThan 18 = .ok (.aload_n 0, 1) := by decide +kernel
theorem dX1_higherThan_19 : decode cX1_higherThan 19 = .ok (.getfield 9, 3) := by decide +kernel
theorem dX1_higherThan_22 : decode cX1_higherThan 22 = .ok (.iload_n 1, 1) := by decide +kernel
theorem dX1_higherThan_23 : decode cX1_higherThan 23 = .ok (.iaload, 1) := by decide +kernel
theorem dX1_higherThan_24 : decode cX1_higherThan 24 = .ok (.if_icmp .ne 36, 3) := by decide +kernel
theorem dX1_higherThan_27 : decode cX1_higherThan 27 = .ok (.aload_n 0, 1) := by decide +kernel
theorem dX1_higherThan_28 : decode cX1_higherThan 28 = .ok (.getfield 15, 3) := by decide +kernel
theorem dX1_higherThan_31 : decode cX1_higherThan 31 = .ok (.iload_n 3, 1) := by decide +kernel
theorem dX1_higherThan_32 : decode cX1_higherThan 32 = .ok (.iaload, 1) := by decide +kernel
theorem dX1_higherThan_33 : decode cX1_higherThan 33 = .ok (.aload_n 0, 1) := by decide +kernel
theorem dX1_higherThan_34 : decode cX1_higherThan 34 = .ok (.getfield 15, 3) := by decide +kernel
theorem dX1_higherThan_37 : decode cX1_higherThan 37 = .ok (.iload_n 1, 1) := by decide +kernel
theorem dX1_higherThan_38 : decode cX1_higherThan 38 = .ok (.iaload, 1) := by decide +kernel
theorem dX1_higherThan_39 : decode cX1_higherThan 39 = .ok (.if_icmp .ne 21, 3) := by decide +kernel
theorem dX1_higherThan_42 : decode cX1_higherThan 42 = .ok (.aload_n 0, 1) := by decide +kernel
theorem dX1_higherThan_43 : decode cX1_higherThan 43 = .ok (.getfield 18, 3) := by decide +kernel
theorem dX1_higherThan_46 : decode cX1_higherThan 46 = .ok (.iload_n 3, 1) := by decide +kernel
theorem dX1_higherThan_47 : decode cX1_higherThan 47 = .ok (.iaload, 1) := by decide +kernel
theorem dX1_higherThan_48 : decode cX1_higherThan 48 = .ok (.aload_n 0, 1) := by decide +kernel
theorem dX1_higherThan_49 : decode cX1_higherThan 49 = .ok (.getfield 18, 3) := by decide +kernel
theorem dX1_higherThan_52 : decode cX1_higherThan 52 = .ok (.iload_n 1, 1) := by decide +kernel
theorem dX1_higherThan_53 : decode cX1_higherThan 53 = .ok (.iaload, 1) := by decide +kernel
theorem dX1_higherThan_54 : decode cX1_higherThan 54 = .ok (.if_icmp .le 6, 3) := by decide +kernel
theorem dX1_higherThan_57 : decode cX1_higherThan 57 = .ok (.iinc 2 1, 3) := by decide +kernel
theorem dX1_higherThan_60 : decode cX1_higherThan 60 = .ok (.iinc 3 1, 3) := by decide +kernel
theorem dX1_higherThan_63 : decode cX1_higherThan 63 = .ok (.goto (-59), 3) := by decide +kernel
theorem dX1_higherThan_66 : decode cX1_higherThan 66 = .ok (.iload_n 2, 1) := by decide +kernel
theorem dX1_higherThan_67 : decode cX1_higherThan 67 = .ok (.ireturn, 1) := by decide +kernel
theorem dX2_init_0 : decode cX2_init 0 = .ok (.aload_n 0, 1) := by decide +kernel
theorem dX2_init_1 : decode cX2_init 1 = .ok (.invokespecial 3, 3) := by decide +kernel
theorem dX2_init_4 : decode cX2_init 4 = .ok (.aload_n 0, 1) := by decide +kernel
theorem dX2_init_5 : decode cX2_init 5 = .ok (.bipush 10, 2) := by decide +kernel
theorem dX2_init_7 : decode cX2_init 7 = .ok (.newarray .int, 2) := by decide +kernel
theorem dX2_init_9 : decode cX2_init 9 = .ok (.putfield 9, 3) := by decide +kernel
theorem dX2_init_12 : decode cX2_init 12 = .ok (.aload_n 0, 1) := by decide +kernel
theorem dX2_init_13 : decode cX2_init 13 = .ok (.bipush 10, 2) := by decide +kernel
theorem dX2_init_15 : decode cX2_init 15 = .ok (.newarray .int, 2) := by decide +kernel
theorem dX2_init_17 : decode cX2_init 17 = .ok (.putfield 15, 3) := by decide +kernel
theorem dX2_init_20 : decode cX2_init 20 = .ok (.iconst 0, 1) := by decide +kernel
theorem dX2_init_21 : decode cX2_init 21 = .ok (.istore_n 1, 1) := by decide +kernel
theorem dX2_init_22 : decode cX2_init 22 = .ok (.iload_n 1, 1) := by decide +kernel
theorem dX2_init_23 : decode cX2_init 23 = .ok (.bipush 10, 2) := by decide +kernel
theorem dX2_init_25 : decode cX2_init 25 = .ok (.if_icmp .ge 34, 3) := by decide +kernel
theorem dX2_init_28 : decode cX2_init 28 = .ok (.aload_n 0, 1) := by decide +kernel
theorem dX2_init_29 : decode cX2_init 29 = .ok (.getfield 9, 3) := by decide +kernel
theorem dX2_init_32 : decode cX2_init 32 = .ok (.iload_n 1, 1) := by decide +kernel
theorem dX2_init_33 : decode cX2_init 33 = .ok (.sipush 1000, 3) := by decide +kernel
theorem dX2_init_36 : decode cX2_init 36 = .ok (.bipush 100, 2) := by decide +kernel
theorem dX2_init_38 : decode cX2_init 38 = .ok (.iload_n 1, 1) := by decide +kernel
theorem dX2_init_39 : decode cX2_init 39 = .ok (.imul, 1) := by decide +kernel
theorem dX2_init_40 : decode cX2_init 40 = .ok (.isub, 1) := by decide +kernel
theorem dX2_init_41 : decode cX2_init 41 = .ok (.iastore, 1) := by decide +kernel
theorem dX2_init_42 : decode cX2_init 42 = .ok (.aload_n 0, 1) := by decide +kernel
theorem dX2_init_43 : decode cX2_init 43 = .ok (.getfield 15, 3) := by decide +kernel
theorem dX2_init_46 : decode cX2_init 46 = .ok (.iload_n 1, 1) := by decide +kernel
theorem dX2_init_47 : decode cX2_init 47 = .ok (.sipush 1000, 3) := by decide +kernel
theorem dX2_init_50 : decode cX2_init 50 = .ok (.iload_n 1, 1) := by decide +kernel
theorem dX2_init_51 : decode cX2_init 51 = .ok (.imul, 1) := by decide +kernel
theorem dX2_init_52 : decode cX2_init 52 = .ok (.iastore, 1) := by decide +kernel
theorem dX2_init_53 : decode cX2_init 53 = .ok (.iinc 1 1, 3) := by decide +kernel
theorem dX2_init_56 : decode cX2_init 56 = .ok (.goto (-34), 3) := by decide +kernel
theorem dX2_init_59 : decode cX2_init 59 = .ok (.return_, 1) := by decide +kernel
theorem dX2_wouldRise_0 : decode cX2_wouldRise 0 = .ok (.iload_n 1, 1) := by decide +kernel
theorem dX2_wouldRise_1 : decode cX2_wouldRise 1 = .ok (.ifCond .ne 13, 3) := by decide +kernel
theorem dX2_wouldRise_4 : decode cX2_wouldRise 4 = .ok (.iload_n 2, 1) := by decide +kernel
theorem dX2_wouldRise_5 : decode cX2_wouldRise 5 = .ok (.ifCond .ne 7, 3) := by decide +kernel
theorem dX2_wouldRise_8 : decode cX2_wouldRise 8 = .ok (.iconst 1, 1) := by decide +kernel
theorem dX2_wouldRise_9 : decode cX2_wouldRise 9 = .ok (.goto 4, 3) := by decide +kernel
theorem dX2_wouldRise_12 : decode cX2_wouldRise 12 = .ok (.iconst 0, 1) := by decide +kernel
theorem dX2_wouldRise_13 : decode cX2_wouldRise 13 = .ok (.ireturn, 1) := by decide +kernel
theorem dX2_wouldRise_14 : decode cX2_wouldRise 14 = .ok (.iload_n 2, 1) := by decide +kernel
theorem dX2_wouldRise_15 : decode cX2_wouldRise 15 = .ok (.aload_n 0, 1) := by decide +kernel
theorem dX2_wouldRise_16 : decode cX2_wouldRise 16 = .ok (.getfield 15, 3) := by decide +kernel
theorem dX2_wouldRise_19 : decode cX2_wouldRise 19 = .ok (.iload_n 1, 1) := by decide +kernel
theorem dX2_wouldRise_20 : decode cX2_wouldRise 20 = .ok (.iconst 1, 1) := by decide +kernel
theorem dX2_wouldRise_21 : decode cX2_wouldRise 21 = .ok (.isub, 1) := by decide +kernel
theorem dX2_wouldRise_22 : decode cX2_wouldRise 22 = .ok (.invokestatic 18, 3) := by decide +kernel
theorem dX2_wouldRise_25 : decode cX2_wouldRise 25 = .ok (.if_icmp .le 27, 3) := by decide +kernel
theorem dX2_wouldRise_28 : decode cX2_wouldRise 28 = .ok (.iload_n 1, 1) := by decide +kernel
theorem dX2_wouldRise_29 : decode cX2_wouldRise 29 = .ok (.bipush 9, 2) := by decide +kernel
theorem dX2_wouldRise_31 : decode cX2_wouldRise 31 = .ok (.if_icmp .eq 17, 3) := by decide +kernel
theorem dX2_wouldRise_34 : decode cX2_wouldRise 34 = .ok (.iload_n 2, 1) := by decide +kernel
theorem dX2_wouldRise_35 : decode cX2_wouldRise 35 = .ok (.aload_n 0, 1) := by decide +kernel
theorem dX2_wouldRise_36 : decode cX2_wouldRise 36 = .ok (.getfield 15, 3) := by decide +kernel
theorem dX2_wouldRise_39 : decode cX2_wouldRise 39 = .ok (.iload_n 1, 1) := by decide +kernel
theorem dX2_wouldRise_40 : decode cX2_wouldRise 40 = .ok (.iconst 1, 1) := by decide +kernel
theorem dX2_wouldRise_41 : decode cX2_wouldRise 41 = .ok (.iadd, 1) := by decide +kernel
theorem dX2_wouldRise_42 : decode cX2_wouldRise 42 = .ok (.invokestatic 18, 3) := by decide +kernel
theorem dX2_wouldRise_45 : decode cX2_wouldRise 45 = .ok (.if_icmp .ge 7, 3) := by decide +kernel
theorem dX2_wouldRise_48 : decode cX2_wouldRise 48 = .ok (.iconst 1, 1) := by decide +kernel
theorem dX2_wouldRise_49 : decode cX2_wouldRise 49 = .ok (.goto 4, 3) := by decide +kernel
theorem dX2_wouldRise_52 : decode cX2_wouldRise 52 = .ok (.iconst 0, 1) := by decide +kernel
theorem dX2_wouldRise_53 : decode cX2_wouldRise 53 = .ok (.ireturn, 1) := by decide +kernel
theorem dX2_setRow_0 : decode cX2_setRow 0 = .ok (.iload_n 1, 1) := by decide +kernel
theorem dX2_setRow_1 : decode cX2_setRow 1 = .ok (.ifCond .lt 23, 3) := by decide +kernel
theorem dX2_setRow_4 : decode cX2_setRow 4 = .ok (.iload_n 1, 1) := by decide +kernel
theorem dX2_setRow_5 : decode cX2_setRow 5 = .ok (.bipush 10, 2) := by decide +kernel
theorem dX2_setRow_7 : decode cX2_setRow 7 = .ok (.if_icmp .ge 17, 3) := by decide +kernel
theorem dX2_setRow_10 : decode cX2_setRow 10 = .ok (.aload_n 0, 1) := by decide +kernel
theorem dX2_setRow_11 : decode cX2_setRow 11 = .ok (.getfield 9, 3) := by decide +kernel
theorem dX2_setRow_14 : decode cX2_setRow 14 = .ok (.iload_n 1, 1) := by decide +kernel
theorem dX2_setRow_15 : decode cX2_setRow 15 = .ok (.iload_n 2, 1) := by decide +kernel
theorem dX2_setRow_16 : decode cX2_setRow 16 = .ok (.iastore, 1) := by decide +kernel
theorem dX2_setRow_17 : decode cX2_setRow 17 = .ok (.aload_n 0, 1) := by decide +kernel
theorem dX2_setRow_18 : decode cX2_setRow 18 = .ok (.getfield 15, 3) := by decide +kernel
theorem dX2_setRow_21 : decode cX2_setRow 21 = .ok (.iload_n 1, 1) := by decide +kernel
theorem dX2_setRow_22 : decode cX2_setRow 22 = .ok (.iload_n 3, 1) := by decide +kernel
theorem dX2_setRow_23 : decode cX2_setRow 23 = .ok (.iastore, 1) := by decide +kernel
theorem dX2_setRow_24 : decode cX2_setRow 24 = .ok (.return_, 1) := by decide +kernel
theorem dX2_tenWidths_0 : decode cX2_tenWidths 0 = .ok (.aload_n 0, 1) := by decide +kernel
theorem dX2_tenWidths_1 : decode cX2_tenWidths 1 = .ok (.getfield 9, 3) := by decide +kernel
theorem dX2_tenWidths_4 : decode cX2_tenWidths 4 = .ok (.iload_n 1, 1) := by decide +kernel
theorem dX2_tenWidths_5 : decode cX2_tenWidths 5 = .ok (.invokestatic 22, 3) := by decide +kernel
theorem dX2_tenWidths_8 : decode cX2_tenWidths 8 = .ok (.invokestatic 28, 3) := by decide +kernel
theorem dX2_tenWidths_11 : decode cX2_tenWidths 11 = .ok (.ireturn, 1) := by decide +kernel
theorem dX2_tenHeights_0 : decode cX2_tenHeights 0 = .ok (.aload_n 0, 1) := by decide +kernel
theorem dX2_tenHeights_1 : decode cX2_tenHeights 1 = .ok (.getfield 15, 3) := by decide +kernel
theorem dX2_tenHeights_4 : decode cX2_tenHeights 4 = .ok (.iload_n 1, 1) := by decide +kernel
theorem dX2_tenHeights_5 : decode cX2_tenHeights 5 = .ok (.invokestatic 22, 3) := by decide +kernel
theorem dX2_tenHeights_8 : decode cX2_tenHeights 8 = .ok (.invokestatic 28, 3) := by decide +kernel
theorem dX2_tenHeights_11 : decode cX2_tenHeights 11 = .ok (.istore_n 2, 1) := by decide +kernel
theorem dX2_tenHeights_12 : decode cX2_tenHeights 12 = .ok (.iload_n 1, 1) := by decide +kernel
theorem dX2_tenHeights_13 : decode cX2_tenHeights 13 = .ok (.ifCond .ge 8, 3) := by decide +kernel
theorem dX2_tenHeights_16 : decode cX2_tenHeights 16 = .ok (.iload_n 2, 1) := by decide +kernel
theorem dX2_tenHeights_17 : decode cX2_tenHeights 17 = .ok (.ineg, 1) := by decide +kernel
theorem dX2_tenHeights_18 : decode cX2_tenHeights 18 = .ok (.goto 4, 3) := by decide +kernel
theorem dX2_tenHeights_21 : decode cX2_tenHeights 21 = .ok (.iload_n 2, 1) := by decide +kernel
theorem dX2_tenHeights_22 : decode cX2_tenHeights 22 = .ok (.ireturn, 1) := by decide +kernel
theorem dX2_greatestNotAbove_0 : decode cX2_greatestNotAbove 0 = .ok (.bipush 90, 2) := by decide +kernel
theorem dX2_greatestNotAbove_2 : decode cX2_greatestNotAbove 2 = .ok (.istore_n 2, 1) := by decide +kernel
theorem dX2_greatestNotAbove_3 : decode cX2_greatestNotAbove 3 = .ok (.iload_n 2, 1) := by decide +kernel
theorem dX2_greatestNotAbove_4 : decode cX2_greatestNotAbove 4 = .ok (.bipush (-90), 2) := by decide +kernel
theorem dX2_greatestNotAbove_6 : decode cX2_greatestNotAbove 6 = .ok (.if_icmp .lt 18, 3) := by decide +kernel
theorem dX2_greatestNotAbove_9 : decode cX2_greatestNotAbove 9 = .ok (.aload_n 0, 1) := by decide +kernel
theorem dX2_greatestNotAbove_10 : decode cX2_greatestNotAbove 10 = .ok (.iload_n 2, 1) := by decide +kernel
theorem dX2_greatestNotAbove_11 : decode cX2_greatestNotAbove 11 = .ok (.invokevirtual 31, 3) := by decide +kernel
theorem dX2_greatestNotAbove_14 : decode cX2_greatestNotAbove 14 = .ok (.iload_n 1, 1) := by decide +kernel
theorem dX2_greatestNotAbove_15 : decode cX2_greatestNotAbove 15 = .ok (.if_icmp .le 9, 3) := by decide +kernel
theorem dX2_greatestNotAbove_18 : decode cX2_greatestNotAbove 18 = .ok (.iinc 2 (-1), 3) := by decide +kernel
theorem dX2_greatestNotAbove_21 : decode cX2_greatestNotAbove 21 = .ok (.goto (-18), 3) := by decide +kernel
theorem dX2_greatestNotAbove_24 : decode cX2_greatestNotAbove 24 = .ok (.iload_n 2, 1) := by decide +kernel
theorem dX2_greatestNotAbove_25 : decode cX2_greatestNotAbove 25 = .ok (.ireturn, 1) := by decide +kernel
theorem dX2_fieldArea_0 : decode cX2_fieldArea 0 = .ok (.lconst 0, 1) := by decide +kernel
theorem dX2_fieldArea_1 : decode cX2_fieldArea 1 = .ok (.lstore 4, 2) := by decide +kernel
theorem dX2_fieldArea_3 : decode cX2_fieldArea 3 = .ok (.iload_n 1, 1) := by decide +kernel
theorem dX2_fieldArea_4 : decode cX2_fieldArea 4 = .ok (.istore 6, 2) := by decide +kernel
theorem dX2_fieldArea_6 : decode cX2_fieldArea 6 = .ok (.iload 6, 2) := by decide +kernel
theorem dX2_fieldArea_8 : decode cX2_fieldArea 8 = .ok (.iload_n 2, 1) := by decide +kernel
theorem dX2_fieldArea_9 : decode cX2_fieldArea 9 = .ok (.if_icmp .ge 23, 3) := by decide +kernel
theorem dX2_fieldArea_12 : decode cX2_fieldArea 12 = .ok (.lload 4, 2) := by decide +kernel
theorem dX2_fieldArea_14 : decode cX2_fieldArea 14 = .ok (.iload_n 3, 1) := by decide +kernel
theorem dX2_fieldArea_15 : decode cX2_fieldArea 15 = .ok (.i2l, 1) := by decide +kernel
theorem dX2_fieldArea_16 : decode cX2_fieldArea 16 = .ok (.aload_n 0, 1) := by decide +kernel
theorem dX2_fieldArea_17 : decode cX2_fieldArea 17 = .ok (.iload 6, 2) := by decide +kernel
theorem dX2_fieldArea_19 : decode cX2_fieldArea 19 = .ok (.invokevirtual 34, 3) := by decide +kernel
theorem dX2_fieldArea_22 : decode cX2_fieldArea 22 = .ok (.lmul, 1) := by decide +kernel
theorem dX2_fieldArea_23 : decode cX2_fieldArea 23 = .ok (.ladd, 1) := by decide +kernel
theorem dX2_fieldArea_24 : decode cX2_fieldArea 24 = .ok (.lstore 4, 2) := by decide +kernel
theorem dX2_fieldArea_26 : decode cX2_fieldArea 26 = .ok (.iinc 6 1, 3) := by decide +kernel
theorem dX2_fieldArea_29 : decode cX2_fieldArea 29 = .ok (.goto (-23), 3) := by decide +kernel
theorem dX2_fieldArea_32 : decode cX2_fieldArea 32 = .ok (.lload 4, 2) := by decide +kernel
theorem dX2_fieldArea_34 : decode cX2_fieldArea 34 = .ok (.lreturn, 1) := by decide +kernel
theorem dX2_cellArea_0 : decode cX2_cellArea 0 = .ok (.aload_n 0, 1) := by decide +kernel
theorem dX2_cellArea_1 : decode cX2_cellArea 1 = .ok (.iload_n 1, 1) := by decide +kernel
theorem dX2_cellArea_2 : decode cX2_cellArea 2 = .ok (.invokevirtual 38, 3) := by decide +kernel
theorem dX2_cellArea_5 : decode cX2_cellArea 5 = .ok (.aload_n 0, 1) := by decide +kernel
theorem dX2_cellArea_6 : decode cX2_cellArea 6 = .ok (.iload_n 1, 1) := by decide +kernel
theorem dX2_cellArea_7 : decode cX2_cellArea 7 = .ok (.iconst 1, 1) := by decide +kernel
theorem dX2_cellArea_8 : decode cX2_cellArea 8 = .ok (.iadd, 1) := by decide +kernel
theorem dX2_cellArea_9 : decode cX2_cellArea 9 = .ok (.invokevirtual 38, 3) := by decide +kernel
theorem dX2_cellArea_12 : decode cX2_cellArea 12 = .ok (.iadd, 1) := by decide +kernel
theorem dX2_cellArea_13 : decode cX2_cellArea 13 = .ok (.i2l, 1) := by decide +kernel
theorem dX2_cellArea_14 : decode cX2_cellArea 14 = .ok (.lstore_n 2, 1) := by decide +kernel
theorem dX2_cellArea_15 : decode cX2_cellArea 15 = .ok (.lload_n 2, 1) := by decide +kernel
theorem dX2_cellArea_16 : decode cX2_cellArea 16 = .ok (.aload_n 0, 1) := by decide +kernel
theorem dX2_cellArea_17 : decode cX2_cellArea 17 = .ok (.iload_n 1, 1) := by decide +kernel
theorem dX2_cellArea_18 : decode cX2_cellArea 18 = .ok (.iconst 1, 1) := by decide +kernel
theorem dX2_cellArea_19 : decode cX2_cellArea 19 = .ok (.iadd, 1) := by decide +kernel
theorem dX2_cellArea_20 : decode cX2_cellArea 20 = .ok (.invokevirtual 31, 3) := by decide +kernel
theorem dX2_cellArea_23 : decode cX2_cellArea 23 = .ok (.aload_n 0, 1) := by decide +kernel
theorem dX2_cellArea_24 : decode cX2_cellArea 24 = .ok (.iload_n 1, 1) := by decide +kernel
theorem dX2_cellArea_25 : decode cX2_cellArea 25 = .ok (.invokevirtual 31, 3) := by decide +kernel
theorem dX2_cellArea_28 : decode cX2_cellArea 28 = .ok (.isub, 1) := by decide +kernel
theorem dX2_cellArea_29 : decode cX2_cellArea 29 = .ok (.i2l, 1) := by decide +kernel
theorem dX2_cellArea_30 : decode cX2_cellArea 30 = .ok (.lmul, 1) := by decide +kernel
theorem dX2_cellArea_31 : decode cX2_cellArea 31 = .ok (.lreturn, 1) := by decide +kernel
theorem dX2_bandArea_0 : decode cX2_bandArea 0 = .ok (.aload_n 0, 1) := by decide +kernel
theorem dX2_bandArea_1 : decode cX2_bandArea 1 = .ok (.getfield 9, 3) := by decide +kernel
theorem dX2_bandArea_4 : decode cX2_bandArea 4 = .ok (.iload_n 1, 1) := by decide +kernel
theorem dX2_bandArea_5 : decode cX2_bandArea 5 = .ok (.invokestatic 18, 3) := by decide +kernel
theorem dX2_bandArea_8 : decode cX2_bandArea 8 = .ok (.aload_n 0, 1) := by decide +kernel
theorem dX2_bandArea_9 : decode cX2_bandArea 9 = .ok (.getfield 9, 3) := by decide +kernel
theorem dX2_bandArea_12 : decode cX2_bandArea 12 = .ok (.iload_n 1, 1) := by decide +kernel
theorem dX2_bandArea_13 : decode cX2_bandArea 13 = .ok (.iconst 1, 1) := by decide +kernel
theorem dX2_bandArea_14 : decode cX2_bandArea 14 = .ok (.iadd, 1) := by decide +kernel
theorem dX2_bandArea_15 : decode cX2_bandArea 15 = .ok (.invokestatic 18, 3) := by decide +kernel
theorem dX2_bandArea_18 : decode cX2_bandArea 18 = .ok (.iadd, 1) := by decide +kernel
theorem dX2_bandArea_19 : decode cX2_bandArea 19 = .ok (.i2l, 1) := by decide +kernel
theorem dX2_bandArea_20 : decode cX2_bandArea 20 = .ok (.lstore_n 2, 1) := by decide +kernel
theorem dX2_bandArea_21 : decode cX2_bandArea 21 = .ok (.aload_n 0, 1) := by decide +kernel
theorem dX2_bandArea_22 : decode cX2_bandArea 22 = .ok (.getfield 15, 3) := by decide +kernel
theorem dX2_bandArea_25 : decode cX2_bandArea 25 = .ok (.iload_n 1, 1) := by decide +kernel
theorem dX2_bandArea_26 : decode cX2_bandArea 26 = .ok (.iconst 1, 1) := by decide +kernel
theorem dX2_bandArea_27 : decode cX2_bandArea 27 = .ok (.iadd, 1) := by decide +kernel
theorem dX2_bandArea_28 : decode cX2_bandArea 28 = .ok (.invokestatic 18, 3) := by decide +kernel
theorem dX2_bandArea_31 : decode cX2_bandArea 31 = .ok (.aload_n 0, 1) := by decide +kernel
theorem dX2_bandArea_32 : decode cX2_bandArea 32 = .ok (.getfield 15, 3) := by decide +kernel
theorem dX2_bandArea_35 : decode cX2_bandArea 35 = .ok (.iload_n 1, 1) := by decide +kernel
theorem dX2_bandArea_36 : decode cX2_bandArea 36 = .ok (.invokestatic 18, 3) := by decide +kernel
theorem dX2_bandArea_39 : decode cX2_bandArea 39 = .ok (.isub, 1) := by decide +kernel
theorem dX2_bandArea_40 : decode cX2_bandArea 40 = .ok (.i2l, 1) := by decide +kernel
theorem dX2_bandArea_41 : decode cX2_bandArea 41 = .ok (.lstore 4, 2) := by decide +kernel
theorem dX2_bandArea_43 : decode cX2_bandArea 43 = .ok (.ldc2_w 41, 3) := by decide +kernel
theorem dX2_bandArea_46 : decode cX2_bandArea 46 = .ok (.lload_n 2, 1) := by decide +kernel
theorem dX2_bandArea_47 : decode cX2_bandArea 47 = .ok (.lmul, 1) := by decide +kernel
theorem dX2_bandArea_48 : decode cX2_bandArea 48 = .ok (.lload 4, 2) := by decide +kernel
theorem dX2_bandArea_50 : decode cX2_bandArea 50 = .ok (.lmul, 1) := by decide +kernel
theorem dX2_bandArea_51 : decode cX2_bandArea 51 = .ok (.lreturn, 1) := by decide +kernel
theorem dX2_tenTimesAt_0 : decode cX2_tenTimesAt 0 = .ok (.iload_n 1, 1) := by decide +kernel
theorem dX2_tenTimesAt_1 : decode cX2_tenTimesAt 1 = .ok (.bipush 10, 2) := by decide +kernel
theorem dX2_tenTimesAt_3 : decode cX2_tenTimesAt 3 = .ok (.idiv, 1) := by decide +kernel
theorem dX2_tenTimesAt_4 : decode cX2_tenTimesAt 4 = .ok (.istore_n 2, 1) := by decide +kernel
theorem dX2_tenTimesAt_5 : decode cX2_tenTimesAt 5 = .ok (.iload_n 1, 1) := by decide +kernel
theorem dX2_tenTimesAt_6 : decode cX2_tenTimesAt 6 = .ok (.bipush 10, 2) := by decide +kernel
theorem dX2_tenTimesAt_8 : decode cX2_tenTimesAt 8 = .ok (.irem, 1) := by decide +kernel
theorem dX2_tenTimesAt_9 : decode cX2_tenTimesAt 9 = .ok (.istore_n 3, 1) := by decide +kernel
theorem dX2_tenTimesAt_10 : decode cX2_tenTimesAt 10 = .ok (.bipush 10, 2) := by decide +kernel
theorem dX2_tenTimesAt_12 : decode cX2_tenTimesAt 12 = .ok (.iload_n 3, 1) := by decide +kernel
theorem dX2_tenTimesAt_13 : decode cX2_tenTimesAt 13 = .ok (.isub, 1) := by decide +kernel
theorem dX2_tenTimesAt_14 : decode cX2_tenTimesAt 14 = .ok (.aload_n 0, 1) := by decide +kernel
theorem dX2_tenTimesAt_15 : decode cX2_tenTimesAt 15 = .ok (.iload_n 2, 1) := by decide +kernel
theorem dX2_tenTimesAt_16 : decode cX2_tenTimesAt 16 = .ok (.invokestatic 18, 3) := by decide +kernel
theorem dX2_tenTimesAt_19 : decode cX2_tenTimesAt 19 = .ok (.imul, 1) := by decide +kernel
theorem dX2_tenTimesAt_20 : decode cX2_tenTimesAt 20 = .ok (.iload_n 3, 1) := by decide +kernel
theorem dX2_tenTimesAt_21 : decode cX2_tenTimesAt 21 = .ok (.aload_n 0, 1) := by decide +kernel
theorem dX2_tenTimesAt_22 : decode cX2_tenTimesAt 22 = .ok (.iload_n 2, 1) := by decide +kernel
theorem dX2_tenTimesAt_23 : decode cX2_tenTimesAt 23 = .ok (.iconst 1, 1) := by decide +kernel
theorem dX2_tenTimesAt_24 : decode cX2_tenTimesAt 24 = .ok (.iadd, 1) := by decide +kernel
theorem dX2_tenTimesAt_25 : decode cX2_tenTimesAt 25 = .ok (.invokestatic 18, 3) := by decide +kernel
theorem dX2_tenTimesAt_28 : decode cX2_tenTimesAt 28 = .ok (.imul, 1) := by decide +kernel
theorem dX2_tenTimesAt_29 : decode cX2_tenTimesAt 29 = .ok (.iadd, 1) := by decide +kernel
theorem dX2_tenTimesAt_30 : decode cX2_tenTimesAt 30 = .ok (.ireturn, 1) := by decide +kernel
theorem dX2_valueAt_0 : decode cX2_valueAt 0 = .ok (.iload_n 1, 1) := by decide +kernel
theorem dX2_valueAt_1 : decode cX2_valueAt 1 = .ok (.ifCond .lt 15, 3) := by decide +kernel
theorem dX2_valueAt_4 : decode cX2_valueAt 4 = .ok (.iload_n 1, 1) := by decide +kernel
theorem dX2_valueAt_5 : decode cX2_valueAt 5 = .ok (.aload_n 0, 1) := by decide +kernel
theorem dX2_valueAt_6 : decode cX2_valueAt 6 = .ok (.arraylength, 1) := by decide +kernel
theorem dX2_valueAt_7 : decode cX2_valueAt 7 = .ok (.if_icmp .ge 9, 3) := by decide +kernel
theorem dX2_valueAt_10 : decode cX2_valueAt 10 = .ok (.aload_n 0, 1) := by decide +kernel
theorem dX2_valueAt_11 : decode cX2_valueAt 11 = .ok (.iload_n 1, 1) := by decide +kernel
theorem dX2_valueAt_12 : decode cX2_valueAt 12 = .ok (.iaload, 1) := by decide +kernel
theorem dX2_valueAt_13 : decode cX2_valueAt 13 = .ok (.goto 4, 3) := by decide +kernel
theorem dX2_valueAt_16 : decode cX2_valueAt 16 = .ok (.iconst 0, 1) := by decide +kernel
theorem dX2_valueAt_17 : decode cX2_valueAt 17 = .ok (.ireturn, 1) := by decide +kernel
theorem dX3_init_0 : decode cX3_init 0 = .ok (.aload_n 0, 1) := by decide +kernel
theorem dX3_init_1 : decode cX3_init 1 = .ok (.invokespecial 3, 3) := by decide +kernel
theorem dX3_init_4 : decode cX3_init 4 = .ok (.aload_n 0, 1) := by decide +kernel
theorem dX3_init_5 : decode cX3_init 5 = .ok (.bipush 15, 2) := by decide +kernel
theorem dX3_init_7 : decode cX3_init 7 = .ok (.putfield 9, 3) := by decide +kernel
theorem dX3_init_10 : decode cX3_init 10 = .ok (.return_, 1) := by decide +kernel
theorem dX3_replaceBreadth_0 : decode cX3_replaceBreadth 0 = .ok (.aload_n 0, 1) := by decide +kernel
theorem dX3_replaceBreadth_1 : decode cX3_replaceBreadth 1 = .ok (.getfield 9, 3) := by decide +kernel
theorem dX3_replaceBreadth_4 : decode cX3_replaceBreadth 4 = .ok (.istore_n 2, 1) := by decide +kernel
theorem dX3_replaceBreadth_5 : decode cX3_replaceBreadth 5 = .ok (.aload_n 0, 1) := by decide +kernel
theorem dX3_replaceBreadth_6 : decode cX3_replaceBreadth 6 = .ok (.iload_n 1, 1) := by decide +kernel
theorem dX3_replaceBreadth_7 : decode cX3_replaceBreadth 7 = .ok (.putfield 9, 3) := by decide +kernel
theorem dX3_replaceBreadth_10 : decode cX3_replaceBreadth 10 = .ok (.iload_n 2, 1) := by decide +kernel
theorem dX3_replaceBreadth_11 : decode cX3_replaceBreadth 11 = .ok (.ireturn, 1) := by decide +kernel
theorem dX3_zonesBefore_0 : decode cX3_zonesBefore 0 = .ok (.aload_n 0, 1) := by decide +kernel
theorem dX3_zonesBefore_1 : decode cX3_zonesBefore 1 = .ok (.getfield 9, 3) := by decide +kernel
theorem dX3_zonesBefore_4 : decode cX3_zonesBefore 4 = .ok (.iconst 1, 1) := by decide +kernel
theorem dX3_zonesBefore_5 : decode cX3_zonesBefore 5 = .ok (.if_icmp .ge 7, 3) := by decide +kernel
theorem dX3_zonesBefore_8 : decode cX3_zonesBefore 8 = .ok (.iconst 0, 1) := by decide +kernel
theorem dX3_zonesBefore_9 : decode cX3_zonesBefore 9 = .ok (.goto 13, 3) := by decide +kernel
theorem dX3_zonesBefore_12 : decode cX3_zonesBefore 12 = .ok (.iload_n 1, 1) := by decide +kernel
theorem dX3_zonesBefore_13 : decode cX3_zonesBefore 13 = .ok (.sipush (-180), 3) := by decide +kernel
theorem dX3_zonesBefore_16 : decode cX3_zonesBefore 16 = .ok (.isub, 1) := by decide +kernel
theorem dX3_zonesBefore_17 : decode cX3_zonesBefore 17 = .ok (.aload_n 0, 1) := by decide +kernel
theorem dX3_zonesBefore_18 : decode cX3_zonesBefore 18 = .ok (.getfield 9, 3) := by decide +kernel
theorem dX3_zonesBefore_21 : decode cX3_zonesBefore 21 = .ok (.idiv, 1) := by decide +kernel
theorem dX3_zonesBefore_22 : decode cX3_zonesBefore 22 = .ok (.ireturn, 1) := by decide +kernel
theorem dX3_seamsEastOf_0 : decode cX3_seamsEastOf 0 = .ok (.aload_n 0, 1) := by decide +kernel
theorem dX3_seamsEastOf_1 : decode cX3_seamsEastOf 1 = .ok (.iload_n 1, 1) := by decide +kernel
theorem dX3_seamsEastOf_2 : decode cX3_seamsEastOf 2 = .ok (.iload_n 2, 1) := by decide +kernel
theorem dX3_seamsEastOf_3 : decode cX3_seamsEastOf 3 = .ok (.iadd, 1) := by decide +kernel
theorem dX3_seamsEastOf_4 : decode cX3_seamsEastOf 4 = .ok (.invokevirtual 15, 3) := by decide +kernel
theorem dX3_seamsEastOf_7 : decode cX3_seamsEastOf 7 = .ok (.aload_n 0, 1) := by decide +kernel
theorem dX3_seamsEastOf_8 : decode cX3_seamsEastOf 8 = .ok (.iload_n 1, 1) := by decide +kernel
theorem dX3_seamsEastOf_9 : decode cX3_seamsEastOf 9 = .ok (.invokevirtual 15, 3) := by decide +kernel
theorem dX3_seamsEastOf_12 : decode cX3_seamsEastOf 12 = .ok (.isub, 1) := by decide +kernel
theorem dX3_seamsEastOf_13 : decode cX3_seamsEastOf 13 = .ok (.ireturn, 1) := by decide +kernel
theorem dX4_init_0 : decode cX4_init 0 = .ok (.aload_n 0, 1) := by decide +kernel
theorem dX4_init_1 : decode cX4_init 1 = .ok (.invokespecial 1, 3) := by decide +kernel
theorem dX4_init_4 : decode cX4_init 4 = .ok (.aload_n 0, 1) := by decide +kernel
theorem dX4_init_5 : decode cX4_init 5 = .ok (.new 7, 3) := by decide +kernel
theorem dX4_init_8 : decode cX4_init 8 = .ok (.dup, 1) := by decide +kernel
theorem dX4_init_9 : decode cX4_init 9 = .ok (.invokespecial 9, 3) := by decide +kernel
theorem dX4_init_12 : decode cX4_init 12 = .ok (.putfield 10, 3) := by decide +kernel
theorem dX4_init_15 : decode cX4_init 15 = .ok (.aload_n 0, 1) := by decide +kernel
theorem dX4_init_16 : decode cX4_init 16 = .ok (.new 16, 3) := by decide +kernel
theorem dX4_init_19 : decode cX4_init 19 = .ok (.dup, 1) := by decide +kernel
theorem dX4_init_20 : decode cX4_init 20 = .ok (.invokespecial 18, 3) := by decide +kernel
theorem dX4_init_23 : decode cX4_init 23 = .ok (.putfield 19, 3) := by decide +kernel
theorem dX4_init_26 : decode cX4_init 26 = .ok (.aload_n 0, 1) := by decide +kernel
theorem dX4_init_27 : decode cX4_init 27 = .ok (.new 23, 3) := by decide +kernel
theorem dX4_init_30 : decode cX4_init 30 = .ok (.dup, 1) := by decide +kernel
theorem dX4_init_31 : decode cX4_init 31 = .ok (.invokespecial 25, 3) := by decide +kernel
theorem dX4_init_34 : decode cX4_init 34 = .ok (.putfield 26, 3) := by decide +kernel
theorem dX4_init_37 : decode cX4_init 37 = .ok (.aload_n 0, 1) := by decide +kernel
theorem dX4_init_38 : decode cX4_init 38 = .ok (.new 30, 3) := by decide +kernel
theorem dX4_init_41 : decode cX4_init 41 = .ok (.dup, 1) := by decide +kernel
theorem dX4_init_42 : decode cX4_init 42 = .ok (.invokespecial 32, 3) := by decide +kernel
theorem dX4_init_45 : decode cX4_init 45 = .ok (.putfield 33, 3) := by decide +kernel
theorem dX4_init_48 : decode cX4_init 48 = .ok (.return_, 1) := by decide +kernel
theorem dX4_table_0 : decode cX4_table 0 = .ok (.iload_n 1, 1) := by decide +kernel
theorem dX4_table_1 : decode cX4_table 1 = .ok (.ifCond .lt 9, 3) := by decide +kernel
theorem dX4_table_4 : decode cX4_table 4 = .ok (.iload_n 1, 1) := by decide +kernel
theorem dX4_table_5 : decode cX4_table 5 = .ok (.bipush 10, 2) := by decide +kernel
theorem dX4_table_7 : decode cX4_table 7 = .ok (.if_icmp .lt 13, 3) := by decide +kernel
theorem dX4_table_10 : decode cX4_table 10 = .ok (.new 37, 3) := by decide +kernel
theorem dX4_table_13 : decode cX4_table 13 = .ok (.dup, 1) := by decide +kernel
theorem dX4_table_14 : decode cX4_table 14 = .ok (.ldc 39, 2) := by decide +kernel
theorem dX4_table_16 : decode cX4_table 16 = .ok (.invokespecial 41, 3) := by decide +kernel
theorem dX4_table_19 : decode cX4_table 19 = .ok (.athrow, 1) := by decide +kernel
theorem dX4_table_20 : decode cX4_table 20 = .ok (.iload_n 2, 1) := by decide +kernel
theorem dX4_table_21 : decode cX4_table 21 = .ok (.ifCond .lt 21, 3) := by decide +kernel
theorem dX4_table_24 : decode cX4_table 24 = .ok (.iload_n 2, 1) := by decide +kernel
theorem dX4_table_25 : decode cX4_table 25 = .ok (.sipush 1000, 3) := by decide +kernel
theorem dX4_table_28 : decode cX4_table 28 = .ok (.if_icmp .gt 14, 3) := by decide +kernel
theorem dX4_table_31 : decode cX4_table 31 = .ok (.iload_n 3, 1) := by decide +kernel
theorem dX4_table_32 : decode cX4_table 32 = .ok (.ifCond .lt 10, 3) := by decide +kernel
theorem dX4_table_35 : decode cX4_table 35 = .ok (.iload_n 3, 1) := by decide +kernel
theorem dX4_table_36 : decode cX4_table 36 = .ok (.sipush 9999, 3) := by decide +kernel
theorem dX4_table_39 : decode cX4_table 39 = .ok (.if_icmp .le 13, 3) := by decide +kernel
theorem dX4_table_42 : decode cX4_table 42 = .ok (.new 44, 3) := by decide +kernel
theorem dX4_table_45 : decode cX4_table 45 = .ok (.dup, 1) := by decide +kernel
theorem dX4_table_46 : decode cX4_table 46 = .ok (.ldc 46, 2) := by decide +kernel
theorem dX4_table_48 : decode cX4_table 48 = .ok (.invokespecial 48, 3) := by decide +kernel
theorem dX4_table_51 : decode cX4_table 51 = .ok (.athrow, 1) := by decide +kernel
theorem dX4_table_52 : decode cX4_table 52 = .ok (.aload_n 0, 1) := by decide +kernel
theorem dX4_table_53 : decode cX4_table 53 = .ok (.getfield 10, 3) := by decide +kernel
theorem dX4_table_56 : decode cX4_table 56 = .ok (.iload_n 1, 1) := by decide +kernel

theorem dX0_init_0 : decode cX0_init 0 = .ok (.aload_n 0, 1) := by decide +kernel
theorem dX0_init_1 : decode cX0_init 1 = .ok (.invokespecial 3, 3) := by decide +kernel
theorem dX0_init_4 : decode cX0_init 4 = .ok (.aload_n 0, 1) := by decide +kernel
theorem dX0_init_5 : decode cX0_init 5 = .ok (.sipush 1200, 3) := by decide +kernel
theorem dX0_init_8 : decode cX0_init 8 = .ok (.newarray .int, 2) := by decide +kernel
theorem dX0_init_10 : decode cX0_init 10 = .ok (.putfield 9, 3) := by decide +kernel
theorem dX0_init_13 : decode cX0_init 13 = .ok (.return_, 1) := by decide +kernel
theorem dX6_init_0 : decode cX6_init 0 = .ok (.aload_n 0, 1) := by decide +kernel
theorem dX6_init_1 : decode cX6_init 1 = .ok (.invokespecial 3, 3) := by decide +kernel
theorem dX6_init_4 : decode cX6_init 4 = .ok (.aload_n 0, 1) := by decide +kernel
theorem dX6_init_5 : decode cX6_init 5 = .ok (.iconst (-1), 1) := by decide +kernel
theorem dX6_init_6 : decode cX6_init 6 = .ok (.putfield 9, 3) := by decide +kernel
theorem dX6_init_9 : decode cX6_init 9 = .ok (.aload_n 0, 1) := by decide +kernel
theorem dX6_init_10 : decode cX6_init 10 = .ok (.sipush 200, 3) := by decide +kernel
theorem dX6_init_13 : decode cX6_init 13 = .ok (.newarray .int, 2) := by decide +kernel
theorem dX6_init_15 : decode cX6_init 15 = .ok (.putfield 15, 3) := by decide +kernel
theorem dX6_init_18 : decode cX6_init 18 = .ok (.aload_n 0, 1) := by decide +kernel
theorem dX6_init_19 : decode cX6_init 19 = .ok (.sipush 200, 3) := by decide +kernel
theorem dX6_init_22 : decode cX6_init 22 = .ok (.newarray .int, 2) := by decide +kernel
theorem dX6_init_24 : decode cX6_init 24 = .ok (.putfield 19, 3) := by decide +kernel
theorem dX6_init_27 : decode cX6_init 27 = .ok (.aload_n 0, 1) := by decide +kernel
theorem dX6_init_28 : decode cX6_init 28 = .ok (.sipush 200, 3) := by decide +kernel
theorem dX6_init_31 : decode cX6_init 31 = .ok (.newarray .int, 2) := by decide +kernel
theorem dX6_init_33 : decode cX6_init 33 = .ok (.putfield 22, 3) := by decide +kernel
theorem dX6_init_36 : decode cX6_init 36 = .ok (.aload_n 0, 1) := by decide +kernel
theorem dX6_init_37 : decode cX6_init 37 = .ok (.sipush 200, 3) := by decide +kernel
theorem dX6_init_40 : decode cX6_init 40 = .ok (.newarray .int, 2) := by decide +kernel
theorem dX6_init_42 : decode cX6_init 42 = .ok (.putfield 25, 3) := by decide +kernel
theorem dX6_init_45 : decode cX6_init 45 = .ok (.aload_n 0, 1) := by decide +kernel
theorem dX6_init_46 : decode cX6_init 46 = .ok (.sipush 200, 3) := by decide +kernel
theorem dX6_init_49 : decode cX6_init 49 = .ok (.newarray .int, 2) := by decide +kernel
theorem dX6_init_51 : decode cX6_init 51 = .ok (.putfield 28, 3) := by decide +kernel
theorem dX6_init_54 : decode cX6_init 54 = .ok (.aload_n 0, 1) := by decide +kernel
theorem dX6_init_55 : decode cX6_init 55 = .ok (.sipush 200, 3) := by decide +kernel
theorem dX6_init_58 : decode cX6_init 58 = .ok (.newarray .int, 2) := by decide +kernel
theorem dX6_init_60 : decode cX6_init 60 = .ok (.putfield 31, 3) := by decide +kernel
theorem dX6_init_63 : decode cX6_init 63 = .ok (.aload_n 0, 1) := by decide +kernel
theorem dX6_init_64 : decode cX6_init 64 = .ok (.sipush 200, 3) := by decide +kernel
theorem dX6_init_67 : decode cX6_init 67 = .ok (.newarray .int, 2) := by decide +kernel
theorem dX6_init_69 : decode cX6_init 69 = .ok (.putfield 34, 3) := by decide +kernel
theorem dX6_init_72 : decode cX6_init 72 = .ok (.return_, 1) := by decide +kernel
theorem dX4_init_0 : decode cX4_init 0 = .ok (.aload_n 0, 1) := by decide +kernel
theorem dX4_init_1 : decode cX4_init 1 = .ok (.invokespecial 3, 3) := by decide +kernel
theorem dX4_init_4 : decode cX4_init 4 = .ok (.aload_n 0, 1) := by decide +kernel
theorem dX4_init_5 : decode cX4_init 5 = .ok (.sipush 3000, 3) := by decide +kernel
theorem dX4_init_8 : decode cX4_init 8 = .ok (.newarray .int, 2) := by decide +kernel
theorem dX4_init_10 : decode cX4_init 10 = .ok (.putfield 9, 3) := by decide +kernel
theorem dX4_init_13 : decode cX4_init 13 = .ok (.aload_n 0, 1) := by decide +kernel
theorem dX4_init_14 : decode cX4_init 14 = .ok (.sipush 3000, 3) := by decide +kernel
theorem dX4_init_17 : decode cX4_init 17 = .ok (.newarray .int, 2) := by decide +kernel
theorem dX4_init_19 : decode cX4_init 19 = .ok (.putfield 15, 3) := by decide +kernel
theorem dX4_init_22 : decode cX4_init 22 = .ok (.aload_n 0, 1) := by decide +kernel
theorem dX4_init_23 : decode cX4_init 23 = .ok (.sipush 3000, 3) := by decide +kernel
theorem dX4_init_26 : decode cX4_init 26 = .ok (.newarray .int, 2) := by decide +kernel
theorem dX4_init_28 : decode cX4_init 28 = .ok (.putfield 18, 3) := by decide +kernel
theorem dX4_init_31 : decode cX4_init 31 = .ok (.aload_n 0, 1) := by decide +kernel
theorem dX4_init_32 : decode cX4_init 32 = .ok (.sipush 3000, 3) := by decide +kernel
theorem dX4_init_35 : decode cX4_init 35 = .ok (.newarray .int, 2) := by decide +kernel
theorem dX4_init_37 : decode cX4_init 37 = .ok (.putfield 21, 3) := by decide +kernel
theorem dX4_init_40 : decode cX4_init 40 = .ok (.return_, 1) := by decide +kernel
theorem dX3_init_0 : decode cX3_init 0 = .ok (.aload_n 0, 1) := by decide +kernel
theorem dX3_init_1 : decode cX3_init 1 = .ok (.invokespecial 3, 3) := by decide +kernel
theorem dX3_init_4 : decode cX3_init 4 = .ok (.aload_n 0, 1) := by decide +kernel
theorem dX3_init_5 : decode cX3_init 5 = .ok (.sipush 416, 3) := by decide +kernel
theorem dX3_init_8 : decode cX3_init 8 = .ok (.newarray .int, 2) := by decide +kernel
theorem dX3_init_10 : decode cX3_init 10 = .ok (.putfield 9, 3) := by decide +kernel
theorem dX3_init_13 : decode cX3_init 13 = .ok (.aload_n 0, 1) := by decide +kernel
theorem dX3_init_14 : decode cX3_init 14 = .ok (.sipush 416, 3) := by decide +kernel
theorem dX3_init_17 : decode cX3_init 17 = .ok (.newarray .int, 2) := by decide +kernel
theorem dX3_init_19 : decode cX3_init 19 = .ok (.putfield 15, 3) := by decide +kernel
theorem dX3_init_22 : decode cX3_init 22 = .ok (.aload_n 0, 1) := by decide +kernel
theorem dX3_init_23 : decode cX3_init 23 = .ok (.sipush 416, 3) := by decide +kernel
theorem dX3_init_26 : decode cX3_init 26 = .ok (.newarray .int, 2) := by decide +kernel
theorem dX3_init_28 : decode cX3_init 28 = .ok (.putfield 18, 3) := by decide +kernel
theorem dX3_init_31 : decode cX3_init 31 = .ok (.aload_n 0, 1) := by decide +kernel
theorem dX3_init_32 : decode cX3_init 32 = .ok (.sipush 416, 3) := by decide +kernel
theorem dX3_init_35 : decode cX3_init 35 = .ok (.newarray .int, 2) := by decide +kernel
theorem dX3_init_37 : decode cX3_init 37 = .ok (.putfield 21, 3) := by decide +kernel
theorem dX3_init_40 : decode cX3_init 40 = .ok (.aload_n 0, 1) := by decide +kernel
theorem dX3_init_41 : decode cX3_init 41 = .ok (.sipush 1248, 3) := by decide +kernel
theorem dX3_init_44 : decode cX3_init 44 = .ok (.newarray .long, 2) := by decide +kernel
theorem dX3_init_46 : decode cX3_init 46 = .ok (.putfield 24, 3) := by decide +kernel
theorem dX3_init_49 : decode cX3_init 49 = .ok (.return_, 1) := by decide +kernel
theorem dX10_init_0 : decode cX10_init 0 = .ok (.aload_n 0, 1) := by decide +kernel
theorem dX10_init_1 : decode cX10_init 1 = .ok (.invokespecial 3, 3) := by decide +kernel
theorem dX10_init_4 : decode cX10_init 4 = .ok (.aload_n 0, 1) := by decide +kernel
theorem dX10_init_5 : decode cX10_init 5 = .ok (.bipush 24, 2) := by decide +kernel
theorem dX10_init_7 : decode cX10_init 7 = .ok (.newarray .long, 2) := by decide +kernel
theorem dX10_init_9 : decode cX10_init 9 = .ok (.putfield 9, 3) := by decide +kernel
theorem dX10_init_12 : decode cX10_init 12 = .ok (.aload_n 0, 1) := by decide +kernel
theorem dX10_init_13 : decode cX10_init 13 = .ok (.bipush 24, 2) := by decide +kernel
theorem dX10_init_15 : decode cX10_init 15 = .ok (.newarray .int, 2) := by decide +kernel
theorem dX10_init_17 : decode cX10_init 17 = .ok (.putfield 15, 3) := by decide +kernel
theorem dX10_init_20 : decode cX10_init 20 = .ok (.aload_n 0, 1) := by decide +kernel
theorem dX10_init_21 : decode cX10_init 21 = .ok (.bipush 24, 2) := by decide +kernel
theorem dX10_init_23 : decode cX10_init 23 = .ok (.newarray .int, 2) := by decide +kernel
theorem dX10_init_25 : decode cX10_init 25 = .ok (.putfield 19, 3) := by decide +kernel
theorem dX10_init_28 : decode cX10_init 28 = .ok (.aload_n 0, 1) := by decide +kernel
theorem dX10_init_29 : decode cX10_init 29 = .ok (.bipush 48, 2) := by decide +kernel
theorem dX10_init_31 : decode cX10_init 31 = .ok (.newarray .int, 2) := by decide +kernel
theorem dX10_init_33 : decode cX10_init 33 = .ok (.putfield 22, 3) := by decide +kernel
theorem dX10_init_36 : decode cX10_init 36 = .ok (.aload_n 0, 1) := by decide +kernel
theorem dX10_init_37 : decode cX10_init 37 = .ok (.sipush 4800, 3) := by decide +kernel
theorem dX10_init_40 : decode cX10_init 40 = .ok (.newarray .int, 2) := by decide +kernel
theorem dX10_init_42 : decode cX10_init 42 = .ok (.putfield 25, 3) := by decide +kernel
theorem dX10_init_45 : decode cX10_init 45 = .ok (.return_, 1) := by decide +kernel
theorem dX2_init_0 : decode cX2_init 0 = .ok (.aload_n 0, 1) := by decide +kernel
theorem dX2_init_1 : decode cX2_init 1 = .ok (.invokespecial 3, 3) := by decide +kernel
theorem dX2_init_4 : decode cX2_init 4 = .ok (.aload_n 0, 1) := by decide +kernel
theorem dX2_init_5 : decode cX2_init 5 = .ok (.bipush 100, 2) := by decide +kernel
theorem dX2_init_7 : decode cX2_init 7 = .ok (.newarray .int, 2) := by decide +kernel
theorem dX2_init_9 : decode cX2_init 9 = .ok (.putfield 9, 3) := by decide +kernel
theorem dX2_init_12 : decode cX2_init 12 = .ok (.aload_n 0, 1) := by decide +kernel
theorem dX2_init_13 : decode cX2_init 13 = .ok (.bipush 100, 2) := by decide +kernel
theorem dX2_init_15 : decode cX2_init 15 = .ok (.newarray .int, 2) := by decide +kernel
theorem dX2_init_17 : decode cX2_init 17 = .ok (.putfield 15, 3) := by decide +kernel
theorem dX2_init_20 : decode cX2_init 20 = .ok (.aload_n 0, 1) := by decide +kernel
theorem dX2_init_21 : decode cX2_init 21 = .ok (.bipush 100, 2) := by decide +kernel
theorem dX2_init_23 : decode cX2_init 23 = .ok (.newarray .int, 2) := by decide +kernel
theorem dX2_init_25 : decode cX2_init 25 = .ok (.putfield 18, 3) := by decide +kernel
theorem dX2_init_28 : decode cX2_init 28 = .ok (.aload_n 0, 1) := by decide +kernel
theorem dX2_init_29 : decode cX2_init 29 = .ok (.bipush 100, 2) := by decide +kernel
theorem dX2_init_31 : decode cX2_init 31 = .ok (.newarray .int, 2) := by decide +kernel
theorem dX2_init_33 : decode cX2_init 33 = .ok (.putfield 21, 3) := by decide +kernel
theorem dX2_init_36 : decode cX2_init 36 = .ok (.aload_n 0, 1) := by decide +kernel
theorem dX2_init_37 : decode cX2_init 37 = .ok (.bipush 100, 2) := by decide +kernel
theorem dX2_init_39 : decode cX2_init 39 = .ok (.newarray .int, 2) := by decide +kernel
theorem dX2_init_41 : decode cX2_init 41 = .ok (.putfield 24, 3) := by decide +kernel
theorem dX2_init_44 : decode cX2_init 44 = .ok (.aload_n 0, 1) := by decide +kernel
theorem dX2_init_45 : decode cX2_init 45 = .ok (.bipush 100, 2) := by decide +kernel
theorem dX2_init_47 : decode cX2_init 47 = .ok (.newarray .int, 2) := by decide +kernel
theorem dX2_init_49 : decode cX2_init 49 = .ok (.putfield 27, 3) := by decide +kernel
theorem dX2_init_52 : decode cX2_init 52 = .ok (.aload_n 0, 1) := by decide +kernel
theorem dX2_init_53 : decode cX2_init 53 = .ok (.bipush 100, 2) := by decide +kernel
theorem dX2_init_55 : decode cX2_init 55 = .ok (.newarray .int, 2) := by decide +kernel
theorem dX2_init_57 : decode cX2_init 57 = .ok (.putfield 30, 3) := by decide +kernel
theorem dX2_init_60 : decode cX2_init 60 = .ok (.aload_n 0, 1) := by decide +kernel
theorem dX2_init_61 : decode cX2_init 61 = .ok (.sipush 200, 3) := by decide +kernel
theorem dX2_init_64 : decode cX2_init 64 = .ok (.newarray .int, 2) := by decide +kernel
theorem dX2_init_66 : decode cX2_init 66 = .ok (.putfield 33, 3) := by decide +kernel
theorem dX2_init_69 : decode cX2_init 69 = .ok (.aload_n 0, 1) := by decide +kernel
theorem dX2_init_70 : decode cX2_init 70 = .ok (.sipush 200, 3) := by decide +kernel
theorem dX2_init_73 : decode cX2_init 73 = .ok (.newarray .int, 2) := by decide +kernel
theorem dX2_init_75 : decode cX2_init 75 = .ok (.putfield 36, 3) := by decide +kernel
theorem dX2_init_78 : decode cX2_init 78 = .ok (.aload_n 0, 1) := by decide +kernel
theorem dX2_init_79 : decode cX2_init 79 = .ok (.sipush 200, 3) := by decide +kernel
theorem dX2_init_82 : decode cX2_init 82 = .ok (.newarray .int, 2) := by decide +kernel
theorem dX2_init_84 : decode cX2_init 84 = .ok (.putfield 39, 3) := by decide +kernel
theorem dX2_init_87 : decode cX2_init 87 = .ok (.return_, 1) := by decide +kernel
theorem dX8_init_0 : decode cX8_init 0 = .ok (.aload_n 0, 1) := by decide +kernel
theorem dX8_init_1 : decode cX8_init 1 = .ok (.invokespecial 3, 3) := by decide +kernel
theorem dX8_init_4 : decode cX8_init 4 = .ok (.aload_n 0, 1) := by decide +kernel
theorem dX8_init_5 : decode cX8_init 5 = .ok (.bipush 20, 2) := by decide +kernel
theorem dX8_init_7 : decode cX8_init 7 = .ok (.newarray .long, 2) := by decide +kernel
theorem dX8_init_9 : decode cX8_init 9 = .ok (.putfield 9, 3) := by decide +kernel
theorem dX8_init_12 : decode cX8_init 12 = .ok (.aload_n 0, 1) := by decide +kernel
theorem dX8_init_13 : decode cX8_init 13 = .ok (.bipush 20, 2) := by decide +kernel
theorem dX8_init_15 : decode cX8_init 15 = .ok (.newarray .long, 2) := by decide +kernel
theorem dX8_init_17 : decode cX8_init 17 = .ok (.putfield 15, 3) := by decide +kernel
theorem dX8_init_20 : decode cX8_init 20 = .ok (.return_, 1) := by decide +kernel
theorem dX1_init_0 : decode cX1_init 0 = .ok (.aload_n 0, 1) := by decide +kernel
theorem dX1_init_1 : decode cX1_init 1 = .ok (.invokespecial 3, 3) := by decide +kernel
theorem dX1_init_4 : decode cX1_init 4 = .ok (.aload_n 0, 1) := by decide +kernel
theorem dX1_init_5 : decode cX1_init 5 = .ok (.iconst (-1), 1) := by decide +kernel
theorem dX1_init_6 : decode cX1_init 6 = .ok (.putfield 9, 3) := by decide +kernel
theorem dX1_init_9 : decode cX1_init 9 = .ok (.aload_n 0, 1) := by decide +kernel
theorem dX1_init_10 : decode cX1_init 10 = .ok (.iconst (-1), 1) := by decide +kernel
theorem dX1_init_11 : decode cX1_init 11 = .ok (.putfield 15, 3) := by decide +kernel
theorem dX1_init_14 : decode cX1_init 14 = .ok (.aload_n 0, 1) := by decide +kernel
theorem dX1_init_15 : decode cX1_init 15 = .ok (.bipush 100, 2) := by decide +kernel
theorem dX1_init_17 : decode cX1_init 17 = .ok (.newarray .int, 2) := by decide +kernel
theorem dX1_init_19 : decode cX1_init 19 = .ok (.putfield 18, 3) := by decide +kernel
theorem dX1_init_22 : decode cX1_init 22 = .ok (.aload_n 0, 1) := by decide +kernel
theorem dX1_init_23 : decode cX1_init 23 = .ok (.bipush 100, 2) := by decide +kernel
theorem dX1_init_25 : decode cX1_init 25 = .ok (.newarray .int, 2) := by decide +kernel
theorem dX1_init_27 : decode cX1_init 27 = .ok (.putfield 22, 3) := by decide +kernel
theorem dX1_init_30 : decode cX1_init 30 = .ok (.aload_n 0, 1) := by decide +kernel
theorem dX1_init_31 : decode cX1_init 31 = .ok (.bipush 100, 2) := by decide +kernel
theorem dX1_init_33 : decode cX1_init 33 = .ok (.newarray .int, 2) := by decide +kernel
theorem dX1_init_35 : decode cX1_init 35 = .ok (.putfield 25, 3) := by decide +kernel
theorem dX1_init_38 : decode cX1_init 38 = .ok (.aload_n 0, 1) := by decide +kernel
theorem dX1_init_39 : decode cX1_init 39 = .ok (.sipush 200, 3) := by decide +kernel
theorem dX1_init_42 : decode cX1_init 42 = .ok (.newarray .int, 2) := by decide +kernel
theorem dX1_init_44 : decode cX1_init 44 = .ok (.putfield 28, 3) := by decide +kernel
theorem dX1_init_47 : decode cX1_init 47 = .ok (.aload_n 0, 1) := by decide +kernel
theorem dX1_init_48 : decode cX1_init 48 = .ok (.sipush 200, 3) := by decide +kernel
theorem dX1_init_51 : decode cX1_init 51 = .ok (.newarray .int, 2) := by decide +kernel
theorem dX1_init_53 : decode cX1_init 53 = .ok (.putfield 31, 3) := by decide +kernel
theorem dX1_init_56 : decode cX1_init 56 = .ok (.aload_n 0, 1) := by decide +kernel
theorem dX1_init_57 : decode cX1_init 57 = .ok (.sipush 200, 3) := by decide +kernel
theorem dX1_init_60 : decode cX1_init 60 = .ok (.newarray .int, 2) := by decide +kernel
theorem dX1_init_62 : decode cX1_init 62 = .ok (.putfield 34, 3) := by decide +kernel
theorem dX1_init_65 : decode cX1_init 65 = .ok (.aload_n 0, 1) := by decide +kernel
theorem dX1_init_66 : decode cX1_init 66 = .ok (.bipush 24, 2) := by decide +kernel
theorem dX1_init_68 : decode cX1_init 68 = .ok (.newarray .int, 2) := by decide +kernel
theorem dX1_init_70 : decode cX1_init 70 = .ok (.putfield 37, 3) := by decide +kernel
theorem dX1_init_73 : decode cX1_init 73 = .ok (.aload_n 0, 1) := by decide +kernel
theorem dX1_init_74 : decode cX1_init 74 = .ok (.bipush 24, 2) := by decide +kernel
theorem dX1_init_76 : decode cX1_init 76 = .ok (.newarray .int, 2) := by decide +kernel
theorem dX1_init_78 : decode cX1_init 78 = .ok (.putfield 40, 3) := by decide +kernel
theorem dX1_init_81 : decode cX1_init 81 = .ok (.aload_n 0, 1) := by decide +kernel
theorem dX1_init_82 : decode cX1_init 82 = .ok (.bipush 100, 2) := by decide +kernel
theorem dX1_init_84 : decode cX1_init 84 = .ok (.newarray .int, 2) := by decide +kernel
theorem dX1_init_86 : decode cX1_init 86 = .ok (.putfield 43, 3) := by decide +kernel
theorem dX1_init_89 : decode cX1_init 89 = .ok (.aload_n 0, 1) := by decide +kernel
theorem dX1_init_90 : decode cX1_init 90 = .ok (.bipush 60, 2) := by decide +kernel
theorem dX1_init_92 : decode cX1_init 92 = .ok (.newarray .int, 2) := by decide +kernel
theorem dX1_init_94 : decode cX1_init 94 = .ok (.putfield 46, 3) := by decide +kernel
theorem dX1_init_97 : decode cX1_init 97 = .ok (.aload_n 0, 1) := by decide +kernel
theorem dX1_init_98 : decode cX1_init 98 = .ok (.bipush 60, 2) := by decide +kernel
theorem dX1_init_100 : decode cX1_init 100 = .ok (.newarray .int, 2) := by decide +kernel
theorem dX1_init_102 : decode cX1_init 102 = .ok (.putfield 49, 3) := by decide +kernel
theorem dX1_init_105 : decode cX1_init 105 = .ok (.aload_n 0, 1) := by decide +kernel
theorem dX1_init_106 : decode cX1_init 106 = .ok (.bipush 60, 2) := by decide +kernel
theorem dX1_init_108 : decode cX1_init 108 = .ok (.newarray .int, 2) := by decide +kernel
theorem dX1_init_110 : decode cX1_init 110 = .ok (.putfield 52, 3) := by decide +kernel
theorem dX1_init_113 : decode cX1_init 113 = .ok (.return_, 1) := by decide +kernel
theorem dX5_init_0 : decode cX5_init 0 = .ok (.aload_n 0, 1) := by decide +kernel
theorem dX5_init_1 : decode cX5_init 1 = .ok (.invokespecial 3, 3) := by decide +kernel
theorem dX5_init_4 : decode cX5_init 4 = .ok (.aload_n 0, 1) := by decide +kernel
theorem dX5_init_5 : decode cX5_init 5 = .ok (.new 9, 3) := by decide +kernel
theorem dX5_init_8 : decode cX5_init 8 = .ok (.dup, 1) := by decide +kernel
theorem dX5_init_9 : decode cX5_init 9 = .ok (.invokespecial 11, 3) := by decide +kernel
theorem dX5_init_12 : decode cX5_init 12 = .ok (.putfield 12, 3) := by decide +kernel
theorem dX5_init_15 : decode cX5_init 15 = .ok (.aload_n 0, 1) := by decide +kernel
theorem dX5_init_16 : decode cX5_init 16 = .ok (.new 18, 3) := by decide +kernel
theorem dX5_init_19 : decode cX5_init 19 = .ok (.dup, 1) := by decide +kernel
theorem dX5_init_20 : decode cX5_init 20 = .ok (.invokespecial 20, 3) := by decide +kernel
theorem dX5_init_23 : decode cX5_init 23 = .ok (.putfield 21, 3) := by decide +kernel
theorem dX5_init_26 : decode cX5_init 26 = .ok (.aload_n 0, 1) := by decide +kernel
theorem dX5_init_27 : decode cX5_init 27 = .ok (.new 25, 3) := by decide +kernel
theorem dX5_init_30 : decode cX5_init 30 = .ok (.dup, 1) := by decide +kernel
theorem dX5_init_31 : decode cX5_init 31 = .ok (.invokespecial 27, 3) := by decide +kernel
theorem dX5_init_34 : decode cX5_init 34 = .ok (.putfield 28, 3) := by decide +kernel
theorem dX5_init_37 : decode cX5_init 37 = .ok (.aload_n 0, 1) := by decide +kernel
theorem dX5_init_38 : decode cX5_init 38 = .ok (.new 32, 3) := by decide +kernel
theorem dX5_init_41 : decode cX5_init 41 = .ok (.dup, 1) := by decide +kernel
theorem dX5_init_42 : decode cX5_init 42 = .ok (.invokespecial 34, 3) := by decide +kernel
theorem dX5_init_45 : decode cX5_init 45 = .ok (.putfield 35, 3) := by decide +kernel
theorem dX5_init_48 : decode cX5_init 48 = .ok (.aload_n 0, 1) := by decide +kernel
theorem dX5_init_49 : decode cX5_init 49 = .ok (.new 39, 3) := by decide +kernel
theorem dX5_init_52 : decode cX5_init 52 = .ok (.dup, 1) := by decide +kernel
theorem dX5_init_53 : decode cX5_init 53 = .ok (.invokespecial 41, 3) := by decide +kernel
theorem dX5_init_56 : decode cX5_init 56 = .ok (.putfield 42, 3) := by decide +kernel
theorem dX5_init_59 : decode cX5_init 59 = .ok (.aload_n 0, 1) := by decide +kernel
theorem dX5_init_60 : decode cX5_init 60 = .ok (.new 46, 3) := by decide +kernel
theorem dX5_init_63 : decode cX5_init 63 = .ok (.dup, 1) := by decide +kernel
theorem dX5_init_64 : decode cX5_init 64 = .ok (.invokespecial 48, 3) := by decide +kernel
theorem dX5_init_67 : decode cX5_init 67 = .ok (.putfield 49, 3) := by decide +kernel
theorem dX5_init_70 : decode cX5_init 70 = .ok (.aload_n 0, 1) := by decide +kernel
theorem dX5_init_71 : decode cX5_init 71 = .ok (.new 53, 3) := by decide +kernel
theorem dX5_init_74 : decode cX5_init 74 = .ok (.dup, 1) := by decide +kernel
theorem dX5_init_75 : decode cX5_init 75 = .ok (.invokespecial 55, 3) := by decide +kernel
theorem dX5_init_78 : decode cX5_init 78 = .ok (.putfield 56, 3) := by decide +kernel
theorem dX5_init_81 : decode cX5_init 81 = .ok (.return_, 1) := by decide +kernel
theorem dX7_init_0 : decode cX7_init 0 = .ok (.aload_n 0, 1) := by decide +kernel
theorem dX7_init_1 : decode cX7_init 1 = .ok (.invokespecial 3, 3) := by decide +kernel
theorem dX7_init_4 : decode cX7_init 4 = .ok (.aload_n 0, 1) := by decide +kernel
theorem dX7_init_5 : decode cX7_init 5 = .ok (.iconst 3, 1) := by decide +kernel
theorem dX7_init_6 : decode cX7_init 6 = .ok (.newarray .long, 2) := by decide +kernel
theorem dX7_init_8 : decode cX7_init 8 = .ok (.putfield 9, 3) := by decide +kernel
theorem dX7_init_11 : decode cX7_init 11 = .ok (.aload_n 0, 1) := by decide +kernel
theorem dX7_init_12 : decode cX7_init 12 = .ok (.iconst 3, 1) := by decide +kernel
theorem dX7_init_13 : decode cX7_init 13 = .ok (.newarray .long, 2) := by decide +kernel
theorem dX7_init_15 : decode cX7_init 15 = .ok (.putfield 15, 3) := by decide +kernel
theorem dX7_init_18 : decode cX7_init 18 = .ok (.aload_n 0, 1) := by decide +kernel
theorem dX7_init_19 : decode cX7_init 19 = .ok (.iconst (-1), 1) := by decide +kernel
theorem dX7_init_20 : decode cX7_init 20 = .ok (.putfield 18, 3) := by decide +kernel
theorem dX7_init_23 : decode cX7_init 23 = .ok (.return_, 1) := by decide +kernel
theorem dX9_init_0 : decode cX9_init 0 = .ok (.aload_n 0, 1) := by decide +kernel
theorem dX9_init_1 : decode cX9_init 1 = .ok (.invokespecial 3, 3) := by decide +kernel
theorem dX9_init_4 : decode cX9_init 4 = .ok (.aload_n 0, 1) := by decide +kernel
theorem dX9_init_5 : decode cX9_init 5 = .ok (.bipush 100, 2) := by decide +kernel
theorem dX9_init_7 : decode cX9_init 7 = .ok (.newarray .int, 2) := by decide +kernel
theorem dX9_init_9 : decode cX9_init 9 = .ok (.putfield 9, 3) := by decide +kernel
theorem dX9_init_12 : decode cX9_init 12 = .ok (.aload_n 0, 1) := by decide +kernel
theorem dX9_init_13 : decode cX9_init 13 = .ok (.bipush 100, 2) := by decide +kernel
theorem dX9_init_15 : decode cX9_init 15 = .ok (.newarray .int, 2) := by decide +kernel
theorem dX9_init_17 : decode cX9_init 17 = .ok (.putfield 15, 3) := by decide +kernel
theorem dX9_init_20 : decode cX9_init 20 = .ok (.aload_n 0, 1) := by decide +kernel
theorem dX9_init_21 : decode cX9_init 21 = .ok (.bipush 100, 2) := by decide +kernel
theorem dX9_init_23 : decode cX9_init 23 = .ok (.newarray .int, 2) := by decide +kernel
theorem dX9_init_25 : decode cX9_init 25 = .ok (.putfield 18, 3) := by decide +kernel
theorem dX9_init_28 : decode cX9_init 28 = .ok (.aload_n 0, 1) := by decide +kernel
theorem dX9_init_29 : decode cX9_init 29 = .ok (.bipush 100, 2) := by decide +kernel
theorem dX9_init_31 : decode cX9_init 31 = .ok (.newarray .int, 2) := by decide +kernel
theorem dX9_init_33 : decode cX9_init 33 = .ok (.putfield 21, 3) := by decide +kernel
theorem dX9_init_36 : decode cX9_init 36 = .ok (.aload_n 0, 1) := by decide +kernel
theorem dX9_init_37 : decode cX9_init 37 = .ok (.bipush 100, 2) := by decide +kernel
theorem dX9_init_39 : decode cX9_init 39 = .ok (.newarray .int, 2) := by decide +kernel
theorem dX9_init_41 : decode cX9_init 41 = .ok (.putfield 24, 3) := by decide +kernel
theorem dX9_init_44 : decode cX9_init 44 = .ok (.aload_n 0, 1) := by decide +kernel
theorem dX9_init_45 : decode cX9_init 45 = .ok (.bipush 100, 2) := by decide +kernel
theorem dX9_init_47 : decode cX9_init 47 = .ok (.newarray .int, 2) := by decide +kernel
theorem dX9_init_49 : decode cX9_init 49 = .ok (.putfield 27, 3) := by decide +kernel
theorem dX9_init_52 : decode cX9_init 52 = .ok (.return_, 1) := by decide +kernel
theorem dX11_init_0 : decode cX11_init 0 = .ok (.aload_n 0, 1) := by decide +kernel
theorem dX11_init_1 : decode cX11_init 1 = .ok (.invokespecial 3, 3) := by decide +kernel
theorem dX11_init_4 : decode cX11_init 4 = .ok (.aload_n 0, 1) := by decide +kernel
theorem dX11_init_5 : decode cX11_init 5 = .ok (.new 9, 3) := by decide +kernel
theorem dX11_init_8 : decode cX11_init 8 = .ok (.dup, 1) := by decide +kernel
theorem dX11_init_9 : decode cX11_init 9 = .ok (.invokespecial 11, 3) := by decide +kernel
theorem dX11_init_12 : decode cX11_init 12 = .ok (.putfield 12, 3) := by decide +kernel
theorem dX11_init_15 : decode cX11_init 15 = .ok (.aload_n 0, 1) := by decide +kernel
theorem dX11_init_16 : decode cX11_init 16 = .ok (.new 9, 3) := by decide +kernel
theorem dX11_init_19 : decode cX11_init 19 = .ok (.dup, 1) := by decide +kernel
theorem dX11_init_20 : decode cX11_init 20 = .ok (.invokespecial 11, 3) := by decide +kernel
theorem dX11_init_23 : decode cX11_init 23 = .ok (.putfield 16, 3) := by decide +kernel
theorem dX11_init_26 : decode cX11_init 26 = .ok (.aload_n 0, 1) := by decide +kernel
theorem dX11_init_27 : decode cX11_init 27 = .ok (.new 19, 3) := by decide +kernel
theorem dX11_init_30 : decode cX11_init 30 = .ok (.dup, 1) := by decide +kernel
theorem dX11_init_31 : decode cX11_init 31 = .ok (.invokespecial 21, 3) := by decide +kernel
theorem dX11_init_34 : decode cX11_init 34 = .ok (.putfield 22, 3) := by decide +kernel
theorem dX11_init_37 : decode cX11_init 37 = .ok (.aload_n 0, 1) := by decide +kernel
theorem dX11_init_38 : decode cX11_init 38 = .ok (.iconst 3, 1) := by decide +kernel
theorem dX11_init_39 : decode cX11_init 39 = .ok (.anewarray 19, 3) := by decide +kernel
theorem dX11_init_42 : decode cX11_init 42 = .ok (.putfield 26, 3) := by decide +kernel
theorem dX11_init_45 : decode cX11_init 45 = .ok (.aload_n 0, 1) := by decide +kernel
theorem dX11_init_46 : decode cX11_init 46 = .ok (.new 30, 3) := by decide +kernel
theorem dX11_init_49 : decode cX11_init 49 = .ok (.dup, 1) := by decide +kernel
theorem dX11_init_50 : decode cX11_init 50 = .ok (.invokespecial 32, 3) := by decide +kernel
theorem dX11_init_53 : decode cX11_init 53 = .ok (.putfield 33, 3) := by decide +kernel
theorem dX11_init_56 : decode cX11_init 56 = .ok (.aload_n 0, 1) := by decide +kernel
theorem dX11_init_57 : decode cX11_init 57 = .ok (.new 37, 3) := by decide +kernel
theorem dX11_init_60 : decode cX11_init 60 = .ok (.dup, 1) := by decide +kernel
theorem dX11_init_61 : decode cX11_init 61 = .ok (.invokespecial 39, 3) := by decide +kernel
theorem dX11_init_64 : decode cX11_init 64 = .ok (.putfield 40, 3) := by decide +kernel
theorem dX11_init_67 : decode cX11_init 67 = .ok (.aload_n 0, 1) := by decide +kernel
theorem dX11_init_68 : decode cX11_init 68 = .ok (.bipush 100, 2) := by decide +kernel
theorem dX11_init_70 : decode cX11_init 70 = .ok (.newarray .int, 2) := by decide +kernel
theorem dX11_init_72 : decode cX11_init 72 = .ok (.putfield 44, 3) := by decide +kernel
theorem dX11_init_75 : decode cX11_init 75 = .ok (.aload_n 0, 1) := by decide +kernel
theorem dX11_init_76 : decode cX11_init 76 = .ok (.sipush 200, 3) := by decide +kernel
theorem dX11_init_79 : decode cX11_init 79 = .ok (.newarray .int, 2) := by decide +kernel
theorem dX11_init_81 : decode cX11_init 81 = .ok (.putfield 48, 3) := by decide +kernel
theorem dX11_init_84 : decode cX11_init 84 = .ok (.aload_n 0, 1) := by decide +kernel
theorem dX11_init_85 : decode cX11_init 85 = .ok (.iconst (-1), 1) := by decide +kernel
theorem dX11_init_86 : decode cX11_init 86 = .ok (.putfield 51, 3) := by decide +kernel
theorem dX11_init_89 : decode cX11_init 89 = .ok (.aload_n 0, 1) := by decide +kernel
theorem dX11_init_90 : decode cX11_init 90 = .ok (.iconst (-1), 1) := by decide +kernel
theorem dX11_init_91 : decode cX11_init 91 = .ok (.putfield 55, 3) := by decide +kernel
theorem dX11_init_94 : decode cX11_init 94 = .ok (.return_, 1) := by decide +kernel
theorem dX0_put_34 : decode cX0_put 34 = .ok (.return_, 1) := by decide +kernel
theorem dX0_put_0 : decode cX0_put 0 = .ok (.aload_n 0, 1) := by decide +kernel
theorem dX0_put_1 : decode cX0_put 1 = .ok (.getfield 15, 3) := by decide +kernel
theorem dX0_put_4 : decode cX0_put 4 = .ok (.sipush 1200, 3) := by decide +kernel
theorem dX0_put_7 : decode cX0_put 7 = .ok (.if_icmp .ge 27, 3) := by decide +kernel
theorem dX0_put_10 : decode cX0_put 10 = .ok (.aload_n 0, 1) := by decide +kernel
theorem dX0_put_11 : decode cX0_put 11 = .ok (.getfield 9, 3) := by decide +kernel
theorem dX0_put_14 : decode cX0_put 14 = .ok (.aload_n 0, 1) := by decide +kernel
theorem dX0_put_15 : decode cX0_put 15 = .ok (.getfield 15, 3) := by decide +kernel
theorem dX0_put_18 : decode cX0_put 18 = .ok (.iload_n 1, 1) := by decide +kernel
theorem dX0_put_19 : decode cX0_put 19 = .ok (.sipush 255, 3) := by decide +kernel
theorem dX0_put_22 : decode cX0_put 22 = .ok (.iand, 1) := by decide +kernel
theorem dX0_put_23 : decode cX0_put 23 = .ok (.iastore, 1) := by decide +kernel
theorem dX0_put_24 : decode cX0_put 24 = .ok (.aload_n 0, 1) := by decide +kernel
theorem dX0_put_25 : decode cX0_put 25 = .ok (.dup, 1) := by decide +kernel
theorem dX0_put_26 : decode cX0_put 26 = .ok (.getfield 15, 3) := by decide +kernel
theorem dX0_put_29 : decode cX0_put 29 = .ok (.iconst 1, 1) := by decide +kernel
theorem dX0_put_30 : decode cX0_put 30 = .ok (.iadd, 1) := by decide +kernel
theorem dX0_put_31 : decode cX0_put 31 = .ok (.putfield 15, 3) := by decide +kernel
theorem dX0_putFour_0 : decode cX0_putFour 0 = .ok (.aload_n 0, 1) := by decide +kernel
theorem dX0_putFour_1 : decode cX0_putFour 1 = .ok (.iload_n 1, 1) := by decide +kernel
theorem dX0_putFour_2 : decode cX0_putFour 2 = .ok (.bipush 24, 2) := by decide +kernel
theorem dX0_putFour_4 : decode cX0_putFour 4 = .ok (.ishr, 1) := by decide +kernel
theorem dX0_putFour_5 : decode cX0_putFour 5 = .ok (.invokevirtual 25, 3) := by decide +kernel
theorem dX0_putFour_8 : decode cX0_putFour 8 = .ok (.aload_n 0, 1) := by decide +kernel
theorem dX0_putFour_9 : decode cX0_putFour 9 = .ok (.iload_n 1, 1) := by decide +kernel
theorem dX0_putFour_10 : decode cX0_putFour 10 = .ok (.bipush 16, 2) := by decide +kernel
theorem dX0_putFour_12 : decode cX0_putFour 12 = .ok (.ishr, 1) := by decide +kernel
theorem dX0_putFour_13 : decode cX0_putFour 13 = .ok (.invokevirtual 25, 3) := by decide +kernel
theorem dX0_putFour_16 : decode cX0_putFour 16 = .ok (.aload_n 0, 1) := by decide +kernel
theorem dX0_putFour_17 : decode cX0_putFour 17 = .ok (.iload_n 1, 1) := by decide +kernel
theorem dX0_putFour_18 : decode cX0_putFour 18 = .ok (.bipush 8, 2) := by decide +kernel
theorem dX0_putFour_20 : decode cX0_putFour 20 = .ok (.ishr, 1) := by decide +kernel
theorem dX0_putFour_21 : decode cX0_putFour 21 = .ok (.invokevirtual 25, 3) := by decide +kernel
theorem dX0_putFour_24 : decode cX0_putFour 24 = .ok (.aload_n 0, 1) := by decide +kernel
theorem dX0_putFour_25 : decode cX0_putFour 25 = .ok (.iload_n 1, 1) := by decide +kernel
theorem dX0_putFour_26 : decode cX0_putFour 26 = .ok (.invokevirtual 25, 3) := by decide +kernel
theorem dX0_putFour_29 : decode cX0_putFour 29 = .ok (.return_, 1) := by decide +kernel
theorem dX11_feed_18 : decode cX11_feed 18 = .ok (.aload_n 0, 1) := by decide +kernel
theorem dX11_feed_19 : decode cX11_feed 19 = .ok (.getfield 12, 3) := by decide +kernel
theorem dX11_feed_22 : decode cX11_feed 22 = .ok (.iload_n 1, 1) := by decide +kernel
theorem dX11_feed_23 : decode cX11_feed 23 = .ok (.invokevirtual 61, 3) := by decide +kernel
theorem dX11_feed_26 : decode cX11_feed 26 = .ok (.aload_n 0, 1) := by decide +kernel
theorem dX11_feed_27 : decode cX11_feed 27 = .ok (.getfield 12, 3) := by decide +kernel
theorem dX11_feed_30 : decode cX11_feed 30 = .ok (.iload_n 2, 1) := by decide +kernel
theorem dX11_feed_31 : decode cX11_feed 31 = .ok (.invokevirtual 61, 3) := by decide +kernel
theorem dX11_feed_34 : decode cX11_feed 34 = .ok (.aload_n 0, 1) := by decide +kernel
theorem dX11_feed_35 : decode cX11_feed 35 = .ok (.getfield 12, 3) := by decide +kernel
theorem dX11_feed_38 : decode cX11_feed 38 = .ok (.iload_n 3, 1) := by decide +kernel
theorem dX11_feed_39 : decode cX11_feed 39 = .ok (.invokevirtual 61, 3) := by decide +kernel
theorem dX11_feed_42 : decode cX11_feed 42 = .ok (.aload_n 0, 1) := by decide +kernel
theorem dX11_feed_43 : decode cX11_feed 43 = .ok (.getfield 12, 3) := by decide +kernel
theorem dX11_feed_46 : decode cX11_feed 46 = .ok (.iload 4, 2) := by decide +kernel
theorem dX11_feed_48 : decode cX11_feed 48 = .ok (.invokevirtual 61, 3) := by decide +kernel
theorem dX11_feed_51 : decode cX11_feed 51 = .ok (.aload_n 0, 1) := by decide +kernel
theorem dX11_feed_52 : decode cX11_feed 52 = .ok (.getfield 12, 3) := by decide +kernel
theorem dX11_feed_55 : decode cX11_feed 55 = .ok (.iload 5, 2) := by decide +kernel
theorem dX11_feed_57 : decode cX11_feed 57 = .ok (.invokevirtual 61, 3) := by decide +kernel
theorem dX11_feed_60 : decode cX11_feed 60 = .ok (.aload_n 0, 1) := by decide +kernel
theorem dX11_feed_61 : decode cX11_feed 61 = .ok (.getfield 12, 3) := by decide +kernel
theorem dX11_feed_64 : decode cX11_feed 64 = .ok (.getfield 58, 3) := by decide +kernel
theorem dX11_feed_67 : decode cX11_feed 67 = .ok (.ireturn, 1) := by decide +kernel
theorem dX11_feed_0 : decode cX11_feed 0 = .ok (.aload_n 0, 1) := by decide +kernel
theorem dX11_feed_1 : decode cX11_feed 1 = .ok (.getfield 12, 3) := by decide +kernel
theorem dX11_feed_4 : decode cX11_feed 4 = .ok (.getfield 58, 3) := by decide +kernel
theorem dX11_feed_7 : decode cX11_feed 7 = .ok (.bipush 20, 2) := by decide +kernel
theorem dX11_feed_9 : decode cX11_feed 9 = .ok (.iadd, 1) := by decide +kernel
theorem dX11_feed_10 : decode cX11_feed 10 = .ok (.sipush 1200, 3) := by decide +kernel
theorem dX11_feed_13 : decode cX11_feed 13 = .ok (.if_icmp .le 5, 3) := by decide +kernel
theorem dX11_feed_16 : decode cX11_feed 16 = .ok (.iconst (-1), 1) := by decide +kernel
theorem dX11_feed_17 : decode cX11_feed 17 = .ok (.ireturn, 1) := by decide +kernel
theorem dX11_end_17 : decode cX11_end 17 = .ok (.aload_n 0, 1) := by decide +kernel
theorem dX11_end_18 : decode cX11_end 18 = .ok (.getfield 12, 3) := by decide +kernel
theorem dX11_end_21 : decode cX11_end 21 = .ok (.iload_n 1, 1) := by decide +kernel
theorem dX11_end_22 : decode cX11_end 22 = .ok (.putfield 58, 3) := by decide +kernel
theorem dX11_end_25 : decode cX11_end 25 = .ok (.iconst 1, 1) := by decide +kernel
theorem dX11_end_26 : decode cX11_end 26 = .ok (.ireturn, 1) := by decide +kernel
theorem dX11_end_15 : decode cX11_end 15 = .ok (.iconst 0, 1) := by decide +kernel
theorem dX11_end_16 : decode cX11_end 16 = .ok (.ireturn, 1) := by decide +kernel
theorem dX11_end_0 : decode cX11_end 0 = .ok (.iload_n 1, 1) := by decide +kernel
theorem dX11_end_1 : decode cX11_end 1 = .ok (.ifCond .lt 14, 3) := by decide +kernel
theorem dX11_end_4 : decode cX11_end 4 = .ok (.iload_n 1, 1) := by decide +kernel
theorem dX11_end_5 : decode cX11_end 5 = .ok (.aload_n 0, 1) := by decide +kernel
theorem dX11_end_6 : decode cX11_end 6 = .ok (.getfield 12, 3) := by decide +kernel
theorem dX11_end_9 : decode cX11_end 9 = .ok (.getfield 58, 3) := by decide +kernel
theorem dX11_end_12 : decode cX11_end 12 = .ok (.if_icmp .le 5, 3) := by decide +kernel
theorem dX0_copyFrom_0 : decode cX0_copyFrom 0 = .ok (.aload_n 1, 1) := by decide +kernel
theorem dX0_copyFrom_1 : decode cX0_copyFrom 1 = .ok (.getfield 9, 3) := by decide +kernel
theorem dX0_copyFrom_4 : decode cX0_copyFrom 4 = .ok (.iconst 0, 1) := by decide +kernel
theorem dX0_copyFrom_5 : decode cX0_copyFrom 5 = .ok (.aload_n 0, 1) := by decide +kernel
theorem dX0_copyFrom_6 : decode cX0_copyFrom 6 = .ok (.getfield 9, 3) := by decide +kernel
theorem dX0_copyFrom_9 : decode cX0_copyFrom 9 = .ok (.iconst 0, 1) := by decide +kernel
theorem dX0_copyFrom_10 : decode cX0_copyFrom 10 = .ok (.aload_n 1, 1) := by decide +kernel
theorem dX0_copyFrom_11 : decode cX0_copyFrom 11 = .ok (.getfield 15, 3) := by decide +kernel
theorem dX0_copyFrom_14 : decode cX0_copyFrom 14 = .ok (.invokestatic 19, 3) := by decide +kernel
theorem dX0_copyFrom_17 : decode cX0_copyFrom 17 = .ok (.aload_n 0, 1) := by decide +kernel
theorem dX0_copyFrom_18 : decode cX0_copyFrom 18 = .ok (.aload_n 1, 1) := by decide +kernel
theorem dX0_copyFrom_19 : decode cX0_copyFrom 19 = .ok (.getfield 15, 3) := by decide +kernel
theorem dX0_copyFrom_22 : decode cX0_copyFrom 22 = .ok (.putfield 15, 3) := by decide +kernel
theorem dX0_copyFrom_25 : decode cX0_copyFrom 25 = .ok (.return_, 1) := by decide +kernel
theorem dX11_take_0 : decode cX11_take 0 = .ok (.aload_n 0, 1) := by decide +kernel
theorem dX11_take_1 : decode cX11_take 1 = .ok (.getfield 12, 3) := by decide +kernel
theorem dX11_take_4 : decode cX11_take 4 = .ok (.aload_n 0, 1) := by decide +kernel
theorem dX11_take_5 : decode cX11_take 5 = .ok (.getfield 16, 3) := by decide +kernel
theorem dX11_take_8 : decode cX11_take 8 = .ok (.invokevirtual 65, 3) := by decide +kernel
theorem dX11_take_11 : decode cX11_take 11 = .ok (.aload_n 0, 1) := by decide +kernel
theorem dX11_take_12 : decode cX11_take 12 = .ok (.getfield 12, 3) := by decide +kernel
theorem dX11_take_15 : decode cX11_take 15 = .ok (.getfield 58, 3) := by decide +kernel
theorem dX11_take_18 : decode cX11_take 18 = .ok (.ireturn, 1) := by decide +kernel
theorem dX11_isDay_16 : decode cX11_isDay 16 = .ok (.ireturn, 1) := by decide +kernel
theorem dX11_isDay_15 : decode cX11_isDay 15 = .ok (.iconst 0, 1) := by decide +kernel
theorem dX11_isDay_0 : decode cX11_isDay 0 = .ok (.iload_n 0, 1) := by decide +kernel
theorem dX11_isDay_1 : decode cX11_isDay 1 = .ok (.ifCond .lt 14, 3) := by decide +kernel
theorem dX11_isDay_4 : decode cX11_isDay 4 = .ok (.iload_n 0, 1) := by decide +kernel
theorem dX11_isDay_5 : decode cX11_isDay 5 = .ok (.ldc_w 514, 3) := by decide +kernel
theorem dX11_isDay_8 : decode cX11_isDay 8 = .ok (.if_icmp .gt 7, 3) := by decide +kernel
theorem dX11_isDay_11 : decode cX11_isDay 11 = .ok (.iconst 1, 1) := by decide +kernel
theorem dX11_isDay_12 : decode cX11_isDay 12 = .ok (.goto 4, 3) := by decide +kernel
theorem dX11_day_23 : decode cX11_day 23 = .ok (.aload_n 0, 1) := by decide +kernel
theorem dX11_day_24 : decode cX11_day 24 = .ok (.getfield 22, 3) := by decide +kernel
theorem dX11_day_27 : decode cX11_day 27 = .ok (.getfield 73, 3) := by decide +kernel
theorem dX11_day_30 : decode cX11_day 30 = .ok (.iload_n 1, 1) := by decide +kernel
theorem dX11_day_31 : decode cX11_day 31 = .ok (.putfield 77, 3) := by decide +kernel
theorem dX11_day_34 : decode cX11_day 34 = .ok (.iconst 1, 1) := by decide +kernel
theorem dX11_day_35 : decode cX11_day 35 = .ok (.ireturn, 1) := by decide +kernel
theorem dX11_day_21 : decode cX11_day 21 = .ok (.iconst 0, 1) := by decide +kernel
theorem dX11_day_22 : decode cX11_day 22 = .ok (.ireturn, 1) := by decide +kernel
theorem dX11_day_0 : decode cX11_day 0 = .ok (.iload_n 1, 1) := by decide +kernel
theorem dX11_day_1 : decode cX11_day 1 = .ok (.invokestatic 69, 3) := by decide +kernel
theorem dX11_day_4 : decode cX11_day 4 = .ok (.ifCond .eq 17, 3) := by decide +kernel
theorem dX11_day_7 : decode cX11_day 7 = .ok (.iload_n 1, 1) := by decide +kernel
theorem dX11_day_8 : decode cX11_day 8 = .ok (.aload_n 0, 1) := by decide +kernel
theorem dX11_day_9 : decode cX11_day 9 = .ok (.getfield 22, 3) := by decide +kernel
theorem dX11_day_12 : decode cX11_day 12 = .ok (.getfield 73, 3) := by decide +kernel
theorem dX11_day_15 : decode cX11_day 15 = .ok (.getfield 77, 3) := by decide +kernel
theorem dX11_day_18 : decode cX11_day 18 = .ok (.if_icmp .ge 5, 3) := by decide +kernel
theorem dX11_as_14 : decode cX11_as 14 = .ok (.aload_n 0, 1) := by decide +kernel
theorem dX11_as_15 : decode cX11_as 15 = .ok (.getfield 22, 3) := by decide +kernel
theorem dX11_as_18 : decode cX11_as 18 = .ok (.getfield 73, 3) := by decide +kernel
theorem dX11_as_21 : decode cX11_as 21 = .ok (.iload_n 1, 1) := by decide +kernel
theorem dX11_as_22 : decode cX11_as 22 = .ok (.putfield 82, 3) := by decide +kernel
theorem dX11_as_25 : decode cX11_as 25 = .ok (.iconst 1, 1) := by decide +kernel
theorem dX11_as_26 : decode cX11_as 26 = .ok (.ireturn, 1) := by decide +kernel
theorem dX11_as_0 : decode cX11_as 0 = .ok (.iload_n 1, 1) := by decide +kernel
theorem dX11_as_1 : decode cX11_as 1 = .ok (.iconst (-1), 1) := by decide +kernel
theorem dX11_as_2 : decode cX11_as 2 = .ok (.if_icmp .eq 12, 3) := by decide +kernel
theorem dX11_as_5 : decode cX11_as 5 = .ok (.iload_n 1, 1) := by decide +kernel
theorem dX11_as_6 : decode cX11_as 6 = .ok (.invokestatic 69, 3) := by decide +kernel
theorem dX11_as_9 : decode cX11_as 9 = .ok (.ifCond .ne 5, 3) := by decide +kernel
theorem dX11_as_12 : decode cX11_as 12 = .ok (.iconst 0, 1) := by decide +kernel
theorem dX11_as_13 : decode cX11_as 13 = .ok (.ireturn, 1) := by decide +kernel
theorem dX7_begin_0 : decode cX7_begin 0 = .ok (.aload_n 0, 1) := by decide +kernel
theorem dX7_begin_1 : decode cX7_begin 1 = .ok (.aload_n 1, 1) := by decide +kernel
theorem dX7_begin_2 : decode cX7_begin 2 = .ok (.putfield 45, 3) := by decide +kernel
theorem dX7_begin_5 : decode cX7_begin 5 = .ok (.aload_n 0, 1) := by decide +kernel
theorem dX7_begin_6 : decode cX7_begin 6 = .ok (.iconst 0, 1) := by decide +kernel
theorem dX7_begin_7 : decode cX7_begin 7 = .ok (.putfield 42, 3) := by decide +kernel
theorem dX7_begin_10 : decode cX7_begin 10 = .ok (.return_, 1) := by decide +kernel
theorem dJ7_fill_d0a16_22 : decode cJ7_fill_d0a16 22 = .ok (.return_, 1) := by decide +kernel
theorem dJ7_fill_d0a16_6 : decode cJ7_fill_d0a16 6 = .ok (.iload_n 3, 1) := by decide +kernel
theorem dJ7_fill_d0a16_7 : decode cJ7_fill_d0a16 7 = .ok (.iload 4, 2) := by decide +kernel
theorem dJ7_fill_d0a16_9 : decode cJ7_fill_d0a16 9 = .ok (.if_icmp .ge 13, 3) := by decide +kernel
theorem dJ7_fill_d0a16_12 : decode cJ7_fill_d0a16 12 = .ok (.aload_n 0, 1) := by decide +kernel
theorem dJ7_fill_d0a16_13 : decode cJ7_fill_d0a16 13 = .ok (.iload_n 3, 1) := by decide +kernel
theorem dJ7_fill_d0a16_14 : decode cJ7_fill_d0a16 14 = .ok (.lload_n 1, 1) := by decide +kernel
theorem dJ7_fill_d0a16_15 : decode cJ7_fill_d0a16 15 = .ok (.lastore, 1) := by decide +kernel
theorem dJ7_fill_d0a16_16 : decode cJ7_fill_d0a16 16 = .ok (.iinc 3 1, 3) := by decide +kernel
theorem dJ7_fill_d0a16_19 : decode cJ7_fill_d0a16 19 = .ok (.goto (-13), 3) := by decide +kernel
theorem dJ7_fill_d0a16_0 : decode cJ7_fill_d0a16 0 = .ok (.iconst 0, 1) := by decide +kernel
theorem dJ7_fill_d0a16_1 : decode cJ7_fill_d0a16 1 = .ok (.istore_n 3, 1) := by decide +kernel
theorem dJ7_fill_d0a16_2 : decode cJ7_fill_d0a16 2 = .ok (.aload_n 0, 1) := by decide +kernel
theorem dJ7_fill_d0a16_3 : decode cJ7_fill_d0a16 3 = .ok (.arraylength, 1) := by decide +kernel
theorem dJ7_fill_d0a16_4 : decode cJ7_fill_d0a16 4 = .ok (.istore 4, 2) := by decide +kernel
theorem dX7_isNext_51 : decode cX7_isNext 51 = .ok (.ireturn, 1) := by decide +kernel
theorem dX7_isNext_50 : decode cX7_isNext 50 = .ok (.iconst 0, 1) := by decide +kernel
theorem dX7_isNext_0 : decode cX7_isNext 0 = .ok (.aload_n 0, 1) := by decide +kernel
theorem dX7_isNext_1 : decode cX7_isNext 1 = .ok (.getfield 42, 3) := by decide +kernel
theorem dX7_isNext_4 : decode cX7_isNext 4 = .ok (.aload_n 0, 1) := by decide +kernel
theorem dX7_isNext_5 : decode cX7_isNext 5 = .ok (.getfield 45, 3) := by decide +kernel
theorem dX7_isNext_8 : decode cX7_isNext 8 = .ok (.getfield 49, 3) := by decide +kernel
theorem dX7_isNext_11 : decode cX7_isNext 11 = .ok (.if_icmp .ge 39, 3) := by decide +kernel
theorem dX7_isNext_14 : decode cX7_isNext 14 = .ok (.aload_n 0, 1) := by decide +kernel
theorem dX7_isNext_15 : decode cX7_isNext 15 = .ok (.getfield 45, 3) := by decide +kernel
theorem dX7_isNext_18 : decode cX7_isNext 18 = .ok (.getfield 70, 3) := by decide +kernel
theorem dX7_isNext_21 : decode cX7_isNext 21 = .ok (.aload_n 0, 1) := by decide +kernel
theorem dX7_isNext_22 : decode cX7_isNext 22 = .ok (.getfield 42, 3) := by decide +kernel
theorem dX7_isNext_25 : decode cX7_isNext 25 = .ok (.iaload, 1) := by decide +kernel
theorem dX7_isNext_26 : decode cX7_isNext 26 = .ok (.iload_n 1, 1) := by decide +kernel
theorem dX7_isNext_27 : decode cX7_isNext 27 = .ok (.if_icmp .lt 23, 3) := by decide +kernel
theorem dX7_isNext_30 : decode cX7_isNext 30 = .ok (.aload_n 0, 1) := by decide +kernel
theorem dX7_isNext_31 : decode cX7_isNext 31 = .ok (.getfield 45, 3) := by decide +kernel
theorem dX7_isNext_34 : decode cX7_isNext 34 = .ok (.getfield 70, 3) := by decide +kernel
theorem dX7_isNext_37 : decode cX7_isNext 37 = .ok (.aload_n 0, 1) := by decide +kernel
theorem dX7_isNext_38 : decode cX7_isNext 38 = .ok (.getfield 42, 3) := by decide +kernel
theorem dX7_isNext_41 : decode cX7_isNext 41 = .ok (.iaload, 1) := by decide +kernel
theorem dX7_isNext_42 : decode cX7_isNext 42 = .ok (.iload_n 2, 1) := by decide +kernel
theorem dX7_isNext_43 : decode cX7_isNext 43 = .ok (.if_icmp .gt 7, 3) := by decide +kernel
theorem dX7_isNext_46 : decode cX7_isNext 46 = .ok (.iconst 1, 1) := by decide +kernel
theorem dX7_isNext_47 : decode cX7_isNext 47 = .ok (.goto 4, 3) := by decide +kernel
theorem dX7_readWord_62 : decode cX7_readWord 62 = .ok (.lload_n 1, 1) := by decide +kernel
theorem dX7_readWord_63 : decode cX7_readWord 63 = .ok (.lreturn, 1) := by decide +kernel
theorem dX7_readWord_4 : decode cX7_readWord 4 = .ok (.iload_n 3, 1) := by decide +kernel
theorem dX7_readWord_5 : decode cX7_readWord 5 = .ok (.bipush 12, 2) := by decide +kernel
theorem dX7_readWord_7 : decode cX7_readWord 7 = .ok (.if_icmp .ge 55, 3) := by decide +kernel
theorem dX7_readWord_10 : decode cX7_readWord 10 = .ok (.aload_n 0, 1) := by decide +kernel
theorem dX7_readWord_11 : decode cX7_readWord 11 = .ok (.bipush 97, 2) := by decide +kernel
theorem dX7_readWord_13 : decode cX7_readWord 13 = .ok (.bipush 122, 2) := by decide +kernel
theorem dX7_readWord_15 : decode cX7_readWord 15 = .ok (.invokevirtual 74, 3) := by decide +kernel
theorem dX7_readWord_18 : decode cX7_readWord 18 = .ok (.ifCond .eq 44, 3) := by decide +kernel
theorem dX7_readWord_21 : decode cX7_readWord 21 = .ok (.lload_n 1, 1) := by decide +kernel
theorem dX7_readWord_22 : decode cX7_readWord 22 = .ok (.ldc2_w 78, 3) := by decide +kernel
theorem dX7_readWord_25 : decode cX7_readWord 25 = .ok (.lmul, 1) := by decide +kernel
theorem dX7_readWord_26 : decode cX7_readWord 26 = .ok (.aload_n 0, 1) := by decide +kernel
theorem dX7_readWord_27 : decode cX7_readWord 27 = .ok (.getfield 45, 3) := by decide +kernel
theorem dX7_readWord_30 : decode cX7_readWord 30 = .ok (.getfield 70, 3) := by decide +kernel
theorem dX7_readWord_33 : decode cX7_readWord 33 = .ok (.aload_n 0, 1) := by decide +kernel
theorem dX7_readWord_34 : decode cX7_readWord 34 = .ok (.getfield 42, 3) := by decide +kernel
theorem dX7_readWord_37 : decode cX7_readWord 37 = .ok (.iaload, 1) := by decide +kernel
theorem dX7_readWord_38 : decode cX7_readWord 38 = .ok (.bipush 97, 2) := by decide +kernel
theorem dX7_readWord_40 : decode cX7_readWord 40 = .ok (.isub, 1) := by decide +kernel
theorem dX7_readWord_41 : decode cX7_readWord 41 = .ok (.iconst 1, 1) := by decide +kernel
theorem dX7_readWord_42 : decode cX7_readWord 42 = .ok (.iadd, 1) := by decide +kernel
theorem dX7_readWord_43 : decode cX7_readWord 43 = .ok (.i2l, 1) := by decide +kernel
theorem dX7_readWord_44 : decode cX7_readWord 44 = .ok (.ladd, 1) := by decide +kernel
theorem dX7_readWord_45 : decode cX7_readWord 45 = .ok (.lstore_n 1, 1) := by decide +kernel
theorem dX7_readWord_46 : decode cX7_readWord 46 = .ok (.aload_n 0, 1) := by decide +kernel
theorem dX7_readWord_47 : decode cX7_readWord 47 = .ok (.dup, 1) := by decide +kernel
theorem dX7_readWord_48 : decode cX7_readWord 48 = .ok (.getfield 42, 3) := by decide +kernel
theorem dX7_readWord_51 : decode cX7_readWord 51 = .ok (.iconst 1, 1) := by decide +kernel
theorem dX7_readWord_52 : decode cX7_readWord 52 = .ok (.iadd, 1) := by decide +kernel
theorem dX7_readWord_53 : decode cX7_readWord 53 = .ok (.putfield 42, 3) := by decide +kernel
theorem dX7_readWord_56 : decode cX7_readWord 56 = .ok (.iinc 3 1, 3) := by decide +kernel
theorem dX7_readWord_59 : decode cX7_readWord 59 = .ok (.goto (-55), 3) := by decide +kernel
theorem dX7_readWord_0 : decode cX7_readWord 0 = .ok (.lconst 0, 1) := by decide +kernel
theorem dX7_readWord_1 : decode cX7_readWord 1 = .ok (.lstore_n 1, 1) := by decide +kernel
theorem dX7_readWord_2 : decode cX7_readWord 2 = .ok (.iconst 0, 1) := by decide +kernel
theorem dX7_readWord_3 : decode cX7_readWord 3 = .ok (.istore_n 3, 1) := by decide +kernel
theorem dX7_readByte_11 : decode cX7_readByte 11 = .ok (.aload_n 0, 1) := by decide +kernel
theorem dX7_readByte_12 : decode cX7_readByte 12 = .ok (.dup, 1) := by decide +kernel
theorem dX7_readByte_13 : decode cX7_readByte 13 = .ok (.getfield 42, 3) := by decide +kernel
theorem dX7_readByte_16 : decode cX7_readByte 16 = .ok (.iconst 1, 1) := by decide +kernel
theorem dX7_readByte_17 : decode cX7_readByte 17 = .ok (.iadd, 1) := by decide +kernel
theorem dX7_readByte_18 : decode cX7_readByte 18 = .ok (.putfield 42, 3) := by decide +kernel
theorem dX7_readByte_21 : decode cX7_readByte 21 = .ok (.iconst 1, 1) := by decide +kernel
theorem dX7_readByte_22 : decode cX7_readByte 22 = .ok (.ireturn, 1) := by decide +kernel
theorem dX7_readByte_0 : decode cX7_readByte 0 = .ok (.aload_n 0, 1) := by decide +kernel
theorem dX7_readByte_1 : decode cX7_readByte 1 = .ok (.iload_n 1, 1) := by decide +kernel
theorem dX7_readByte_2 : decode cX7_readByte 2 = .ok (.iload_n 1, 1) := by decide +kernel
theorem dX7_readByte_3 : decode cX7_readByte 3 = .ok (.invokevirtual 74, 3) := by decide +kernel
theorem dX7_readByte_6 : decode cX7_readByte 6 = .ok (.ifCond .ne 5, 3) := by decide +kernel
theorem dX7_readByte_9 : decode cX7_readByte 9 = .ok (.iconst 0, 1) := by decide +kernel
theorem dX7_readByte_10 : decode cX7_readByte 10 = .ok (.ireturn, 1) := by decide +kernel
theorem dX7_readToEnd_67 : decode cX7_readToEnd 67 = .ok (.iconst 0, 1) := by decide +kernel
theorem dX7_readToEnd_68 : decode cX7_readToEnd 68 = .ok (.ireturn, 1) := by decide +kernel
theorem dX7_readToEnd_61 : decode cX7_readToEnd 61 = .ok (.iinc 2 1, 3) := by decide +kernel
theorem dX7_readToEnd_64 : decode cX7_readToEnd 64 = .ok (.goto (-57), 3) := by decide +kernel
theorem dX7_readToEnd_59 : decode cX7_readToEnd 59 = .ok (.iconst 0, 1) := by decide +kernel
theorem dX7_readToEnd_60 : decode cX7_readToEnd 60 = .ok (.ireturn, 1) := by decide +kernel
theorem dX7_readToEnd_45 : decode cX7_readToEnd 45 = .ok (.iload_n 2, 1) := by decide +kernel
theorem dX7_readToEnd_46 : decode cX7_readToEnd 46 = .ok (.iconst 2, 1) := by decide +kernel
theorem dX7_readToEnd_47 : decode cX7_readToEnd 47 = .ok (.if_icmp .eq 12, 3) := by decide +kernel
theorem dX7_readToEnd_50 : decode cX7_readToEnd 50 = .ok (.aload_n 0, 1) := by decide +kernel
theorem dX7_readToEnd_51 : decode cX7_readToEnd 51 = .ok (.bipush 32, 2) := by decide +kernel
theorem dX7_readToEnd_53 : decode cX7_readToEnd 53 = .ok (.invokevirtual 38, 3) := by decide +kernel
theorem dX7_readToEnd_56 : decode cX7_readToEnd 56 = .ok (.ifCond .ne 5, 3) := by decide +kernel
theorem dX7_readToEnd_29 : decode cX7_readToEnd 29 = .ok (.aload_n 0, 1) := by decide +kernel
theorem dX7_readToEnd_30 : decode cX7_readToEnd 30 = .ok (.getfield 42, 3) := by decide +kernel
theorem dX7_readToEnd_33 : decode cX7_readToEnd 33 = .ok (.aload_n 0, 1) := by decide +kernel
theorem dX7_readToEnd_34 : decode cX7_readToEnd 34 = .ok (.getfield 45, 3) := by decide +kernel
theorem dX7_readToEnd_37 : decode cX7_readToEnd 37 = .ok (.getfield 49, 3) := by decide +kernel
theorem dX7_readToEnd_40 : decode cX7_readToEnd 40 = .ok (.if_icmp .ne 5, 3) := by decide +kernel
theorem dX7_readToEnd_43 : decode cX7_readToEnd 43 = .ok (.iconst 1, 1) := by decide +kernel
theorem dX7_readToEnd_44 : decode cX7_readToEnd 44 = .ok (.ireturn, 1) := by decide +kernel
theorem dX7_readToEnd_7 : decode cX7_readToEnd 7 = .ok (.iload_n 2, 1) := by decide +kernel
theorem dX7_readToEnd_8 : decode cX7_readToEnd 8 = .ok (.iconst 3, 1) := by decide +kernel
theorem dX7_readToEnd_9 : decode cX7_readToEnd 9 = .ok (.if_icmp .ge 58, 3) := by decide +kernel
theorem dX7_readToEnd_12 : decode cX7_readToEnd 12 = .ok (.aload_n 1, 1) := by decide +kernel
theorem dX7_readToEnd_13 : decode cX7_readToEnd 13 = .ok (.iload_n 2, 1) := by decide +kernel
theorem dX7_readToEnd_14 : decode cX7_readToEnd 14 = .ok (.aload_n 0, 1) := by decide +kernel
theorem dX7_readToEnd_15 : decode cX7_readToEnd 15 = .ok (.invokevirtual 34, 3) := by decide +kernel
theorem dX7_readToEnd_18 : decode cX7_readToEnd 18 = .ok (.lastore, 1) := by decide +kernel
theorem dX7_readToEnd_19 : decode cX7_readToEnd 19 = .ok (.aload_n 1, 1) := by decide +kernel
theorem dX7_readToEnd_20 : decode cX7_readToEnd 20 = .ok (.iload_n 2, 1) := by decide +kernel
theorem dX7_readToEnd_21 : decode cX7_readToEnd 21 = .ok (.laload, 1) := by decide +kernel
theorem dX7_readToEnd_22 : decode cX7_readToEnd 22 = .ok (.lconst 0, 1) := by decide +kernel
theorem dX7_readToEnd_23 : decode cX7_readToEnd 23 = .ok (.lcmp, 1) := by decide +kernel
theorem dX7_readToEnd_24 : decode cX7_readToEnd 24 = .ok (.ifCond .ne 5, 3) := by decide +kernel
theorem dX7_readToEnd_27 : decode cX7_readToEnd 27 = .ok (.iconst 0, 1) := by decide +kernel
theorem dX7_readToEnd_28 : decode cX7_readToEnd 28 = .ok (.ireturn, 1) := by decide +kernel
theorem dX7_readToEnd_0 : decode cX7_readToEnd 0 = .ok (.aload_n 1, 1) := by decide +kernel
theorem dX7_readToEnd_1 : decode cX7_readToEnd 1 = .ok (.lconst 0, 1) := by decide +kernel
theorem dX7_readToEnd_2 : decode cX7_readToEnd 2 = .ok (.invokestatic 80, 3) := by decide +kernel
theorem dX7_readToEnd_5 : decode cX7_readToEnd 5 = .ok (.iconst 0, 1) := by decide +kernel
theorem dX7_readToEnd_6 : decode cX7_readToEnd 6 = .ok (.istore_n 2, 1) := by decide +kernel
theorem dX8_indexOf_29 : decode cX8_indexOf 29 = .ok (.iconst (-1), 1) := by decide +kernel
theorem dX8_indexOf_30 : decode cX8_indexOf 30 = .ok (.ireturn, 1) := by decide +kernel
theorem dX8_indexOf_23 : decode cX8_indexOf 23 = .ok (.iinc 3 1, 3) := by decide +kernel
theorem dX8_indexOf_26 : decode cX8_indexOf 26 = .ok (.goto (-24), 3) := by decide +kernel
theorem dX8_indexOf_2 : decode cX8_indexOf 2 = .ok (.iload_n 3, 1) := by decide +kernel
theorem dX8_indexOf_3 : decode cX8_indexOf 3 = .ok (.aload_n 0, 1) := by decide +kernel
theorem dX8_indexOf_4 : decode cX8_indexOf 4 = .ok (.getfield 18, 3) := by decide +kernel
theorem dX8_indexOf_7 : decode cX8_indexOf 7 = .ok (.if_icmp .ge 22, 3) := by decide +kernel
theorem dX8_indexOf_10 : decode cX8_indexOf 10 = .ok (.aload_n 0, 1) := by decide +kernel
theorem dX8_indexOf_11 : decode cX8_indexOf 11 = .ok (.getfield 9, 3) := by decide +kernel
theorem dX8_indexOf_14 : decode cX8_indexOf 14 = .ok (.iload_n 3, 1) := by decide +kernel
theorem dX8_indexOf_15 : decode cX8_indexOf 15 = .ok (.laload, 1) := by decide +kernel
theorem dX8_indexOf_16 : decode cX8_indexOf 16 = .ok (.lload_n 1, 1) := by decide +kernel
theorem dX8_indexOf_17 : decode cX8_indexOf 17 = .ok (.lcmp, 1) := by decide +kernel
theorem dX8_indexOf_18 : decode cX8_indexOf 18 = .ok (.ifCond .ne 5, 3) := by decide +kernel
theorem dX8_indexOf_21 : decode cX8_indexOf 21 = .ok (.iload_n 3, 1) := by decide +kernel
theorem dX8_indexOf_22 : decode cX8_indexOf 22 = .ok (.ireturn, 1) := by decide +kernel
theorem dX8_indexOf_0 : decode cX8_indexOf 0 = .ok (.iconst 0, 1) := by decide +kernel
theorem dX8_indexOf_1 : decode cX8_indexOf 1 = .ok (.istore_n 3, 1) := by decide +kernel
theorem dX8_full_21 : decode cX8_full 21 = .ok (.lreturn, 1) := by decide +kernel
theorem dX8_full_15 : decode cX8_full 15 = .ok (.aload_n 0, 1) := by decide +kernel
theorem dX8_full_16 : decode cX8_full 16 = .ok (.getfield 15, 3) := by decide +kernel
theorem dX8_full_19 : decode cX8_full 19 = .ok (.iload_n 3, 1) := by decide +kernel
theorem dX8_full_20 : decode cX8_full 20 = .ok (.laload, 1) := by decide +kernel
theorem dX8_full_0 : decode cX8_full 0 = .ok (.aload_n 0, 1) := by decide +kernel
theorem dX8_full_1 : decode cX8_full 1 = .ok (.lload_n 1, 1) := by decide +kernel
theorem dX8_full_2 : decode cX8_full 2 = .ok (.invokevirtual 28, 3) := by decide +kernel
theorem dX8_full_5 : decode cX8_full 5 = .ok (.istore_n 3, 1) := by decide +kernel
theorem dX8_full_6 : decode cX8_full 6 = .ok (.iload_n 3, 1) := by decide +kernel
theorem dX8_full_7 : decode cX8_full 7 = .ok (.iconst (-1), 1) := by decide +kernel
theorem dX8_full_8 : decode cX8_full 8 = .ok (.if_icmp .ne 7, 3) := by decide +kernel
theorem dX8_full_11 : decode cX8_full 11 = .ok (.lload_n 1, 1) := by decide +kernel
theorem dX8_full_12 : decode cX8_full 12 = .ok (.goto 9, 3) := by decide +kernel
theorem dX7_lengthen_23 : decode cX7_lengthen 23 = .ok (.return_, 1) := by decide +kernel
theorem dX7_lengthen_2 : decode cX7_lengthen 2 = .ok (.iload_n 2, 1) := by decide +kernel
theorem dX7_lengthen_3 : decode cX7_lengthen 3 = .ok (.iconst 3, 1) := by decide +kernel
theorem dX7_lengthen_4 : decode cX7_lengthen 4 = .ok (.if_icmp .ge 19, 3) := by decide +kernel
theorem dX7_lengthen_7 : decode cX7_lengthen 7 = .ok (.aload_n 0, 1) := by decide +kernel
theorem dX7_lengthen_8 : decode cX7_lengthen 8 = .ok (.iload_n 2, 1) := by decide +kernel
theorem dX7_lengthen_9 : decode cX7_lengthen 9 = .ok (.aload_n 1, 1) := by decide +kernel
theorem dX7_lengthen_10 : decode cX7_lengthen 10 = .ok (.aload_n 0, 1) := by decide +kernel
theorem dX7_lengthen_11 : decode cX7_lengthen 11 = .ok (.iload_n 2, 1) := by decide +kernel
theorem dX7_lengthen_12 : decode cX7_lengthen 12 = .ok (.laload, 1) := by decide +kernel
theorem dX7_lengthen_13 : decode cX7_lengthen 13 = .ok (.invokevirtual 64, 3) := by decide +kernel
theorem dX7_lengthen_16 : decode cX7_lengthen 16 = .ok (.lastore, 1) := by decide +kernel
theorem dX7_lengthen_17 : decode cX7_lengthen 17 = .ok (.iinc 2 1, 3) := by decide +kernel
theorem dX7_lengthen_20 : decode cX7_lengthen 20 = .ok (.goto (-18), 3) := by decide +kernel
theorem dX7_lengthen_0 : decode cX7_lengthen 0 = .ok (.iconst 0, 1) := by decide +kernel
theorem dX7_lengthen_1 : decode cX7_lengthen 1 = .ok (.istore_n 2, 1) := by decide +kernel
theorem dX7_readName_0 : decode cX7_readName 0 = .ok (.aload_n 0, 1) := by decide +kernel
theorem dX7_readName_1 : decode cX7_readName 1 = .ok (.aload_n 1, 1) := by decide +kernel
theorem dX7_readName_2 : decode cX7_readName 2 = .ok (.invokevirtual 22, 3) := by decide +kernel
theorem dX7_readName_5 : decode cX7_readName 5 = .ok (.aload_n 0, 1) := by decide +kernel
theorem dX7_readName_6 : decode cX7_readName 6 = .ok (.aload_n 0, 1) := by decide +kernel
theorem dX7_readName_7 : decode cX7_readName 7 = .ok (.getfield 9, 3) := by decide +kernel
theorem dX7_readName_10 : decode cX7_readName 10 = .ok (.invokevirtual 26, 3) := by decide +kernel
theorem dX7_readName_13 : decode cX7_readName 13 = .ok (.istore_n 3, 1) := by decide +kernel
theorem dX7_readName_14 : decode cX7_readName 14 = .ok (.aload_n 0, 1) := by decide +kernel
theorem dX7_readName_15 : decode cX7_readName 15 = .ok (.getfield 9, 3) := by decide +kernel
theorem dX7_readName_18 : decode cX7_readName 18 = .ok (.aload_n 2, 1) := by decide +kernel
theorem dX7_readName_19 : decode cX7_readName 19 = .ok (.invokestatic 30, 3) := by decide +kernel
theorem dX7_readName_22 : decode cX7_readName 22 = .ok (.iload_n 3, 1) := by decide +kernel
theorem dX7_readName_23 : decode cX7_readName 23 = .ok (.ireturn, 1) := by decide +kernel
theorem dX11_readName_0 : decode cX11_readName 0 = .ok (.aload_n 0, 1) := by decide +kernel
theorem dX11_readName_1 : decode cX11_readName 1 = .ok (.getfield 33, 3) := by decide +kernel
theorem dX11_readName_4 : decode cX11_readName 4 = .ok (.aload_n 0, 1) := by decide +kernel
theorem dX11_readName_5 : decode cX11_readName 5 = .ok (.getfield 12, 3) := by decide +kernel
theorem dX11_readName_8 : decode cX11_readName 8 = .ok (.aload_n 0, 1) := by decide +kernel
theorem dX11_readName_9 : decode cX11_readName 9 = .ok (.getfield 22, 3) := by decide +kernel
theorem dX11_readName_12 : decode cX11_readName 12 = .ok (.getfield 126, 3) := by decide +kernel
theorem dX11_readName_15 : decode cX11_readName 15 = .ok (.invokevirtual 524, 3) := by decide +kernel
theorem dX11_readName_18 : decode cX11_readName 18 = .ok (.istore_n 1, 1) := by decide +kernel
theorem dX11_readName_19 : decode cX11_readName 19 = .ok (.aload_n 0, 1) := by decide +kernel
theorem dX11_readName_20 : decode cX11_readName 20 = .ok (.getfield 12, 3) := by decide +kernel
theorem dX11_readName_23 : decode cX11_readName 23 = .ok (.iconst 0, 1) := by decide +kernel
theorem dX11_readName_24 : decode cX11_readName 24 = .ok (.putfield 58, 3) := by decide +kernel
theorem dX11_readName_27 : decode cX11_readName 27 = .ok (.iload_n 1, 1) := by decide +kernel
theorem dX11_readName_28 : decode cX11_readName 28 = .ok (.ireturn, 1) := by decide +kernel
theorem dX3_areLike_33 : decode cX3_areLike 33 = .ok (.iconst 1, 1) := by decide +kernel
theorem dX3_areLike_34 : decode cX3_areLike 34 = .ok (.ireturn, 1) := by decide +kernel
theorem dX3_areLike_27 : decode cX3_areLike 27 = .ok (.iinc 4 1, 3) := by decide +kernel
theorem dX3_areLike_30 : decode cX3_areLike 30 = .ok (.goto (-27), 3) := by decide +kernel
theorem dX3_areLike_3 : decode cX3_areLike 3 = .ok (.iload 4, 2) := by decide +kernel
theorem dX3_areLike_5 : decode cX3_areLike 5 = .ok (.iconst 3, 1) := by decide +kernel
theorem dX3_areLike_6 : decode cX3_areLike 6 = .ok (.if_icmp .ge 27, 3) := by decide +kernel
theorem dX3_areLike_9 : decode cX3_areLike 9 = .ok (.aload_n 0, 1) := by decide +kernel
theorem dX3_areLike_10 : decode cX3_areLike 10 = .ok (.iload_n 1, 1) := by decide +kernel
theorem dX3_areLike_11 : decode cX3_areLike 11 = .ok (.iload 4, 2) := by decide +kernel
theorem dX3_areLike_13 : decode cX3_areLike 13 = .ok (.iadd, 1) := by decide +kernel
theorem dX3_areLike_14 : decode cX3_areLike 14 = .ok (.laload, 1) := by decide +kernel
theorem dX3_areLike_15 : decode cX3_areLike 15 = .ok (.aload_n 2, 1) := by decide +kernel
theorem dX3_areLike_16 : decode cX3_areLike 16 = .ok (.iload_n 3, 1) := by decide +kernel
theorem dX3_areLike_17 : decode cX3_areLike 17 = .ok (.iload 4, 2) := by decide +kernel
theorem dX3_areLike_19 : decode cX3_areLike 19 = .ok (.iadd, 1) := by decide +kernel
theorem dX3_areLike_20 : decode cX3_areLike 20 = .ok (.laload, 1) := by decide +kernel
theorem dX3_areLike_21 : decode cX3_areLike 21 = .ok (.lcmp, 1) := by decide +kernel
theorem dX3_areLike_22 : decode cX3_areLike 22 = .ok (.ifCond .eq 5, 3) := by decide +kernel
theorem dX3_areLike_25 : decode cX3_areLike 25 = .ok (.iconst 0, 1) := by decide +kernel
theorem dX3_areLike_26 : decode cX3_areLike 26 = .ok (.ireturn, 1) := by decide +kernel
theorem dX3_areLike_0 : decode cX3_areLike 0 = .ok (.iconst 0, 1) := by decide +kernel
theorem dX3_areLike_1 : decode cX3_areLike 1 = .ok (.istore 4, 2) := by decide +kernel
theorem dX10_townNamed_33 : decode cX10_townNamed 33 = .ok (.iconst (-1), 1) := by decide +kernel
theorem dX10_townNamed_34 : decode cX10_townNamed 34 = .ok (.ireturn, 1) := by decide +kernel
theorem dX10_townNamed_27 : decode cX10_townNamed 27 = .ok (.iinc 2 1, 3) := by decide +kernel
theorem dX10_townNamed_30 : decode cX10_townNamed 30 = .ok (.goto (-28), 3) := by decide +kernel
theorem dX10_townNamed_2 : decode cX10_townNamed 2 = .ok (.iload_n 2, 1) := by decide +kernel
theorem dX10_townNamed_3 : decode cX10_townNamed 3 = .ok (.aload_n 0, 1) := by decide +kernel
theorem dX10_townNamed_4 : decode cX10_townNamed 4 = .ok (.getfield 28, 3) := by decide +kernel
theorem dX10_townNamed_7 : decode cX10_townNamed 7 = .ok (.if_icmp .ge 26, 3) := by decide +kernel
theorem dX10_townNamed_10 : decode cX10_townNamed 10 = .ok (.aload_n 0, 1) := by decide +kernel
theorem dX10_townNamed_11 : decode cX10_townNamed 11 = .ok (.getfield 9, 3) := by decide +kernel
theorem dX10_townNamed_14 : decode cX10_townNamed 14 = .ok (.iconst 3, 1) := by decide +kernel
theorem dX10_townNamed_15 : decode cX10_townNamed 15 = .ok (.iload_n 2, 1) := by decide +kernel
theorem dX10_townNamed_16 : decode cX10_townNamed 16 = .ok (.imul, 1) := by decide +kernel
theorem dX10_townNamed_17 : decode cX10_townNamed 17 = .ok (.aload_n 1, 1) := by decide +kernel
theorem dX10_townNamed_18 : decode cX10_townNamed 18 = .ok (.iconst 0, 1) := by decide +kernel
theorem dX10_townNamed_19 : decode cX10_townNamed 19 = .ok (.invokestatic 41, 3) := by decide +kernel
theorem dX10_townNamed_22 : decode cX10_townNamed 22 = .ok (.ifCond .eq 5, 3) := by decide +kernel
theorem dX10_townNamed_25 : decode cX10_townNamed 25 = .ok (.iload_n 2, 1) := by decide +kernel
theorem dX10_townNamed_26 : decode cX10_townNamed 26 = .ok (.ireturn, 1) := by decide +kernel
theorem dX10_townNamed_0 : decode cX10_townNamed 0 = .ok (.iconst 0, 1) := by decide +kernel
theorem dX10_townNamed_1 : decode cX10_townNamed 1 = .ok (.istore_n 2, 1) := by decide +kernel
theorem dX10_addTown_11 : decode cX10_addTown 11 = .ok (.aload_n 1, 1) := by decide +kernel
theorem dX10_addTown_12 : decode cX10_addTown 12 = .ok (.iconst 0, 1) := by decide +kernel
theorem dX10_addTown_13 : decode cX10_addTown 13 = .ok (.aload_n 0, 1) := by decide +kernel
theorem dX10_addTown_14 : decode cX10_addTown 14 = .ok (.getfield 9, 3) := by decide +kernel
theorem dX10_addTown_17 : decode cX10_addTown 17 = .ok (.iconst 3, 1) := by decide +kernel
theorem dX10_addTown_18 : decode cX10_addTown 18 = .ok (.aload_n 0, 1) := by decide +kernel
theorem dX10_addTown_19 : decode cX10_addTown 19 = .ok (.getfield 28, 3) := by decide +kernel
theorem dX10_addTown_22 : decode cX10_addTown 22 = .ok (.imul, 1) := by decide +kernel
theorem dX10_addTown_23 : decode cX10_addTown 23 = .ok (.iconst 3, 1) := by decide +kernel
theorem dX10_addTown_24 : decode cX10_addTown 24 = .ok (.invokestatic 35, 3) := by decide +kernel
theorem dX10_addTown_27 : decode cX10_addTown 27 = .ok (.aload_n 0, 1) := by decide +kernel
theorem dX10_addTown_28 : decode cX10_addTown 28 = .ok (.dup, 1) := by decide +kernel
theorem dX10_addTown_29 : decode cX10_addTown 29 = .ok (.getfield 28, 3) := by decide +kernel
theorem dX10_addTown_32 : decode cX10_addTown 32 = .ok (.iconst 1, 1) := by decide +kernel
theorem dX10_addTown_33 : decode cX10_addTown 33 = .ok (.iadd, 1) := by decide +kernel
theorem dX10_addTown_34 : decode cX10_addTown 34 = .ok (.putfield 28, 3) := by decide +kernel
theorem dX10_addTown_37 : decode cX10_addTown 37 = .ok (.aload_n 0, 1) := by decide +kernel
theorem dX10_addTown_38 : decode cX10_addTown 38 = .ok (.getfield 28, 3) := by decide +kernel
theorem dX10_addTown_41 : decode cX10_addTown 41 = .ok (.iconst 1, 1) := by decide +kernel
theorem dX10_addTown_42 : decode cX10_addTown 42 = .ok (.isub, 1) := by decide +kernel
theorem dX10_addTown_43 : decode cX10_addTown 43 = .ok (.ireturn, 1) := by decide +kernel
theorem dX10_addTown_0 : decode cX10_addTown 0 = .ok (.aload_n 0, 1) := by decide +kernel
theorem dX10_addTown_1 : decode cX10_addTown 1 = .ok (.getfield 28, 3) := by decide +kernel
theorem dX10_addTown_4 : decode cX10_addTown 4 = .ok (.bipush 8, 2) := by decide +kernel
theorem dX10_addTown_6 : decode cX10_addTown 6 = .ok (.if_icmp .lt 5, 3) := by decide +kernel
theorem dX10_addTown_9 : decode cX10_addTown 9 = .ok (.iconst (-1), 1) := by decide +kernel
theorem dX10_addTown_10 : decode cX10_addTown 10 = .ok (.ireturn, 1) := by decide +kernel
theorem dX11_town_52 : decode cX11_town 52 = .ok (.aload_n 0, 1) := by decide +kernel
theorem dX11_town_53 : decode cX11_town 53 = .ok (.getfield 22, 3) := by decide +kernel
theorem dX11_town_56 : decode cX11_town 56 = .ok (.getfield 89, 3) := by decide +kernel
theorem dX11_town_59 : decode cX11_town 59 = .ok (.aload_n 0, 1) := by decide +kernel
theorem dX11_town_60 : decode cX11_town 60 = .ok (.getfield 33, 3) := by decide +kernel
theorem dX11_town_63 : decode cX11_town 63 = .ok (.getfield 93, 3) := by decide +kernel
theorem dX11_town_66 : decode cX11_town 66 = .ok (.invokevirtual 106, 3) := by decide +kernel
theorem dX11_town_69 : decode cX11_town 69 = .ok (.ireturn, 1) := by decide +kernel
theorem dX11_town_34 : decode cX11_town 34 = .ok (.aload_n 0, 1) := by decide +kernel
theorem dX11_town_35 : decode cX11_town 35 = .ok (.getfield 22, 3) := by decide +kernel
theorem dX11_town_38 : decode cX11_town 38 = .ok (.getfield 89, 3) := by decide +kernel
theorem dX11_town_41 : decode cX11_town 41 = .ok (.getfield 103, 3) := by decide +kernel
theorem dX11_town_44 : decode cX11_town 44 = .ok (.bipush 8, 2) := by decide +kernel
theorem dX11_town_46 : decode cX11_town 46 = .ok (.if_icmp .lt 6, 3) := by decide +kernel
theorem dX11_town_49 : decode cX11_town 49 = .ok (.bipush (-6), 2) := by decide +kernel
theorem dX11_town_51 : decode cX11_town 51 = .ok (.ireturn, 1) := by decide +kernel
theorem dX11_town_10 : decode cX11_town 10 = .ok (.aload_n 0, 1) := by decide +kernel
theorem dX11_town_11 : decode cX11_town 11 = .ok (.getfield 22, 3) := by decide +kernel
theorem dX11_town_14 : decode cX11_town 14 = .ok (.getfield 89, 3) := by decide +kernel
theorem dX11_town_17 : decode cX11_town 17 = .ok (.aload_n 0, 1) := by decide +kernel
theorem dX11_town_18 : decode cX11_town 18 = .ok (.getfield 33, 3) := by decide +kernel
theorem dX11_town_21 : decode cX11_town 21 = .ok (.getfield 93, 3) := by decide +kernel
theorem dX11_town_24 : decode cX11_town 24 = .ok (.invokevirtual 97, 3) := by decide +kernel
theorem dX11_town_27 : decode cX11_town 27 = .ok (.iconst (-1), 1) := by decide +kernel
theorem dX11_town_28 : decode cX11_town 28 = .ok (.if_icmp .eq 6, 3) := by decide +kernel
theorem dX11_town_31 : decode cX11_town 31 = .ok (.bipush (-5), 2) := by decide +kernel
theorem dX11_town_33 : decode cX11_town 33 = .ok (.ireturn, 1) := by decide +kernel
theorem dX11_town_0 : decode cX11_town 0 = .ok (.aload_n 0, 1) := by decide +kernel
theorem dX11_town_1 : decode cX11_town 1 = .ok (.invokevirtual 85, 3) := by decide +kernel
theorem dX11_town_4 : decode cX11_town 4 = .ok (.ifCond .ne 6, 3) := by decide +kernel
theorem dX11_town_7 : decode cX11_town 7 = .ok (.bipush (-2), 2) := by decide +kernel
theorem dX11_town_9 : decode cX11_town 9 = .ok (.ireturn, 1) := by decide +kernel
theorem dX7_readPair_77 : decode cX7_readPair 77 = .ok (.ireturn, 1) := by decide +kernel
theorem dX7_readPair_76 : decode cX7_readPair 76 = .ok (.iconst 0, 1) := by decide +kernel
theorem dX7_readPair_0 : decode cX7_readPair 0 = .ok (.aload_n 0, 1) := by decide +kernel
theorem dX7_readPair_1 : decode cX7_readPair 1 = .ok (.aload_n 1, 1) := by decide +kernel
theorem dX7_readPair_2 : decode cX7_readPair 2 = .ok (.invokevirtual 22, 3) := by decide +kernel
theorem dX7_readPair_5 : decode cX7_readPair 5 = .ok (.aload_n 0, 1) := by decide +kernel
theorem dX7_readPair_6 : decode cX7_readPair 6 = .ok (.getfield 9, 3) := by decide +kernel
theorem dX7_readPair_9 : decode cX7_readPair 9 = .ok (.iconst 0, 1) := by decide +kernel
theorem dX7_readPair_10 : decode cX7_readPair 10 = .ok (.aload_n 0, 1) := by decide +kernel
theorem dX7_readPair_11 : decode cX7_readPair 11 = .ok (.invokevirtual 34, 3) := by decide +kernel
theorem dX7_readPair_14 : decode cX7_readPair 14 = .ok (.lastore, 1) := by decide +kernel
theorem dX7_readPair_15 : decode cX7_readPair 15 = .ok (.aload_n 0, 1) := by decide +kernel
theorem dX7_readPair_16 : decode cX7_readPair 16 = .ok (.bipush 32, 2) := by decide +kernel
theorem dX7_readPair_18 : decode cX7_readPair 18 = .ok (.invokevirtual 38, 3) := by decide +kernel
theorem dX7_readPair_21 : decode cX7_readPair 21 = .ok (.istore_n 2, 1) := by decide +kernel
theorem dX7_readPair_22 : decode cX7_readPair 22 = .ok (.aload_n 0, 1) := by decide +kernel
theorem dX7_readPair_23 : decode cX7_readPair 23 = .ok (.getfield 9, 3) := by decide +kernel
theorem dX7_readPair_26 : decode cX7_readPair 26 = .ok (.iconst 1, 1) := by decide +kernel
theorem dX7_readPair_27 : decode cX7_readPair 27 = .ok (.aload_n 0, 1) := by decide +kernel
theorem dX7_readPair_28 : decode cX7_readPair 28 = .ok (.invokevirtual 34, 3) := by decide +kernel
theorem dX7_readPair_31 : decode cX7_readPair 31 = .ok (.lastore, 1) := by decide +kernel
theorem dX7_readPair_32 : decode cX7_readPair 32 = .ok (.aload_n 0, 1) := by decide +kernel
theorem dX7_readPair_33 : decode cX7_readPair 33 = .ok (.getfield 9, 3) := by decide +kernel
theorem dX7_readPair_36 : decode cX7_readPair 36 = .ok (.iconst 0, 1) := by decide +kernel
theorem dX7_readPair_37 : decode cX7_readPair 37 = .ok (.laload, 1) := by decide +kernel
theorem dX7_readPair_38 : decode cX7_readPair 38 = .ok (.lconst 0, 1) := by decide +kernel
theorem dX7_readPair_39 : decode cX7_readPair 39 = .ok (.lcmp, 1) := by decide +kernel
theorem dX7_readPair_40 : decode cX7_readPair 40 = .ok (.ifCond .eq 36, 3) := by decide +kernel
theorem dX7_readPair_43 : decode cX7_readPair 43 = .ok (.iload_n 2, 1) := by decide +kernel
theorem dX7_readPair_44 : decode cX7_readPair 44 = .ok (.ifCond .eq 32, 3) := by decide +kernel
theorem dX7_readPair_47 : decode cX7_readPair 47 = .ok (.aload_n 0, 1) := by decide +kernel
theorem dX7_readPair_48 : decode cX7_readPair 48 = .ok (.getfield 9, 3) := by decide +kernel
theorem dX7_readPair_51 : decode cX7_readPair 51 = .ok (.iconst 1, 1) := by decide +kernel
theorem dX7_readPair_52 : decode cX7_readPair 52 = .ok (.laload, 1) := by decide +kernel
theorem dX7_readPair_53 : decode cX7_readPair 53 = .ok (.lconst 0, 1) := by decide +kernel
theorem dX7_readPair_54 : decode cX7_readPair 54 = .ok (.lcmp, 1) := by decide +kernel
theorem dX7_readPair_55 : decode cX7_readPair 55 = .ok (.ifCond .eq 21, 3) := by decide +kernel
theorem dX7_readPair_58 : decode cX7_readPair 58 = .ok (.aload_n 0, 1) := by decide +kernel
theorem dX7_readPair_59 : decode cX7_readPair 59 = .ok (.getfield 42, 3) := by decide +kernel
theorem dX7_readPair_62 : decode cX7_readPair 62 = .ok (.aload_n 0, 1) := by decide +kernel
theorem dX7_readPair_63 : decode cX7_readPair 63 = .ok (.getfield 45, 3) := by decide +kernel
theorem dX7_readPair_66 : decode cX7_readPair 66 = .ok (.getfield 49, 3) := by decide +kernel
theorem dX7_readPair_69 : decode cX7_readPair 69 = .ok (.if_icmp .ne 7, 3) := by decide +kernel
theorem dX7_readPair_72 : decode cX7_readPair 72 = .ok (.iconst 1, 1) := by decide +kernel
theorem dX7_readPair_73 : decode cX7_readPair 73 = .ok (.goto 4, 3) := by decide +kernel
theorem dX10_isWordOfTown_31 : decode cX10_isWordOfTown 31 = .ok (.iconst 0, 1) := by decide +kernel
theorem dX10_isWordOfTown_32 : decode cX10_isWordOfTown 32 = .ok (.ireturn, 1) := by decide +kernel
theorem dX10_isWordOfTown_25 : decode cX10_isWordOfTown 25 = .ok (.iinc 3 1, 3) := by decide +kernel
theorem dX10_isWordOfTown_28 : decode cX10_isWordOfTown 28 = .ok (.goto (-26), 3) := by decide +kernel
theorem dX10_isWordOfTown_2 : decode cX10_isWordOfTown 2 = .ok (.iload_n 3, 1) := by decide +kernel
theorem dX10_isWordOfTown_3 : decode cX10_isWordOfTown 3 = .ok (.iconst 3, 1) := by decide +kernel
theorem dX10_isWordOfTown_4 : decode cX10_isWordOfTown 4 = .ok (.aload_n 0, 1) := by decide +kernel
theorem dX10_isWordOfTown_5 : decode cX10_isWordOfTown 5 = .ok (.getfield 28, 3) := by decide +kernel
theorem dX10_isWordOfTown_8 : decode cX10_isWordOfTown 8 = .ok (.imul, 1) := by decide +kernel
theorem dX10_isWordOfTown_9 : decode cX10_isWordOfTown 9 = .ok (.if_icmp .ge 22, 3) := by decide +kernel
theorem dX10_isWordOfTown_12 : decode cX10_isWordOfTown 12 = .ok (.aload_n 0, 1) := by decide +kernel
theorem dX10_isWordOfTown_13 : decode cX10_isWordOfTown 13 = .ok (.getfield 9, 3) := by decide +kernel
theorem dX10_isWordOfTown_16 : decode cX10_isWordOfTown 16 = .ok (.iload_n 3, 1) := by decide +kernel
theorem dX10_isWordOfTown_17 : decode cX10_isWordOfTown 17 = .ok (.laload, 1) := by decide +kernel
theorem dX10_isWordOfTown_18 : decode cX10_isWordOfTown 18 = .ok (.lload_n 1, 1) := by decide +kernel
theorem dX10_isWordOfTown_19 : decode cX10_isWordOfTown 19 = .ok (.lcmp, 1) := by decide +kernel
theorem dX10_isWordOfTown_20 : decode cX10_isWordOfTown 20 = .ok (.ifCond .ne 5, 3) := by decide +kernel
theorem dX10_isWordOfTown_23 : decode cX10_isWordOfTown 23 = .ok (.iconst 1, 1) := by decide +kernel
theorem dX10_isWordOfTown_24 : decode cX10_isWordOfTown 24 = .ok (.ireturn, 1) := by decide +kernel
theorem dX10_isWordOfTown_0 : decode cX10_isWordOfTown 0 = .ok (.iconst 0, 1) := by decide +kernel
theorem dX10_isWordOfTown_1 : decode cX10_isWordOfTown 1 = .ok (.istore_n 3, 1) := by decide +kernel

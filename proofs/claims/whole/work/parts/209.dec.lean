theorem dX12_feed_138 : decode cX12_feed 138 = .ok (.aload_n 0, 1) := by decide +kernel
theorem dX12_feed_139 : decode cX12_feed 139 = .ok (.dup, 1) := by decide +kernel
theorem dX12_feed_140 : decode cX12_feed 140 = .ok (.getfield 26, 3) := by decide +kernel
theorem dX12_feed_143 : decode cX12_feed 143 = .ok (.bipush 20, 2) := by decide +kernel
theorem dX12_feed_145 : decode cX12_feed 145 = .ok (.iadd, 1) := by decide +kernel
theorem dX12_feed_146 : decode cX12_feed 146 = .ok (.putfield 26, 3) := by decide +kernel
theorem dX12_feed_149 : decode cX12_feed 149 = .ok (.aload_n 0, 1) := by decide +kernel
theorem dX12_feed_150 : decode cX12_feed 150 = .ok (.getfield 26, 3) := by decide +kernel
theorem dX12_feed_153 : decode cX12_feed 153 = .ok (.ireturn, 1) := by decide +kernel
theorem dX12_feed_18 : decode cX12_feed 18 = .ok (.iload 6, 2) := by decide +kernel
theorem dX12_feed_20 : decode cX12_feed 20 = .ok (.iconst 4, 1) := by decide +kernel
theorem dX12_feed_21 : decode cX12_feed 21 = .ok (.if_icmp .ge 117, 3) := by decide +kernel
theorem dX12_feed_24 : decode cX12_feed 24 = .ok (.bipush 24, 2) := by decide +kernel
theorem dX12_feed_26 : decode cX12_feed 26 = .ok (.bipush 8, 2) := by decide +kernel
theorem dX12_feed_28 : decode cX12_feed 28 = .ok (.iload 6, 2) := by decide +kernel
theorem dX12_feed_30 : decode cX12_feed 30 = .ok (.imul, 1) := by decide +kernel
theorem dX12_feed_31 : decode cX12_feed 31 = .ok (.isub, 1) := by decide +kernel
theorem dX12_feed_32 : decode cX12_feed 32 = .ok (.istore 7, 2) := by decide +kernel
theorem dX12_feed_34 : decode cX12_feed 34 = .ok (.aload_n 0, 1) := by decide +kernel
theorem dX12_feed_35 : decode cX12_feed 35 = .ok (.getfield 22, 3) := by decide +kernel
theorem dX12_feed_38 : decode cX12_feed 38 = .ok (.aload_n 0, 1) := by decide +kernel
theorem dX12_feed_39 : decode cX12_feed 39 = .ok (.getfield 26, 3) := by decide +kernel
theorem dX12_feed_42 : decode cX12_feed 42 = .ok (.iload 6, 2) := by decide +kernel
theorem dX12_feed_44 : decode cX12_feed 44 = .ok (.iadd, 1) := by decide +kernel
theorem dX12_feed_45 : decode cX12_feed 45 = .ok (.iload_n 1, 1) := by decide +kernel
theorem dX12_feed_46 : decode cX12_feed 46 = .ok (.iload 7, 2) := by decide +kernel
theorem dX12_feed_48 : decode cX12_feed 48 = .ok (.ishr, 1) := by decide +kernel
theorem dX12_feed_49 : decode cX12_feed 49 = .ok (.i2b, 1) := by decide +kernel
theorem dX12_feed_50 : decode cX12_feed 50 = .ok (.bastore, 1) := by decide +kernel
theorem dX12_feed_51 : decode cX12_feed 51 = .ok (.aload_n 0, 1) := by decide +kernel
theorem dX12_feed_52 : decode cX12_feed 52 = .ok (.getfield 22, 3) := by decide +kernel
theorem dX12_feed_55 : decode cX12_feed 55 = .ok (.aload_n 0, 1) := by decide +kernel
theorem dX12_feed_56 : decode cX12_feed 56 = .ok (.getfield 26, 3) := by decide +kernel
theorem dX12_feed_59 : decode cX12_feed 59 = .ok (.iconst 4, 1) := by decide +kernel
theorem dX12_feed_60 : decode cX12_feed 60 = .ok (.iadd, 1) := by decide +kernel
theorem dX12_feed_61 : decode cX12_feed 61 = .ok (.iload 6, 2) := by decide +kernel
theorem dX12_feed_63 : decode cX12_feed 63 = .ok (.iadd, 1) := by decide +kernel
theorem dX12_feed_64 : decode cX12_feed 64 = .ok (.iload_n 2, 1) := by decide +kernel
theorem dX12_feed_65 : decode cX12_feed 65 = .ok (.iload 7, 2) := by decide +kernel
theorem dX12_feed_67 : decode cX12_feed 67 = .ok (.ishr, 1) := by decide +kernel
theorem dX12_feed_68 : decode cX12_feed 68 = .ok (.i2b, 1) := by decide +kernel
theorem dX12_feed_69 : decode cX12_feed 69 = .ok (.bastore, 1) := by decide +kernel
theorem dX12_feed_70 : decode cX12_feed 70 = .ok (.aload_n 0, 1) := by decide +kernel
theorem dX12_feed_71 : decode cX12_feed 71 = .ok (.getfield 22, 3) := by decide +kernel
theorem dX12_feed_74 : decode cX12_feed 74 = .ok (.aload_n 0, 1) := by decide +kernel
theorem dX12_feed_75 : decode cX12_feed 75 = .ok (.getfield 26, 3) := by decide +kernel
theorem dX12_feed_78 : decode cX12_feed 78 = .ok (.bipush 8, 2) := by decide +kernel
theorem dX12_feed_80 : decode cX12_feed 80 = .ok (.iadd, 1) := by decide +kernel
theorem dX12_feed_81 : decode cX12_feed 81 = .ok (.iload 6, 2) := by decide +kernel
theorem dX12_feed_83 : decode cX12_feed 83 = .ok (.iadd, 1) := by decide +kernel
theorem dX12_feed_84 : decode cX12_feed 84 = .ok (.iload_n 3, 1) := by decide +kernel
theorem dX12_feed_85 : decode cX12_feed 85 = .ok (.iload 7, 2) := by decide +kernel
theorem dX12_feed_87 : decode cX12_feed 87 = .ok (.ishr, 1) := by decide +kernel
theorem dX12_feed_88 : decode cX12_feed 88 = .ok (.i2b, 1) := by decide +kernel
theorem dX12_feed_89 : decode cX12_feed 89 = .ok (.bastore, 1) := by decide +kernel
theorem dX12_feed_90 : decode cX12_feed 90 = .ok (.aload_n 0, 1) := by decide +kernel
theorem dX12_feed_91 : decode cX12_feed 91 = .ok (.getfield 22, 3) := by decide +kernel
theorem dX12_feed_94 : decode cX12_feed 94 = .ok (.aload_n 0, 1) := by decide +kernel
theorem dX12_feed_95 : decode cX12_feed 95 = .ok (.getfield 26, 3) := by decide +kernel
theorem dX12_feed_98 : decode cX12_feed 98 = .ok (.bipush 12, 2) := by decide +kernel
theorem dX12_feed_100 : decode cX12_feed 100 = .ok (.iadd, 1) := by decide +kernel
theorem dX12_feed_101 : decode cX12_feed 101 = .ok (.iload 6, 2) := by decide +kernel
theorem dX12_feed_103 : decode cX12_feed 103 = .ok (.iadd, 1) := by decide +kernel
theorem dX12_feed_104 : decode cX12_feed 104 = .ok (.iload 4, 2) := by decide +kernel
theorem dX12_feed_106 : decode cX12_feed 106 = .ok (.iload 7, 2) := by decide +kernel
theorem dX12_feed_108 : decode cX12_feed 108 = .ok (.ishr, 1) := by decide +kernel
theorem dX12_feed_109 : decode cX12_feed 109 = .ok (.i2b, 1) := by decide +kernel
theorem dX12_feed_110 : decode cX12_feed 110 = .ok (.bastore, 1) := by decide +kernel
theorem dX12_feed_111 : decode cX12_feed 111 = .ok (.aload_n 0, 1) := by decide +kernel
theorem dX12_feed_112 : decode cX12_feed 112 = .ok (.getfield 22, 3) := by decide +kernel
theorem dX12_feed_115 : decode cX12_feed 115 = .ok (.aload_n 0, 1) := by decide +kernel
theorem dX12_feed_116 : decode cX12_feed 116 = .ok (.getfield 26, 3) := by decide +kernel
theorem dX12_feed_119 : decode cX12_feed 119 = .ok (.bipush 16, 2) := by decide +kernel
theorem dX12_feed_121 : decode cX12_feed 121 = .ok (.iadd, 1) := by decide +kernel
theorem dX12_feed_122 : decode cX12_feed 122 = .ok (.iload 6, 2) := by decide +kernel
theorem dX12_feed_124 : decode cX12_feed 124 = .ok (.iadd, 1) := by decide +kernel
theorem dX12_feed_125 : decode cX12_feed 125 = .ok (.iload 5, 2) := by decide +kernel
theorem dX12_feed_127 : decode cX12_feed 127 = .ok (.iload 7, 2) := by decide +kernel
theorem dX12_feed_129 : decode cX12_feed 129 = .ok (.ishr, 1) := by decide +kernel
theorem dX12_feed_130 : decode cX12_feed 130 = .ok (.i2b, 1) := by decide +kernel
theorem dX12_feed_131 : decode cX12_feed 131 = .ok (.bastore, 1) := by decide +kernel
theorem dX12_feed_132 : decode cX12_feed 132 = .ok (.iinc 6 1, 3) := by decide +kernel
theorem dX12_feed_135 : decode cX12_feed 135 = .ok (.goto (-117), 3) := by decide +kernel
theorem dX12_feed_15 : decode cX12_feed 15 = .ok (.iconst 0, 1) := by decide +kernel
theorem dX12_feed_16 : decode cX12_feed 16 = .ok (.istore 6, 2) := by decide +kernel
theorem dX12_feed_0 : decode cX12_feed 0 = .ok (.aload_n 0, 1) := by decide +kernel
theorem dX12_feed_1 : decode cX12_feed 1 = .ok (.getfield 26, 3) := by decide +kernel
theorem dX12_feed_4 : decode cX12_feed 4 = .ok (.bipush 20, 2) := by decide +kernel
theorem dX12_feed_6 : decode cX12_feed 6 = .ok (.iadd, 1) := by decide +kernel
theorem dX12_feed_7 : decode cX12_feed 7 = .ok (.sipush 1200, 3) := by decide +kernel
theorem dX12_feed_10 : decode cX12_feed 10 = .ok (.if_icmp .le 5, 3) := by decide +kernel
theorem dX12_feed_13 : decode cX12_feed 13 = .ok (.iconst (-1), 1) := by decide +kernel
theorem dX12_feed_14 : decode cX12_feed 14 = .ok (.ireturn, 1) := by decide +kernel
theorem dX12_end_14 : decode cX12_end 14 = .ok (.aload_n 0, 1) := by decide +kernel
theorem dX12_end_15 : decode cX12_end 15 = .ok (.iload_n 1, 1) := by decide +kernel
theorem dX12_end_16 : decode cX12_end 16 = .ok (.putfield 26, 3) := by decide +kernel
theorem dX12_end_19 : decode cX12_end 19 = .ok (.iconst 1, 1) := by decide +kernel
theorem dX12_end_20 : decode cX12_end 20 = .ok (.ireturn, 1) := by decide +kernel
theorem dX12_end_12 : decode cX12_end 12 = .ok (.iconst 0, 1) := by decide +kernel
theorem dX12_end_13 : decode cX12_end 13 = .ok (.ireturn, 1) := by decide +kernel
theorem dX12_end_0 : decode cX12_end 0 = .ok (.iload_n 1, 1) := by decide +kernel
theorem dX12_end_1 : decode cX12_end 1 = .ok (.ifCond .lt 11, 3) := by decide +kernel
theorem dX12_end_4 : decode cX12_end 4 = .ok (.iload_n 1, 1) := by decide +kernel
theorem dX12_end_5 : decode cX12_end 5 = .ok (.aload_n 0, 1) := by decide +kernel
theorem dX12_end_6 : decode cX12_end 6 = .ok (.getfield 26, 3) := by decide +kernel
theorem dX12_end_9 : decode cX12_end 9 = .ok (.if_icmp .le 5, 3) := by decide +kernel
theorem dX12_take_36 : decode cX12_take 36 = .ok (.aload_n 0, 1) := by decide +kernel
theorem dX12_take_37 : decode cX12_take 37 = .ok (.getfield 26, 3) := by decide +kernel
theorem dX12_take_40 : decode cX12_take 40 = .ok (.ireturn, 1) := by decide +kernel
theorem dX12_take_10 : decode cX12_take 10 = .ok (.iload_n 1, 1) := by decide +kernel
theorem dX12_take_11 : decode cX12_take 11 = .ok (.aload_n 0, 1) := by decide +kernel
theorem dX12_take_12 : decode cX12_take 12 = .ok (.getfield 26, 3) := by decide +kernel
theorem dX12_take_15 : decode cX12_take 15 = .ok (.if_icmp .ge 21, 3) := by decide +kernel
theorem dX12_take_18 : decode cX12_take 18 = .ok (.aload_n 0, 1) := by decide +kernel
theorem dX12_take_19 : decode cX12_take 19 = .ok (.getfield 22, 3) := by decide +kernel
theorem dX12_take_22 : decode cX12_take 22 = .ok (.iload_n 1, 1) := by decide +kernel
theorem dX12_take_23 : decode cX12_take 23 = .ok (.aload_n 0, 1) := by decide +kernel
theorem dX12_take_24 : decode cX12_take 24 = .ok (.getfield 36, 3) := by decide +kernel
theorem dX12_take_27 : decode cX12_take 27 = .ok (.iload_n 1, 1) := by decide +kernel
theorem dX12_take_28 : decode cX12_take 28 = .ok (.baload, 1) := by decide +kernel
theorem dX12_take_29 : decode cX12_take 29 = .ok (.bastore, 1) := by decide +kernel
theorem dX12_take_30 : decode cX12_take 30 = .ok (.iinc 1 1, 3) := by decide +kernel
theorem dX12_take_33 : decode cX12_take 33 = .ok (.goto (-23), 3) := by decide +kernel
theorem dX12_take_0 : decode cX12_take 0 = .ok (.aload_n 0, 1) := by decide +kernel
theorem dX12_take_1 : decode cX12_take 1 = .ok (.aload_n 0, 1) := by decide +kernel
theorem dX12_take_2 : decode cX12_take 2 = .ok (.getfield 39, 3) := by decide +kernel
theorem dX12_take_5 : decode cX12_take 5 = .ok (.putfield 26, 3) := by decide +kernel
theorem dX12_take_8 : decode cX12_take 8 = .ok (.iconst 0, 1) := by decide +kernel
theorem dX12_take_9 : decode cX12_take 9 = .ok (.istore_n 1, 1) := by decide +kernel
theorem dX12_out_26 : decode cX12_out 26 = .ok (.ireturn, 1) := by decide +kernel
theorem dX12_out_16 : decode cX12_out 16 = .ok (.aload_n 0, 1) := by decide +kernel
theorem dX12_out_17 : decode cX12_out 17 = .ok (.getfield 36, 3) := by decide +kernel
theorem dX12_out_20 : decode cX12_out 20 = .ok (.iload_n 1, 1) := by decide +kernel
theorem dX12_out_21 : decode cX12_out 21 = .ok (.baload, 1) := by decide +kernel
theorem dX12_out_22 : decode cX12_out 22 = .ok (.sipush 255, 3) := by decide +kernel
theorem dX12_out_25 : decode cX12_out 25 = .ok (.iand, 1) := by decide +kernel
theorem dX12_out_12 : decode cX12_out 12 = .ok (.iconst (-1), 1) := by decide +kernel
theorem dX12_out_13 : decode cX12_out 13 = .ok (.goto 13, 3) := by decide +kernel
theorem dX12_out_0 : decode cX12_out 0 = .ok (.iload_n 1, 1) := by decide +kernel
theorem dX12_out_1 : decode cX12_out 1 = .ok (.ifCond .lt 11, 3) := by decide +kernel
theorem dX12_out_4 : decode cX12_out 4 = .ok (.iload_n 1, 1) := by decide +kernel
theorem dX12_out_5 : decode cX12_out 5 = .ok (.aload_n 0, 1) := by decide +kernel
theorem dX12_out_6 : decode cX12_out 6 = .ok (.getfield 39, 3) := by decide +kernel
theorem dX12_out_9 : decode cX12_out 9 = .ok (.if_icmp .lt 7, 3) := by decide +kernel
theorem dX12_takes_36 : decode cX12_takes 36 = .ok (.aload_n 0, 1) := by decide +kernel
theorem dX12_takes_37 : decode cX12_takes 37 = .ok (.iconst 0, 1) := by decide +kernel
theorem dX12_takes_38 : decode cX12_takes 38 = .ok (.putfield 26, 3) := by decide +kernel
theorem dX12_takes_41 : decode cX12_takes 41 = .ok (.return_, 1) := by decide +kernel
theorem dX12_takes_10 : decode cX12_takes 10 = .ok (.iload_n 1, 1) := by decide +kernel
theorem dX12_takes_11 : decode cX12_takes 11 = .ok (.aload_n 0, 1) := by decide +kernel
theorem dX12_takes_12 : decode cX12_takes 12 = .ok (.getfield 33, 3) := by decide +kernel
theorem dX12_takes_15 : decode cX12_takes 15 = .ok (.if_icmp .ge 21, 3) := by decide +kernel
theorem dX12_takes_18 : decode cX12_takes 18 = .ok (.aload_n 0, 1) := by decide +kernel
theorem dX12_takes_19 : decode cX12_takes 19 = .ok (.getfield 30, 3) := by decide +kernel
theorem dX12_takes_22 : decode cX12_takes 22 = .ok (.iload_n 1, 1) := by decide +kernel
theorem dX12_takes_23 : decode cX12_takes 23 = .ok (.aload_n 0, 1) := by decide +kernel
theorem dX12_takes_24 : decode cX12_takes 24 = .ok (.getfield 22, 3) := by decide +kernel
theorem dX12_takes_27 : decode cX12_takes 27 = .ok (.iload_n 1, 1) := by decide +kernel
theorem dX12_takes_28 : decode cX12_takes 28 = .ok (.baload, 1) := by decide +kernel
theorem dX12_takes_29 : decode cX12_takes 29 = .ok (.bastore, 1) := by decide +kernel
theorem dX12_takes_30 : decode cX12_takes 30 = .ok (.iinc 1 1, 3) := by decide +kernel
theorem dX12_takes_33 : decode cX12_takes 33 = .ok (.goto (-23), 3) := by decide +kernel
theorem dX12_takes_0 : decode cX12_takes 0 = .ok (.aload_n 0, 1) := by decide +kernel
theorem dX12_takes_1 : decode cX12_takes 1 = .ok (.aload_n 0, 1) := by decide +kernel
theorem dX12_takes_2 : decode cX12_takes 2 = .ok (.getfield 26, 3) := by decide +kernel
theorem dX12_takes_5 : decode cX12_takes 5 = .ok (.putfield 33, 3) := by decide +kernel
theorem dX12_takes_8 : decode cX12_takes 8 = .ok (.iconst 0, 1) := by decide +kernel
theorem dX12_takes_9 : decode cX12_takes 9 = .ok (.istore_n 1, 1) := by decide +kernel
theorem dX12_isDay_15 : decode cX12_isDay 15 = .ok (.ireturn, 1) := by decide +kernel
theorem dX12_isDay_14 : decode cX12_isDay 14 = .ok (.iconst 0, 1) := by decide +kernel
theorem dX12_isDay_0 : decode cX12_isDay 0 = .ok (.iload_n 0, 1) := by decide +kernel
theorem dX12_isDay_1 : decode cX12_isDay 1 = .ok (.ifCond .lt 13, 3) := by decide +kernel
theorem dX12_isDay_4 : decode cX12_isDay 4 = .ok (.iload_n 0, 1) := by decide +kernel
theorem dX12_isDay_5 : decode cX12_isDay 5 = .ok (.ldc 94, 2) := by decide +kernel
theorem dX12_isDay_7 : decode cX12_isDay 7 = .ok (.if_icmp .gt 7, 3) := by decide +kernel
theorem dX12_isDay_10 : decode cX12_isDay 10 = .ok (.iconst 1, 1) := by decide +kernel
theorem dX12_isDay_11 : decode cX12_isDay 11 = .ok (.goto 4, 3) := by decide +kernel
theorem dX12_day_19 : decode cX12_day 19 = .ok (.aload_n 0, 1) := by decide +kernel
theorem dX12_day_20 : decode cX12_day 20 = .ok (.getfield 10, 3) := by decide +kernel
theorem dX12_day_23 : decode cX12_day 23 = .ok (.iconst 0, 1) := by decide +kernel
theorem dX12_day_24 : decode cX12_day 24 = .ok (.iload_n 1, 1) := by decide +kernel
theorem dX12_day_25 : decode cX12_day 25 = .ok (.iastore, 1) := by decide +kernel
theorem dX12_day_26 : decode cX12_day 26 = .ok (.iconst 1, 1) := by decide +kernel
theorem dX12_day_27 : decode cX12_day 27 = .ok (.ireturn, 1) := by decide +kernel
theorem dX12_day_17 : decode cX12_day 17 = .ok (.iconst 0, 1) := by decide +kernel
theorem dX12_day_18 : decode cX12_day 18 = .ok (.ireturn, 1) := by decide +kernel
theorem dX12_day_0 : decode cX12_day 0 = .ok (.iload_n 1, 1) := by decide +kernel
theorem dX12_day_1 : decode cX12_day 1 = .ok (.invokestatic 95, 3) := by decide +kernel
theorem dX12_day_4 : decode cX12_day 4 = .ok (.ifCond .eq 13, 3) := by decide +kernel
theorem dX12_day_7 : decode cX12_day 7 = .ok (.iload_n 1, 1) := by decide +kernel
theorem dX12_day_8 : decode cX12_day 8 = .ok (.aload_n 0, 1) := by decide +kernel
theorem dX12_day_9 : decode cX12_day 9 = .ok (.getfield 10, 3) := by decide +kernel
theorem dX12_day_12 : decode cX12_day 12 = .ok (.iconst 0, 1) := by decide +kernel
theorem dX12_day_13 : decode cX12_day 13 = .ok (.iaload, 1) := by decide +kernel
theorem dX12_day_14 : decode cX12_day 14 = .ok (.if_icmp .ge 5, 3) := by decide +kernel
theorem dX12_as_14 : decode cX12_as 14 = .ok (.aload_n 0, 1) := by decide +kernel
theorem dX12_as_15 : decode cX12_as 15 = .ok (.getfield 10, 3) := by decide +kernel
theorem dX12_as_18 : decode cX12_as 18 = .ok (.iconst 1, 1) := by decide +kernel
theorem dX12_as_19 : decode cX12_as 19 = .ok (.iload_n 1, 1) := by decide +kernel
theorem dX12_as_20 : decode cX12_as 20 = .ok (.iastore, 1) := by decide +kernel
theorem dX12_as_21 : decode cX12_as 21 = .ok (.iconst 1, 1) := by decide +kernel
theorem dX12_as_22 : decode cX12_as 22 = .ok (.ireturn, 1) := by decide +kernel
theorem dX12_as_0 : decode cX12_as 0 = .ok (.iload_n 1, 1) := by decide +kernel
theorem dX12_as_1 : decode cX12_as 1 = .ok (.iconst (-1), 1) := by decide +kernel
theorem dX12_as_2 : decode cX12_as 2 = .ok (.if_icmp .eq 12, 3) := by decide +kernel
theorem dX12_as_5 : decode cX12_as 5 = .ok (.iload_n 1, 1) := by decide +kernel
theorem dX12_as_6 : decode cX12_as 6 = .ok (.invokestatic 95, 3) := by decide +kernel
theorem dX12_as_9 : decode cX12_as 9 = .ok (.ifCond .ne 5, 3) := by decide +kernel
theorem dX12_as_12 : decode cX12_as 12 = .ok (.iconst 0, 1) := by decide +kernel
theorem dX12_as_13 : decode cX12_as 13 = .ok (.ireturn, 1) := by decide +kernel
theorem dX12_isKnown_37 : decode cX12_isKnown 37 = .ok (.ireturn, 1) := by decide +kernel
theorem dX12_isKnown_36 : decode cX12_isKnown 36 = .ok (.iconst 0, 1) := by decide +kernel
theorem dX12_isKnown_32 : decode cX12_isKnown 32 = .ok (.iconst 1, 1) := by decide +kernel
theorem dX12_isKnown_33 : decode cX12_isKnown 33 = .ok (.goto 4, 3) := by decide +kernel
theorem dX12_isKnown_0 : decode cX12_isKnown 0 = .ok (.aload_n 0, 1) := by decide +kernel
theorem dX12_isKnown_1 : decode cX12_isKnown 1 = .ok (.getfield 10, 3) := by decide +kernel
theorem dX12_isKnown_4 : decode cX12_isKnown 4 = .ok (.iconst 1, 1) := by decide +kernel
theorem dX12_isKnown_5 : decode cX12_isKnown 5 = .ok (.iaload, 1) := by decide +kernel
theorem dX12_isKnown_6 : decode cX12_isKnown 6 = .ok (.iconst (-1), 1) := by decide +kernel
theorem dX12_isKnown_7 : decode cX12_isKnown 7 = .ok (.if_icmp .eq 25, 3) := by decide +kernel
theorem dX12_isKnown_10 : decode cX12_isKnown 10 = .ok (.aload_n 0, 1) := by decide +kernel
theorem dX12_isKnown_11 : decode cX12_isKnown 11 = .ok (.getfield 10, 3) := by decide +kernel
theorem dX12_isKnown_14 : decode cX12_isKnown 14 = .ok (.sipush 28752, 3) := by decide +kernel
theorem dX12_isKnown_17 : decode cX12_isKnown 17 = .ok (.bipush 7, 2) := by decide +kernel
theorem dX12_isKnown_19 : decode cX12_isKnown 19 = .ok (.iload_n 1, 1) := by decide +kernel
theorem dX12_isKnown_20 : decode cX12_isKnown 20 = .ok (.imul, 1) := by decide +kernel
theorem dX12_isKnown_21 : decode cX12_isKnown 21 = .ok (.iadd, 1) := by decide +kernel
theorem dX12_isKnown_22 : decode cX12_isKnown 22 = .ok (.iaload, 1) := by decide +kernel
theorem dX12_isKnown_23 : decode cX12_isKnown 23 = .ok (.aload_n 0, 1) := by decide +kernel
theorem dX12_isKnown_24 : decode cX12_isKnown 24 = .ok (.getfield 10, 3) := by decide +kernel
theorem dX12_isKnown_27 : decode cX12_isKnown 27 = .ok (.iconst 1, 1) := by decide +kernel
theorem dX12_isKnown_28 : decode cX12_isKnown 28 = .ok (.iaload, 1) := by decide +kernel
theorem dX12_isKnown_29 : decode cX12_isKnown 29 = .ok (.if_icmp .gt 7, 3) := by decide +kernel
theorem dX12_from_0 : decode cX12_from 0 = .ok (.aload_n 0, 1) := by decide +kernel
theorem dX12_from_1 : decode cX12_from 1 = .ok (.getfield 10, 3) := by decide +kernel
theorem dX12_from_4 : decode cX12_from 4 = .ok (.sipush 28752, 3) := by decide +kernel
theorem dX12_from_7 : decode cX12_from 7 = .ok (.bipush 7, 2) := by decide +kernel
theorem dX12_from_9 : decode cX12_from 9 = .ok (.iload_n 1, 1) := by decide +kernel
theorem dX12_from_10 : decode cX12_from 10 = .ok (.imul, 1) := by decide +kernel
theorem dX12_from_11 : decode cX12_from 11 = .ok (.iadd, 1) := by decide +kernel
theorem dX12_from_12 : decode cX12_from 12 = .ok (.iconst 1, 1) := by decide +kernel
theorem dX12_from_13 : decode cX12_from 13 = .ok (.iadd, 1) := by decide +kernel
theorem dX12_from_14 : decode cX12_from 14 = .ok (.iaload, 1) := by decide +kernel
theorem dX12_from_15 : decode cX12_from 15 = .ok (.ireturn, 1) := by decide +kernel
theorem dX12_holds_46 : decode cX12_holds 46 = .ok (.ireturn, 1) := by decide +kernel
theorem dX12_holds_45 : decode cX12_holds 45 = .ok (.iconst 0, 1) := by decide +kernel
theorem dX12_holds_41 : decode cX12_holds 41 = .ok (.iconst 1, 1) := by decide +kernel
theorem dX12_holds_42 : decode cX12_holds 42 = .ok (.goto 4, 3) := by decide +kernel
theorem dX12_holds_19 : decode cX12_holds 19 = .ok (.iload_n 2, 1) := by decide +kernel
theorem dX12_holds_20 : decode cX12_holds 20 = .ok (.iconst (-1), 1) := by decide +kernel
theorem dX12_holds_21 : decode cX12_holds 21 = .ok (.if_icmp .eq 20, 3) := by decide +kernel
theorem dX12_holds_24 : decode cX12_holds 24 = .ok (.aload_n 0, 1) := by decide +kernel
theorem dX12_holds_25 : decode cX12_holds 25 = .ok (.iload_n 2, 1) := by decide +kernel
theorem dX12_holds_26 : decode cX12_holds 26 = .ok (.invokevirtual 99, 3) := by decide +kernel
theorem dX12_holds_29 : decode cX12_holds 29 = .ok (.ifCond .eq 12, 3) := by decide +kernel
theorem dX12_holds_32 : decode cX12_holds 32 = .ok (.aload_n 0, 1) := by decide +kernel
theorem dX12_holds_33 : decode cX12_holds 33 = .ok (.iload_n 2, 1) := by decide +kernel
theorem dX12_holds_34 : decode cX12_holds 34 = .ok (.invokevirtual 102, 3) := by decide +kernel
theorem dX12_holds_37 : decode cX12_holds 37 = .ok (.iload_n 3, 1) := by decide +kernel
theorem dX12_holds_38 : decode cX12_holds 38 = .ok (.if_icmp .le 7, 3) := by decide +kernel
theorem dX12_holds_17 : decode cX12_holds 17 = .ok (.iconst 0, 1) := by decide +kernel
theorem dX12_holds_18 : decode cX12_holds 18 = .ok (.ireturn, 1) := by decide +kernel
theorem dX12_holds_0 : decode cX12_holds 0 = .ok (.aload_n 0, 1) := by decide +kernel
theorem dX12_holds_1 : decode cX12_holds 1 = .ok (.iload_n 1, 1) := by decide +kernel
theorem dX12_holds_2 : decode cX12_holds 2 = .ok (.invokevirtual 99, 3) := by decide +kernel
theorem dX12_holds_5 : decode cX12_holds 5 = .ok (.ifCond .eq 12, 3) := by decide +kernel
theorem dX12_holds_8 : decode cX12_holds 8 = .ok (.aload_n 0, 1) := by decide +kernel
theorem dX12_holds_9 : decode cX12_holds 9 = .ok (.iload_n 1, 1) := by decide +kernel
theorem dX12_holds_10 : decode cX12_holds 10 = .ok (.invokevirtual 102, 3) := by decide +kernel
theorem dX12_holds_13 : decode cX12_holds 13 = .ok (.iload_n 3, 1) := by decide +kernel
theorem dX12_holds_14 : decode cX12_holds 14 = .ok (.if_icmp .le 5, 3) := by decide +kernel
theorem dX12_isLetter_17 : decode cX12_isLetter 17 = .ok (.ireturn, 1) := by decide +kernel
theorem dX12_isLetter_16 : decode cX12_isLetter 16 = .ok (.iconst 0, 1) := by decide +kernel
theorem dX12_isLetter_0 : decode cX12_isLetter 0 = .ok (.iload_n 0, 1) := by decide +kernel
theorem dX12_isLetter_1 : decode cX12_isLetter 1 = .ok (.bipush 97, 2) := by decide +kernel
theorem dX12_isLetter_3 : decode cX12_isLetter 3 = .ok (.if_icmp .lt 13, 3) := by decide +kernel
theorem dX12_isLetter_6 : decode cX12_isLetter 6 = .ok (.iload_n 0, 1) := by decide +kernel
theorem dX12_isLetter_7 : decode cX12_isLetter 7 = .ok (.bipush 122, 2) := by decide +kernel
theorem dX12_isLetter_9 : decode cX12_isLetter 9 = .ok (.if_icmp .gt 7, 3) := by decide +kernel
theorem dX12_isLetter_12 : decode cX12_isLetter 12 = .ok (.iconst 1, 1) := by decide +kernel
theorem dX12_isLetter_13 : decode cX12_isLetter 13 = .ok (.goto 4, 3) := by decide +kernel
theorem dX12_here_22 : decode cX12_here 22 = .ok (.ireturn, 1) := by decide +kernel
theorem dX12_here_21 : decode cX12_here 21 = .ok (.iconst (-1), 1) := by decide +kernel
theorem dX12_here_0 : decode cX12_here 0 = .ok (.iload_n 1, 1) := by decide +kernel
theorem dX12_here_1 : decode cX12_here 1 = .ok (.aload_n 0, 1) := by decide +kernel
theorem dX12_here_2 : decode cX12_here 2 = .ok (.getfield 33, 3) := by decide +kernel
theorem dX12_here_5 : decode cX12_here 5 = .ok (.if_icmp .ge 16, 3) := by decide +kernel
theorem dX12_here_8 : decode cX12_here 8 = .ok (.aload_n 0, 1) := by decide +kernel
theorem dX12_here_9 : decode cX12_here 9 = .ok (.getfield 30, 3) := by decide +kernel
theorem dX12_here_12 : decode cX12_here 12 = .ok (.iload_n 1, 1) := by decide +kernel
theorem dX12_here_13 : decode cX12_here 13 = .ok (.baload, 1) := by decide +kernel
theorem dX12_here_14 : decode cX12_here 14 = .ok (.sipush 255, 3) := by decide +kernel
theorem dX12_here_17 : decode cX12_here 17 = .ok (.iand, 1) := by decide +kernel
theorem dX12_here_18 : decode cX12_here 18 = .ok (.goto 4, 3) := by decide +kernel
theorem dX12_lengthen_131 : decode cX12_lengthen 131 = .ok (.return_, 1) := by decide +kernel
theorem dX12_lengthen_125 : decode cX12_lengthen 125 = .ok (.iinc 3 1, 3) := by decide +kernel
theorem dX12_lengthen_128 : decode cX12_lengthen 128 = .ok (.goto (-126), 3) := by decide +kernel
theorem dX12_lengthen_124 : decode cX12_lengthen 124 = .ok (.return_, 1) := by decide +kernel
theorem dX12_lengthen_83 : decode cX12_lengthen 83 = .ok (.iload 5, 2) := by decide +kernel
theorem dX12_lengthen_85 : decode cX12_lengthen 85 = .ok (.bipush 12, 2) := by decide +kernel
theorem dX12_lengthen_87 : decode cX12_lengthen 87 = .ok (.if_icmp .ge 37, 3) := by decide +kernel
theorem dX12_lengthen_90 : decode cX12_lengthen 90 = .ok (.aload_n 1, 1) := by decide +kernel
theorem dX12_lengthen_91 : decode cX12_lengthen 91 = .ok (.bipush 12, 2) := by decide +kernel
theorem dX12_lengthen_93 : decode cX12_lengthen 93 = .ok (.iload_n 2, 1) := by decide +kernel
theorem dX12_lengthen_94 : decode cX12_lengthen 94 = .ok (.imul, 1) := by decide +kernel
theorem dX12_lengthen_95 : decode cX12_lengthen 95 = .ok (.iload 5, 2) := by decide +kernel
theorem dX12_lengthen_97 : decode cX12_lengthen 97 = .ok (.iadd, 1) := by decide +kernel
theorem dX12_lengthen_98 : decode cX12_lengthen 98 = .ok (.aload_n 0, 1) := by decide +kernel
theorem dX12_lengthen_99 : decode cX12_lengthen 99 = .ok (.getfield 10, 3) := by decide +kernel
theorem dX12_lengthen_102 : decode cX12_lengthen 102 = .ok (.sipush 30152, 3) := by decide +kernel
theorem dX12_lengthen_105 : decode cX12_lengthen 105 = .ok (.bipush 24, 2) := by decide +kernel
theorem dX12_lengthen_107 : decode cX12_lengthen 107 = .ok (.iload_n 3, 1) := by decide +kernel
theorem dX12_lengthen_108 : decode cX12_lengthen 108 = .ok (.imul, 1) := by decide +kernel
theorem dX12_lengthen_109 : decode cX12_lengthen 109 = .ok (.iadd, 1) := by decide +kernel
theorem dX12_lengthen_110 : decode cX12_lengthen 110 = .ok (.bipush 12, 2) := by decide +kernel
theorem dX12_lengthen_112 : decode cX12_lengthen 112 = .ok (.iadd, 1) := by decide +kernel
theorem dX12_lengthen_113 : decode cX12_lengthen 113 = .ok (.iload 5, 2) := by decide +kernel
theorem dX12_lengthen_115 : decode cX12_lengthen 115 = .ok (.iadd, 1) := by decide +kernel
theorem dX12_lengthen_116 : decode cX12_lengthen 116 = .ok (.iaload, 1) := by decide +kernel
theorem dX12_lengthen_117 : decode cX12_lengthen 117 = .ok (.iastore, 1) := by decide +kernel
theorem dX12_lengthen_118 : decode cX12_lengthen 118 = .ok (.iinc 5 1, 3) := by decide +kernel
theorem dX12_lengthen_121 : decode cX12_lengthen 121 = .ok (.goto (-38), 3) := by decide +kernel
theorem dX12_lengthen_80 : decode cX12_lengthen 80 = .ok (.iconst 0, 1) := by decide +kernel
theorem dX12_lengthen_81 : decode cX12_lengthen 81 = .ok (.istore 5, 2) := by decide +kernel
theorem dX12_lengthen_72 : decode cX12_lengthen 72 = .ok (.iload 4, 2) := by decide +kernel
theorem dX12_lengthen_74 : decode cX12_lengthen 74 = .ok (.ifCond .ne 6, 3) := by decide +kernel
theorem dX12_lengthen_77 : decode cX12_lengthen 77 = .ok (.goto 48, 3) := by decide +kernel
theorem dX12_lengthen_64 : decode cX12_lengthen 64 = .ok (.istore 4, 2) := by decide +kernel
theorem dX12_lengthen_66 : decode cX12_lengthen 66 = .ok (.iinc 5 1, 3) := by decide +kernel
theorem dX12_lengthen_69 : decode cX12_lengthen 69 = .ok (.goto (-50), 3) := by decide +kernel
theorem dX12_lengthen_63 : decode cX12_lengthen 63 = .ok (.iconst 0, 1) := by decide +kernel
theorem dX12_lengthen_19 : decode cX12_lengthen 19 = .ok (.iload 5, 2) := by decide +kernel
theorem dX12_lengthen_21 : decode cX12_lengthen 21 = .ok (.bipush 12, 2) := by decide +kernel
theorem dX12_lengthen_23 : decode cX12_lengthen 23 = .ok (.if_icmp .ge 49, 3) := by decide +kernel
theorem dX12_lengthen_26 : decode cX12_lengthen 26 = .ok (.iload 4, 2) := by decide +kernel
theorem dX12_lengthen_28 : decode cX12_lengthen 28 = .ok (.ifCond .eq 44, 3) := by decide +kernel
theorem dX12_lengthen_31 : decode cX12_lengthen 31 = .ok (.aload_n 1, 1) := by decide +kernel
theorem dX12_lengthen_32 : decode cX12_lengthen 32 = .ok (.bipush 12, 2) := by decide +kernel
theorem dX12_lengthen_34 : decode cX12_lengthen 34 = .ok (.iload_n 2, 1) := by decide +kernel
theorem dX12_lengthen_35 : decode cX12_lengthen 35 = .ok (.imul, 1) := by decide +kernel
theorem dX12_lengthen_36 : decode cX12_lengthen 36 = .ok (.iload 5, 2) := by decide +kernel
theorem dX12_lengthen_38 : decode cX12_lengthen 38 = .ok (.iadd, 1) := by decide +kernel
theorem dX12_lengthen_39 : decode cX12_lengthen 39 = .ok (.iaload, 1) := by decide +kernel
theorem dX12_lengthen_40 : decode cX12_lengthen 40 = .ok (.aload_n 0, 1) := by decide +kernel
theorem dX12_lengthen_41 : decode cX12_lengthen 41 = .ok (.getfield 10, 3) := by decide +kernel
theorem dX12_lengthen_44 : decode cX12_lengthen 44 = .ok (.sipush 30152, 3) := by decide +kernel
theorem dX12_lengthen_47 : decode cX12_lengthen 47 = .ok (.bipush 24, 2) := by decide +kernel
theorem dX12_lengthen_49 : decode cX12_lengthen 49 = .ok (.iload_n 3, 1) := by decide +kernel
theorem dX12_lengthen_50 : decode cX12_lengthen 50 = .ok (.imul, 1) := by decide +kernel
theorem dX12_lengthen_51 : decode cX12_lengthen 51 = .ok (.iadd, 1) := by decide +kernel
theorem dX12_lengthen_52 : decode cX12_lengthen 52 = .ok (.iload 5, 2) := by decide +kernel
theorem dX12_lengthen_54 : decode cX12_lengthen 54 = .ok (.iadd, 1) := by decide +kernel
theorem dX12_lengthen_55 : decode cX12_lengthen 55 = .ok (.iaload, 1) := by decide +kernel
theorem dX12_lengthen_56 : decode cX12_lengthen 56 = .ok (.if_icmp .ne 7, 3) := by decide +kernel
theorem dX12_lengthen_59 : decode cX12_lengthen 59 = .ok (.iconst 1, 1) := by decide +kernel
theorem dX12_lengthen_60 : decode cX12_lengthen 60 = .ok (.goto 4, 3) := by decide +kernel
theorem dX12_lengthen_2 : decode cX12_lengthen 2 = .ok (.iload_n 3, 1) := by decide +kernel
theorem dX12_lengthen_3 : decode cX12_lengthen 3 = .ok (.aload_n 0, 1) := by decide +kernel
theorem dX12_lengthen_4 : decode cX12_lengthen 4 = .ok (.getfield 10, 3) := by decide +kernel
theorem dX12_lengthen_7 : decode cX12_lengthen 7 = .ok (.bipush 8, 2) := by decide +kernel
theorem dX12_lengthen_9 : decode cX12_lengthen 9 = .ok (.iaload, 1) := by decide +kernel
theorem dX12_lengthen_10 : decode cX12_lengthen 10 = .ok (.if_icmp .ge 121, 3) := by decide +kernel
theorem dX12_lengthen_13 : decode cX12_lengthen 13 = .ok (.iconst 1, 1) := by decide +kernel
theorem dX12_lengthen_14 : decode cX12_lengthen 14 = .ok (.istore 4, 2) := by decide +kernel
theorem dX12_lengthen_16 : decode cX12_lengthen 16 = .ok (.iconst 0, 1) := by decide +kernel
theorem dX12_lengthen_17 : decode cX12_lengthen 17 = .ok (.istore 5, 2) := by decide +kernel
theorem dX12_lengthen_0 : decode cX12_lengthen 0 = .ok (.iconst 0, 1) := by decide +kernel
theorem dX12_lengthen_1 : decode cX12_lengthen 1 = .ok (.istore_n 3, 1) := by decide +kernel
theorem dX12_reads_133 : decode cX12_reads 133 = .ok (.ireturn, 1) := by decide +kernel
theorem dX12_reads_132 : decode cX12_reads 132 = .ok (.iconst 0, 1) := by decide +kernel
theorem dX12_reads_116 : decode cX12_reads 116 = .ok (.iload 4, 2) := by decide +kernel
theorem dX12_reads_118 : decode cX12_reads 118 = .ok (.ifCond .le 14, 3) := by decide +kernel
theorem dX12_reads_121 : decode cX12_reads 121 = .ok (.iload_n 3, 1) := by decide +kernel
theorem dX12_reads_122 : decode cX12_reads 122 = .ok (.iconst 1, 1) := by decide +kernel
theorem dX12_reads_123 : decode cX12_reads 123 = .ok (.iadd, 1) := by decide +kernel
theorem dX12_reads_124 : decode cX12_reads 124 = .ok (.iload_n 1, 1) := by decide +kernel
theorem dX12_reads_125 : decode cX12_reads 125 = .ok (.if_icmp .lt 7, 3) := by decide +kernel
theorem dX12_reads_128 : decode cX12_reads 128 = .ok (.iconst 1, 1) := by decide +kernel
theorem dX12_reads_129 : decode cX12_reads 129 = .ok (.goto 4, 3) := by decide +kernel
theorem dX12_reads_110 : decode cX12_reads 110 = .ok (.iinc 5 1, 3) := by decide +kernel
theorem dX12_reads_113 : decode cX12_reads 113 = .ok (.goto (-84), 3) := by decide +kernel
theorem dX12_reads_104 : decode cX12_reads 104 = .ok (.iinc 3 1, 3) := by decide +kernel
theorem dX12_reads_107 : decode cX12_reads 107 = .ok (.iconst 0, 1) := by decide +kernel
theorem dX12_reads_108 : decode cX12_reads 108 = .ok (.istore 4, 2) := by decide +kernel
theorem dX12_reads_102 : decode cX12_reads 102 = .ok (.iconst 0, 1) := by decide +kernel
theorem dX12_reads_103 : decode cX12_reads 103 = .ok (.ireturn, 1) := by decide +kernel
theorem dX12_reads_83 : decode cX12_reads 83 = .ok (.iload 6, 2) := by decide +kernel
theorem dX12_reads_85 : decode cX12_reads 85 = .ok (.bipush 32, 2) := by decide +kernel
theorem dX12_reads_87 : decode cX12_reads 87 = .ok (.if_icmp .ne 15, 3) := by decide +kernel
theorem dX12_reads_90 : decode cX12_reads 90 = .ok (.iload 4, 2) := by decide +kernel
theorem dX12_reads_92 : decode cX12_reads 92 = .ok (.ifCond .eq 10, 3) := by decide +kernel
theorem dX12_reads_95 : decode cX12_reads 95 = .ok (.iload_n 3, 1) := by decide +kernel
theorem dX12_reads_96 : decode cX12_reads 96 = .ok (.iconst 1, 1) := by decide +kernel
theorem dX12_reads_97 : decode cX12_reads 97 = .ok (.iadd, 1) := by decide +kernel
theorem dX12_reads_98 : decode cX12_reads 98 = .ok (.iload_n 2, 1) := by decide +kernel
theorem dX12_reads_99 : decode cX12_reads 99 = .ok (.if_icmp .ne 5, 3) := by decide +kernel
theorem dX12_reads_63 : decode cX12_reads 63 = .ok (.aload_n 0, 1) := by decide +kernel
theorem dX12_reads_64 : decode cX12_reads 64 = .ok (.getfield 42, 3) := by decide +kernel
theorem dX12_reads_67 : decode cX12_reads 67 = .ok (.bipush 12, 2) := by decide +kernel
theorem dX12_reads_69 : decode cX12_reads 69 = .ok (.iload_n 3, 1) := by decide +kernel
theorem dX12_reads_70 : decode cX12_reads 70 = .ok (.imul, 1) := by decide +kernel
theorem dX12_reads_71 : decode cX12_reads 71 = .ok (.iload 4, 2) := by decide +kernel
theorem dX12_reads_73 : decode cX12_reads 73 = .ok (.iadd, 1) := by decide +kernel
theorem dX12_reads_74 : decode cX12_reads 74 = .ok (.iload 6, 2) := by decide +kernel
theorem dX12_reads_76 : decode cX12_reads 76 = .ok (.iastore, 1) := by decide +kernel
theorem dX12_reads_77 : decode cX12_reads 77 = .ok (.iinc 4 1, 3) := by decide +kernel
theorem dX12_reads_80 : decode cX12_reads 80 = .ok (.goto 30, 3) := by decide +kernel
theorem dX12_reads_29 : decode cX12_reads 29 = .ok (.iload 5, 2) := by decide +kernel
theorem dX12_reads_31 : decode cX12_reads 31 = .ok (.aload_n 0, 1) := by decide +kernel
theorem dX12_reads_32 : decode cX12_reads 32 = .ok (.getfield 33, 3) := by decide +kernel
theorem dX12_reads_35 : decode cX12_reads 35 = .ok (.if_icmp .ge 81, 3) := by decide +kernel
theorem dX12_reads_38 : decode cX12_reads 38 = .ok (.aload_n 0, 1) := by decide +kernel
theorem dX12_reads_39 : decode cX12_reads 39 = .ok (.iload 5, 2) := by decide +kernel
theorem dX12_reads_41 : decode cX12_reads 41 = .ok (.invokevirtual 106, 3) := by decide +kernel
theorem dX12_reads_44 : decode cX12_reads 44 = .ok (.istore 6, 2) := by decide +kernel
theorem dX12_reads_46 : decode cX12_reads 46 = .ok (.iload 6, 2) := by decide +kernel
theorem dX12_reads_48 : decode cX12_reads 48 = .ok (.invokestatic 109, 3) := by decide +kernel
theorem dX12_reads_51 : decode cX12_reads 51 = .ok (.ifCond .eq 32, 3) := by decide +kernel
theorem dX12_reads_54 : decode cX12_reads 54 = .ok (.iload 4, 2) := by decide +kernel
theorem dX12_reads_56 : decode cX12_reads 56 = .ok (.bipush 12, 2) := by decide +kernel
theorem dX12_reads_58 : decode cX12_reads 58 = .ok (.if_icmp .ne 5, 3) := by decide +kernel
theorem dX12_reads_61 : decode cX12_reads 61 = .ok (.iconst 0, 1) := by decide +kernel
theorem dX12_reads_62 : decode cX12_reads 62 = .ok (.ireturn, 1) := by decide +kernel
theorem dX12_reads_21 : decode cX12_reads 21 = .ok (.iconst 0, 1) := by decide +kernel
theorem dX12_reads_22 : decode cX12_reads 22 = .ok (.istore_n 3, 1) := by decide +kernel
theorem dX12_reads_23 : decode cX12_reads 23 = .ok (.iconst 0, 1) := by decide +kernel
theorem dX12_reads_24 : decode cX12_reads 24 = .ok (.istore 4, 2) := by decide +kernel
theorem dX12_reads_26 : decode cX12_reads 26 = .ok (.iconst 0, 1) := by decide +kernel
theorem dX12_reads_27 : decode cX12_reads 27 = .ok (.istore 5, 2) := by decide +kernel
theorem dX12_reads_2 : decode cX12_reads 2 = .ok (.iload_n 3, 1) := by decide +kernel
theorem dX12_reads_3 : decode cX12_reads 3 = .ok (.bipush 36, 2) := by decide +kernel
theorem dX12_reads_5 : decode cX12_reads 5 = .ok (.if_icmp .ge 16, 3) := by decide +kernel
theorem dX12_reads_8 : decode cX12_reads 8 = .ok (.aload_n 0, 1) := by decide +kernel
theorem dX12_reads_9 : decode cX12_reads 9 = .ok (.getfield 42, 3) := by decide +kernel
theorem dX12_reads_12 : decode cX12_reads 12 = .ok (.iload_n 3, 1) := by decide +kernel
theorem dX12_reads_13 : decode cX12_reads 13 = .ok (.iconst 0, 1) := by decide +kernel
theorem dX12_reads_14 : decode cX12_reads 14 = .ok (.iastore, 1) := by decide +kernel
theorem dX12_reads_15 : decode cX12_reads 15 = .ok (.iinc 3 1, 3) := by decide +kernel
theorem dX12_reads_18 : decode cX12_reads 18 = .ok (.goto (-16), 3) := by decide +kernel
theorem dX12_reads_0 : decode cX12_reads 0 = .ok (.iconst 0, 1) := by decide +kernel
theorem dX12_reads_1 : decode cX12_reads 1 = .ok (.istore_n 3, 1) := by decide +kernel
theorem dX12_readsName_49 : decode cX12_readsName 49 = .ok (.iconst 1, 1) := by decide +kernel
theorem dX12_readsName_50 : decode cX12_readsName 50 = .ok (.ireturn, 1) := by decide +kernel
theorem dX12_readsName_43 : decode cX12_readsName 43 = .ok (.iinc 1 1, 3) := by decide +kernel
theorem dX12_readsName_46 : decode cX12_readsName 46 = .ok (.goto (-29), 3) := by decide +kernel
theorem dX12_readsName_17 : decode cX12_readsName 17 = .ok (.iload_n 1, 1) := by decide +kernel
theorem dX12_readsName_18 : decode cX12_readsName 18 = .ok (.iconst 3, 1) := by decide +kernel
theorem dX12_readsName_19 : decode cX12_readsName 19 = .ok (.if_icmp .ge 30, 3) := by decide +kernel
theorem dX12_readsName_22 : decode cX12_readsName 22 = .ok (.aload_n 0, 1) := by decide +kernel
theorem dX12_readsName_23 : decode cX12_readsName 23 = .ok (.getfield 42, 3) := by decide +kernel
theorem dX12_readsName_26 : decode cX12_readsName 26 = .ok (.bipush 12, 2) := by decide +kernel
theorem dX12_readsName_28 : decode cX12_readsName 28 = .ok (.iload_n 1, 1) := by decide +kernel
theorem dX12_readsName_29 : decode cX12_readsName 29 = .ok (.imul, 1) := by decide +kernel
theorem dX12_readsName_30 : decode cX12_readsName 30 = .ok (.iaload, 1) := by decide +kernel
theorem dX12_readsName_31 : decode cX12_readsName 31 = .ok (.ifCond .eq 12, 3) := by decide +kernel
theorem dX12_readsName_34 : decode cX12_readsName 34 = .ok (.aload_n 0, 1) := by decide +kernel
theorem dX12_readsName_35 : decode cX12_readsName 35 = .ok (.aload_n 0, 1) := by decide +kernel
theorem dX12_readsName_36 : decode cX12_readsName 36 = .ok (.getfield 42, 3) := by decide +kernel
theorem dX12_readsName_39 : decode cX12_readsName 39 = .ok (.iload_n 1, 1) := by decide +kernel
theorem dX12_readsName_40 : decode cX12_readsName 40 = .ok (.invokevirtual 119, 3) := by decide +kernel
theorem dX12_readsName_15 : decode cX12_readsName 15 = .ok (.iconst 0, 1) := by decide +kernel
theorem dX12_readsName_16 : decode cX12_readsName 16 = .ok (.istore_n 1, 1) := by decide +kernel
theorem dX12_readsName_0 : decode cX12_readsName 0 = .ok (.aload_n 0, 1) := by decide +kernel
theorem dX12_readsName_1 : decode cX12_readsName 1 = .ok (.invokevirtual 112, 3) := by decide +kernel
theorem dX12_readsName_4 : decode cX12_readsName 4 = .ok (.aload_n 0, 1) := by decide +kernel
theorem dX12_readsName_5 : decode cX12_readsName 5 = .ok (.iconst 1, 1) := by decide +kernel
theorem dX12_readsName_6 : decode cX12_readsName 6 = .ok (.iconst 3, 1) := by decide +kernel
theorem dX12_readsName_7 : decode cX12_readsName 7 = .ok (.invokevirtual 115, 3) := by decide +kernel
theorem dX12_readsName_10 : decode cX12_readsName 10 = .ok (.ifCond .ne 5, 3) := by decide +kernel
theorem dX12_readsName_13 : decode cX12_readsName 13 = .ok (.iconst 0, 1) := by decide +kernel
theorem dX12_readsName_14 : decode cX12_readsName 14 = .ok (.ireturn, 1) := by decide +kernel
theorem dX12_isName_50 : decode cX12_isName 50 = .ok (.iload_n 3, 1) := by decide +kernel
theorem dX12_isName_51 : decode cX12_isName 51 = .ok (.ireturn, 1) := by decide +kernel
theorem dX12_isName_43 : decode cX12_isName 43 = .ok (.istore_n 3, 1) := by decide +kernel
theorem dX12_isName_44 : decode cX12_isName 44 = .ok (.iinc 4 1, 3) := by decide +kernel
theorem dX12_isName_47 : decode cX12_isName 47 = .ok (.goto (-42), 3) := by decide +kernel
theorem dX12_isName_42 : decode cX12_isName 42 = .ok (.iconst 0, 1) := by decide +kernel
theorem dX12_isName_5 : decode cX12_isName 5 = .ok (.iload 4, 2) := by decide +kernel
theorem dX12_isName_7 : decode cX12_isName 7 = .ok (.bipush 36, 2) := by decide +kernel
theorem dX12_isName_9 : decode cX12_isName 9 = .ok (.if_icmp .ge 41, 3) := by decide +kernel
theorem dX12_isName_12 : decode cX12_isName 12 = .ok (.iload_n 3, 1) := by decide +kernel
theorem dX12_isName_13 : decode cX12_isName 13 = .ok (.ifCond .eq 37, 3) := by decide +kernel
theorem dX12_isName_16 : decode cX12_isName 16 = .ok (.aload_n 1, 1) := by decide +kernel
theorem dX12_isName_17 : decode cX12_isName 17 = .ok (.iload 4, 2) := by decide +kernel
theorem dX12_isName_19 : decode cX12_isName 19 = .ok (.iaload, 1) := by decide +kernel
theorem dX12_isName_20 : decode cX12_isName 20 = .ok (.aload_n 0, 1) := by decide +kernel
theorem dX12_isName_21 : decode cX12_isName 21 = .ok (.getfield 10, 3) := by decide +kernel
theorem dX12_isName_24 : decode cX12_isName 24 = .ok (.bipush 32, 2) := by decide +kernel
theorem dX12_isName_26 : decode cX12_isName 26 = .ok (.bipush 36, 2) := by decide +kernel
theorem dX12_isName_28 : decode cX12_isName 28 = .ok (.iload_n 2, 1) := by decide +kernel
theorem dX12_isName_29 : decode cX12_isName 29 = .ok (.imul, 1) := by decide +kernel
theorem dX12_isName_30 : decode cX12_isName 30 = .ok (.iadd, 1) := by decide +kernel
theorem dX12_isName_31 : decode cX12_isName 31 = .ok (.iload 4, 2) := by decide +kernel
theorem dX12_isName_33 : decode cX12_isName 33 = .ok (.iadd, 1) := by decide +kernel
theorem dX12_isName_34 : decode cX12_isName 34 = .ok (.iaload, 1) := by decide +kernel
theorem dX12_isName_35 : decode cX12_isName 35 = .ok (.if_icmp .ne 7, 3) := by decide +kernel
theorem dX12_isName_38 : decode cX12_isName 38 = .ok (.iconst 1, 1) := by decide +kernel
theorem dX12_isName_39 : decode cX12_isName 39 = .ok (.goto 4, 3) := by decide +kernel
theorem dX12_isName_0 : decode cX12_isName 0 = .ok (.iconst 1, 1) := by decide +kernel
theorem dX12_isName_1 : decode cX12_isName 1 = .ok (.istore_n 3, 1) := by decide +kernel
theorem dX12_isName_2 : decode cX12_isName 2 = .ok (.iconst 0, 1) := by decide +kernel
theorem dX12_isName_3 : decode cX12_isName 3 = .ok (.istore 4, 2) := by decide +kernel
theorem dX12_areAlike_61 : decode cX12_areAlike 61 = .ok (.iload_n 3, 1) := by decide +kernel
theorem dX12_areAlike_62 : decode cX12_areAlike 62 = .ok (.ireturn, 1) := by decide +kernel
theorem dX12_areAlike_54 : decode cX12_areAlike 54 = .ok (.istore_n 3, 1) := by decide +kernel
theorem dX12_areAlike_55 : decode cX12_areAlike 55 = .ok (.iinc 4 1, 3) := by decide +kernel
theorem dX12_areAlike_58 : decode cX12_areAlike 58 = .ok (.goto (-53), 3) := by decide +kernel
theorem dX12_areAlike_53 : decode cX12_areAlike 53 = .ok (.iconst 0, 1) := by decide +kernel
theorem dX12_areAlike_5 : decode cX12_areAlike 5 = .ok (.iload 4, 2) := by decide +kernel
theorem dX12_areAlike_7 : decode cX12_areAlike 7 = .ok (.bipush 36, 2) := by decide +kernel
theorem dX12_areAlike_9 : decode cX12_areAlike 9 = .ok (.if_icmp .ge 52, 3) := by decide +kernel
theorem dX12_areAlike_12 : decode cX12_areAlike 12 = .ok (.iload_n 3, 1) := by decide +kernel
theorem dX12_areAlike_13 : decode cX12_areAlike 13 = .ok (.ifCond .eq 48, 3) := by decide +kernel
theorem dX12_areAlike_16 : decode cX12_areAlike 16 = .ok (.aload_n 0, 1) := by decide +kernel
theorem dX12_areAlike_17 : decode cX12_areAlike 17 = .ok (.getfield 10, 3) := by decide +kernel
theorem dX12_areAlike_20 : decode cX12_areAlike 20 = .ok (.bipush 32, 2) := by decide +kernel
theorem dX12_areAlike_22 : decode cX12_areAlike 22 = .ok (.bipush 36, 2) := by decide +kernel
theorem dX12_areAlike_24 : decode cX12_areAlike 24 = .ok (.iload_n 1, 1) := by decide +kernel
theorem dX12_areAlike_25 : decode cX12_areAlike 25 = .ok (.imul, 1) := by decide +kernel
theorem dX12_areAlike_26 : decode cX12_areAlike 26 = .ok (.iadd, 1) := by decide +kernel
theorem dX12_areAlike_27 : decode cX12_areAlike 27 = .ok (.iload 4, 2) := by decide +kernel
theorem dX12_areAlike_29 : decode cX12_areAlike 29 = .ok (.iadd, 1) := by decide +kernel
theorem dX12_areAlike_30 : decode cX12_areAlike 30 = .ok (.iaload, 1) := by decide +kernel
theorem dX12_areAlike_31 : decode cX12_areAlike 31 = .ok (.aload_n 0, 1) := by decide +kernel
theorem dX12_areAlike_32 : decode cX12_areAlike 32 = .ok (.getfield 10, 3) := by decide +kernel
theorem dX12_areAlike_35 : decode cX12_areAlike 35 = .ok (.bipush 32, 2) := by decide +kernel
theorem dX12_areAlike_37 : decode cX12_areAlike 37 = .ok (.bipush 36, 2) := by decide +kernel
theorem dX12_areAlike_39 : decode cX12_areAlike 39 = .ok (.iload_n 2, 1) := by decide +kernel
theorem dX12_areAlike_40 : decode cX12_areAlike 40 = .ok (.imul, 1) := by decide +kernel
theorem dX12_areAlike_41 : decode cX12_areAlike 41 = .ok (.iadd, 1) := by decide +kernel
theorem dX12_areAlike_42 : decode cX12_areAlike 42 = .ok (.iload 4, 2) := by decide +kernel
theorem dX12_areAlike_44 : decode cX12_areAlike 44 = .ok (.iadd, 1) := by decide +kernel
theorem dX12_areAlike_45 : decode cX12_areAlike 45 = .ok (.iaload, 1) := by decide +kernel
theorem dX12_areAlike_46 : decode cX12_areAlike 46 = .ok (.if_icmp .ne 7, 3) := by decide +kernel
theorem dX12_areAlike_49 : decode cX12_areAlike 49 = .ok (.iconst 1, 1) := by decide +kernel
theorem dX12_areAlike_50 : decode cX12_areAlike 50 = .ok (.goto 4, 3) := by decide +kernel
theorem dX12_areAlike_0 : decode cX12_areAlike 0 = .ok (.iconst 1, 1) := by decide +kernel
theorem dX12_areAlike_1 : decode cX12_areAlike 1 = .ok (.istore_n 3, 1) := by decide +kernel
theorem dX12_areAlike_2 : decode cX12_areAlike 2 = .ok (.iconst 0, 1) := by decide +kernel
theorem dX12_areAlike_3 : decode cX12_areAlike 3 = .ok (.istore 4, 2) := by decide +kernel
theorem dX12_keepName_34 : decode cX12_keepName 34 = .ok (.return_, 1) := by decide +kernel
theorem dX12_keepName_2 : decode cX12_keepName 2 = .ok (.iload_n 2, 1) := by decide +kernel
theorem dX12_keepName_3 : decode cX12_keepName 3 = .ok (.bipush 36, 2) := by decide +kernel
theorem dX12_keepName_5 : decode cX12_keepName 5 = .ok (.if_icmp .ge 29, 3) := by decide +kernel
theorem dX12_keepName_8 : decode cX12_keepName 8 = .ok (.aload_n 0, 1) := by decide +kernel
theorem dX12_keepName_9 : decode cX12_keepName 9 = .ok (.getfield 10, 3) := by decide +kernel
theorem dX12_keepName_12 : decode cX12_keepName 12 = .ok (.bipush 32, 2) := by decide +kernel
theorem dX12_keepName_14 : decode cX12_keepName 14 = .ok (.bipush 36, 2) := by decide +kernel
theorem dX12_keepName_16 : decode cX12_keepName 16 = .ok (.iload_n 1, 1) := by decide +kernel
theorem dX12_keepName_17 : decode cX12_keepName 17 = .ok (.imul, 1) := by decide +kernel
theorem dX12_keepName_18 : decode cX12_keepName 18 = .ok (.iadd, 1) := by decide +kernel
theorem dX12_keepName_19 : decode cX12_keepName 19 = .ok (.iload_n 2, 1) := by decide +kernel
theorem dX12_keepName_20 : decode cX12_keepName 20 = .ok (.iadd, 1) := by decide +kernel
theorem dX12_keepName_21 : decode cX12_keepName 21 = .ok (.aload_n 0, 1) := by decide +kernel
theorem dX12_keepName_22 : decode cX12_keepName 22 = .ok (.getfield 42, 3) := by decide +kernel
theorem dX12_keepName_25 : decode cX12_keepName 25 = .ok (.iload_n 2, 1) := by decide +kernel
theorem dX12_keepName_26 : decode cX12_keepName 26 = .ok (.iaload, 1) := by decide +kernel
theorem dX12_keepName_27 : decode cX12_keepName 27 = .ok (.iastore, 1) := by decide +kernel
theorem dX12_keepName_28 : decode cX12_keepName 28 = .ok (.iinc 2 1, 3) := by decide +kernel
theorem dX12_keepName_31 : decode cX12_keepName 31 = .ok (.goto (-29), 3) := by decide +kernel
theorem dX12_keepName_0 : decode cX12_keepName 0 = .ok (.iconst 0, 1) := by decide +kernel
theorem dX12_keepName_1 : decode cX12_keepName 1 = .ok (.istore_n 2, 1) := by decide +kernel
theorem dX12_town_57 : decode cX12_town 57 = .ok (.aload_n 0, 1) := by decide +kernel
theorem dX12_town_58 : decode cX12_town 58 = .ok (.getfield 10, 3) := by decide +kernel
theorem dX12_town_61 : decode cX12_town 61 = .ok (.iconst 2, 1) := by decide +kernel
theorem dX12_town_62 : decode cX12_town 62 = .ok (.iaload, 1) := by decide +kernel
theorem dX12_town_63 : decode cX12_town 63 = .ok (.istore_n 1, 1) := by decide +kernel
theorem dX12_town_64 : decode cX12_town 64 = .ok (.aload_n 0, 1) := by decide +kernel
theorem dX12_town_65 : decode cX12_town 65 = .ok (.iload_n 1, 1) := by decide +kernel
theorem dX12_town_66 : decode cX12_town 66 = .ok (.invokevirtual 131, 3) := by decide +kernel
theorem dX12_town_69 : decode cX12_town 69 = .ok (.aload_n 0, 1) := by decide +kernel
theorem dX12_town_70 : decode cX12_town 70 = .ok (.getfield 10, 3) := by decide +kernel
theorem dX12_town_73 : decode cX12_town 73 = .ok (.sipush 7520, 3) := by decide +kernel
theorem dX12_town_76 : decode cX12_town 76 = .ok (.iload_n 1, 1) := by decide +kernel
theorem dX12_town_77 : decode cX12_town 77 = .ok (.iadd, 1) := by decide +kernel
theorem dX12_town_78 : decode cX12_town 78 = .ok (.iconst (-1), 1) := by decide +kernel
theorem dX12_town_79 : decode cX12_town 79 = .ok (.iastore, 1) := by decide +kernel
theorem dX12_town_80 : decode cX12_town 80 = .ok (.aload_n 0, 1) := by decide +kernel
theorem dX12_town_81 : decode cX12_town 81 = .ok (.getfield 10, 3) := by decide +kernel
theorem dX12_town_84 : decode cX12_town 84 = .ok (.iconst 2, 1) := by decide +kernel
theorem dX12_town_85 : decode cX12_town 85 = .ok (.dup2, 1) := by decide +kernel
theorem dX12_town_86 : decode cX12_town 86 = .ok (.iaload, 1) := by decide +kernel
theorem dX12_town_87 : decode cX12_town 87 = .ok (.iconst 1, 1) := by decide +kernel
theorem dX12_town_88 : decode cX12_town 88 = .ok (.iadd, 1) := by decide +kernel
theorem dX12_town_89 : decode cX12_town 89 = .ok (.iastore, 1) := by decide +kernel
theorem dX12_town_90 : decode cX12_town 90 = .ok (.iload_n 1, 1) := by decide +kernel
theorem dX12_town_91 : decode cX12_town 91 = .ok (.ireturn, 1) := by decide +kernel
theorem dX12_town_43 : decode cX12_town 43 = .ok (.aload_n 0, 1) := by decide +kernel
theorem dX12_town_44 : decode cX12_town 44 = .ok (.getfield 10, 3) := by decide +kernel
theorem dX12_town_47 : decode cX12_town 47 = .ok (.iconst 2, 1) := by decide +kernel
theorem dX12_town_48 : decode cX12_town 48 = .ok (.iaload, 1) := by decide +kernel
theorem dX12_town_49 : decode cX12_town 49 = .ok (.bipush 8, 2) := by decide +kernel
theorem dX12_town_51 : decode cX12_town 51 = .ok (.if_icmp .ne 6, 3) := by decide +kernel
theorem dX12_town_54 : decode cX12_town 54 = .ok (.bipush (-6), 2) := by decide +kernel
theorem dX12_town_56 : decode cX12_town 56 = .ok (.ireturn, 1) := by decide +kernel
theorem dX12_town_37 : decode cX12_town 37 = .ok (.iinc 1 1, 3) := by decide +kernel
theorem dX12_town_40 : decode cX12_town 40 = .ok (.goto (-28), 3) := by decide +kernel
theorem dX12_town_12 : decode cX12_town 12 = .ok (.iload_n 1, 1) := by decide +kernel
theorem dX12_town_13 : decode cX12_town 13 = .ok (.aload_n 0, 1) := by decide +kernel
theorem dX12_town_14 : decode cX12_town 14 = .ok (.getfield 10, 3) := by decide +kernel
theorem dX12_town_17 : decode cX12_town 17 = .ok (.iconst 2, 1) := by decide +kernel
theorem dX12_town_18 : decode cX12_town 18 = .ok (.iaload, 1) := by decide +kernel
theorem dX12_town_19 : decode cX12_town 19 = .ok (.if_icmp .ge 24, 3) := by decide +kernel
theorem dX12_town_22 : decode cX12_town 22 = .ok (.aload_n 0, 1) := by decide +kernel
theorem dX12_town_23 : decode cX12_town 23 = .ok (.aload_n 0, 1) := by decide +kernel
theorem dX12_town_24 : decode cX12_town 24 = .ok (.getfield 42, 3) := by decide +kernel
theorem dX12_town_27 : decode cX12_town 27 = .ok (.iload_n 1, 1) := by decide +kernel
theorem dX12_town_28 : decode cX12_town 28 = .ok (.invokevirtual 127, 3) := by decide +kernel
theorem dX12_town_31 : decode cX12_town 31 = .ok (.ifCond .eq 6, 3) := by decide +kernel
theorem dX12_town_34 : decode cX12_town 34 = .ok (.bipush (-5), 2) := by decide +kernel
theorem dX12_town_36 : decode cX12_town 36 = .ok (.ireturn, 1) := by decide +kernel
theorem dX12_town_10 : decode cX12_town 10 = .ok (.iconst 0, 1) := by decide +kernel
theorem dX12_town_11 : decode cX12_town 11 = .ok (.istore_n 1, 1) := by decide +kernel
theorem dX12_town_0 : decode cX12_town 0 = .ok (.aload_n 0, 1) := by decide +kernel
theorem dX12_town_1 : decode cX12_town 1 = .ok (.invokevirtual 123, 3) := by decide +kernel
theorem dX12_town_4 : decode cX12_town 4 = .ok (.ifCond .ne 6, 3) := by decide +kernel
theorem dX12_town_7 : decode cX12_town 7 = .ok (.bipush (-2), 2) := by decide +kernel
theorem dX12_town_9 : decode cX12_town 9 = .ok (.ireturn, 1) := by decide +kernel
theorem dX12_isWordOf_77 : decode cX12_isWordOf 77 = .ok (.iconst 0, 1) := by decide +kernel
theorem dX12_isWordOf_78 : decode cX12_isWordOf 78 = .ok (.ireturn, 1) := by decide +kernel
theorem dX12_isWordOf_71 : decode cX12_isWordOf 71 = .ok (.iinc 2 1, 3) := by decide +kernel
theorem dX12_isWordOf_74 : decode cX12_isWordOf 74 = .ok (.goto (-72), 3) := by decide +kernel
theorem dX12_isWordOf_65 : decode cX12_isWordOf 65 = .ok (.iload_n 3, 1) := by decide +kernel
theorem dX12_isWordOf_66 : decode cX12_isWordOf 66 = .ok (.ifCond .eq 5, 3) := by decide +kernel
theorem dX12_isWordOf_69 : decode cX12_isWordOf 69 = .ok (.iconst 1, 1) := by decide +kernel
theorem dX12_isWordOf_70 : decode cX12_isWordOf 70 = .ok (.ireturn, 1) := by decide +kernel
theorem dX12_isWordOf_58 : decode cX12_isWordOf 58 = .ok (.istore_n 3, 1) := by decide +kernel
theorem dX12_isWordOf_59 : decode cX12_isWordOf 59 = .ok (.iinc 4 1, 3) := by decide +kernel
theorem dX12_isWordOf_62 : decode cX12_isWordOf 62 = .ok (.goto (-50), 3) := by decide +kernel
theorem dX12_isWordOf_57 : decode cX12_isWordOf 57 = .ok (.iconst 0, 1) := by decide +kernel
theorem dX12_isWordOf_12 : decode cX12_isWordOf 12 = .ok (.iload 4, 2) := by decide +kernel
theorem dX12_isWordOf_14 : decode cX12_isWordOf 14 = .ok (.bipush 12, 2) := by decide +kernel
theorem dX12_isWordOf_16 : decode cX12_isWordOf 16 = .ok (.if_icmp .ge 49, 3) := by decide +kernel
theorem dX12_isWordOf_19 : decode cX12_isWordOf 19 = .ok (.iload_n 3, 1) := by decide +kernel
theorem dX12_isWordOf_20 : decode cX12_isWordOf 20 = .ok (.ifCond .eq 45, 3) := by decide +kernel
theorem dX12_isWordOf_23 : decode cX12_isWordOf 23 = .ok (.aload_n 0, 1) := by decide +kernel
theorem dX12_isWordOf_24 : decode cX12_isWordOf 24 = .ok (.getfield 42, 3) := by decide +kernel
theorem dX12_isWordOf_27 : decode cX12_isWordOf 27 = .ok (.iload 4, 2) := by decide +kernel
theorem dX12_isWordOf_29 : decode cX12_isWordOf 29 = .ok (.iaload, 1) := by decide +kernel
theorem dX12_isWordOf_30 : decode cX12_isWordOf 30 = .ok (.aload_n 0, 1) := by decide +kernel
theorem dX12_isWordOf_31 : decode cX12_isWordOf 31 = .ok (.getfield 10, 3) := by decide +kernel
theorem dX12_isWordOf_34 : decode cX12_isWordOf 34 = .ok (.bipush 32, 2) := by decide +kernel
theorem dX12_isWordOf_36 : decode cX12_isWordOf 36 = .ok (.bipush 36, 2) := by decide +kernel
theorem dX12_isWordOf_38 : decode cX12_isWordOf 38 = .ok (.iload_n 1, 1) := by decide +kernel
theorem dX12_isWordOf_39 : decode cX12_isWordOf 39 = .ok (.imul, 1) := by decide +kernel
theorem dX12_isWordOf_40 : decode cX12_isWordOf 40 = .ok (.iadd, 1) := by decide +kernel
theorem dX12_isWordOf_41 : decode cX12_isWordOf 41 = .ok (.bipush 12, 2) := by decide +kernel
theorem dX12_isWordOf_43 : decode cX12_isWordOf 43 = .ok (.iload_n 2, 1) := by decide +kernel
theorem dX12_isWordOf_44 : decode cX12_isWordOf 44 = .ok (.imul, 1) := by decide +kernel
theorem dX12_isWordOf_45 : decode cX12_isWordOf 45 = .ok (.iadd, 1) := by decide +kernel
theorem dX12_isWordOf_46 : decode cX12_isWordOf 46 = .ok (.iload 4, 2) := by decide +kernel
theorem dX12_isWordOf_48 : decode cX12_isWordOf 48 = .ok (.iadd, 1) := by decide +kernel
theorem dX12_isWordOf_49 : decode cX12_isWordOf 49 = .ok (.iaload, 1) := by decide +kernel
theorem dX12_isWordOf_50 : decode cX12_isWordOf 50 = .ok (.if_icmp .ne 7, 3) := by decide +kernel
theorem dX12_isWordOf_53 : decode cX12_isWordOf 53 = .ok (.iconst 1, 1) := by decide +kernel
theorem dX12_isWordOf_54 : decode cX12_isWordOf 54 = .ok (.goto 4, 3) := by decide +kernel
theorem dX12_isWordOf_2 : decode cX12_isWordOf 2 = .ok (.iload_n 2, 1) := by decide +kernel
theorem dX12_isWordOf_3 : decode cX12_isWordOf 3 = .ok (.iconst 3, 1) := by decide +kernel
theorem dX12_isWordOf_4 : decode cX12_isWordOf 4 = .ok (.if_icmp .ge 73, 3) := by decide +kernel
theorem dX12_isWordOf_7 : decode cX12_isWordOf 7 = .ok (.iconst 1, 1) := by decide +kernel
theorem dX12_isWordOf_8 : decode cX12_isWordOf 8 = .ok (.istore_n 3, 1) := by decide +kernel
theorem dX12_isWordOf_9 : decode cX12_isWordOf 9 = .ok (.iconst 0, 1) := by decide +kernel
theorem dX12_isWordOf_10 : decode cX12_isWordOf 10 = .ok (.istore 4, 2) := by decide +kernel
theorem dX12_isWordOf_0 : decode cX12_isWordOf 0 = .ok (.iconst 0, 1) := by decide +kernel
theorem dX12_isWordOf_1 : decode cX12_isWordOf 1 = .ok (.istore_n 2, 1) := by decide +kernel
theorem dX12_shorten_226 : decode cX12_shorten 226 = .ok (.aload_n 0, 1) := by decide +kernel
theorem dX12_shorten_227 : decode cX12_shorten 227 = .ok (.getfield 10, 3) := by decide +kernel
theorem dX12_shorten_230 : decode cX12_shorten 230 = .ok (.bipush 8, 2) := by decide +kernel
theorem dX12_shorten_232 : decode cX12_shorten 232 = .ok (.iaload, 1) := by decide +kernel
theorem dX12_shorten_233 : decode cX12_shorten 233 = .ok (.ireturn, 1) := by decide +kernel
theorem dX12_shorten_211 : decode cX12_shorten 211 = .ok (.iload_n 2, 1) := by decide +kernel
theorem dX12_shorten_212 : decode cX12_shorten 212 = .ok (.ifCond .ne 14, 3) := by decide +kernel
theorem dX12_shorten_215 : decode cX12_shorten 215 = .ok (.aload_n 0, 1) := by decide +kernel
theorem dX12_shorten_216 : decode cX12_shorten 216 = .ok (.getfield 10, 3) := by decide +kernel
theorem dX12_shorten_219 : decode cX12_shorten 219 = .ok (.bipush 8, 2) := by decide +kernel
theorem dX12_shorten_221 : decode cX12_shorten 221 = .ok (.dup2, 1) := by decide +kernel
theorem dX12_shorten_222 : decode cX12_shorten 222 = .ok (.iaload, 1) := by decide +kernel
theorem dX12_shorten_223 : decode cX12_shorten 223 = .ok (.iconst 1, 1) := by decide +kernel
theorem dX12_shorten_224 : decode cX12_shorten 224 = .ok (.iadd, 1) := by decide +kernel
theorem dX12_shorten_225 : decode cX12_shorten 225 = .ok (.iastore, 1) := by decide +kernel
theorem dX12_shorten_178 : decode cX12_shorten 178 = .ok (.iload_n 3, 1) := by decide +kernel
theorem dX12_shorten_179 : decode cX12_shorten 179 = .ok (.bipush 24, 2) := by decide +kernel
theorem dX12_shorten_181 : decode cX12_shorten 181 = .ok (.if_icmp .ge 30, 3) := by decide +kernel
theorem dX12_shorten_184 : decode cX12_shorten 184 = .ok (.aload_n 0, 1) := by decide +kernel
theorem dX12_shorten_185 : decode cX12_shorten 185 = .ok (.getfield 10, 3) := by decide +kernel
theorem dX12_shorten_188 : decode cX12_shorten 188 = .ok (.sipush 30152, 3) := by decide +kernel
theorem dX12_shorten_191 : decode cX12_shorten 191 = .ok (.bipush 24, 2) := by decide +kernel
theorem dX12_shorten_193 : decode cX12_shorten 193 = .ok (.iload_n 1, 1) := by decide +kernel
theorem dX12_shorten_194 : decode cX12_shorten 194 = .ok (.imul, 1) := by decide +kernel
theorem dX12_shorten_195 : decode cX12_shorten 195 = .ok (.iadd, 1) := by decide +kernel
theorem dX12_shorten_196 : decode cX12_shorten 196 = .ok (.iload_n 3, 1) := by decide +kernel
theorem dX12_shorten_197 : decode cX12_shorten 197 = .ok (.iadd, 1) := by decide +kernel
theorem dX12_shorten_198 : decode cX12_shorten 198 = .ok (.aload_n 0, 1) := by decide +kernel
theorem dX12_shorten_199 : decode cX12_shorten 199 = .ok (.getfield 42, 3) := by decide +kernel
theorem dX12_shorten_202 : decode cX12_shorten 202 = .ok (.iload_n 3, 1) := by decide +kernel
theorem dX12_shorten_203 : decode cX12_shorten 203 = .ok (.iaload, 1) := by decide +kernel
theorem dX12_shorten_204 : decode cX12_shorten 204 = .ok (.iastore, 1) := by decide +kernel
theorem dX12_shorten_205 : decode cX12_shorten 205 = .ok (.iinc 3 1, 3) := by decide +kernel
theorem dX12_shorten_208 : decode cX12_shorten 208 = .ok (.goto (-30), 3) := by decide +kernel
theorem dX12_shorten_176 : decode cX12_shorten 176 = .ok (.iconst 0, 1) := by decide +kernel
theorem dX12_shorten_177 : decode cX12_shorten 177 = .ok (.istore_n 3, 1) := by decide +kernel
theorem dX12_shorten_167 : decode cX12_shorten 167 = .ok (.iload_n 1, 1) := by decide +kernel
theorem dX12_shorten_168 : decode cX12_shorten 168 = .ok (.bipush 20, 2) := by decide +kernel
theorem dX12_shorten_170 : decode cX12_shorten 170 = .ok (.if_icmp .ne 6, 3) := by decide +kernel
theorem dX12_shorten_173 : decode cX12_shorten 173 = .ok (.bipush (-6), 2) := by decide +kernel
theorem dX12_shorten_175 : decode cX12_shorten 175 = .ok (.ireturn, 1) := by decide +kernel
theorem dX12_shorten_157 : decode cX12_shorten 157 = .ok (.iload_n 2, 1) := by decide +kernel
theorem dX12_shorten_158 : decode cX12_shorten 158 = .ok (.ifCond .ne (-66), 3) := by decide +kernel
theorem dX12_shorten_161 : decode cX12_shorten 161 = .ok (.iinc 1 1, 3) := by decide +kernel
theorem dX12_shorten_164 : decode cX12_shorten 164 = .ok (.goto (-72), 3) := by decide +kernel
theorem dX12_shorten_150 : decode cX12_shorten 150 = .ok (.istore_n 2, 1) := by decide +kernel
theorem dX12_shorten_151 : decode cX12_shorten 151 = .ok (.iinc 3 1, 3) := by decide +kernel
theorem dX12_shorten_154 : decode cX12_shorten 154 = .ok (.goto (-43), 3) := by decide +kernel
theorem dX12_shorten_149 : decode cX12_shorten 149 = .ok (.iconst 0, 1) := by decide +kernel
theorem dX12_shorten_111 : decode cX12_shorten 111 = .ok (.iload_n 3, 1) := by decide +kernel
theorem dX12_shorten_112 : decode cX12_shorten 112 = .ok (.bipush 12, 2) := by decide +kernel
theorem dX12_shorten_114 : decode cX12_shorten 114 = .ok (.if_icmp .ge 43, 3) := by decide +kernel
theorem dX12_shorten_117 : decode cX12_shorten 117 = .ok (.iload_n 2, 1) := by decide +kernel
theorem dX12_shorten_118 : decode cX12_shorten 118 = .ok (.ifCond .eq 39, 3) := by decide +kernel
theorem dX12_shorten_121 : decode cX12_shorten 121 = .ok (.aload_n 0, 1) := by decide +kernel
theorem dX12_shorten_122 : decode cX12_shorten 122 = .ok (.getfield 42, 3) := by decide +kernel
theorem dX12_shorten_125 : decode cX12_shorten 125 = .ok (.iload_n 3, 1) := by decide +kernel
theorem dX12_shorten_126 : decode cX12_shorten 126 = .ok (.iaload, 1) := by decide +kernel
theorem dX12_shorten_127 : decode cX12_shorten 127 = .ok (.aload_n 0, 1) := by decide +kernel
theorem dX12_shorten_128 : decode cX12_shorten 128 = .ok (.getfield 10, 3) := by decide +kernel
theorem dX12_shorten_131 : decode cX12_shorten 131 = .ok (.sipush 30152, 3) := by decide +kernel
theorem dX12_shorten_134 : decode cX12_shorten 134 = .ok (.bipush 24, 2) := by decide +kernel
theorem dX12_shorten_136 : decode cX12_shorten 136 = .ok (.iload_n 1, 1) := by decide +kernel
theorem dX12_shorten_137 : decode cX12_shorten 137 = .ok (.imul, 1) := by decide +kernel
theorem dX12_shorten_138 : decode cX12_shorten 138 = .ok (.iadd, 1) := by decide +kernel
theorem dX12_shorten_139 : decode cX12_shorten 139 = .ok (.iload_n 3, 1) := by decide +kernel
theorem dX12_shorten_140 : decode cX12_shorten 140 = .ok (.iadd, 1) := by decide +kernel
theorem dX12_shorten_141 : decode cX12_shorten 141 = .ok (.iaload, 1) := by decide +kernel
theorem dX12_shorten_142 : decode cX12_shorten 142 = .ok (.if_icmp .ne 7, 3) := by decide +kernel
theorem dX12_shorten_145 : decode cX12_shorten 145 = .ok (.iconst 1, 1) := by decide +kernel
theorem dX12_shorten_146 : decode cX12_shorten 146 = .ok (.goto 4, 3) := by decide +kernel
theorem dX12_shorten_92 : decode cX12_shorten 92 = .ok (.iload_n 1, 1) := by decide +kernel
theorem dX12_shorten_93 : decode cX12_shorten 93 = .ok (.aload_n 0, 1) := by decide +kernel
theorem dX12_shorten_94 : decode cX12_shorten 94 = .ok (.getfield 10, 3) := by decide +kernel
theorem dX12_shorten_97 : decode cX12_shorten 97 = .ok (.bipush 8, 2) := by decide +kernel
theorem dX12_shorten_99 : decode cX12_shorten 99 = .ok (.iaload, 1) := by decide +kernel
theorem dX12_shorten_100 : decode cX12_shorten 100 = .ok (.if_icmp .ge 67, 3) := by decide +kernel
theorem dX12_shorten_103 : decode cX12_shorten 103 = .ok (.iload_n 2, 1) := by decide +kernel
theorem dX12_shorten_104 : decode cX12_shorten 104 = .ok (.ifCond .ne 63, 3) := by decide +kernel
theorem dX12_shorten_107 : decode cX12_shorten 107 = .ok (.iconst 1, 1) := by decide +kernel
theorem dX12_shorten_108 : decode cX12_shorten 108 = .ok (.istore_n 2, 1) := by decide +kernel
theorem dX12_shorten_109 : decode cX12_shorten 109 = .ok (.iconst 0, 1) := by decide +kernel
theorem dX12_shorten_110 : decode cX12_shorten 110 = .ok (.istore_n 3, 1) := by decide +kernel
theorem dX12_shorten_88 : decode cX12_shorten 88 = .ok (.iconst 0, 1) := by decide +kernel
theorem dX12_shorten_89 : decode cX12_shorten 89 = .ok (.istore_n 1, 1) := by decide +kernel
theorem dX12_shorten_90 : decode cX12_shorten 90 = .ok (.iconst 0, 1) := by decide +kernel
theorem dX12_shorten_91 : decode cX12_shorten 91 = .ok (.istore_n 2, 1) := by decide +kernel
theorem dX12_shorten_82 : decode cX12_shorten 82 = .ok (.iinc 1 1, 3) := by decide +kernel
theorem dX12_shorten_85 : decode cX12_shorten 85 = .ok (.goto (-38), 3) := by decide +kernel
theorem dX12_shorten_47 : decode cX12_shorten 47 = .ok (.iload_n 1, 1) := by decide +kernel
theorem dX12_shorten_48 : decode cX12_shorten 48 = .ok (.aload_n 0, 1) := by decide +kernel
theorem dX12_shorten_49 : decode cX12_shorten 49 = .ok (.getfield 10, 3) := by decide +kernel
theorem dX12_shorten_52 : decode cX12_shorten 52 = .ok (.bipush 7, 2) := by decide +kernel
theorem dX12_shorten_54 : decode cX12_shorten 54 = .ok (.iaload, 1) := by decide +kernel
theorem dX12_shorten_55 : decode cX12_shorten 55 = .ok (.if_icmp .ge 33, 3) := by decide +kernel
theorem dX12_shorten_58 : decode cX12_shorten 58 = .ok (.aload_n 0, 1) := by decide +kernel
theorem dX12_shorten_59 : decode cX12_shorten 59 = .ok (.aload_n 0, 1) := by decide +kernel
theorem dX12_shorten_60 : decode cX12_shorten 60 = .ok (.getfield 10, 3) := by decide +kernel
theorem dX12_shorten_63 : decode cX12_shorten 63 = .ok (.sipush 7552, 3) := by decide +kernel
theorem dX12_shorten_66 : decode cX12_shorten 66 = .ok (.iconst 5, 1) := by decide +kernel
theorem dX12_shorten_67 : decode cX12_shorten 67 = .ok (.iload_n 1, 1) := by decide +kernel
theorem dX12_shorten_68 : decode cX12_shorten 68 = .ok (.imul, 1) := by decide +kernel
theorem dX12_shorten_69 : decode cX12_shorten 69 = .ok (.iadd, 1) := by decide +kernel
theorem dX12_shorten_70 : decode cX12_shorten 70 = .ok (.iconst 2, 1) := by decide +kernel
theorem dX12_shorten_71 : decode cX12_shorten 71 = .ok (.iadd, 1) := by decide +kernel
theorem dX12_shorten_72 : decode cX12_shorten 72 = .ok (.iaload, 1) := by decide +kernel
theorem dX12_shorten_73 : decode cX12_shorten 73 = .ok (.invokevirtual 135, 3) := by decide +kernel
theorem dX12_shorten_76 : decode cX12_shorten 76 = .ok (.ifCond .eq 6, 3) := by decide +kernel
theorem dX12_shorten_79 : decode cX12_shorten 79 = .ok (.bipush (-5), 2) := by decide +kernel
theorem dX12_shorten_81 : decode cX12_shorten 81 = .ok (.ireturn, 1) := by decide +kernel
theorem dX12_shorten_45 : decode cX12_shorten 45 = .ok (.iconst 0, 1) := by decide +kernel
theorem dX12_shorten_46 : decode cX12_shorten 46 = .ok (.istore_n 1, 1) := by decide +kernel
theorem dX12_shorten_39 : decode cX12_shorten 39 = .ok (.iinc 1 1, 3) := by decide +kernel
theorem dX12_shorten_42 : decode cX12_shorten 42 = .ok (.goto (-24), 3) := by decide +kernel
theorem dX12_shorten_18 : decode cX12_shorten 18 = .ok (.iload_n 1, 1) := by decide +kernel
theorem dX12_shorten_19 : decode cX12_shorten 19 = .ok (.aload_n 0, 1) := by decide +kernel
theorem dX12_shorten_20 : decode cX12_shorten 20 = .ok (.getfield 10, 3) := by decide +kernel
theorem dX12_shorten_23 : decode cX12_shorten 23 = .ok (.iconst 2, 1) := by decide +kernel
theorem dX12_shorten_24 : decode cX12_shorten 24 = .ok (.iaload, 1) := by decide +kernel
theorem dX12_shorten_25 : decode cX12_shorten 25 = .ok (.if_icmp .ge 20, 3) := by decide +kernel
theorem dX12_shorten_28 : decode cX12_shorten 28 = .ok (.aload_n 0, 1) := by decide +kernel
theorem dX12_shorten_29 : decode cX12_shorten 29 = .ok (.iload_n 1, 1) := by decide +kernel
theorem dX12_shorten_30 : decode cX12_shorten 30 = .ok (.invokevirtual 135, 3) := by decide +kernel
theorem dX12_shorten_33 : decode cX12_shorten 33 = .ok (.ifCond .eq 6, 3) := by decide +kernel
theorem dX12_shorten_36 : decode cX12_shorten 36 = .ok (.bipush (-5), 2) := by decide +kernel
theorem dX12_shorten_38 : decode cX12_shorten 38 = .ok (.ireturn, 1) := by decide +kernel
theorem dX12_shorten_16 : decode cX12_shorten 16 = .ok (.iconst 0, 1) := by decide +kernel
theorem dX12_shorten_17 : decode cX12_shorten 17 = .ok (.istore_n 1, 1) := by decide +kernel
theorem dX12_shorten_0 : decode cX12_shorten 0 = .ok (.aload_n 0, 1) := by decide +kernel
theorem dX12_shorten_1 : decode cX12_shorten 1 = .ok (.invokevirtual 112, 3) := by decide +kernel
theorem dX12_shorten_4 : decode cX12_shorten 4 = .ok (.aload_n 0, 1) := by decide +kernel
theorem dX12_shorten_5 : decode cX12_shorten 5 = .ok (.iconst 2, 1) := by decide +kernel
theorem dX12_shorten_6 : decode cX12_shorten 6 = .ok (.iconst 2, 1) := by decide +kernel
theorem dX12_shorten_7 : decode cX12_shorten 7 = .ok (.invokevirtual 115, 3) := by decide +kernel
theorem dX12_shorten_10 : decode cX12_shorten 10 = .ok (.ifCond .ne 6, 3) := by decide +kernel
theorem dX12_shorten_13 : decode cX12_shorten 13 = .ok (.bipush (-2), 2) := by decide +kernel
theorem dX12_shorten_15 : decode cX12_shorten 15 = .ok (.ireturn, 1) := by decide +kernel
theorem dX12_isStreet_19 : decode cX12_isStreet 19 = .ok (.ireturn, 1) := by decide +kernel
theorem dX12_isStreet_18 : decode cX12_isStreet 18 = .ok (.iconst 0, 1) := by decide +kernel
theorem dX12_isStreet_0 : decode cX12_isStreet 0 = .ok (.iload_n 1, 1) := by decide +kernel
theorem dX12_isStreet_1 : decode cX12_isStreet 1 = .ok (.ifCond .lt 17, 3) := by decide +kernel
theorem dX12_isStreet_4 : decode cX12_isStreet 4 = .ok (.iload_n 1, 1) := by decide +kernel
theorem dX12_isStreet_5 : decode cX12_isStreet 5 = .ok (.aload_n 0, 1) := by decide +kernel
theorem dX12_isStreet_6 : decode cX12_isStreet 6 = .ok (.getfield 10, 3) := by decide +kernel
theorem dX12_isStreet_9 : decode cX12_isStreet 9 = .ok (.iconst 3, 1) := by decide +kernel
theorem dX12_isStreet_10 : decode cX12_isStreet 10 = .ok (.iaload, 1) := by decide +kernel
theorem dX12_isStreet_11 : decode cX12_isStreet 11 = .ok (.if_icmp .ge 7, 3) := by decide +kernel
theorem dX12_isStreet_14 : decode cX12_isStreet 14 = .ok (.iconst 1, 1) := by decide +kernel
theorem dX12_isStreet_15 : decode cX12_isStreet 15 = .ok (.goto 4, 3) := by decide +kernel
theorem dX12_isTown_19 : decode cX12_isTown 19 = .ok (.ireturn, 1) := by decide +kernel
theorem dX12_isTown_18 : decode cX12_isTown 18 = .ok (.iconst 0, 1) := by decide +kernel
theorem dX12_isTown_0 : decode cX12_isTown 0 = .ok (.iload_n 1, 1) := by decide +kernel
theorem dX12_isTown_1 : decode cX12_isTown 1 = .ok (.ifCond .lt 17, 3) := by decide +kernel
theorem dX12_isTown_4 : decode cX12_isTown 4 = .ok (.iload_n 1, 1) := by decide +kernel
theorem dX12_isTown_5 : decode cX12_isTown 5 = .ok (.aload_n 0, 1) := by decide +kernel
theorem dX12_isTown_6 : decode cX12_isTown 6 = .ok (.getfield 10, 3) := by decide +kernel
theorem dX12_isTown_9 : decode cX12_isTown 9 = .ok (.iconst 2, 1) := by decide +kernel
theorem dX12_isTown_10 : decode cX12_isTown 10 = .ok (.iaload, 1) := by decide +kernel
theorem dX12_isTown_11 : decode cX12_isTown 11 = .ok (.if_icmp .ge 7, 3) := by decide +kernel
theorem dX12_isTown_14 : decode cX12_isTown 14 = .ok (.iconst 1, 1) := by decide +kernel
theorem dX12_isTown_15 : decode cX12_isTown 15 = .ok (.goto 4, 3) := by decide +kernel
theorem dX12_openName_57 : decode cX12_openName 57 = .ok (.iload_n 2, 1) := by decide +kernel
theorem dX12_openName_58 : decode cX12_openName 58 = .ok (.ireturn, 1) := by decide +kernel
theorem dX12_openName_51 : decode cX12_openName 51 = .ok (.iinc 3 1, 3) := by decide +kernel
theorem dX12_openName_54 : decode cX12_openName 54 = .ok (.goto (-50), 3) := by decide +kernel
theorem dX12_openName_4 : decode cX12_openName 4 = .ok (.iload_n 3, 1) := by decide +kernel
theorem dX12_openName_5 : decode cX12_openName 5 = .ok (.aload_n 0, 1) := by decide +kernel
theorem dX12_openName_6 : decode cX12_openName 6 = .ok (.getfield 10, 3) := by decide +kernel
theorem dX12_openName_9 : decode cX12_openName 9 = .ok (.bipush 7, 2) := by decide +kernel
theorem dX12_openName_11 : decode cX12_openName 11 = .ok (.iaload, 1) := by decide +kernel
theorem dX12_openName_12 : decode cX12_openName 12 = .ok (.if_icmp .ge 45, 3) := by decide +kernel
theorem dX12_openName_15 : decode cX12_openName 15 = .ok (.aload_n 0, 1) := by decide +kernel
theorem dX12_openName_16 : decode cX12_openName 16 = .ok (.getfield 10, 3) := by decide +kernel
theorem dX12_openName_19 : decode cX12_openName 19 = .ok (.sipush 7552, 3) := by decide +kernel
theorem dX12_openName_22 : decode cX12_openName 22 = .ok (.iconst 5, 1) := by decide +kernel
theorem dX12_openName_23 : decode cX12_openName 23 = .ok (.iload_n 3, 1) := by decide +kernel
theorem dX12_openName_24 : decode cX12_openName 24 = .ok (.imul, 1) := by decide +kernel
theorem dX12_openName_25 : decode cX12_openName 25 = .ok (.iadd, 1) := by decide +kernel
theorem dX12_openName_26 : decode cX12_openName 26 = .ok (.iaload, 1) := by decide +kernel
theorem dX12_openName_27 : decode cX12_openName 27 = .ok (.iload_n 1, 1) := by decide +kernel
theorem dX12_openName_28 : decode cX12_openName 28 = .ok (.if_icmp .ne 23, 3) := by decide +kernel
theorem dX12_openName_31 : decode cX12_openName 31 = .ok (.aload_n 0, 1) := by decide +kernel
theorem dX12_openName_32 : decode cX12_openName 32 = .ok (.getfield 10, 3) := by decide +kernel
theorem dX12_openName_35 : decode cX12_openName 35 = .ok (.sipush 7552, 3) := by decide +kernel
theorem dX12_openName_38 : decode cX12_openName 38 = .ok (.iconst 5, 1) := by decide +kernel
theorem dX12_openName_39 : decode cX12_openName 39 = .ok (.iload_n 3, 1) := by decide +kernel
theorem dX12_openName_40 : decode cX12_openName 40 = .ok (.imul, 1) := by decide +kernel
theorem dX12_openName_41 : decode cX12_openName 41 = .ok (.iadd, 1) := by decide +kernel
theorem dX12_openName_42 : decode cX12_openName 42 = .ok (.iconst 4, 1) := by decide +kernel
theorem dX12_openName_43 : decode cX12_openName 43 = .ok (.iadd, 1) := by decide +kernel
theorem dX12_openName_44 : decode cX12_openName 44 = .ok (.iaload, 1) := by decide +kernel
theorem dX12_openName_45 : decode cX12_openName 45 = .ok (.iconst (-1), 1) := by decide +kernel
theorem dX12_openName_46 : decode cX12_openName 46 = .ok (.if_icmp .ne 5, 3) := by decide +kernel
theorem dX12_openName_49 : decode cX12_openName 49 = .ok (.iload_n 3, 1) := by decide +kernel
theorem dX12_openName_50 : decode cX12_openName 50 = .ok (.istore_n 2, 1) := by decide +kernel
theorem dX12_openName_0 : decode cX12_openName 0 = .ok (.iconst (-1), 1) := by decide +kernel
theorem dX12_openName_1 : decode cX12_openName 1 = .ok (.istore_n 2, 1) := by decide +kernel
theorem dX12_openName_2 : decode cX12_openName 2 = .ok (.iconst 0, 1) := by decide +kernel
theorem dX12_openName_3 : decode cX12_openName 3 = .ok (.istore_n 3, 1) := by decide +kernel
theorem dX12_townOf_0 : decode cX12_townOf 0 = .ok (.aload_n 0, 1) := by decide +kernel
theorem dX12_townOf_1 : decode cX12_townOf 1 = .ok (.getfield 10, 3) := by decide +kernel
theorem dX12_townOf_4 : decode cX12_townOf 4 = .ok (.sipush 7552, 3) := by decide +kernel
theorem dX12_townOf_7 : decode cX12_townOf 7 = .ok (.iconst 5, 1) := by decide +kernel
theorem dX12_townOf_8 : decode cX12_townOf 8 = .ok (.aload_n 0, 1) := by decide +kernel
theorem dX12_townOf_9 : decode cX12_townOf 9 = .ok (.iload_n 1, 1) := by decide +kernel
theorem dX12_townOf_10 : decode cX12_townOf 10 = .ok (.invokevirtual 138, 3) := by decide +kernel
theorem dX12_townOf_13 : decode cX12_townOf 13 = .ok (.imul, 1) := by decide +kernel
theorem dX12_townOf_14 : decode cX12_townOf 14 = .ok (.iadd, 1) := by decide +kernel
theorem dX12_townOf_15 : decode cX12_townOf 15 = .ok (.iconst 1, 1) := by decide +kernel
theorem dX12_townOf_16 : decode cX12_townOf 16 = .ok (.iadd, 1) := by decide +kernel
theorem dX12_townOf_17 : decode cX12_townOf 17 = .ok (.iaload, 1) := by decide +kernel
theorem dX12_townOf_18 : decode cX12_townOf 18 = .ok (.ireturn, 1) := by decide +kernel

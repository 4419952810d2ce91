theorem dX5_slotOf_26 : decode cX5_slotOf 26 = .ok (.ireturn, 1) := by decide +kernel
theorem dX5_slotOf_25 : decode cX5_slotOf 25 = .ok (.iconst 0, 1) := by decide +kernel
theorem dX5_slotOf_0 : decode cX5_slotOf 0 = .ok (.aload_n 0, 1) := by decide +kernel
theorem dX5_slotOf_1 : decode cX5_slotOf 1 = .ok (.getfield 42, 3) := by decide +kernel
theorem dX5_slotOf_4 : decode cX5_slotOf 4 = .ok (.iload_n 1, 1) := by decide +kernel
theorem dX5_slotOf_5 : decode cX5_slotOf 5 = .ok (.invokevirtual 117, 3) := by decide +kernel
theorem dX5_slotOf_8 : decode cX5_slotOf 8 = .ok (.ifCond .eq 17, 3) := by decide +kernel
theorem dX5_slotOf_11 : decode cX5_slotOf 11 = .ok (.iconst 2, 1) := by decide +kernel
theorem dX5_slotOf_12 : decode cX5_slotOf 12 = .ok (.aload_n 0, 1) := by decide +kernel
theorem dX5_slotOf_13 : decode cX5_slotOf 13 = .ok (.getfield 42, 3) := by decide +kernel
theorem dX5_slotOf_16 : decode cX5_slotOf 16 = .ok (.getfield 121, 3) := by decide +kernel
theorem dX5_slotOf_19 : decode cX5_slotOf 19 = .ok (.iload_n 1, 1) := by decide +kernel
theorem dX5_slotOf_20 : decode cX5_slotOf 20 = .ok (.iaload, 1) := by decide +kernel
theorem dX5_slotOf_21 : decode cX5_slotOf 21 = .ok (.imul, 1) := by decide +kernel
theorem dX5_slotOf_22 : decode cX5_slotOf 22 = .ok (.goto 4, 3) := by decide +kernel
theorem dX5_earliestOnDoor_51 : decode cX5_earliestOnDoor 51 = .ok (.ireturn, 1) := by decide +kernel
theorem dX5_earliestOnDoor_41 : decode cX5_earliestOnDoor 41 = .ok (.iload 4, 2) := by decide +kernel
theorem dX5_earliestOnDoor_43 : decode cX5_earliestOnDoor 43 = .ok (.aload_n 0, 1) := by decide +kernel
theorem dX5_earliestOnDoor_44 : decode cX5_earliestOnDoor 44 = .ok (.iload_n 3, 1) := by decide +kernel
theorem dX5_earliestOnDoor_45 : decode cX5_earliestOnDoor 45 = .ok (.invokevirtual 110, 3) := by decide +kernel
theorem dX5_earliestOnDoor_48 : decode cX5_earliestOnDoor 48 = .ok (.invokestatic 99, 3) := by decide +kernel
theorem dX5_earliestOnDoor_0 : decode cX5_earliestOnDoor 0 = .ok (.aload_n 0, 1) := by decide +kernel
theorem dX5_earliestOnDoor_1 : decode cX5_earliestOnDoor 1 = .ok (.iload_n 1, 1) := by decide +kernel
theorem dX5_earliestOnDoor_2 : decode cX5_earliestOnDoor 2 = .ok (.invokevirtual 104, 3) := by decide +kernel
theorem dX5_earliestOnDoor_5 : decode cX5_earliestOnDoor 5 = .ok (.istore_n 2, 1) := by decide +kernel
theorem dX5_earliestOnDoor_6 : decode cX5_earliestOnDoor 6 = .ok (.aload_n 0, 1) := by decide +kernel
theorem dX5_earliestOnDoor_7 : decode cX5_earliestOnDoor 7 = .ok (.getfield 42, 3) := by decide +kernel
theorem dX5_earliestOnDoor_10 : decode cX5_earliestOnDoor 10 = .ok (.iload_n 2, 1) := by decide +kernel
theorem dX5_earliestOnDoor_11 : decode cX5_earliestOnDoor 11 = .ok (.iconst 1, 1) := by decide +kernel
theorem dX5_earliestOnDoor_12 : decode cX5_earliestOnDoor 12 = .ok (.iadd, 1) := by decide +kernel
theorem dX5_earliestOnDoor_13 : decode cX5_earliestOnDoor 13 = .ok (.invokevirtual 107, 3) := by decide +kernel
theorem dX5_earliestOnDoor_16 : decode cX5_earliestOnDoor 16 = .ok (.istore_n 3, 1) := by decide +kernel
theorem dX5_earliestOnDoor_17 : decode cX5_earliestOnDoor 17 = .ok (.aload_n 0, 1) := by decide +kernel
theorem dX5_earliestOnDoor_18 : decode cX5_earliestOnDoor 18 = .ok (.aload_n 0, 1) := by decide +kernel
theorem dX5_earliestOnDoor_19 : decode cX5_earliestOnDoor 19 = .ok (.getfield 42, 3) := by decide +kernel
theorem dX5_earliestOnDoor_22 : decode cX5_earliestOnDoor 22 = .ok (.iload_n 2, 1) := by decide +kernel
theorem dX5_earliestOnDoor_23 : decode cX5_earliestOnDoor 23 = .ok (.invokevirtual 107, 3) := by decide +kernel
theorem dX5_earliestOnDoor_26 : decode cX5_earliestOnDoor 26 = .ok (.invokevirtual 110, 3) := by decide +kernel
theorem dX5_earliestOnDoor_29 : decode cX5_earliestOnDoor 29 = .ok (.istore 4, 2) := by decide +kernel
theorem dX5_earliestOnDoor_31 : decode cX5_earliestOnDoor 31 = .ok (.iload_n 3, 1) := by decide +kernel
theorem dX5_earliestOnDoor_32 : decode cX5_earliestOnDoor 32 = .ok (.iconst (-1), 1) := by decide +kernel
theorem dX5_earliestOnDoor_33 : decode cX5_earliestOnDoor 33 = .ok (.if_icmp .ne 8, 3) := by decide +kernel
theorem dX5_earliestOnDoor_36 : decode cX5_earliestOnDoor 36 = .ok (.iload 4, 2) := by decide +kernel
theorem dX5_earliestOnDoor_38 : decode cX5_earliestOnDoor 38 = .ok (.goto 13, 3) := by decide +kernel
theorem dX2_hasOpenUnder_62 : decode cX2_hasOpenUnder 62 = .ok (.iconst 0, 1) := by decide +kernel
theorem dX2_hasOpenUnder_63 : decode cX2_hasOpenUnder 63 = .ok (.ireturn, 1) := by decide +kernel
theorem dX2_hasOpenUnder_56 : decode cX2_hasOpenUnder 56 = .ok (.iinc 4 1, 3) := by decide +kernel
theorem dX2_hasOpenUnder_59 : decode cX2_hasOpenUnder 59 = .ok (.goto (-56), 3) := by decide +kernel
theorem dX2_hasOpenUnder_3 : decode cX2_hasOpenUnder 3 = .ok (.iload 4, 2) := by decide +kernel
theorem dX2_hasOpenUnder_5 : decode cX2_hasOpenUnder 5 = .ok (.aload_n 0, 1) := by decide +kernel
theorem dX2_hasOpenUnder_6 : decode cX2_hasOpenUnder 6 = .ok (.getfield 42, 3) := by decide +kernel
theorem dX2_hasOpenUnder_9 : decode cX2_hasOpenUnder 9 = .ok (.if_icmp .ge 53, 3) := by decide +kernel
theorem dX2_hasOpenUnder_12 : decode cX2_hasOpenUnder 12 = .ok (.aload_n 0, 1) := by decide +kernel
theorem dX2_hasOpenUnder_13 : decode cX2_hasOpenUnder 13 = .ok (.iload 4, 2) := by decide +kernel
theorem dX2_hasOpenUnder_15 : decode cX2_hasOpenUnder 15 = .ok (.invokevirtual 66, 3) := by decide +kernel
theorem dX2_hasOpenUnder_18 : decode cX2_hasOpenUnder 18 = .ok (.ifCond .eq 38, 3) := by decide +kernel
theorem dX2_hasOpenUnder_21 : decode cX2_hasOpenUnder 21 = .ok (.aload_n 0, 1) := by decide +kernel
theorem dX2_hasOpenUnder_22 : decode cX2_hasOpenUnder 22 = .ok (.getfield 15, 3) := by decide +kernel
theorem dX2_hasOpenUnder_25 : decode cX2_hasOpenUnder 25 = .ok (.iload 4, 2) := by decide +kernel
theorem dX2_hasOpenUnder_27 : decode cX2_hasOpenUnder 27 = .ok (.iaload, 1) := by decide +kernel
theorem dX2_hasOpenUnder_28 : decode cX2_hasOpenUnder 28 = .ok (.iload_n 1, 1) := by decide +kernel
theorem dX2_hasOpenUnder_29 : decode cX2_hasOpenUnder 29 = .ok (.if_icmp .ne 27, 3) := by decide +kernel
theorem dX2_hasOpenUnder_32 : decode cX2_hasOpenUnder 32 = .ok (.aload_n 0, 1) := by decide +kernel
theorem dX2_hasOpenUnder_33 : decode cX2_hasOpenUnder 33 = .ok (.getfield 9, 3) := by decide +kernel
theorem dX2_hasOpenUnder_36 : decode cX2_hasOpenUnder 36 = .ok (.iload 4, 2) := by decide +kernel
theorem dX2_hasOpenUnder_38 : decode cX2_hasOpenUnder 38 = .ok (.iaload, 1) := by decide +kernel
theorem dX2_hasOpenUnder_39 : decode cX2_hasOpenUnder 39 = .ok (.iload_n 2, 1) := by decide +kernel
theorem dX2_hasOpenUnder_40 : decode cX2_hasOpenUnder 40 = .ok (.if_icmp .ne 16, 3) := by decide +kernel
theorem dX2_hasOpenUnder_43 : decode cX2_hasOpenUnder 43 = .ok (.aload_n 0, 1) := by decide +kernel
theorem dX2_hasOpenUnder_44 : decode cX2_hasOpenUnder 44 = .ok (.getfield 21, 3) := by decide +kernel
theorem dX2_hasOpenUnder_47 : decode cX2_hasOpenUnder 47 = .ok (.iload 4, 2) := by decide +kernel
theorem dX2_hasOpenUnder_49 : decode cX2_hasOpenUnder 49 = .ok (.iaload, 1) := by decide +kernel
theorem dX2_hasOpenUnder_50 : decode cX2_hasOpenUnder 50 = .ok (.iload_n 3, 1) := by decide +kernel
theorem dX2_hasOpenUnder_51 : decode cX2_hasOpenUnder 51 = .ok (.if_icmp .ne 5, 3) := by decide +kernel
theorem dX2_hasOpenUnder_54 : decode cX2_hasOpenUnder 54 = .ok (.iconst 1, 1) := by decide +kernel
theorem dX2_hasOpenUnder_55 : decode cX2_hasOpenUnder 55 = .ok (.ireturn, 1) := by decide +kernel
theorem dX2_hasOpenUnder_0 : decode cX2_hasOpenUnder 0 = .ok (.iconst 0, 1) := by decide +kernel
theorem dX2_hasOpenUnder_1 : decode cX2_hasOpenUnder 1 = .ok (.istore 4, 2) := by decide +kernel
theorem dX5_layOnDoor_0 : decode cX5_layOnDoor 0 = .ok (.aload_n 0, 1) := by decide +kernel
theorem dX5_layOnDoor_1 : decode cX5_layOnDoor 1 = .ok (.iload_n 1, 1) := by decide +kernel
theorem dX5_layOnDoor_2 : decode cX5_layOnDoor 2 = .ok (.invokevirtual 104, 3) := by decide +kernel
theorem dX5_layOnDoor_5 : decode cX5_layOnDoor 5 = .ok (.istore_n 3, 1) := by decide +kernel
theorem dX5_layOnDoor_6 : decode cX5_layOnDoor 6 = .ok (.aload_n 0, 1) := by decide +kernel
theorem dX5_layOnDoor_7 : decode cX5_layOnDoor 7 = .ok (.getfield 12, 3) := by decide +kernel
theorem dX5_layOnDoor_10 : decode cX5_layOnDoor 10 = .ok (.iload_n 2, 1) := by decide +kernel
theorem dX5_layOnDoor_11 : decode cX5_layOnDoor 11 = .ok (.aload_n 0, 1) := by decide +kernel
theorem dX5_layOnDoor_12 : decode cX5_layOnDoor 12 = .ok (.getfield 42, 3) := by decide +kernel
theorem dX5_layOnDoor_15 : decode cX5_layOnDoor 15 = .ok (.iload_n 3, 1) := by decide +kernel
theorem dX5_layOnDoor_16 : decode cX5_layOnDoor 16 = .ok (.invokevirtual 107, 3) := by decide +kernel
theorem dX5_layOnDoor_19 : decode cX5_layOnDoor 19 = .ok (.aload_n 0, 1) := by decide +kernel
theorem dX5_layOnDoor_20 : decode cX5_layOnDoor 20 = .ok (.getfield 42, 3) := by decide +kernel
theorem dX5_layOnDoor_23 : decode cX5_layOnDoor 23 = .ok (.iload_n 3, 1) := by decide +kernel
theorem dX5_layOnDoor_24 : decode cX5_layOnDoor 24 = .ok (.iconst 1, 1) := by decide +kernel
theorem dX5_layOnDoor_25 : decode cX5_layOnDoor 25 = .ok (.iadd, 1) := by decide +kernel
theorem dX5_layOnDoor_26 : decode cX5_layOnDoor 26 = .ok (.invokevirtual 107, 3) := by decide +kernel
theorem dX5_layOnDoor_29 : decode cX5_layOnDoor 29 = .ok (.invokevirtual 113, 3) := by decide +kernel
theorem dX5_layOnDoor_32 : decode cX5_layOnDoor 32 = .ok (.ireturn, 1) := by decide +kernel
theorem dX11_under_124 : decode cX11_under 124 = .ok (.aload_n 0, 1) := by decide +kernel
theorem dX11_under_125 : decode cX11_under 125 = .ok (.getfield 22, 3) := by decide +kernel
theorem dX11_under_128 : decode cX11_under 128 = .ok (.getfield 185, 3) := by decide +kernel
theorem dX11_under_131 : decode cX11_under 131 = .ok (.iload_n 1, 1) := by decide +kernel
theorem dX11_under_132 : decode cX11_under 132 = .ok (.iload_n 2, 1) := by decide +kernel
theorem dX11_under_133 : decode cX11_under 133 = .ok (.iload_n 3, 1) := by decide +kernel
theorem dX11_under_134 : decode cX11_under 134 = .ok (.aload_n 0, 1) := by decide +kernel
theorem dX11_under_135 : decode cX11_under 135 = .ok (.getfield 22, 3) := by decide +kernel
theorem dX11_under_138 : decode cX11_under 138 = .ok (.iload_n 2, 1) := by decide +kernel
theorem dX11_under_139 : decode cX11_under 139 = .ok (.iload 4, 2) := by decide +kernel
theorem dX11_under_141 : decode cX11_under 141 = .ok (.invokevirtual 244, 3) := by decide +kernel
theorem dX11_under_144 : decode cX11_under 144 = .ok (.invokevirtual 195, 3) := by decide +kernel
theorem dX11_under_147 : decode cX11_under 147 = .ok (.ireturn, 1) := by decide +kernel
theorem dX11_under_121 : decode cX11_under 121 = .ok (.bipush (-6), 2) := by decide +kernel
theorem dX11_under_123 : decode cX11_under 123 = .ok (.ireturn, 1) := by decide +kernel
theorem dX11_under_93 : decode cX11_under 93 = .ok (.aload_n 0, 1) := by decide +kernel
theorem dX11_under_94 : decode cX11_under 94 = .ok (.getfield 22, 3) := by decide +kernel
theorem dX11_under_97 : decode cX11_under 97 = .ok (.getfield 185, 3) := by decide +kernel
theorem dX11_under_100 : decode cX11_under 100 = .ok (.getfield 189, 3) := by decide +kernel
theorem dX11_under_103 : decode cX11_under 103 = .ok (.bipush 100, 2) := by decide +kernel
theorem dX11_under_105 : decode cX11_under 105 = .ok (.if_icmp .ge 16, 3) := by decide +kernel
theorem dX11_under_108 : decode cX11_under 108 = .ok (.aload_n 0, 1) := by decide +kernel
theorem dX11_under_109 : decode cX11_under 109 = .ok (.getfield 22, 3) := by decide +kernel
theorem dX11_under_112 : decode cX11_under 112 = .ok (.getfield 73, 3) := by decide +kernel
theorem dX11_under_115 : decode cX11_under 115 = .ok (.invokevirtual 152, 3) := by decide +kernel
theorem dX11_under_118 : decode cX11_under 118 = .ok (.ifCond .ne 6, 3) := by decide +kernel
theorem dX11_under_74 : decode cX11_under 74 = .ok (.aload_n 0, 1) := by decide +kernel
theorem dX11_under_75 : decode cX11_under 75 = .ok (.getfield 22, 3) := by decide +kernel
theorem dX11_under_78 : decode cX11_under 78 = .ok (.getfield 185, 3) := by decide +kernel
theorem dX11_under_81 : decode cX11_under 81 = .ok (.iload_n 2, 1) := by decide +kernel
theorem dX11_under_82 : decode cX11_under 82 = .ok (.iload_n 1, 1) := by decide +kernel
theorem dX11_under_83 : decode cX11_under 83 = .ok (.iload_n 3, 1) := by decide +kernel
theorem dX11_under_84 : decode cX11_under 84 = .ok (.invokevirtual 240, 3) := by decide +kernel
theorem dX11_under_87 : decode cX11_under 87 = .ok (.ifCond .eq 6, 3) := by decide +kernel
theorem dX11_under_90 : decode cX11_under 90 = .ok (.bipush (-5), 2) := by decide +kernel
theorem dX11_under_92 : decode cX11_under 92 = .ok (.ireturn, 1) := by decide +kernel
theorem dX11_under_58 : decode cX11_under 58 = .ok (.iload 4, 2) := by decide +kernel
theorem dX11_under_60 : decode cX11_under 60 = .ok (.aload_n 0, 1) := by decide +kernel
theorem dX11_under_61 : decode cX11_under 61 = .ok (.getfield 22, 3) := by decide +kernel
theorem dX11_under_64 : decode cX11_under 64 = .ok (.iload_n 2, 1) := by decide +kernel
theorem dX11_under_65 : decode cX11_under 65 = .ok (.invokevirtual 237, 3) := by decide +kernel
theorem dX11_under_68 : decode cX11_under 68 = .ok (.if_icmp .ge 6, 3) := by decide +kernel
theorem dX11_under_71 : decode cX11_under 71 = .ok (.bipush (-3), 2) := by decide +kernel
theorem dX11_under_73 : decode cX11_under 73 = .ok (.ireturn, 1) := by decide +kernel
theorem dX11_under_55 : decode cX11_under 55 = .ok (.bipush (-2), 2) := by decide +kernel
theorem dX11_under_57 : decode cX11_under 57 = .ok (.ireturn, 1) := by decide +kernel
theorem dX11_under_32 : decode cX11_under 32 = .ok (.iload_n 1, 1) := by decide +kernel
theorem dX11_under_33 : decode cX11_under 33 = .ok (.invokestatic 228, 3) := by decide +kernel
theorem dX11_under_36 : decode cX11_under 36 = .ok (.ifCond .eq 19, 3) := by decide +kernel
theorem dX11_under_39 : decode cX11_under 39 = .ok (.iload_n 1, 1) := by decide +kernel
theorem dX11_under_40 : decode cX11_under 40 = .ok (.iload_n 3, 1) := by decide +kernel
theorem dX11_under_41 : decode cX11_under 41 = .ok (.invokestatic 234, 3) := by decide +kernel
theorem dX11_under_44 : decode cX11_under 44 = .ok (.ifCond .eq 11, 3) := by decide +kernel
theorem dX11_under_47 : decode cX11_under 47 = .ok (.iload 4, 2) := by decide +kernel
theorem dX11_under_49 : decode cX11_under 49 = .ok (.invokestatic 69, 3) := by decide +kernel
theorem dX11_under_52 : decode cX11_under 52 = .ok (.ifCond .ne 6, 3) := by decide +kernel
theorem dX11_under_30 : decode cX11_under 30 = .ok (.iconst (-1), 1) := by decide +kernel
theorem dX11_under_31 : decode cX11_under 31 = .ok (.ireturn, 1) := by decide +kernel
theorem dX11_under_0 : decode cX11_under 0 = .ok (.aload_n 0, 1) := by decide +kernel
theorem dX11_under_1 : decode cX11_under 1 = .ok (.getfield 22, 3) := by decide +kernel
theorem dX11_under_4 : decode cX11_under 4 = .ok (.getfield 185, 3) := by decide +kernel
theorem dX11_under_7 : decode cX11_under 7 = .ok (.iload_n 2, 1) := by decide +kernel
theorem dX11_under_8 : decode cX11_under 8 = .ok (.invokevirtual 211, 3) := by decide +kernel
theorem dX11_under_11 : decode cX11_under 11 = .ok (.ifCond .eq 19, 3) := by decide +kernel
theorem dX11_under_14 : decode cX11_under 14 = .ok (.iload_n 1, 1) := by decide +kernel
theorem dX11_under_15 : decode cX11_under 15 = .ok (.invokestatic 228, 3) := by decide +kernel
theorem dX11_under_18 : decode cX11_under 18 = .ok (.ifCond .eq 14, 3) := by decide +kernel
theorem dX11_under_21 : decode cX11_under 21 = .ok (.aload_n 0, 1) := by decide +kernel
theorem dX11_under_22 : decode cX11_under 22 = .ok (.iload_n 2, 1) := by decide +kernel
theorem dX11_under_23 : decode cX11_under 23 = .ok (.iload_n 1, 1) := by decide +kernel
theorem dX11_under_24 : decode cX11_under 24 = .ok (.invokevirtual 231, 3) := by decide +kernel
theorem dX11_under_27 : decode cX11_under 27 = .ok (.ifCond .ne 5, 3) := by decide +kernel
theorem dX4_close_43 : decode cX4_close 43 = .ok (.return_, 1) := by decide +kernel
theorem dX4_close_37 : decode cX4_close 37 = .ok (.iinc 3 1, 3) := by decide +kernel
theorem dX4_close_40 : decode cX4_close 40 = .ok (.goto (-38), 3) := by decide +kernel
theorem dX4_close_2 : decode cX4_close 2 = .ok (.iload_n 3, 1) := by decide +kernel
theorem dX4_close_3 : decode cX4_close 3 = .ok (.aload_n 0, 1) := by decide +kernel
theorem dX4_close_4 : decode cX4_close 4 = .ok (.getfield 24, 3) := by decide +kernel
theorem dX4_close_7 : decode cX4_close 7 = .ok (.if_icmp .ge 36, 3) := by decide +kernel
theorem dX4_close_10 : decode cX4_close 10 = .ok (.aload_n 0, 1) := by decide +kernel
theorem dX4_close_11 : decode cX4_close 11 = .ok (.getfield 9, 3) := by decide +kernel
theorem dX4_close_14 : decode cX4_close 14 = .ok (.iload_n 3, 1) := by decide +kernel
theorem dX4_close_15 : decode cX4_close 15 = .ok (.iaload, 1) := by decide +kernel
theorem dX4_close_16 : decode cX4_close 16 = .ok (.iload_n 1, 1) := by decide +kernel
theorem dX4_close_17 : decode cX4_close 17 = .ok (.if_icmp .ne 20, 3) := by decide +kernel
theorem dX4_close_20 : decode cX4_close 20 = .ok (.aload_n 0, 1) := by decide +kernel
theorem dX4_close_21 : decode cX4_close 21 = .ok (.getfield 21, 3) := by decide +kernel
theorem dX4_close_24 : decode cX4_close 24 = .ok (.iload_n 3, 1) := by decide +kernel
theorem dX4_close_25 : decode cX4_close 25 = .ok (.iaload, 1) := by decide +kernel
theorem dX4_close_26 : decode cX4_close 26 = .ok (.iconst (-1), 1) := by decide +kernel
theorem dX4_close_27 : decode cX4_close 27 = .ok (.if_icmp .ne 10, 3) := by decide +kernel
theorem dX4_close_30 : decode cX4_close 30 = .ok (.aload_n 0, 1) := by decide +kernel
theorem dX4_close_31 : decode cX4_close 31 = .ok (.getfield 21, 3) := by decide +kernel
theorem dX4_close_34 : decode cX4_close 34 = .ok (.iload_n 3, 1) := by decide +kernel
theorem dX4_close_35 : decode cX4_close 35 = .ok (.iload_n 2, 1) := by decide +kernel
theorem dX4_close_36 : decode cX4_close 36 = .ok (.iastore, 1) := by decide +kernel
theorem dX4_close_0 : decode cX4_close 0 = .ok (.iconst 0, 1) := by decide +kernel
theorem dX4_close_1 : decode cX4_close 1 = .ok (.istore_n 3, 1) := by decide +kernel
theorem dX2_closeWithUnder_88 : decode cX2_closeWithUnder 88 = .ok (.iload_n 3, 1) := by decide +kernel
theorem dX2_closeWithUnder_89 : decode cX2_closeWithUnder 89 = .ok (.ireturn, 1) := by decide +kernel
theorem dX2_closeWithUnder_82 : decode cX2_closeWithUnder 82 = .ok (.iinc 4 1, 3) := by decide +kernel
theorem dX2_closeWithUnder_85 : decode cX2_closeWithUnder 85 = .ok (.goto (-80), 3) := by decide +kernel
theorem dX2_closeWithUnder_71 : decode cX2_closeWithUnder 71 = .ok (.aload_n 0, 1) := by decide +kernel
theorem dX2_closeWithUnder_72 : decode cX2_closeWithUnder 72 = .ok (.getfield 27, 3) := by decide +kernel
theorem dX2_closeWithUnder_75 : decode cX2_closeWithUnder 75 = .ok (.iload 4, 2) := by decide +kernel
theorem dX2_closeWithUnder_77 : decode cX2_closeWithUnder 77 = .ok (.iload_n 2, 1) := by decide +kernel
theorem dX2_closeWithUnder_78 : decode cX2_closeWithUnder 78 = .ok (.iastore, 1) := by decide +kernel
theorem dX2_closeWithUnder_79 : decode cX2_closeWithUnder 79 = .ok (.iinc 3 1, 3) := by decide +kernel
theorem dX2_closeWithUnder_49 : decode cX2_closeWithUnder 49 = .ok (.istore 5, 2) := by decide +kernel
theorem dX2_closeWithUnder_51 : decode cX2_closeWithUnder 51 = .ok (.aload_n 0, 1) := by decide +kernel
theorem dX2_closeWithUnder_52 : decode cX2_closeWithUnder 52 = .ok (.iload 4, 2) := by decide +kernel
theorem dX2_closeWithUnder_54 : decode cX2_closeWithUnder 54 = .ok (.invokevirtual 66, 3) := by decide +kernel
theorem dX2_closeWithUnder_57 : decode cX2_closeWithUnder 57 = .ok (.ifCond .eq 25, 3) := by decide +kernel
theorem dX2_closeWithUnder_60 : decode cX2_closeWithUnder 60 = .ok (.iload 4, 2) := by decide +kernel
theorem dX2_closeWithUnder_62 : decode cX2_closeWithUnder 62 = .ok (.iload_n 1, 1) := by decide +kernel
theorem dX2_closeWithUnder_63 : decode cX2_closeWithUnder 63 = .ok (.if_icmp .eq 8, 3) := by decide +kernel
theorem dX2_closeWithUnder_66 : decode cX2_closeWithUnder 66 = .ok (.iload 5, 2) := by decide +kernel
theorem dX2_closeWithUnder_68 : decode cX2_closeWithUnder 68 = .ok (.ifCond .eq 14, 3) := by decide +kernel
theorem dX2_closeWithUnder_48 : decode cX2_closeWithUnder 48 = .ok (.iconst 0, 1) := by decide +kernel
theorem dX2_closeWithUnder_5 : decode cX2_closeWithUnder 5 = .ok (.iload 4, 2) := by decide +kernel
theorem dX2_closeWithUnder_7 : decode cX2_closeWithUnder 7 = .ok (.aload_n 0, 1) := by decide +kernel
theorem dX2_closeWithUnder_8 : decode cX2_closeWithUnder 8 = .ok (.getfield 42, 3) := by decide +kernel
theorem dX2_closeWithUnder_11 : decode cX2_closeWithUnder 11 = .ok (.if_icmp .ge 77, 3) := by decide +kernel
theorem dX2_closeWithUnder_14 : decode cX2_closeWithUnder 14 = .ok (.aload_n 0, 1) := by decide +kernel
theorem dX2_closeWithUnder_15 : decode cX2_closeWithUnder 15 = .ok (.aload_n 0, 1) := by decide +kernel
theorem dX2_closeWithUnder_16 : decode cX2_closeWithUnder 16 = .ok (.getfield 15, 3) := by decide +kernel
theorem dX2_closeWithUnder_19 : decode cX2_closeWithUnder 19 = .ok (.iload 4, 2) := by decide +kernel
theorem dX2_closeWithUnder_21 : decode cX2_closeWithUnder 21 = .ok (.iaload, 1) := by decide +kernel
theorem dX2_closeWithUnder_22 : decode cX2_closeWithUnder 22 = .ok (.invokevirtual 52, 3) := by decide +kernel
theorem dX2_closeWithUnder_25 : decode cX2_closeWithUnder 25 = .ok (.ifCond .eq 23, 3) := by decide +kernel
theorem dX2_closeWithUnder_28 : decode cX2_closeWithUnder 28 = .ok (.aload_n 0, 1) := by decide +kernel
theorem dX2_closeWithUnder_29 : decode cX2_closeWithUnder 29 = .ok (.getfield 27, 3) := by decide +kernel
theorem dX2_closeWithUnder_32 : decode cX2_closeWithUnder 32 = .ok (.aload_n 0, 1) := by decide +kernel
theorem dX2_closeWithUnder_33 : decode cX2_closeWithUnder 33 = .ok (.getfield 15, 3) := by decide +kernel
theorem dX2_closeWithUnder_36 : decode cX2_closeWithUnder 36 = .ok (.iload 4, 2) := by decide +kernel
theorem dX2_closeWithUnder_38 : decode cX2_closeWithUnder 38 = .ok (.iaload, 1) := by decide +kernel
theorem dX2_closeWithUnder_39 : decode cX2_closeWithUnder 39 = .ok (.iaload, 1) := by decide +kernel
theorem dX2_closeWithUnder_40 : decode cX2_closeWithUnder 40 = .ok (.iload_n 2, 1) := by decide +kernel
theorem dX2_closeWithUnder_41 : decode cX2_closeWithUnder 41 = .ok (.if_icmp .ne 7, 3) := by decide +kernel
theorem dX2_closeWithUnder_44 : decode cX2_closeWithUnder 44 = .ok (.iconst 1, 1) := by decide +kernel
theorem dX2_closeWithUnder_45 : decode cX2_closeWithUnder 45 = .ok (.goto 4, 3) := by decide +kernel
theorem dX2_closeWithUnder_0 : decode cX2_closeWithUnder 0 = .ok (.iconst 0, 1) := by decide +kernel
theorem dX2_closeWithUnder_1 : decode cX2_closeWithUnder 1 = .ok (.istore_n 3, 1) := by decide +kernel
theorem dX2_closeWithUnder_2 : decode cX2_closeWithUnder 2 = .ok (.iconst 0, 1) := by decide +kernel
theorem dX2_closeWithUnder_3 : decode cX2_closeWithUnder 3 = .ok (.istore 4, 2) := by decide +kernel
theorem dX11_gone_57 : decode cX11_gone 57 = .ok (.aload_n 0, 1) := by decide +kernel
theorem dX11_gone_58 : decode cX11_gone 58 = .ok (.getfield 22, 3) := by decide +kernel
theorem dX11_gone_61 : decode cX11_gone 61 = .ok (.iload_n 1, 1) := by decide +kernel
theorem dX11_gone_62 : decode cX11_gone 62 = .ok (.iload_n 2, 1) := by decide +kernel
theorem dX11_gone_63 : decode cX11_gone 63 = .ok (.invokevirtual 244, 3) := by decide +kernel
theorem dX11_gone_66 : decode cX11_gone 66 = .ok (.istore_n 3, 1) := by decide +kernel
theorem dX11_gone_67 : decode cX11_gone 67 = .ok (.aload_n 0, 1) := by decide +kernel
theorem dX11_gone_68 : decode cX11_gone 68 = .ok (.getfield 22, 3) := by decide +kernel
theorem dX11_gone_71 : decode cX11_gone 71 = .ok (.getfield 202, 3) := by decide +kernel
theorem dX11_gone_74 : decode cX11_gone 74 = .ok (.iconst 2, 1) := by decide +kernel
theorem dX11_gone_75 : decode cX11_gone 75 = .ok (.iload_n 1, 1) := by decide +kernel
theorem dX11_gone_76 : decode cX11_gone 76 = .ok (.imul, 1) := by decide +kernel
theorem dX11_gone_77 : decode cX11_gone 77 = .ok (.iload_n 3, 1) := by decide +kernel
theorem dX11_gone_78 : decode cX11_gone 78 = .ok (.invokevirtual 247, 3) := by decide +kernel
theorem dX11_gone_81 : decode cX11_gone 81 = .ok (.aload_n 0, 1) := by decide +kernel
theorem dX11_gone_82 : decode cX11_gone 82 = .ok (.getfield 22, 3) := by decide +kernel
theorem dX11_gone_85 : decode cX11_gone 85 = .ok (.getfield 202, 3) := by decide +kernel
theorem dX11_gone_88 : decode cX11_gone 88 = .ok (.iconst 2, 1) := by decide +kernel
theorem dX11_gone_89 : decode cX11_gone 89 = .ok (.iload_n 1, 1) := by decide +kernel
theorem dX11_gone_90 : decode cX11_gone 90 = .ok (.imul, 1) := by decide +kernel
theorem dX11_gone_91 : decode cX11_gone 91 = .ok (.iconst 1, 1) := by decide +kernel
theorem dX11_gone_92 : decode cX11_gone 92 = .ok (.iadd, 1) := by decide +kernel
theorem dX11_gone_93 : decode cX11_gone 93 = .ok (.iload_n 3, 1) := by decide +kernel
theorem dX11_gone_94 : decode cX11_gone 94 = .ok (.invokevirtual 247, 3) := by decide +kernel
theorem dX11_gone_97 : decode cX11_gone 97 = .ok (.aload_n 0, 1) := by decide +kernel
theorem dX11_gone_98 : decode cX11_gone 98 = .ok (.getfield 22, 3) := by decide +kernel
theorem dX11_gone_101 : decode cX11_gone 101 = .ok (.getfield 185, 3) := by decide +kernel
theorem dX11_gone_104 : decode cX11_gone 104 = .ok (.iload_n 1, 1) := by decide +kernel
theorem dX11_gone_105 : decode cX11_gone 105 = .ok (.iload_n 3, 1) := by decide +kernel
theorem dX11_gone_106 : decode cX11_gone 106 = .ok (.invokevirtual 250, 3) := by decide +kernel
theorem dX11_gone_109 : decode cX11_gone 109 = .ok (.ireturn, 1) := by decide +kernel
theorem dX11_gone_41 : decode cX11_gone 41 = .ok (.aload_n 0, 1) := by decide +kernel
theorem dX11_gone_42 : decode cX11_gone 42 = .ok (.getfield 22, 3) := by decide +kernel
theorem dX11_gone_45 : decode cX11_gone 45 = .ok (.getfield 73, 3) := by decide +kernel
theorem dX11_gone_48 : decode cX11_gone 48 = .ok (.invokevirtual 152, 3) := by decide +kernel
theorem dX11_gone_51 : decode cX11_gone 51 = .ok (.ifCond .ne 6, 3) := by decide +kernel
theorem dX11_gone_54 : decode cX11_gone 54 = .ok (.bipush (-6), 2) := by decide +kernel
theorem dX11_gone_56 : decode cX11_gone 56 = .ok (.ireturn, 1) := by decide +kernel
theorem dX11_gone_26 : decode cX11_gone 26 = .ok (.iload_n 2, 1) := by decide +kernel
theorem dX11_gone_27 : decode cX11_gone 27 = .ok (.aload_n 0, 1) := by decide +kernel
theorem dX11_gone_28 : decode cX11_gone 28 = .ok (.getfield 22, 3) := by decide +kernel
theorem dX11_gone_31 : decode cX11_gone 31 = .ok (.iload_n 1, 1) := by decide +kernel
theorem dX11_gone_32 : decode cX11_gone 32 = .ok (.invokevirtual 237, 3) := by decide +kernel
theorem dX11_gone_35 : decode cX11_gone 35 = .ok (.if_icmp .ge 6, 3) := by decide +kernel
theorem dX11_gone_38 : decode cX11_gone 38 = .ok (.bipush (-3), 2) := by decide +kernel
theorem dX11_gone_40 : decode cX11_gone 40 = .ok (.ireturn, 1) := by decide +kernel
theorem dX11_gone_16 : decode cX11_gone 16 = .ok (.iload_n 2, 1) := by decide +kernel
theorem dX11_gone_17 : decode cX11_gone 17 = .ok (.invokestatic 69, 3) := by decide +kernel
theorem dX11_gone_20 : decode cX11_gone 20 = .ok (.ifCond .ne 6, 3) := by decide +kernel
theorem dX11_gone_23 : decode cX11_gone 23 = .ok (.bipush (-2), 2) := by decide +kernel
theorem dX11_gone_25 : decode cX11_gone 25 = .ok (.ireturn, 1) := by decide +kernel
theorem dX11_gone_0 : decode cX11_gone 0 = .ok (.aload_n 0, 1) := by decide +kernel
theorem dX11_gone_1 : decode cX11_gone 1 = .ok (.getfield 22, 3) := by decide +kernel
theorem dX11_gone_4 : decode cX11_gone 4 = .ok (.getfield 185, 3) := by decide +kernel
theorem dX11_gone_7 : decode cX11_gone 7 = .ok (.iload_n 1, 1) := by decide +kernel
theorem dX11_gone_8 : decode cX11_gone 8 = .ok (.invokevirtual 211, 3) := by decide +kernel
theorem dX11_gone_11 : decode cX11_gone 11 = .ok (.ifCond .ne 5, 3) := by decide +kernel
theorem dX11_gone_14 : decode cX11_gone 14 = .ok (.iconst (-1), 1) := by decide +kernel
theorem dX11_gone_15 : decode cX11_gone 15 = .ok (.ireturn, 1) := by decide +kernel
theorem dX11_freshByPaces_46 : decode cX11_freshByPaces 46 = .ok (.ireturn, 1) := by decide +kernel
theorem dX11_freshByPaces_45 : decode cX11_freshByPaces 45 = .ok (.iload_n 2, 1) := by decide +kernel
theorem dX11_freshByPaces_27 : decode cX11_freshByPaces 27 = .ok (.istore_n 3, 1) := by decide +kernel
theorem dX11_freshByPaces_28 : decode cX11_freshByPaces 28 = .ok (.iload_n 3, 1) := by decide +kernel
theorem dX11_freshByPaces_29 : decode cX11_freshByPaces 29 = .ok (.ifCond .eq 16, 3) := by decide +kernel
theorem dX11_freshByPaces_32 : decode cX11_freshByPaces 32 = .ok (.aload_n 0, 1) := by decide +kernel
theorem dX11_freshByPaces_33 : decode cX11_freshByPaces 33 = .ok (.getfield 44, 3) := by decide +kernel
theorem dX11_freshByPaces_36 : decode cX11_freshByPaces 36 = .ok (.iload_n 1, 1) := by decide +kernel
theorem dX11_freshByPaces_37 : decode cX11_freshByPaces 37 = .ok (.iconst 1, 1) := by decide +kernel
theorem dX11_freshByPaces_38 : decode cX11_freshByPaces 38 = .ok (.isub, 1) := by decide +kernel
theorem dX11_freshByPaces_39 : decode cX11_freshByPaces 39 = .ok (.iaload, 1) := by decide +kernel
theorem dX11_freshByPaces_40 : decode cX11_freshByPaces 40 = .ok (.iconst 1, 1) := by decide +kernel
theorem dX11_freshByPaces_41 : decode cX11_freshByPaces 41 = .ok (.iadd, 1) := by decide +kernel
theorem dX11_freshByPaces_42 : decode cX11_freshByPaces 42 = .ok (.goto 4, 3) := by decide +kernel
theorem dX11_freshByPaces_26 : decode cX11_freshByPaces 26 = .ok (.iconst 0, 1) := by decide +kernel
theorem dX11_freshByPaces_0 : decode cX11_freshByPaces 0 = .ok (.iload_n 1, 1) := by decide +kernel
theorem dX11_freshByPaces_1 : decode cX11_freshByPaces 1 = .ok (.ifCond .le 25, 3) := by decide +kernel
theorem dX11_freshByPaces_4 : decode cX11_freshByPaces 4 = .ok (.aload_n 0, 1) := by decide +kernel
theorem dX11_freshByPaces_5 : decode cX11_freshByPaces 5 = .ok (.getfield 44, 3) := by decide +kernel
theorem dX11_freshByPaces_8 : decode cX11_freshByPaces 8 = .ok (.iload_n 1, 1) := by decide +kernel
theorem dX11_freshByPaces_9 : decode cX11_freshByPaces 9 = .ok (.iconst 1, 1) := by decide +kernel
theorem dX11_freshByPaces_10 : decode cX11_freshByPaces 10 = .ok (.isub, 1) := by decide +kernel
theorem dX11_freshByPaces_11 : decode cX11_freshByPaces 11 = .ok (.iaload, 1) := by decide +kernel
theorem dX11_freshByPaces_12 : decode cX11_freshByPaces 12 = .ok (.bipush 16, 2) := by decide +kernel
theorem dX11_freshByPaces_14 : decode cX11_freshByPaces 14 = .ok (.idiv, 1) := by decide +kernel
theorem dX11_freshByPaces_15 : decode cX11_freshByPaces 15 = .ok (.iload_n 2, 1) := by decide +kernel
theorem dX11_freshByPaces_16 : decode cX11_freshByPaces 16 = .ok (.bipush 16, 2) := by decide +kernel
theorem dX11_freshByPaces_18 : decode cX11_freshByPaces 18 = .ok (.idiv, 1) := by decide +kernel
theorem dX11_freshByPaces_19 : decode cX11_freshByPaces 19 = .ok (.if_icmp .ne 7, 3) := by decide +kernel
theorem dX11_freshByPaces_22 : decode cX11_freshByPaces 22 = .ok (.iconst 1, 1) := by decide +kernel
theorem dX11_freshByPaces_23 : decode cX11_freshByPaces 23 = .ok (.goto 4, 3) := by decide +kernel
theorem dX10_rowWholeOf_40 : decode cX10_rowWholeOf 40 = .ok (.ireturn, 1) := by decide +kernel
theorem dX10_rowWholeOf_39 : decode cX10_rowWholeOf 39 = .ok (.iconst (-1), 1) := by decide +kernel
theorem dX10_rowWholeOf_0 : decode cX10_rowWholeOf 0 = .ok (.iconst 2, 1) := by decide +kernel
theorem dX10_rowWholeOf_1 : decode cX10_rowWholeOf 1 = .ok (.iload_n 1, 1) := by decide +kernel
theorem dX10_rowWholeOf_2 : decode cX10_rowWholeOf 2 = .ok (.imul, 1) := by decide +kernel
theorem dX10_rowWholeOf_3 : decode cX10_rowWholeOf 3 = .ok (.iload_n 2, 1) := by decide +kernel
theorem dX10_rowWholeOf_4 : decode cX10_rowWholeOf 4 = .ok (.iadd, 1) := by decide +kernel
theorem dX10_rowWholeOf_5 : decode cX10_rowWholeOf 5 = .ok (.istore 4, 2) := by decide +kernel
theorem dX10_rowWholeOf_7 : decode cX10_rowWholeOf 7 = .ok (.iload_n 3, 1) := by decide +kernel
theorem dX10_rowWholeOf_8 : decode cX10_rowWholeOf 8 = .ok (.aload_n 0, 1) := by decide +kernel
theorem dX10_rowWholeOf_9 : decode cX10_rowWholeOf 9 = .ok (.getfield 22, 3) := by decide +kernel
theorem dX10_rowWholeOf_12 : decode cX10_rowWholeOf 12 = .ok (.iload 4, 2) := by decide +kernel
theorem dX10_rowWholeOf_14 : decode cX10_rowWholeOf 14 = .ok (.iaload, 1) := by decide +kernel
theorem dX10_rowWholeOf_15 : decode cX10_rowWholeOf 15 = .ok (.if_icmp .ge 24, 3) := by decide +kernel
theorem dX10_rowWholeOf_18 : decode cX10_rowWholeOf 18 = .ok (.iload_n 3, 1) := by decide +kernel
theorem dX10_rowWholeOf_19 : decode cX10_rowWholeOf 19 = .ok (.bipush 100, 2) := by decide +kernel
theorem dX10_rowWholeOf_21 : decode cX10_rowWholeOf 21 = .ok (.if_icmp .ge 18, 3) := by decide +kernel
theorem dX10_rowWholeOf_24 : decode cX10_rowWholeOf 24 = .ok (.aload_n 0, 1) := by decide +kernel
theorem dX10_rowWholeOf_25 : decode cX10_rowWholeOf 25 = .ok (.getfield 25, 3) := by decide +kernel
theorem dX10_rowWholeOf_28 : decode cX10_rowWholeOf 28 = .ok (.iload 4, 2) := by decide +kernel
theorem dX10_rowWholeOf_30 : decode cX10_rowWholeOf 30 = .ok (.bipush 100, 2) := by decide +kernel
theorem dX10_rowWholeOf_32 : decode cX10_rowWholeOf 32 = .ok (.imul, 1) := by decide +kernel
theorem dX10_rowWholeOf_33 : decode cX10_rowWholeOf 33 = .ok (.iload_n 3, 1) := by decide +kernel
theorem dX10_rowWholeOf_34 : decode cX10_rowWholeOf 34 = .ok (.iadd, 1) := by decide +kernel
theorem dX10_rowWholeOf_35 : decode cX10_rowWholeOf 35 = .ok (.iaload, 1) := by decide +kernel
theorem dX10_rowWholeOf_36 : decode cX10_rowWholeOf 36 = .ok (.goto 4, 3) := by decide +kernel
theorem dX11_setFreshNumbers_172 : decode cX11_setFreshNumbers 172 = .ok (.return_, 1) := by decide +kernel
theorem dX11_setFreshNumbers_166 : decode cX11_setFreshNumbers 166 = .ok (.iinc 4 1, 3) := by decide +kernel
theorem dX11_setFreshNumbers_169 : decode cX11_setFreshNumbers 169 = .ok (.goto (-164), 3) := by decide +kernel
theorem dX11_setFreshNumbers_145 : decode cX11_setFreshNumbers 145 = .ok (.aload_n 0, 1) := by decide +kernel
theorem dX11_setFreshNumbers_146 : decode cX11_setFreshNumbers 146 = .ok (.getfield 44, 3) := by decide +kernel
theorem dX11_setFreshNumbers_149 : decode cX11_setFreshNumbers 149 = .ok (.iload 4, 2) := by decide +kernel
theorem dX11_setFreshNumbers_151 : decode cX11_setFreshNumbers 151 = .ok (.aload_n 0, 1) := by decide +kernel
theorem dX11_setFreshNumbers_152 : decode cX11_setFreshNumbers 152 = .ok (.getfield 22, 3) := by decide +kernel
theorem dX11_setFreshNumbers_155 : decode cX11_setFreshNumbers 155 = .ok (.getfield 89, 3) := by decide +kernel
theorem dX11_setFreshNumbers_158 : decode cX11_setFreshNumbers 158 = .ok (.iload_n 1, 1) := by decide +kernel
theorem dX11_setFreshNumbers_159 : decode cX11_setFreshNumbers 159 = .ok (.iload 5, 2) := by decide +kernel
theorem dX11_setFreshNumbers_161 : decode cX11_setFreshNumbers 161 = .ok (.iload_n 3, 1) := by decide +kernel
theorem dX11_setFreshNumbers_162 : decode cX11_setFreshNumbers 162 = .ok (.invokevirtual 549, 3) := by decide +kernel
theorem dX11_setFreshNumbers_165 : decode cX11_setFreshNumbers 165 = .ok (.iastore, 1) := by decide +kernel
theorem dX11_setFreshNumbers_106 : decode cX11_setFreshNumbers 106 = .ok (.iload_n 2, 1) := by decide +kernel
theorem dX11_setFreshNumbers_107 : decode cX11_setFreshNumbers 107 = .ok (.iconst 2, 1) := by decide +kernel
theorem dX11_setFreshNumbers_108 : decode cX11_setFreshNumbers 108 = .ok (.if_icmp .ne 37, 3) := by decide +kernel
theorem dX11_setFreshNumbers_111 : decode cX11_setFreshNumbers 111 = .ok (.aload_n 0, 1) := by decide +kernel
theorem dX11_setFreshNumbers_112 : decode cX11_setFreshNumbers 112 = .ok (.getfield 44, 3) := by decide +kernel
theorem dX11_setFreshNumbers_115 : decode cX11_setFreshNumbers 115 = .ok (.iload 4, 2) := by decide +kernel
theorem dX11_setFreshNumbers_117 : decode cX11_setFreshNumbers 117 = .ok (.aload_n 0, 1) := by decide +kernel
theorem dX11_setFreshNumbers_118 : decode cX11_setFreshNumbers 118 = .ok (.iload 4, 2) := by decide +kernel
theorem dX11_setFreshNumbers_120 : decode cX11_setFreshNumbers 120 = .ok (.bipush 16, 2) := by decide +kernel
theorem dX11_setFreshNumbers_122 : decode cX11_setFreshNumbers 122 = .ok (.iload 5, 2) := by decide +kernel
theorem dX11_setFreshNumbers_124 : decode cX11_setFreshNumbers 124 = .ok (.aload_n 0, 1) := by decide +kernel
theorem dX11_setFreshNumbers_125 : decode cX11_setFreshNumbers 125 = .ok (.getfield 40, 3) := by decide +kernel
theorem dX11_setFreshNumbers_128 : decode cX11_setFreshNumbers 128 = .ok (.getfield 542, 3) := by decide +kernel
theorem dX11_setFreshNumbers_131 : decode cX11_setFreshNumbers 131 = .ok (.iload 4, 2) := by decide +kernel
theorem dX11_setFreshNumbers_133 : decode cX11_setFreshNumbers 133 = .ok (.iaload, 1) := by decide +kernel
theorem dX11_setFreshNumbers_134 : decode cX11_setFreshNumbers 134 = .ok (.invokestatic 543, 3) := by decide +kernel
theorem dX11_setFreshNumbers_137 : decode cX11_setFreshNumbers 137 = .ok (.imul, 1) := by decide +kernel
theorem dX11_setFreshNumbers_138 : decode cX11_setFreshNumbers 138 = .ok (.invokevirtual 546, 3) := by decide +kernel
theorem dX11_setFreshNumbers_141 : decode cX11_setFreshNumbers 141 = .ok (.iastore, 1) := by decide +kernel
theorem dX11_setFreshNumbers_142 : decode cX11_setFreshNumbers 142 = .ok (.goto 24, 3) := by decide +kernel
theorem dX11_setFreshNumbers_84 : decode cX11_setFreshNumbers 84 = .ok (.iload_n 2, 1) := by decide +kernel
theorem dX11_setFreshNumbers_85 : decode cX11_setFreshNumbers 85 = .ok (.iconst 1, 1) := by decide +kernel
theorem dX11_setFreshNumbers_86 : decode cX11_setFreshNumbers 86 = .ok (.if_icmp .ne 20, 3) := by decide +kernel
theorem dX11_setFreshNumbers_89 : decode cX11_setFreshNumbers 89 = .ok (.aload_n 0, 1) := by decide +kernel
theorem dX11_setFreshNumbers_90 : decode cX11_setFreshNumbers 90 = .ok (.getfield 44, 3) := by decide +kernel
theorem dX11_setFreshNumbers_93 : decode cX11_setFreshNumbers 93 = .ok (.iload 4, 2) := by decide +kernel
theorem dX11_setFreshNumbers_95 : decode cX11_setFreshNumbers 95 = .ok (.bipush 16, 2) := by decide +kernel
theorem dX11_setFreshNumbers_97 : decode cX11_setFreshNumbers 97 = .ok (.iload 4, 2) := by decide +kernel
theorem dX11_setFreshNumbers_99 : decode cX11_setFreshNumbers 99 = .ok (.iconst 1, 1) := by decide +kernel
theorem dX11_setFreshNumbers_100 : decode cX11_setFreshNumbers 100 = .ok (.iadd, 1) := by decide +kernel
theorem dX11_setFreshNumbers_101 : decode cX11_setFreshNumbers 101 = .ok (.imul, 1) := by decide +kernel
theorem dX11_setFreshNumbers_102 : decode cX11_setFreshNumbers 102 = .ok (.iastore, 1) := by decide +kernel
theorem dX11_setFreshNumbers_103 : decode cX11_setFreshNumbers 103 = .ok (.goto 63, 3) := by decide +kernel
theorem dX11_setFreshNumbers_58 : decode cX11_setFreshNumbers 58 = .ok (.istore_n 3, 1) := by decide +kernel
theorem dX11_setFreshNumbers_59 : decode cX11_setFreshNumbers 59 = .ok (.iload_n 2, 1) := by decide +kernel
theorem dX11_setFreshNumbers_60 : decode cX11_setFreshNumbers 60 = .ok (.ifCond .ne 24, 3) := by decide +kernel
theorem dX11_setFreshNumbers_63 : decode cX11_setFreshNumbers 63 = .ok (.aload_n 0, 1) := by decide +kernel
theorem dX11_setFreshNumbers_64 : decode cX11_setFreshNumbers 64 = .ok (.getfield 44, 3) := by decide +kernel
theorem dX11_setFreshNumbers_67 : decode cX11_setFreshNumbers 67 = .ok (.iload 4, 2) := by decide +kernel
theorem dX11_setFreshNumbers_69 : decode cX11_setFreshNumbers 69 = .ok (.bipush 16, 2) := by decide +kernel
theorem dX11_setFreshNumbers_71 : decode cX11_setFreshNumbers 71 = .ok (.iconst 2, 1) := by decide +kernel
theorem dX11_setFreshNumbers_72 : decode cX11_setFreshNumbers 72 = .ok (.iload_n 3, 1) := by decide +kernel
theorem dX11_setFreshNumbers_73 : decode cX11_setFreshNumbers 73 = .ok (.imul, 1) := by decide +kernel
theorem dX11_setFreshNumbers_74 : decode cX11_setFreshNumbers 74 = .ok (.iconst 1, 1) := by decide +kernel
theorem dX11_setFreshNumbers_75 : decode cX11_setFreshNumbers 75 = .ok (.iadd, 1) := by decide +kernel
theorem dX11_setFreshNumbers_76 : decode cX11_setFreshNumbers 76 = .ok (.iload 5, 2) := by decide +kernel
theorem dX11_setFreshNumbers_78 : decode cX11_setFreshNumbers 78 = .ok (.iadd, 1) := by decide +kernel
theorem dX11_setFreshNumbers_79 : decode cX11_setFreshNumbers 79 = .ok (.imul, 1) := by decide +kernel
theorem dX11_setFreshNumbers_80 : decode cX11_setFreshNumbers 80 = .ok (.iastore, 1) := by decide +kernel
theorem dX11_setFreshNumbers_81 : decode cX11_setFreshNumbers 81 = .ok (.goto 85, 3) := by decide +kernel
theorem dX11_setFreshNumbers_57 : decode cX11_setFreshNumbers 57 = .ok (.iconst 0, 1) := by decide +kernel
theorem dX11_setFreshNumbers_5 : decode cX11_setFreshNumbers 5 = .ok (.iload 4, 2) := by decide +kernel
theorem dX11_setFreshNumbers_7 : decode cX11_setFreshNumbers 7 = .ok (.aload_n 0, 1) := by decide +kernel
theorem dX11_setFreshNumbers_8 : decode cX11_setFreshNumbers 8 = .ok (.getfield 40, 3) := by decide +kernel
theorem dX11_setFreshNumbers_11 : decode cX11_setFreshNumbers 11 = .ok (.getfield 455, 3) := by decide +kernel
theorem dX11_setFreshNumbers_14 : decode cX11_setFreshNumbers 14 = .ok (.if_icmp .ge 158, 3) := by decide +kernel
theorem dX11_setFreshNumbers_17 : decode cX11_setFreshNumbers 17 = .ok (.aload_n 0, 1) := by decide +kernel
theorem dX11_setFreshNumbers_18 : decode cX11_setFreshNumbers 18 = .ok (.getfield 40, 3) := by decide +kernel
theorem dX11_setFreshNumbers_21 : decode cX11_setFreshNumbers 21 = .ok (.getfield 541, 3) := by decide +kernel
theorem dX11_setFreshNumbers_24 : decode cX11_setFreshNumbers 24 = .ok (.iload 4, 2) := by decide +kernel
theorem dX11_setFreshNumbers_26 : decode cX11_setFreshNumbers 26 = .ok (.iaload, 1) := by decide +kernel
theorem dX11_setFreshNumbers_27 : decode cX11_setFreshNumbers 27 = .ok (.istore 5, 2) := by decide +kernel
theorem dX11_setFreshNumbers_29 : decode cX11_setFreshNumbers 29 = .ok (.iload 4, 2) := by decide +kernel
theorem dX11_setFreshNumbers_31 : decode cX11_setFreshNumbers 31 = .ok (.ifCond .le 26, 3) := by decide +kernel
theorem dX11_setFreshNumbers_34 : decode cX11_setFreshNumbers 34 = .ok (.aload_n 0, 1) := by decide +kernel
theorem dX11_setFreshNumbers_35 : decode cX11_setFreshNumbers 35 = .ok (.getfield 40, 3) := by decide +kernel
theorem dX11_setFreshNumbers_38 : decode cX11_setFreshNumbers 38 = .ok (.getfield 541, 3) := by decide +kernel
theorem dX11_setFreshNumbers_41 : decode cX11_setFreshNumbers 41 = .ok (.iload 4, 2) := by decide +kernel
theorem dX11_setFreshNumbers_43 : decode cX11_setFreshNumbers 43 = .ok (.iconst 1, 1) := by decide +kernel
theorem dX11_setFreshNumbers_44 : decode cX11_setFreshNumbers 44 = .ok (.isub, 1) := by decide +kernel
theorem dX11_setFreshNumbers_45 : decode cX11_setFreshNumbers 45 = .ok (.iaload, 1) := by decide +kernel
theorem dX11_setFreshNumbers_46 : decode cX11_setFreshNumbers 46 = .ok (.iload 5, 2) := by decide +kernel
theorem dX11_setFreshNumbers_48 : decode cX11_setFreshNumbers 48 = .ok (.if_icmp .ne 9, 3) := by decide +kernel
theorem dX11_setFreshNumbers_51 : decode cX11_setFreshNumbers 51 = .ok (.iload_n 3, 1) := by decide +kernel
theorem dX11_setFreshNumbers_52 : decode cX11_setFreshNumbers 52 = .ok (.iconst 1, 1) := by decide +kernel
theorem dX11_setFreshNumbers_53 : decode cX11_setFreshNumbers 53 = .ok (.iadd, 1) := by decide +kernel
theorem dX11_setFreshNumbers_54 : decode cX11_setFreshNumbers 54 = .ok (.goto 4, 3) := by decide +kernel
theorem dX11_setFreshNumbers_0 : decode cX11_setFreshNumbers 0 = .ok (.iconst 0, 1) := by decide +kernel
theorem dX11_setFreshNumbers_1 : decode cX11_setFreshNumbers 1 = .ok (.istore_n 3, 1) := by decide +kernel
theorem dX11_setFreshNumbers_2 : decode cX11_setFreshNumbers 2 = .ok (.iconst 0, 1) := by decide +kernel
theorem dX11_setFreshNumbers_3 : decode cX11_setFreshNumbers 3 = .ok (.istore 4, 2) := by decide +kernel
theorem dX11_isAboveAllBehind_88 : decode cX11_isAboveAllBehind 88 = .ok (.iconst 1, 1) := by decide +kernel
theorem dX11_isAboveAllBehind_89 : decode cX11_isAboveAllBehind 89 = .ok (.ireturn, 1) := by decide +kernel
theorem dX11_isAboveAllBehind_82 : decode cX11_isAboveAllBehind 82 = .ok (.iinc 2 1, 3) := by decide +kernel
theorem dX11_isAboveAllBehind_85 : decode cX11_isAboveAllBehind 85 = .ok (.goto (-83), 3) := by decide +kernel
theorem dX11_isAboveAllBehind_80 : decode cX11_isAboveAllBehind 80 = .ok (.iconst 0, 1) := by decide +kernel
theorem dX11_isAboveAllBehind_81 : decode cX11_isAboveAllBehind 81 = .ok (.ireturn, 1) := by decide +kernel
theorem dX11_isAboveAllBehind_69 : decode cX11_isAboveAllBehind 69 = .ok (.istore 4, 2) := by decide +kernel
theorem dX11_isAboveAllBehind_71 : decode cX11_isAboveAllBehind 71 = .ok (.iload_n 3, 1) := by decide +kernel
theorem dX11_isAboveAllBehind_72 : decode cX11_isAboveAllBehind 72 = .ok (.ifCond .ne 8, 3) := by decide +kernel
theorem dX11_isAboveAllBehind_75 : decode cX11_isAboveAllBehind 75 = .ok (.iload 4, 2) := by decide +kernel
theorem dX11_isAboveAllBehind_77 : decode cX11_isAboveAllBehind 77 = .ok (.ifCond .eq 5, 3) := by decide +kernel
theorem dX11_isAboveAllBehind_68 : decode cX11_isAboveAllBehind 68 = .ok (.iconst 0, 1) := by decide +kernel
theorem dX11_isAboveAllBehind_27 : decode cX11_isAboveAllBehind 27 = .ok (.istore_n 3, 1) := by decide +kernel
theorem dX11_isAboveAllBehind_28 : decode cX11_isAboveAllBehind 28 = .ok (.aload_n 0, 1) := by decide +kernel
theorem dX11_isAboveAllBehind_29 : decode cX11_isAboveAllBehind 29 = .ok (.getfield 40, 3) := by decide +kernel
theorem dX11_isAboveAllBehind_32 : decode cX11_isAboveAllBehind 32 = .ok (.getfield 541, 3) := by decide +kernel
theorem dX11_isAboveAllBehind_35 : decode cX11_isAboveAllBehind 35 = .ok (.iload_n 2, 1) := by decide +kernel
theorem dX11_isAboveAllBehind_36 : decode cX11_isAboveAllBehind 36 = .ok (.iaload, 1) := by decide +kernel
theorem dX11_isAboveAllBehind_37 : decode cX11_isAboveAllBehind 37 = .ok (.aload_n 0, 1) := by decide +kernel
theorem dX11_isAboveAllBehind_38 : decode cX11_isAboveAllBehind 38 = .ok (.getfield 40, 3) := by decide +kernel
theorem dX11_isAboveAllBehind_41 : decode cX11_isAboveAllBehind 41 = .ok (.getfield 541, 3) := by decide +kernel
theorem dX11_isAboveAllBehind_44 : decode cX11_isAboveAllBehind 44 = .ok (.iload_n 1, 1) := by decide +kernel
theorem dX11_isAboveAllBehind_45 : decode cX11_isAboveAllBehind 45 = .ok (.iaload, 1) := by decide +kernel
theorem dX11_isAboveAllBehind_46 : decode cX11_isAboveAllBehind 46 = .ok (.if_icmp .ne 22, 3) := by decide +kernel
theorem dX11_isAboveAllBehind_49 : decode cX11_isAboveAllBehind 49 = .ok (.aload_n 0, 1) := by decide +kernel
theorem dX11_isAboveAllBehind_50 : decode cX11_isAboveAllBehind 50 = .ok (.getfield 44, 3) := by decide +kernel
theorem dX11_isAboveAllBehind_53 : decode cX11_isAboveAllBehind 53 = .ok (.iload_n 2, 1) := by decide +kernel
theorem dX11_isAboveAllBehind_54 : decode cX11_isAboveAllBehind 54 = .ok (.iaload, 1) := by decide +kernel
theorem dX11_isAboveAllBehind_55 : decode cX11_isAboveAllBehind 55 = .ok (.aload_n 0, 1) := by decide +kernel
theorem dX11_isAboveAllBehind_56 : decode cX11_isAboveAllBehind 56 = .ok (.getfield 44, 3) := by decide +kernel
theorem dX11_isAboveAllBehind_59 : decode cX11_isAboveAllBehind 59 = .ok (.iload_n 1, 1) := by decide +kernel
theorem dX11_isAboveAllBehind_60 : decode cX11_isAboveAllBehind 60 = .ok (.iaload, 1) := by decide +kernel
theorem dX11_isAboveAllBehind_61 : decode cX11_isAboveAllBehind 61 = .ok (.if_icmp .le 7, 3) := by decide +kernel
theorem dX11_isAboveAllBehind_64 : decode cX11_isAboveAllBehind 64 = .ok (.iconst 1, 1) := by decide +kernel
theorem dX11_isAboveAllBehind_65 : decode cX11_isAboveAllBehind 65 = .ok (.goto 4, 3) := by decide +kernel
theorem dX11_isAboveAllBehind_26 : decode cX11_isAboveAllBehind 26 = .ok (.iconst 0, 1) := by decide +kernel
theorem dX11_isAboveAllBehind_2 : decode cX11_isAboveAllBehind 2 = .ok (.iload_n 2, 1) := by decide +kernel
theorem dX11_isAboveAllBehind_3 : decode cX11_isAboveAllBehind 3 = .ok (.iload_n 1, 1) := by decide +kernel
theorem dX11_isAboveAllBehind_4 : decode cX11_isAboveAllBehind 4 = .ok (.if_icmp .ge 84, 3) := by decide +kernel
theorem dX11_isAboveAllBehind_7 : decode cX11_isAboveAllBehind 7 = .ok (.aload_n 0, 1) := by decide +kernel
theorem dX11_isAboveAllBehind_8 : decode cX11_isAboveAllBehind 8 = .ok (.getfield 44, 3) := by decide +kernel
theorem dX11_isAboveAllBehind_11 : decode cX11_isAboveAllBehind 11 = .ok (.iload_n 2, 1) := by decide +kernel
theorem dX11_isAboveAllBehind_12 : decode cX11_isAboveAllBehind 12 = .ok (.iaload, 1) := by decide +kernel
theorem dX11_isAboveAllBehind_13 : decode cX11_isAboveAllBehind 13 = .ok (.aload_n 0, 1) := by decide +kernel
theorem dX11_isAboveAllBehind_14 : decode cX11_isAboveAllBehind 14 = .ok (.getfield 44, 3) := by decide +kernel
theorem dX11_isAboveAllBehind_17 : decode cX11_isAboveAllBehind 17 = .ok (.iload_n 1, 1) := by decide +kernel
theorem dX11_isAboveAllBehind_18 : decode cX11_isAboveAllBehind 18 = .ok (.iaload, 1) := by decide +kernel
theorem dX11_isAboveAllBehind_19 : decode cX11_isAboveAllBehind 19 = .ok (.if_icmp .ne 7, 3) := by decide +kernel
theorem dX11_isAboveAllBehind_22 : decode cX11_isAboveAllBehind 22 = .ok (.iconst 1, 1) := by decide +kernel
theorem dX11_isAboveAllBehind_23 : decode cX11_isAboveAllBehind 23 = .ok (.goto 4, 3) := by decide +kernel
theorem dX11_isAboveAllBehind_0 : decode cX11_isAboveAllBehind 0 = .ok (.iconst 0, 1) := by decide +kernel
theorem dX11_isAboveAllBehind_1 : decode cX11_isAboveAllBehind 1 = .ok (.istore_n 2, 1) := by decide +kernel
theorem dX11_areFreshRight_51 : decode cX11_areFreshRight 51 = .ok (.iconst 1, 1) := by decide +kernel
theorem dX11_areFreshRight_52 : decode cX11_areFreshRight 52 = .ok (.ireturn, 1) := by decide +kernel
theorem dX11_areFreshRight_45 : decode cX11_areFreshRight 45 = .ok (.iinc 1 1, 3) := by decide +kernel
theorem dX11_areFreshRight_48 : decode cX11_areFreshRight 48 = .ok (.goto (-46), 3) := by decide +kernel
theorem dX11_areFreshRight_43 : decode cX11_areFreshRight 43 = .ok (.iconst 0, 1) := by decide +kernel
theorem dX11_areFreshRight_44 : decode cX11_areFreshRight 44 = .ok (.ireturn, 1) := by decide +kernel
theorem dX11_areFreshRight_2 : decode cX11_areFreshRight 2 = .ok (.iload_n 1, 1) := by decide +kernel
theorem dX11_areFreshRight_3 : decode cX11_areFreshRight 3 = .ok (.aload_n 0, 1) := by decide +kernel
theorem dX11_areFreshRight_4 : decode cX11_areFreshRight 4 = .ok (.getfield 40, 3) := by decide +kernel
theorem dX11_areFreshRight_7 : decode cX11_areFreshRight 7 = .ok (.getfield 455, 3) := by decide +kernel
theorem dX11_areFreshRight_10 : decode cX11_areFreshRight 10 = .ok (.if_icmp .ge 41, 3) := by decide +kernel
theorem dX11_areFreshRight_13 : decode cX11_areFreshRight 13 = .ok (.aload_n 0, 1) := by decide +kernel
theorem dX11_areFreshRight_14 : decode cX11_areFreshRight 14 = .ok (.getfield 44, 3) := by decide +kernel
theorem dX11_areFreshRight_17 : decode cX11_areFreshRight 17 = .ok (.iload_n 1, 1) := by decide +kernel
theorem dX11_areFreshRight_18 : decode cX11_areFreshRight 18 = .ok (.iaload, 1) := by decide +kernel
theorem dX11_areFreshRight_19 : decode cX11_areFreshRight 19 = .ok (.iconst (-1), 1) := by decide +kernel
theorem dX11_areFreshRight_20 : decode cX11_areFreshRight 20 = .ok (.if_icmp .eq 25, 3) := by decide +kernel
theorem dX11_areFreshRight_23 : decode cX11_areFreshRight 23 = .ok (.aload_n 0, 1) := by decide +kernel
theorem dX11_areFreshRight_24 : decode cX11_areFreshRight 24 = .ok (.getfield 44, 3) := by decide +kernel
theorem dX11_areFreshRight_27 : decode cX11_areFreshRight 27 = .ok (.iload_n 1, 1) := by decide +kernel
theorem dX11_areFreshRight_28 : decode cX11_areFreshRight 28 = .ok (.iaload, 1) := by decide +kernel
theorem dX11_areFreshRight_29 : decode cX11_areFreshRight 29 = .ok (.invokestatic 515, 3) := by decide +kernel
theorem dX11_areFreshRight_32 : decode cX11_areFreshRight 32 = .ok (.ifCond .eq 11, 3) := by decide +kernel
theorem dX11_areFreshRight_35 : decode cX11_areFreshRight 35 = .ok (.aload_n 0, 1) := by decide +kernel
theorem dX11_areFreshRight_36 : decode cX11_areFreshRight 36 = .ok (.iload_n 1, 1) := by decide +kernel
theorem dX11_areFreshRight_37 : decode cX11_areFreshRight 37 = .ok (.invokevirtual 552, 3) := by decide +kernel
theorem dX11_areFreshRight_40 : decode cX11_areFreshRight 40 = .ok (.ifCond .ne 5, 3) := by decide +kernel
theorem dX11_areFreshRight_0 : decode cX11_areFreshRight 0 = .ok (.iconst 0, 1) := by decide +kernel
theorem dX11_areFreshRight_1 : decode cX11_areFreshRight 1 = .ok (.istore_n 1, 1) := by decide +kernel
theorem dX11_freshWhole_20 : decode cX11_freshWhole 20 = .ok (.ireturn, 1) := by decide +kernel
theorem dX11_freshWhole_14 : decode cX11_freshWhole 14 = .ok (.aload_n 0, 1) := by decide +kernel
theorem dX11_freshWhole_15 : decode cX11_freshWhole 15 = .ok (.getfield 44, 3) := by decide +kernel
theorem dX11_freshWhole_18 : decode cX11_freshWhole 18 = .ok (.iload_n 1, 1) := by decide +kernel
theorem dX11_freshWhole_19 : decode cX11_freshWhole 19 = .ok (.iaload, 1) := by decide +kernel
theorem dX11_freshWhole_0 : decode cX11_freshWhole 0 = .ok (.aload_n 0, 1) := by decide +kernel
theorem dX11_freshWhole_1 : decode cX11_freshWhole 1 = .ok (.getfield 44, 3) := by decide +kernel
theorem dX11_freshWhole_4 : decode cX11_freshWhole 4 = .ok (.iload_n 1, 1) := by decide +kernel
theorem dX11_freshWhole_5 : decode cX11_freshWhole 5 = .ok (.iaload, 1) := by decide +kernel
theorem dX11_freshWhole_6 : decode cX11_freshWhole 6 = .ok (.iconst (-1), 1) := by decide +kernel
theorem dX11_freshWhole_7 : decode cX11_freshWhole 7 = .ok (.if_icmp .ne 7, 3) := by decide +kernel
theorem dX11_freshWhole_10 : decode cX11_freshWhole 10 = .ok (.iconst 0, 1) := by decide +kernel
theorem dX11_freshWhole_11 : decode cX11_freshWhole 11 = .ok (.goto 9, 3) := by decide +kernel
theorem dX11_countFreshOthers_41 : decode cX11_countFreshOthers 41 = .ok (.iload_n 1, 1) := by decide +kernel
theorem dX11_countFreshOthers_42 : decode cX11_countFreshOthers 42 = .ok (.ireturn, 1) := by decide +kernel
theorem dX11_countFreshOthers_35 : decode cX11_countFreshOthers 35 = .ok (.iinc 2 1, 3) := by decide +kernel
theorem dX11_countFreshOthers_38 : decode cX11_countFreshOthers 38 = .ok (.goto (-34), 3) := by decide +kernel
theorem dX11_countFreshOthers_4 : decode cX11_countFreshOthers 4 = .ok (.iload_n 2, 1) := by decide +kernel
theorem dX11_countFreshOthers_5 : decode cX11_countFreshOthers 5 = .ok (.aload_n 0, 1) := by decide +kernel
theorem dX11_countFreshOthers_6 : decode cX11_countFreshOthers 6 = .ok (.getfield 40, 3) := by decide +kernel
theorem dX11_countFreshOthers_9 : decode cX11_countFreshOthers 9 = .ok (.getfield 455, 3) := by decide +kernel
theorem dX11_countFreshOthers_12 : decode cX11_countFreshOthers 12 = .ok (.if_icmp .ge 29, 3) := by decide +kernel
theorem dX11_countFreshOthers_15 : decode cX11_countFreshOthers 15 = .ok (.aload_n 0, 1) := by decide +kernel
theorem dX11_countFreshOthers_16 : decode cX11_countFreshOthers 16 = .ok (.iload_n 2, 1) := by decide +kernel
theorem dX11_countFreshOthers_17 : decode cX11_countFreshOthers 17 = .ok (.invokevirtual 555, 3) := by decide +kernel
theorem dX11_countFreshOthers_20 : decode cX11_countFreshOthers 20 = .ok (.aload_n 0, 1) := by decide +kernel
theorem dX11_countFreshOthers_21 : decode cX11_countFreshOthers 21 = .ok (.getfield 40, 3) := by decide +kernel
theorem dX11_countFreshOthers_24 : decode cX11_countFreshOthers 24 = .ok (.getfield 558, 3) := by decide +kernel
theorem dX11_countFreshOthers_27 : decode cX11_countFreshOthers 27 = .ok (.iload_n 2, 1) := by decide +kernel
theorem dX11_countFreshOthers_28 : decode cX11_countFreshOthers 28 = .ok (.iaload, 1) := by decide +kernel
theorem dX11_countFreshOthers_29 : decode cX11_countFreshOthers 29 = .ok (.if_icmp .eq 6, 3) := by decide +kernel
theorem dX11_countFreshOthers_32 : decode cX11_countFreshOthers 32 = .ok (.iinc 1 1, 3) := by decide +kernel
theorem dX11_countFreshOthers_0 : decode cX11_countFreshOthers 0 = .ok (.iconst 0, 1) := by decide +kernel
theorem dX11_countFreshOthers_1 : decode cX11_countFreshOthers 1 = .ok (.istore_n 1, 1) := by decide +kernel
theorem dX11_countFreshOthers_2 : decode cX11_countFreshOthers 2 = .ok (.iconst 0, 1) := by decide +kernel
theorem dX11_countFreshOthers_3 : decode cX11_countFreshOthers 3 = .ok (.istore_n 2, 1) := by decide +kernel
theorem dX10_setRule_15 : decode cX10_setRule 15 = .ok (.return_, 1) := by decide +kernel
theorem dX10_setRule_0 : decode cX10_setRule 0 = .ok (.aload_n 0, 1) := by decide +kernel
theorem dX10_setRule_1 : decode cX10_setRule 1 = .ok (.iload_n 1, 1) := by decide +kernel
theorem dX10_setRule_2 : decode cX10_setRule 2 = .ok (.invokevirtual 47, 3) := by decide +kernel
theorem dX10_setRule_5 : decode cX10_setRule 5 = .ok (.ifCond .eq 10, 3) := by decide +kernel
theorem dX10_setRule_8 : decode cX10_setRule 8 = .ok (.aload_n 0, 1) := by decide +kernel
theorem dX10_setRule_9 : decode cX10_setRule 9 = .ok (.getfield 15, 3) := by decide +kernel
theorem dX10_setRule_12 : decode cX10_setRule 12 = .ok (.iload_n 1, 1) := by decide +kernel
theorem dX10_setRule_13 : decode cX10_setRule 13 = .ok (.iload_n 2, 1) := by decide +kernel
theorem dX10_setRule_14 : decode cX10_setRule 14 = .ok (.iastore, 1) := by decide +kernel
theorem dX11_giveFreshNumbers_82 : decode cX11_giveFreshNumbers 82 = .ok (.return_, 1) := by decide +kernel
theorem dX11_giveFreshNumbers_76 : decode cX11_giveFreshNumbers 76 = .ok (.iinc 2 1, 3) := by decide +kernel
theorem dX11_giveFreshNumbers_79 : decode cX11_giveFreshNumbers 79 = .ok (.goto (-77), 3) := by decide +kernel
theorem dX11_giveFreshNumbers_2 : decode cX11_giveFreshNumbers 2 = .ok (.iload_n 2, 1) := by decide +kernel
theorem dX11_giveFreshNumbers_3 : decode cX11_giveFreshNumbers 3 = .ok (.aload_n 0, 1) := by decide +kernel
theorem dX11_giveFreshNumbers_4 : decode cX11_giveFreshNumbers 4 = .ok (.getfield 40, 3) := by decide +kernel
theorem dX11_giveFreshNumbers_7 : decode cX11_giveFreshNumbers 7 = .ok (.getfield 455, 3) := by decide +kernel
theorem dX11_giveFreshNumbers_10 : decode cX11_giveFreshNumbers 10 = .ok (.if_icmp .ge 72, 3) := by decide +kernel
theorem dX11_giveFreshNumbers_13 : decode cX11_giveFreshNumbers 13 = .ok (.aload_n 0, 1) := by decide +kernel
theorem dX11_giveFreshNumbers_14 : decode cX11_giveFreshNumbers 14 = .ok (.iload_n 2, 1) := by decide +kernel
theorem dX11_giveFreshNumbers_15 : decode cX11_giveFreshNumbers 15 = .ok (.invokevirtual 555, 3) := by decide +kernel
theorem dX11_giveFreshNumbers_18 : decode cX11_giveFreshNumbers 18 = .ok (.aload_n 0, 1) := by decide +kernel
theorem dX11_giveFreshNumbers_19 : decode cX11_giveFreshNumbers 19 = .ok (.getfield 40, 3) := by decide +kernel
theorem dX11_giveFreshNumbers_22 : decode cX11_giveFreshNumbers 22 = .ok (.getfield 558, 3) := by decide +kernel
theorem dX11_giveFreshNumbers_25 : decode cX11_giveFreshNumbers 25 = .ok (.iload_n 2, 1) := by decide +kernel
theorem dX11_giveFreshNumbers_26 : decode cX11_giveFreshNumbers 26 = .ok (.iaload, 1) := by decide +kernel
theorem dX11_giveFreshNumbers_27 : decode cX11_giveFreshNumbers 27 = .ok (.if_icmp .eq 49, 3) := by decide +kernel
theorem dX11_giveFreshNumbers_30 : decode cX11_giveFreshNumbers 30 = .ok (.aload_n 0, 1) := by decide +kernel
theorem dX11_giveFreshNumbers_31 : decode cX11_giveFreshNumbers 31 = .ok (.getfield 22, 3) := by decide +kernel
theorem dX11_giveFreshNumbers_34 : decode cX11_giveFreshNumbers 34 = .ok (.getfield 202, 3) := by decide +kernel
theorem dX11_giveFreshNumbers_37 : decode cX11_giveFreshNumbers 37 = .ok (.getfield 365, 3) := by decide +kernel
theorem dX11_giveFreshNumbers_40 : decode cX11_giveFreshNumbers 40 = .ok (.aload_n 0, 1) := by decide +kernel
theorem dX11_giveFreshNumbers_41 : decode cX11_giveFreshNumbers 41 = .ok (.getfield 40, 3) := by decide +kernel
theorem dX11_giveFreshNumbers_44 : decode cX11_giveFreshNumbers 44 = .ok (.getfield 559, 3) := by decide +kernel
theorem dX11_giveFreshNumbers_47 : decode cX11_giveFreshNumbers 47 = .ok (.iload_n 2, 1) := by decide +kernel
theorem dX11_giveFreshNumbers_48 : decode cX11_giveFreshNumbers 48 = .ok (.iaload, 1) := by decide +kernel
theorem dX11_giveFreshNumbers_49 : decode cX11_giveFreshNumbers 49 = .ok (.iload_n 1, 1) := by decide +kernel
theorem dX11_giveFreshNumbers_50 : decode cX11_giveFreshNumbers 50 = .ok (.iastore, 1) := by decide +kernel
theorem dX11_giveFreshNumbers_51 : decode cX11_giveFreshNumbers 51 = .ok (.aload_n 0, 1) := by decide +kernel
theorem dX11_giveFreshNumbers_52 : decode cX11_giveFreshNumbers 52 = .ok (.getfield 22, 3) := by decide +kernel
theorem dX11_giveFreshNumbers_55 : decode cX11_giveFreshNumbers 55 = .ok (.getfield 202, 3) := by decide +kernel
theorem dX11_giveFreshNumbers_58 : decode cX11_giveFreshNumbers 58 = .ok (.aload_n 0, 1) := by decide +kernel
theorem dX11_giveFreshNumbers_59 : decode cX11_giveFreshNumbers 59 = .ok (.getfield 40, 3) := by decide +kernel
theorem dX11_giveFreshNumbers_62 : decode cX11_giveFreshNumbers 62 = .ok (.getfield 416, 3) := by decide +kernel
theorem dX11_giveFreshNumbers_65 : decode cX11_giveFreshNumbers 65 = .ok (.iload_n 2, 1) := by decide +kernel
theorem dX11_giveFreshNumbers_66 : decode cX11_giveFreshNumbers 66 = .ok (.iaload, 1) := by decide +kernel
theorem dX11_giveFreshNumbers_67 : decode cX11_giveFreshNumbers 67 = .ok (.aload_n 0, 1) := by decide +kernel
theorem dX11_giveFreshNumbers_68 : decode cX11_giveFreshNumbers 68 = .ok (.iload_n 2, 1) := by decide +kernel
theorem dX11_giveFreshNumbers_69 : decode cX11_giveFreshNumbers 69 = .ok (.invokevirtual 555, 3) := by decide +kernel
theorem dX11_giveFreshNumbers_72 : decode cX11_giveFreshNumbers 72 = .ok (.iload_n 1, 1) := by decide +kernel
theorem dX11_giveFreshNumbers_73 : decode cX11_giveFreshNumbers 73 = .ok (.invokevirtual 206, 3) := by decide +kernel
theorem dX11_giveFreshNumbers_0 : decode cX11_giveFreshNumbers 0 = .ok (.iconst 0, 1) := by decide +kernel
theorem dX11_giveFreshNumbers_1 : decode cX11_giveFreshNumbers 1 = .ok (.istore_n 2, 1) := by decide +kernel
theorem dX11_renumber_107 : decode cX11_renumber 107 = .ok (.aload_n 0, 1) := by decide +kernel
theorem dX11_renumber_108 : decode cX11_renumber 108 = .ok (.getfield 22, 3) := by decide +kernel
theorem dX11_renumber_111 : decode cX11_renumber 111 = .ok (.getfield 73, 3) := by decide +kernel
theorem dX11_renumber_114 : decode cX11_renumber 114 = .ok (.iload_n 3, 1) := by decide +kernel
theorem dX11_renumber_115 : decode cX11_renumber 115 = .ok (.iload_n 1, 1) := by decide +kernel
theorem dX11_renumber_116 : decode cX11_renumber 116 = .ok (.iconst (-1), 1) := by decide +kernel
theorem dX11_renumber_117 : decode cX11_renumber 117 = .ok (.invokevirtual 155, 3) := by decide +kernel
theorem dX11_renumber_120 : decode cX11_renumber 120 = .ok (.istore 5, 2) := by decide +kernel
theorem dX11_renumber_122 : decode cX11_renumber 122 = .ok (.aload_n 0, 1) := by decide +kernel
theorem dX11_renumber_123 : decode cX11_renumber 123 = .ok (.getfield 22, 3) := by decide +kernel
theorem dX11_renumber_126 : decode cX11_renumber 126 = .ok (.getfield 73, 3) := by decide +kernel
theorem dX11_renumber_129 : decode cX11_renumber 129 = .ok (.getfield 270, 3) := by decide +kernel
theorem dX11_renumber_132 : decode cX11_renumber 132 = .ok (.iload 5, 2) := by decide +kernel
theorem dX11_renumber_134 : decode cX11_renumber 134 = .ok (.aload_n 0, 1) := by decide +kernel
theorem dX11_renumber_135 : decode cX11_renumber 135 = .ok (.getfield 22, 3) := by decide +kernel
theorem dX11_renumber_138 : decode cX11_renumber 138 = .ok (.getfield 89, 3) := by decide +kernel
theorem dX11_renumber_141 : decode cX11_renumber 141 = .ok (.iload_n 1, 1) := by decide +kernel
theorem dX11_renumber_142 : decode cX11_renumber 142 = .ok (.invokevirtual 273, 3) := by decide +kernel
theorem dX11_renumber_145 : decode cX11_renumber 145 = .ok (.iastore, 1) := by decide +kernel
theorem dX11_renumber_146 : decode cX11_renumber 146 = .ok (.aload_n 0, 1) := by decide +kernel
theorem dX11_renumber_147 : decode cX11_renumber 147 = .ok (.getfield 22, 3) := by decide +kernel
theorem dX11_renumber_150 : decode cX11_renumber 150 = .ok (.getfield 89, 3) := by decide +kernel
theorem dX11_renumber_153 : decode cX11_renumber 153 = .ok (.iload_n 1, 1) := by decide +kernel
theorem dX11_renumber_154 : decode cX11_renumber 154 = .ok (.iload_n 2, 1) := by decide +kernel
theorem dX11_renumber_155 : decode cX11_renumber 155 = .ok (.invokevirtual 276, 3) := by decide +kernel
theorem dX11_renumber_158 : decode cX11_renumber 158 = .ok (.aload_n 0, 1) := by decide +kernel
theorem dX11_renumber_159 : decode cX11_renumber 159 = .ok (.iload 5, 2) := by decide +kernel
theorem dX11_renumber_161 : decode cX11_renumber 161 = .ok (.invokevirtual 279, 3) := by decide +kernel
theorem dX11_renumber_164 : decode cX11_renumber 164 = .ok (.iload 4, 2) := by decide +kernel
theorem dX11_renumber_166 : decode cX11_renumber 166 = .ok (.ireturn, 1) := by decide +kernel
theorem dX11_renumber_86 : decode cX11_renumber 86 = .ok (.aload_n 0, 1) := by decide +kernel
theorem dX11_renumber_87 : decode cX11_renumber 87 = .ok (.invokevirtual 266, 3) := by decide +kernel
theorem dX11_renumber_90 : decode cX11_renumber 90 = .ok (.istore 4, 2) := by decide +kernel
theorem dX11_renumber_92 : decode cX11_renumber 92 = .ok (.aload_n 0, 1) := by decide +kernel
theorem dX11_renumber_93 : decode cX11_renumber 93 = .ok (.getfield 22, 3) := by decide +kernel
theorem dX11_renumber_96 : decode cX11_renumber 96 = .ok (.iload 4, 2) := by decide +kernel
theorem dX11_renumber_98 : decode cX11_renumber 98 = .ok (.invokevirtual 192, 3) := by decide +kernel
theorem dX11_renumber_101 : decode cX11_renumber 101 = .ok (.ifCond .ne 6, 3) := by decide +kernel
theorem dX11_renumber_104 : decode cX11_renumber 104 = .ok (.bipush (-6), 2) := by decide +kernel
theorem dX11_renumber_106 : decode cX11_renumber 106 = .ok (.ireturn, 1) := by decide +kernel
theorem dX11_renumber_48 : decode cX11_renumber 48 = .ok (.aload_n 0, 1) := by decide +kernel
theorem dX11_renumber_49 : decode cX11_renumber 49 = .ok (.getfield 40, 3) := by decide +kernel
theorem dX11_renumber_52 : decode cX11_renumber 52 = .ok (.aload_n 0, 1) := by decide +kernel
theorem dX11_renumber_53 : decode cX11_renumber 53 = .ok (.getfield 22, 3) := by decide +kernel
theorem dX11_renumber_56 : decode cX11_renumber 56 = .ok (.iload_n 1, 1) := by decide +kernel
theorem dX11_renumber_57 : decode cX11_renumber 57 = .ok (.iconst (-1), 1) := by decide +kernel
theorem dX11_renumber_58 : decode cX11_renumber 58 = .ok (.iload_n 2, 1) := by decide +kernel
theorem dX11_renumber_59 : decode cX11_renumber 59 = .ok (.invokestatic 253, 3) := by decide +kernel
theorem dX11_renumber_62 : decode cX11_renumber 62 = .ok (.invokevirtual 256, 3) := by decide +kernel
theorem dX11_renumber_65 : decode cX11_renumber 65 = .ok (.aload_n 0, 1) := by decide +kernel
theorem dX11_renumber_66 : decode cX11_renumber 66 = .ok (.iload_n 1, 1) := by decide +kernel
theorem dX11_renumber_67 : decode cX11_renumber 67 = .ok (.iload_n 2, 1) := by decide +kernel
theorem dX11_renumber_68 : decode cX11_renumber 68 = .ok (.invokevirtual 260, 3) := by decide +kernel
theorem dX11_renumber_71 : decode cX11_renumber 71 = .ok (.iload_n 2, 1) := by decide +kernel
theorem dX11_renumber_72 : decode cX11_renumber 72 = .ok (.iconst 3, 1) := by decide +kernel
theorem dX11_renumber_73 : decode cX11_renumber 73 = .ok (.if_icmp .ne 13, 3) := by decide +kernel
theorem dX11_renumber_76 : decode cX11_renumber 76 = .ok (.aload_n 0, 1) := by decide +kernel
theorem dX11_renumber_77 : decode cX11_renumber 77 = .ok (.invokevirtual 263, 3) := by decide +kernel
theorem dX11_renumber_80 : decode cX11_renumber 80 = .ok (.ifCond .ne 6, 3) := by decide +kernel
theorem dX11_renumber_83 : decode cX11_renumber 83 = .ok (.bipush (-4), 2) := by decide +kernel
theorem dX11_renumber_85 : decode cX11_renumber 85 = .ok (.ireturn, 1) := by decide +kernel
theorem dX11_renumber_33 : decode cX11_renumber 33 = .ok (.iload_n 3, 1) := by decide +kernel
theorem dX11_renumber_34 : decode cX11_renumber 34 = .ok (.aload_n 0, 1) := by decide +kernel
theorem dX11_renumber_35 : decode cX11_renumber 35 = .ok (.getfield 22, 3) := by decide +kernel
theorem dX11_renumber_38 : decode cX11_renumber 38 = .ok (.iload_n 1, 1) := by decide +kernel
theorem dX11_renumber_39 : decode cX11_renumber 39 = .ok (.invokevirtual 177, 3) := by decide +kernel
theorem dX11_renumber_42 : decode cX11_renumber 42 = .ok (.if_icmp .ge 6, 3) := by decide +kernel
theorem dX11_renumber_45 : decode cX11_renumber 45 = .ok (.bipush (-3), 2) := by decide +kernel
theorem dX11_renumber_47 : decode cX11_renumber 47 = .ok (.ireturn, 1) := by decide +kernel
theorem dX11_renumber_30 : decode cX11_renumber 30 = .ok (.bipush (-2), 2) := by decide +kernel
theorem dX11_renumber_32 : decode cX11_renumber 32 = .ok (.ireturn, 1) := by decide +kernel
theorem dX11_renumber_16 : decode cX11_renumber 16 = .ok (.iload_n 2, 1) := by decide +kernel
theorem dX11_renumber_17 : decode cX11_renumber 17 = .ok (.invokestatic 140, 3) := by decide +kernel
theorem dX11_renumber_20 : decode cX11_renumber 20 = .ok (.ifCond .eq 10, 3) := by decide +kernel
theorem dX11_renumber_23 : decode cX11_renumber 23 = .ok (.iload_n 3, 1) := by decide +kernel
theorem dX11_renumber_24 : decode cX11_renumber 24 = .ok (.invokestatic 69, 3) := by decide +kernel
theorem dX11_renumber_27 : decode cX11_renumber 27 = .ok (.ifCond .ne 6, 3) := by decide +kernel
theorem dX11_renumber_0 : decode cX11_renumber 0 = .ok (.aload_n 0, 1) := by decide +kernel
theorem dX11_renumber_1 : decode cX11_renumber 1 = .ok (.getfield 22, 3) := by decide +kernel
theorem dX11_renumber_4 : decode cX11_renumber 4 = .ok (.getfield 89, 3) := by decide +kernel
theorem dX11_renumber_7 : decode cX11_renumber 7 = .ok (.iload_n 1, 1) := by decide +kernel
theorem dX11_renumber_8 : decode cX11_renumber 8 = .ok (.invokevirtual 167, 3) := by decide +kernel
theorem dX11_renumber_11 : decode cX11_renumber 11 = .ok (.ifCond .ne 5, 3) := by decide +kernel
theorem dX11_renumber_14 : decode cX11_renumber 14 = .ok (.iconst (-1), 1) := by decide +kernel
theorem dX11_renumber_15 : decode cX11_renumber 15 = .ok (.ireturn, 1) := by decide +kernel
theorem dX11_rename_133 : decode cX11_rename 133 = .ok (.aload_n 0, 1) := by decide +kernel
theorem dX11_rename_134 : decode cX11_rename 134 = .ok (.getfield 22, 3) := by decide +kernel
theorem dX11_rename_137 : decode cX11_rename 137 = .ok (.getfield 73, 3) := by decide +kernel
theorem dX11_rename_140 : decode cX11_rename 140 = .ok (.iload_n 2, 1) := by decide +kernel
theorem dX11_rename_141 : decode cX11_rename 141 = .ok (.iload_n 1, 1) := by decide +kernel
theorem dX11_rename_142 : decode cX11_rename 142 = .ok (.iconst (-1), 1) := by decide +kernel
theorem dX11_rename_143 : decode cX11_rename 143 = .ok (.invokevirtual 155, 3) := by decide +kernel
theorem dX11_rename_146 : decode cX11_rename 146 = .ok (.istore 6, 2) := by decide +kernel
theorem dX11_rename_148 : decode cX11_rename 148 = .ok (.aload_n 0, 1) := by decide +kernel
theorem dX11_rename_149 : decode cX11_rename 149 = .ok (.getfield 22, 3) := by decide +kernel
theorem dX11_rename_152 : decode cX11_rename 152 = .ok (.getfield 117, 3) := by decide +kernel
theorem dX11_rename_155 : decode cX11_rename 155 = .ok (.getfield 288, 3) := by decide +kernel
theorem dX11_rename_158 : decode cX11_rename 158 = .ok (.iload 4, 2) := by decide +kernel
theorem dX11_rename_160 : decode cX11_rename 160 = .ok (.iload 6, 2) := by decide +kernel
theorem dX11_rename_162 : decode cX11_rename 162 = .ok (.iastore, 1) := by decide +kernel
theorem dX11_rename_163 : decode cX11_rename 163 = .ok (.aload_n 0, 1) := by decide +kernel
theorem dX11_rename_164 : decode cX11_rename 164 = .ok (.getfield 22, 3) := by decide +kernel
theorem dX11_rename_167 : decode cX11_rename 167 = .ok (.getfield 117, 3) := by decide +kernel
theorem dX11_rename_170 : decode cX11_rename 170 = .ok (.iload_n 1, 1) := by decide +kernel
theorem dX11_rename_171 : decode cX11_rename 171 = .ok (.iload 5, 2) := by decide +kernel
theorem dX11_rename_173 : decode cX11_rename 173 = .ok (.aload_n 0, 1) := by decide +kernel
theorem dX11_rename_174 : decode cX11_rename 174 = .ok (.getfield 33, 3) := by decide +kernel
theorem dX11_rename_177 : decode cX11_rename 177 = .ok (.getfield 93, 3) := by decide +kernel
theorem dX11_rename_180 : decode cX11_rename 180 = .ok (.iconst 0, 1) := by decide +kernel
theorem dX11_rename_181 : decode cX11_rename 181 = .ok (.iload 6, 2) := by decide +kernel
theorem dX11_rename_183 : decode cX11_rename 183 = .ok (.invokevirtual 163, 3) := by decide +kernel
theorem dX11_rename_186 : decode cX11_rename 186 = .ok (.iconst 1, 1) := by decide +kernel
theorem dX11_rename_187 : decode cX11_rename 187 = .ok (.ireturn, 1) := by decide +kernel
theorem dX11_rename_117 : decode cX11_rename 117 = .ok (.aload_n 0, 1) := by decide +kernel
theorem dX11_rename_118 : decode cX11_rename 118 = .ok (.getfield 22, 3) := by decide +kernel
theorem dX11_rename_121 : decode cX11_rename 121 = .ok (.getfield 73, 3) := by decide +kernel
theorem dX11_rename_124 : decode cX11_rename 124 = .ok (.invokevirtual 152, 3) := by decide +kernel
theorem dX11_rename_127 : decode cX11_rename 127 = .ok (.ifCond .ne 6, 3) := by decide +kernel
theorem dX11_rename_130 : decode cX11_rename 130 = .ok (.bipush (-6), 2) := by decide +kernel
theorem dX11_rename_132 : decode cX11_rename 132 = .ok (.ireturn, 1) := by decide +kernel
theorem dX11_rename_69 : decode cX11_rename 69 = .ok (.aload_n 0, 1) := by decide +kernel
theorem dX11_rename_70 : decode cX11_rename 70 = .ok (.getfield 22, 3) := by decide +kernel
theorem dX11_rename_73 : decode cX11_rename 73 = .ok (.getfield 117, 3) := by decide +kernel
theorem dX11_rename_76 : decode cX11_rename 76 = .ok (.getfield 285, 3) := by decide +kernel
theorem dX11_rename_79 : decode cX11_rename 79 = .ok (.iload 4, 2) := by decide +kernel
theorem dX11_rename_81 : decode cX11_rename 81 = .ok (.iaload, 1) := by decide +kernel
theorem dX11_rename_82 : decode cX11_rename 82 = .ok (.istore 5, 2) := by decide +kernel
theorem dX11_rename_84 : decode cX11_rename 84 = .ok (.aload_n 0, 1) := by decide +kernel
theorem dX11_rename_85 : decode cX11_rename 85 = .ok (.getfield 22, 3) := by decide +kernel
theorem dX11_rename_88 : decode cX11_rename 88 = .ok (.getfield 117, 3) := by decide +kernel
theorem dX11_rename_91 : decode cX11_rename 91 = .ok (.aload_n 0, 1) := by decide +kernel
theorem dX11_rename_92 : decode cX11_rename 92 = .ok (.getfield 33, 3) := by decide +kernel
theorem dX11_rename_95 : decode cX11_rename 95 = .ok (.getfield 93, 3) := by decide +kernel
theorem dX11_rename_98 : decode cX11_rename 98 = .ok (.iload 5, 2) := by decide +kernel
theorem dX11_rename_100 : decode cX11_rename 100 = .ok (.iload_n 2, 1) := by decide +kernel
theorem dX11_rename_101 : decode cX11_rename 101 = .ok (.aload_n 0, 1) := by decide +kernel
theorem dX11_rename_102 : decode cX11_rename 102 = .ok (.getfield 22, 3) := by decide +kernel
theorem dX11_rename_105 : decode cX11_rename 105 = .ok (.getfield 73, 3) := by decide +kernel
theorem dX11_rename_108 : decode cX11_rename 108 = .ok (.invokevirtual 147, 3) := by decide +kernel
theorem dX11_rename_111 : decode cX11_rename 111 = .ok (.ifCond .eq 6, 3) := by decide +kernel
theorem dX11_rename_114 : decode cX11_rename 114 = .ok (.bipush (-5), 2) := by decide +kernel
theorem dX11_rename_116 : decode cX11_rename 116 = .ok (.ireturn, 1) := by decide +kernel
theorem dX11_rename_54 : decode cX11_rename 54 = .ok (.iload_n 2, 1) := by decide +kernel
theorem dX11_rename_55 : decode cX11_rename 55 = .ok (.aload_n 0, 1) := by decide +kernel
theorem dX11_rename_56 : decode cX11_rename 56 = .ok (.getfield 22, 3) := by decide +kernel
theorem dX11_rename_59 : decode cX11_rename 59 = .ok (.iload_n 1, 1) := by decide +kernel
theorem dX11_rename_60 : decode cX11_rename 60 = .ok (.invokevirtual 177, 3) := by decide +kernel
theorem dX11_rename_63 : decode cX11_rename 63 = .ok (.if_icmp .ge 6, 3) := by decide +kernel
theorem dX11_rename_66 : decode cX11_rename 66 = .ok (.bipush (-3), 2) := by decide +kernel
theorem dX11_rename_68 : decode cX11_rename 68 = .ok (.ireturn, 1) := by decide +kernel
theorem dX11_rename_51 : decode cX11_rename 51 = .ok (.bipush (-2), 2) := by decide +kernel
theorem dX11_rename_53 : decode cX11_rename 53 = .ok (.ireturn, 1) := by decide +kernel
theorem dX11_rename_40 : decode cX11_rename 40 = .ok (.iload_n 3, 1) := by decide +kernel
theorem dX11_rename_41 : decode cX11_rename 41 = .ok (.ifCond .eq 10, 3) := by decide +kernel
theorem dX11_rename_44 : decode cX11_rename 44 = .ok (.iload_n 2, 1) := by decide +kernel
theorem dX11_rename_45 : decode cX11_rename 45 = .ok (.invokestatic 69, 3) := by decide +kernel
theorem dX11_rename_48 : decode cX11_rename 48 = .ok (.ifCond .ne 6, 3) := by decide +kernel
theorem dX11_rename_38 : decode cX11_rename 38 = .ok (.iconst (-1), 1) := by decide +kernel
theorem dX11_rename_39 : decode cX11_rename 39 = .ok (.ireturn, 1) := by decide +kernel
theorem dX11_rename_0 : decode cX11_rename 0 = .ok (.aload_n 0, 1) := by decide +kernel
theorem dX11_rename_1 : decode cX11_rename 1 = .ok (.invokevirtual 85, 3) := by decide +kernel
theorem dX11_rename_4 : decode cX11_rename 4 = .ok (.istore_n 3, 1) := by decide +kernel
theorem dX11_rename_5 : decode cX11_rename 5 = .ok (.aload_n 0, 1) := by decide +kernel
theorem dX11_rename_6 : decode cX11_rename 6 = .ok (.getfield 22, 3) := by decide +kernel
theorem dX11_rename_9 : decode cX11_rename 9 = .ok (.getfield 117, 3) := by decide +kernel
theorem dX11_rename_12 : decode cX11_rename 12 = .ok (.iload_n 1, 1) := by decide +kernel
theorem dX11_rename_13 : decode cX11_rename 13 = .ok (.invokevirtual 282, 3) := by decide +kernel
theorem dX11_rename_16 : decode cX11_rename 16 = .ok (.istore 4, 2) := by decide +kernel
theorem dX11_rename_18 : decode cX11_rename 18 = .ok (.aload_n 0, 1) := by decide +kernel
theorem dX11_rename_19 : decode cX11_rename 19 = .ok (.getfield 22, 3) := by decide +kernel
theorem dX11_rename_22 : decode cX11_rename 22 = .ok (.getfield 89, 3) := by decide +kernel
theorem dX11_rename_25 : decode cX11_rename 25 = .ok (.iload_n 1, 1) := by decide +kernel
theorem dX11_rename_26 : decode cX11_rename 26 = .ok (.invokevirtual 167, 3) := by decide +kernel
theorem dX11_rename_29 : decode cX11_rename 29 = .ok (.ifCond .eq 9, 3) := by decide +kernel
theorem dX11_rename_32 : decode cX11_rename 32 = .ok (.iload 4, 2) := by decide +kernel
theorem dX11_rename_34 : decode cX11_rename 34 = .ok (.iconst (-1), 1) := by decide +kernel
theorem dX11_rename_35 : decode cX11_rename 35 = .ok (.if_icmp .ne 5, 3) := by decide +kernel
theorem dX5_earliestOnTown_55 : decode cX5_earliestOnTown 55 = .ok (.iload_n 2, 1) := by decide +kernel
theorem dX5_earliestOnTown_56 : decode cX5_earliestOnTown 56 = .ok (.ireturn, 1) := by decide +kernel
theorem dX5_earliestOnTown_49 : decode cX5_earliestOnTown 49 = .ok (.iinc 3 1, 3) := by decide +kernel
theorem dX5_earliestOnTown_52 : decode cX5_earliestOnTown 52 = .ok (.goto (-40), 3) := by decide +kernel
theorem dX5_earliestOnTown_12 : decode cX5_earliestOnTown 12 = .ok (.iload_n 3, 1) := by decide +kernel
theorem dX5_earliestOnTown_13 : decode cX5_earliestOnTown 13 = .ok (.aload_n 0, 1) := by decide +kernel
theorem dX5_earliestOnTown_14 : decode cX5_earliestOnTown 14 = .ok (.getfield 35, 3) := by decide +kernel
theorem dX5_earliestOnTown_17 : decode cX5_earliestOnTown 17 = .ok (.getfield 98, 3) := by decide +kernel
theorem dX5_earliestOnTown_20 : decode cX5_earliestOnTown 20 = .ok (.if_icmp .ge 35, 3) := by decide +kernel
theorem dX5_earliestOnTown_23 : decode cX5_earliestOnTown 23 = .ok (.aload_n 0, 1) := by decide +kernel
theorem dX5_earliestOnTown_24 : decode cX5_earliestOnTown 24 = .ok (.getfield 28, 3) := by decide +kernel
theorem dX5_earliestOnTown_27 : decode cX5_earliestOnTown 27 = .ok (.iload_n 3, 1) := by decide +kernel
theorem dX5_earliestOnTown_28 : decode cX5_earliestOnTown 28 = .ok (.invokevirtual 90, 3) := by decide +kernel
theorem dX5_earliestOnTown_31 : decode cX5_earliestOnTown 31 = .ok (.iload_n 1, 1) := by decide +kernel
theorem dX5_earliestOnTown_32 : decode cX5_earliestOnTown 32 = .ok (.if_icmp .ne 17, 3) := by decide +kernel
theorem dX5_earliestOnTown_35 : decode cX5_earliestOnTown 35 = .ok (.iload_n 2, 1) := by decide +kernel
theorem dX5_earliestOnTown_36 : decode cX5_earliestOnTown 36 = .ok (.aload_n 0, 1) := by decide +kernel
theorem dX5_earliestOnTown_37 : decode cX5_earliestOnTown 37 = .ok (.getfield 12, 3) := by decide +kernel
theorem dX5_earliestOnTown_40 : decode cX5_earliestOnTown 40 = .ok (.iload_n 3, 1) := by decide +kernel
theorem dX5_earliestOnTown_41 : decode cX5_earliestOnTown 41 = .ok (.iconst (-1), 1) := by decide +kernel
theorem dX5_earliestOnTown_42 : decode cX5_earliestOnTown 42 = .ok (.invokevirtual 94, 3) := by decide +kernel
theorem dX5_earliestOnTown_45 : decode cX5_earliestOnTown 45 = .ok (.invokestatic 99, 3) := by decide +kernel
theorem dX5_earliestOnTown_48 : decode cX5_earliestOnTown 48 = .ok (.istore_n 2, 1) := by decide +kernel
theorem dX5_earliestOnTown_0 : decode cX5_earliestOnTown 0 = .ok (.aload_n 0, 1) := by decide +kernel
theorem dX5_earliestOnTown_1 : decode cX5_earliestOnTown 1 = .ok (.getfield 12, 3) := by decide +kernel
theorem dX5_earliestOnTown_4 : decode cX5_earliestOnTown 4 = .ok (.iconst (-1), 1) := by decide +kernel
theorem dX5_earliestOnTown_5 : decode cX5_earliestOnTown 5 = .ok (.iload_n 1, 1) := by decide +kernel
theorem dX5_earliestOnTown_6 : decode cX5_earliestOnTown 6 = .ok (.invokevirtual 94, 3) := by decide +kernel
theorem dX5_earliestOnTown_9 : decode cX5_earliestOnTown 9 = .ok (.istore_n 2, 1) := by decide +kernel
theorem dX5_earliestOnTown_10 : decode cX5_earliestOnTown 10 = .ok (.iconst 0, 1) := by decide +kernel
theorem dX5_earliestOnTown_11 : decode cX5_earliestOnTown 11 = .ok (.istore_n 3, 1) := by decide +kernel
theorem dX3_streetNamedLike_92 : decode cX3_streetNamedLike 92 = .ok (.iconst (-1), 1) := by decide +kernel
theorem dX3_streetNamedLike_93 : decode cX3_streetNamedLike 93 = .ok (.ireturn, 1) := by decide +kernel
theorem dX3_streetNamedLike_86 : decode cX3_streetNamedLike 86 = .ok (.iinc 4 1, 3) := by decide +kernel
theorem dX3_streetNamedLike_89 : decode cX3_streetNamedLike 89 = .ok (.goto (-80), 3) := by decide +kernel
theorem dX3_streetNamedLike_50 : decode cX3_streetNamedLike 50 = .ok (.istore 5, 2) := by decide +kernel
theorem dX3_streetNamedLike_52 : decode cX3_streetNamedLike 52 = .ok (.iload 5, 2) := by decide +kernel
theorem dX3_streetNamedLike_54 : decode cX3_streetNamedLike 54 = .ok (.ifCond .eq 32, 3) := by decide +kernel
theorem dX3_streetNamedLike_57 : decode cX3_streetNamedLike 57 = .ok (.aload_n 0, 1) := by decide +kernel
theorem dX3_streetNamedLike_58 : decode cX3_streetNamedLike 58 = .ok (.getfield 24, 3) := by decide +kernel
theorem dX3_streetNamedLike_61 : decode cX3_streetNamedLike 61 = .ok (.iconst 3, 1) := by decide +kernel
theorem dX3_streetNamedLike_62 : decode cX3_streetNamedLike 62 = .ok (.iload 4, 2) := by decide +kernel
theorem dX3_streetNamedLike_64 : decode cX3_streetNamedLike 64 = .ok (.imul, 1) := by decide +kernel
theorem dX3_streetNamedLike_65 : decode cX3_streetNamedLike 65 = .ok (.aload_n 0, 1) := by decide +kernel
theorem dX3_streetNamedLike_66 : decode cX3_streetNamedLike 66 = .ok (.getfield 24, 3) := by decide +kernel
theorem dX3_streetNamedLike_69 : decode cX3_streetNamedLike 69 = .ok (.iconst 3, 1) := by decide +kernel
theorem dX3_streetNamedLike_70 : decode cX3_streetNamedLike 70 = .ok (.iload_n 3, 1) := by decide +kernel
theorem dX3_streetNamedLike_71 : decode cX3_streetNamedLike 71 = .ok (.imul, 1) := by decide +kernel
theorem dX3_streetNamedLike_72 : decode cX3_streetNamedLike 72 = .ok (.invokestatic 48, 3) := by decide +kernel
theorem dX3_streetNamedLike_75 : decode cX3_streetNamedLike 75 = .ok (.ifCond .eq 11, 3) := by decide +kernel
theorem dX3_streetNamedLike_78 : decode cX3_streetNamedLike 78 = .ok (.aload_n 0, 1) := by decide +kernel
theorem dX3_streetNamedLike_79 : decode cX3_streetNamedLike 79 = .ok (.getfield 9, 3) := by decide +kernel
theorem dX3_streetNamedLike_82 : decode cX3_streetNamedLike 82 = .ok (.iload 4, 2) := by decide +kernel
theorem dX3_streetNamedLike_84 : decode cX3_streetNamedLike 84 = .ok (.iaload, 1) := by decide +kernel
theorem dX3_streetNamedLike_85 : decode cX3_streetNamedLike 85 = .ok (.ireturn, 1) := by decide +kernel
theorem dX3_streetNamedLike_49 : decode cX3_streetNamedLike 49 = .ok (.iconst 0, 1) := by decide +kernel
theorem dX3_streetNamedLike_9 : decode cX3_streetNamedLike 9 = .ok (.iload 4, 2) := by decide +kernel
theorem dX3_streetNamedLike_11 : decode cX3_streetNamedLike 11 = .ok (.aload_n 0, 1) := by decide +kernel
theorem dX3_streetNamedLike_12 : decode cX3_streetNamedLike 12 = .ok (.getfield 28, 3) := by decide +kernel
theorem dX3_streetNamedLike_15 : decode cX3_streetNamedLike 15 = .ok (.if_icmp .ge 77, 3) := by decide +kernel
theorem dX3_streetNamedLike_18 : decode cX3_streetNamedLike 18 = .ok (.iload_n 3, 1) := by decide +kernel
theorem dX3_streetNamedLike_19 : decode cX3_streetNamedLike 19 = .ok (.iconst (-1), 1) := by decide +kernel
theorem dX3_streetNamedLike_20 : decode cX3_streetNamedLike 20 = .ok (.if_icmp .eq 72, 3) := by decide +kernel
theorem dX3_streetNamedLike_23 : decode cX3_streetNamedLike 23 = .ok (.aload_n 0, 1) := by decide +kernel
theorem dX3_streetNamedLike_24 : decode cX3_streetNamedLike 24 = .ok (.getfield 21, 3) := by decide +kernel
theorem dX3_streetNamedLike_27 : decode cX3_streetNamedLike 27 = .ok (.iload 4, 2) := by decide +kernel
theorem dX3_streetNamedLike_29 : decode cX3_streetNamedLike 29 = .ok (.iaload, 1) := by decide +kernel
theorem dX3_streetNamedLike_30 : decode cX3_streetNamedLike 30 = .ok (.iconst (-1), 1) := by decide +kernel
theorem dX3_streetNamedLike_31 : decode cX3_streetNamedLike 31 = .ok (.if_icmp .ne 18, 3) := by decide +kernel
theorem dX3_streetNamedLike_34 : decode cX3_streetNamedLike 34 = .ok (.aload_n 0, 1) := by decide +kernel
theorem dX3_streetNamedLike_35 : decode cX3_streetNamedLike 35 = .ok (.getfield 15, 3) := by decide +kernel
theorem dX3_streetNamedLike_38 : decode cX3_streetNamedLike 38 = .ok (.iload 4, 2) := by decide +kernel
theorem dX3_streetNamedLike_40 : decode cX3_streetNamedLike 40 = .ok (.iaload, 1) := by decide +kernel
theorem dX3_streetNamedLike_41 : decode cX3_streetNamedLike 41 = .ok (.iload_n 2, 1) := by decide +kernel
theorem dX3_streetNamedLike_42 : decode cX3_streetNamedLike 42 = .ok (.if_icmp .ne 7, 3) := by decide +kernel
theorem dX3_streetNamedLike_45 : decode cX3_streetNamedLike 45 = .ok (.iconst 1, 1) := by decide +kernel
theorem dX3_streetNamedLike_46 : decode cX3_streetNamedLike 46 = .ok (.goto 4, 3) := by decide +kernel
theorem dX3_streetNamedLike_0 : decode cX3_streetNamedLike 0 = .ok (.aload_n 0, 1) := by decide +kernel
theorem dX3_streetNamedLike_1 : decode cX3_streetNamedLike 1 = .ok (.iload_n 1, 1) := by decide +kernel
theorem dX3_streetNamedLike_2 : decode cX3_streetNamedLike 2 = .ok (.invokevirtual 38, 3) := by decide +kernel
theorem dX3_streetNamedLike_5 : decode cX3_streetNamedLike 5 = .ok (.istore_n 3, 1) := by decide +kernel
theorem dX3_streetNamedLike_6 : decode cX3_streetNamedLike 6 = .ok (.iconst 0, 1) := by decide +kernel
theorem dX3_streetNamedLike_7 : decode cX3_streetNamedLike 7 = .ok (.istore 4, 2) := by decide +kernel

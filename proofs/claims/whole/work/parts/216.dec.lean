theorem dX12_isIn_63 : decode cX12_isIn 63 = .ok (.ireturn, 1) := by decide +kernel
theorem dX12_isIn_62 : decode cX12_isIn 62 = .ok (.iconst 0, 1) := by decide +kernel
theorem dX12_isIn_22 : decode cX12_isIn 22 = .ok (.aload_n 0, 1) := by decide +kernel
theorem dX12_isIn_23 : decode cX12_isIn 23 = .ok (.iload_n 1, 1) := by decide +kernel
theorem dX12_isIn_24 : decode cX12_isIn 24 = .ok (.iload_n 2, 1) := by decide +kernel
theorem dX12_isIn_25 : decode cX12_isIn 25 = .ok (.iload 4, 2) := by decide +kernel
theorem dX12_isIn_27 : decode cX12_isIn 27 = .ok (.invokevirtual 338, 3) := by decide +kernel
theorem dX12_isIn_30 : decode cX12_isIn 30 = .ok (.istore 5, 2) := by decide +kernel
theorem dX12_isIn_32 : decode cX12_isIn 32 = .ok (.iload 5, 2) := by decide +kernel
theorem dX12_isIn_34 : decode cX12_isIn 34 = .ok (.iconst (-1), 1) := by decide +kernel
theorem dX12_isIn_35 : decode cX12_isIn 35 = .ok (.if_icmp .eq 27, 3) := by decide +kernel
theorem dX12_isIn_38 : decode cX12_isIn 38 = .ok (.aload_n 0, 1) := by decide +kernel
theorem dX12_isIn_39 : decode cX12_isIn 39 = .ok (.getfield 10, 3) := by decide +kernel
theorem dX12_isIn_42 : decode cX12_isIn 42 = .ok (.sipush 10752, 3) := by decide +kernel
theorem dX12_isIn_45 : decode cX12_isIn 45 = .ok (.bipush 6, 2) := by decide +kernel
theorem dX12_isIn_47 : decode cX12_isIn 47 = .ok (.iload 5, 2) := by decide +kernel
theorem dX12_isIn_49 : decode cX12_isIn 49 = .ok (.imul, 1) := by decide +kernel
theorem dX12_isIn_50 : decode cX12_isIn 50 = .ok (.iadd, 1) := by decide +kernel
theorem dX12_isIn_51 : decode cX12_isIn 51 = .ok (.iconst 2, 1) := by decide +kernel
theorem dX12_isIn_52 : decode cX12_isIn 52 = .ok (.iadd, 1) := by decide +kernel
theorem dX12_isIn_53 : decode cX12_isIn 53 = .ok (.iaload, 1) := by decide +kernel
theorem dX12_isIn_54 : decode cX12_isIn 54 = .ok (.iload_n 3, 1) := by decide +kernel
theorem dX12_isIn_55 : decode cX12_isIn 55 = .ok (.if_icmp .ne 7, 3) := by decide +kernel
theorem dX12_isIn_58 : decode cX12_isIn 58 = .ok (.iconst 1, 1) := by decide +kernel
theorem dX12_isIn_59 : decode cX12_isIn 59 = .ok (.goto 4, 3) := by decide +kernel
theorem dX12_isIn_20 : decode cX12_isIn 20 = .ok (.iconst 0, 1) := by decide +kernel
theorem dX12_isIn_21 : decode cX12_isIn 21 = .ok (.ireturn, 1) := by decide +kernel
theorem dX12_isIn_0 : decode cX12_isIn 0 = .ok (.aload_n 0, 1) := by decide +kernel
theorem dX12_isIn_1 : decode cX12_isIn 1 = .ok (.iload_n 1, 1) := by decide +kernel
theorem dX12_isIn_2 : decode cX12_isIn 2 = .ok (.iconst 0, 1) := by decide +kernel
theorem dX12_isIn_3 : decode cX12_isIn 3 = .ok (.invokevirtual 174, 3) := by decide +kernel
theorem dX12_isIn_6 : decode cX12_isIn 6 = .ok (.iconst 1, 1) := by decide +kernel
theorem dX12_isIn_7 : decode cX12_isIn 7 = .ok (.if_icmp .gt 13, 3) := by decide +kernel
theorem dX12_isIn_10 : decode cX12_isIn 10 = .ok (.aload_n 0, 1) := by decide +kernel
theorem dX12_isIn_11 : decode cX12_isIn 11 = .ok (.iload_n 1, 1) := by decide +kernel
theorem dX12_isIn_12 : decode cX12_isIn 12 = .ok (.iload 4, 2) := by decide +kernel
theorem dX12_isIn_14 : decode cX12_isIn 14 = .ok (.invokevirtual 305, 3) := by decide +kernel
theorem dX12_isIn_17 : decode cX12_isIn 17 = .ok (.ifCond .ne 5, 3) := by decide +kernel
theorem dX12_near_166 : decode cX12_near 166 = .ok (.iload 5, 2) := by decide +kernel
theorem dX12_near_168 : decode cX12_near 168 = .ok (.ireturn, 1) := by decide +kernel
theorem dX12_near_160 : decode cX12_near 160 = .ok (.iinc 7 1, 3) := by decide +kernel
theorem dX12_near_163 : decode cX12_near 163 = .ok (.goto (-128), 3) := by decide +kernel
theorem dX12_near_154 : decode cX12_near 154 = .ok (.iinc 8 1, 3) := by decide +kernel
theorem dX12_near_157 : decode cX12_near 157 = .ok (.goto (-108), 3) := by decide +kernel
theorem dX12_near_146 : decode cX12_near 146 = .ok (.iload 7, 2) := by decide +kernel
theorem dX12_near_148 : decode cX12_near 148 = .ok (.istore 5, 2) := by decide +kernel
theorem dX12_near_150 : decode cX12_near 150 = .ok (.iload 10, 2) := by decide +kernel
theorem dX12_near_152 : decode cX12_near 152 = .ok (.istore 6, 2) := by decide +kernel
theorem dX12_near_127 : decode cX12_near 127 = .ok (.iadd, 1) := by decide +kernel
theorem dX12_near_128 : decode cX12_near 128 = .ok (.istore 10, 2) := by decide +kernel
theorem dX12_near_130 : decode cX12_near 130 = .ok (.iload 5, 2) := by decide +kernel
theorem dX12_near_132 : decode cX12_near 132 = .ok (.iconst (-1), 1) := by decide +kernel
theorem dX12_near_133 : decode cX12_near 133 = .ok (.if_icmp .eq 13, 3) := by decide +kernel
theorem dX12_near_136 : decode cX12_near 136 = .ok (.iload 10, 2) := by decide +kernel
theorem dX12_near_138 : decode cX12_near 138 = .ok (.iload 6, 2) := by decide +kernel
theorem dX12_near_140 : decode cX12_near 140 = .ok (.if_icmp .lt 6, 3) := by decide +kernel
theorem dX12_near_143 : decode cX12_near 143 = .ok (.goto 11, 3) := by decide +kernel
theorem dX12_near_126 : decode cX12_near 126 = .ok (.iconst 1, 1) := by decide +kernel
theorem dX12_near_116 : decode cX12_near 116 = .ok (.iadd, 1) := by decide +kernel
theorem dX12_near_117 : decode cX12_near 117 = .ok (.iload 9, 2) := by decide +kernel
theorem dX12_near_119 : decode cX12_near 119 = .ok (.ifCond .ge 7, 3) := by decide +kernel
theorem dX12_near_122 : decode cX12_near 122 = .ok (.iconst 0, 1) := by decide +kernel
theorem dX12_near_123 : decode cX12_near 123 = .ok (.goto 4, 3) := by decide +kernel
theorem dX12_near_115 : decode cX12_near 115 = .ok (.iconst 2, 1) := by decide +kernel
theorem dX12_near_98 : decode cX12_near 98 = .ok (.imul, 1) := by decide +kernel
theorem dX12_near_99 : decode cX12_near 99 = .ok (.aload_n 0, 1) := by decide +kernel
theorem dX12_near_100 : decode cX12_near 100 = .ok (.iload 7, 2) := by decide +kernel
theorem dX12_near_102 : decode cX12_near 102 = .ok (.iload 8, 2) := by decide +kernel
theorem dX12_near_104 : decode cX12_near 104 = .ok (.invokevirtual 196, 3) := by decide +kernel
theorem dX12_near_107 : decode cX12_near 107 = .ok (.iload_n 2, 1) := by decide +kernel
theorem dX12_near_108 : decode cX12_near 108 = .ok (.if_icmp .ne 7, 3) := by decide +kernel
theorem dX12_near_111 : decode cX12_near 111 = .ok (.iconst 0, 1) := by decide +kernel
theorem dX12_near_112 : decode cX12_near 112 = .ok (.goto 4, 3) := by decide +kernel
theorem dX12_near_96 : decode cX12_near 96 = .ok (.iload 9, 2) := by decide +kernel
theorem dX12_near_72 : decode cX12_near 72 = .ok (.aload_n 0, 1) := by decide +kernel
theorem dX12_near_73 : decode cX12_near 73 = .ok (.iload 7, 2) := by decide +kernel
theorem dX12_near_75 : decode cX12_near 75 = .ok (.iload 8, 2) := by decide +kernel
theorem dX12_near_77 : decode cX12_near 77 = .ok (.invokevirtual 206, 3) := by decide +kernel
theorem dX12_near_80 : decode cX12_near 80 = .ok (.iload_n 3, 1) := by decide +kernel
theorem dX12_near_81 : decode cX12_near 81 = .ok (.isub, 1) := by decide +kernel
theorem dX12_near_82 : decode cX12_near 82 = .ok (.istore 9, 2) := by decide +kernel
theorem dX12_near_84 : decode cX12_near 84 = .ok (.iconst 4, 1) := by decide +kernel
theorem dX12_near_85 : decode cX12_near 85 = .ok (.iload 9, 2) := by decide +kernel
theorem dX12_near_87 : decode cX12_near 87 = .ok (.ifCond .ge 9, 3) := by decide +kernel
theorem dX12_near_90 : decode cX12_near 90 = .ok (.iload 9, 2) := by decide +kernel
theorem dX12_near_92 : decode cX12_near 92 = .ok (.ineg, 1) := by decide +kernel
theorem dX12_near_93 : decode cX12_near 93 = .ok (.goto 5, 3) := by decide +kernel
theorem dX12_near_49 : decode cX12_near 49 = .ok (.iload 8, 2) := by decide +kernel
theorem dX12_near_51 : decode cX12_near 51 = .ok (.iconst 2, 1) := by decide +kernel
theorem dX12_near_52 : decode cX12_near 52 = .ok (.if_icmp .ge 108, 3) := by decide +kernel
theorem dX12_near_55 : decode cX12_near 55 = .ok (.aload_n 0, 1) := by decide +kernel
theorem dX12_near_56 : decode cX12_near 56 = .ok (.iload 7, 2) := by decide +kernel
theorem dX12_near_58 : decode cX12_near 58 = .ok (.iload 8, 2) := by decide +kernel
theorem dX12_near_60 : decode cX12_near 60 = .ok (.iload_n 1, 1) := by decide +kernel
theorem dX12_near_61 : decode cX12_near 61 = .ok (.iload 4, 2) := by decide +kernel
theorem dX12_near_63 : decode cX12_near 63 = .ok (.invokevirtual 357, 3) := by decide +kernel
theorem dX12_near_66 : decode cX12_near 66 = .ok (.ifCond .ne 6, 3) := by decide +kernel
theorem dX12_near_69 : decode cX12_near 69 = .ok (.goto 85, 3) := by decide +kernel
theorem dX12_near_35 : decode cX12_near 35 = .ok (.iload 7, 2) := by decide +kernel
theorem dX12_near_37 : decode cX12_near 37 = .ok (.aload_n 0, 1) := by decide +kernel
theorem dX12_near_38 : decode cX12_near 38 = .ok (.getfield 10, 3) := by decide +kernel
theorem dX12_near_41 : decode cX12_near 41 = .ok (.iconst 4, 1) := by decide +kernel
theorem dX12_near_42 : decode cX12_near 42 = .ok (.iaload, 1) := by decide +kernel
theorem dX12_near_43 : decode cX12_near 43 = .ok (.if_icmp .ge 123, 3) := by decide +kernel
theorem dX12_near_46 : decode cX12_near 46 = .ok (.iconst 0, 1) := by decide +kernel
theorem dX12_near_47 : decode cX12_near 47 = .ok (.istore 8, 2) := by decide +kernel
theorem dX12_near_26 : decode cX12_near 26 = .ok (.iconst (-1), 1) := by decide +kernel
theorem dX12_near_27 : decode cX12_near 27 = .ok (.istore 5, 2) := by decide +kernel
theorem dX12_near_29 : decode cX12_near 29 = .ok (.iconst 0, 1) := by decide +kernel
theorem dX12_near_30 : decode cX12_near 30 = .ok (.istore 6, 2) := by decide +kernel
theorem dX12_near_32 : decode cX12_near 32 = .ok (.iconst 0, 1) := by decide +kernel
theorem dX12_near_33 : decode cX12_near 33 = .ok (.istore 7, 2) := by decide +kernel
theorem dX12_near_24 : decode cX12_near 24 = .ok (.iconst (-1), 1) := by decide +kernel
theorem dX12_near_25 : decode cX12_near 25 = .ok (.ireturn, 1) := by decide +kernel
theorem dX12_near_0 : decode cX12_near 0 = .ok (.aload_n 0, 1) := by decide +kernel
theorem dX12_near_1 : decode cX12_near 1 = .ok (.iload_n 1, 1) := by decide +kernel
theorem dX12_near_2 : decode cX12_near 2 = .ok (.invokevirtual 161, 3) := by decide +kernel
theorem dX12_near_5 : decode cX12_near 5 = .ok (.ifCond .eq 19, 3) := by decide +kernel
theorem dX12_near_8 : decode cX12_near 8 = .ok (.iload_n 2, 1) := by decide +kernel
theorem dX12_near_9 : decode cX12_near 9 = .ok (.iload_n 3, 1) := by decide +kernel
theorem dX12_near_10 : decode cX12_near 10 = .ok (.invokestatic 223, 3) := by decide +kernel
theorem dX12_near_13 : decode cX12_near 13 = .ok (.ifCond .eq 11, 3) := by decide +kernel
theorem dX12_near_16 : decode cX12_near 16 = .ok (.iload 4, 2) := by decide +kernel
theorem dX12_near_18 : decode cX12_near 18 = .ok (.invokestatic 95, 3) := by decide +kernel
theorem dX12_near_21 : decode cX12_near 21 = .ok (.ifCond .ne 5, 3) := by decide +kernel
theorem dX12_stop_53 : decode cX12_stop 53 = .ok (.aload_n 0, 1) := by decide +kernel
theorem dX12_stop_54 : decode cX12_stop 54 = .ok (.getfield 10, 3) := by decide +kernel
theorem dX12_stop_57 : decode cX12_stop 57 = .ok (.ldc_w 360, 3) := by decide +kernel
theorem dX12_stop_60 : decode cX12_stop 60 = .ok (.iconst 2, 1) := by decide +kernel
theorem dX12_stop_61 : decode cX12_stop 61 = .ok (.aload_n 0, 1) := by decide +kernel
theorem dX12_stop_62 : decode cX12_stop 62 = .ok (.getfield 10, 3) := by decide +kernel
theorem dX12_stop_65 : decode cX12_stop 65 = .ok (.bipush 9, 2) := by decide +kernel
theorem dX12_stop_67 : decode cX12_stop 67 = .ok (.iaload, 1) := by decide +kernel
theorem dX12_stop_68 : decode cX12_stop 68 = .ok (.imul, 1) := by decide +kernel
theorem dX12_stop_69 : decode cX12_stop 69 = .ok (.iadd, 1) := by decide +kernel
theorem dX12_stop_70 : decode cX12_stop 70 = .ok (.iload_n 1, 1) := by decide +kernel
theorem dX12_stop_71 : decode cX12_stop 71 = .ok (.iastore, 1) := by decide +kernel
theorem dX12_stop_72 : decode cX12_stop 72 = .ok (.aload_n 0, 1) := by decide +kernel
theorem dX12_stop_73 : decode cX12_stop 73 = .ok (.getfield 10, 3) := by decide +kernel
theorem dX12_stop_76 : decode cX12_stop 76 = .ok (.ldc_w 360, 3) := by decide +kernel
theorem dX12_stop_79 : decode cX12_stop 79 = .ok (.iconst 2, 1) := by decide +kernel
theorem dX12_stop_80 : decode cX12_stop 80 = .ok (.aload_n 0, 1) := by decide +kernel
theorem dX12_stop_81 : decode cX12_stop 81 = .ok (.getfield 10, 3) := by decide +kernel
theorem dX12_stop_84 : decode cX12_stop 84 = .ok (.bipush 9, 2) := by decide +kernel
theorem dX12_stop_86 : decode cX12_stop 86 = .ok (.iaload, 1) := by decide +kernel
theorem dX12_stop_87 : decode cX12_stop 87 = .ok (.imul, 1) := by decide +kernel
theorem dX12_stop_88 : decode cX12_stop 88 = .ok (.iadd, 1) := by decide +kernel
theorem dX12_stop_89 : decode cX12_stop 89 = .ok (.iconst 1, 1) := by decide +kernel
theorem dX12_stop_90 : decode cX12_stop 90 = .ok (.iadd, 1) := by decide +kernel
theorem dX12_stop_91 : decode cX12_stop 91 = .ok (.iload_n 2, 1) := by decide +kernel
theorem dX12_stop_92 : decode cX12_stop 92 = .ok (.iastore, 1) := by decide +kernel
theorem dX12_stop_93 : decode cX12_stop 93 = .ok (.aload_n 0, 1) := by decide +kernel
theorem dX12_stop_94 : decode cX12_stop 94 = .ok (.getfield 10, 3) := by decide +kernel
theorem dX12_stop_97 : decode cX12_stop 97 = .ok (.bipush 9, 2) := by decide +kernel
theorem dX12_stop_99 : decode cX12_stop 99 = .ok (.dup2, 1) := by decide +kernel
theorem dX12_stop_100 : decode cX12_stop 100 = .ok (.iaload, 1) := by decide +kernel
theorem dX12_stop_101 : decode cX12_stop 101 = .ok (.iconst 1, 1) := by decide +kernel
theorem dX12_stop_102 : decode cX12_stop 102 = .ok (.iadd, 1) := by decide +kernel
theorem dX12_stop_103 : decode cX12_stop 103 = .ok (.iastore, 1) := by decide +kernel
theorem dX12_stop_104 : decode cX12_stop 104 = .ok (.aload_n 0, 1) := by decide +kernel
theorem dX12_stop_105 : decode cX12_stop 105 = .ok (.getfield 10, 3) := by decide +kernel
theorem dX12_stop_108 : decode cX12_stop 108 = .ok (.bipush 9, 2) := by decide +kernel
theorem dX12_stop_110 : decode cX12_stop 110 = .ok (.iaload, 1) := by decide +kernel
theorem dX12_stop_111 : decode cX12_stop 111 = .ok (.ireturn, 1) := by decide +kernel
theorem dX12_stop_38 : decode cX12_stop 38 = .ok (.aload_n 0, 1) := by decide +kernel
theorem dX12_stop_39 : decode cX12_stop 39 = .ok (.getfield 10, 3) := by decide +kernel
theorem dX12_stop_42 : decode cX12_stop 42 = .ok (.bipush 9, 2) := by decide +kernel
theorem dX12_stop_44 : decode cX12_stop 44 = .ok (.iaload, 1) := by decide +kernel
theorem dX12_stop_45 : decode cX12_stop 45 = .ok (.bipush 24, 2) := by decide +kernel
theorem dX12_stop_47 : decode cX12_stop 47 = .ok (.if_icmp .ne 6, 3) := by decide +kernel
theorem dX12_stop_50 : decode cX12_stop 50 = .ok (.bipush (-6), 2) := by decide +kernel
theorem dX12_stop_52 : decode cX12_stop 52 = .ok (.ireturn, 1) := by decide +kernel
theorem dX12_stop_23 : decode cX12_stop 23 = .ok (.iload_n 2, 1) := by decide +kernel
theorem dX12_stop_24 : decode cX12_stop 24 = .ok (.iconst (-1), 1) := by decide +kernel
theorem dX12_stop_25 : decode cX12_stop 25 = .ok (.if_icmp .ne 13, 3) := by decide +kernel
theorem dX12_stop_28 : decode cX12_stop 28 = .ok (.aload_n 0, 1) := by decide +kernel
theorem dX12_stop_29 : decode cX12_stop 29 = .ok (.getfield 10, 3) := by decide +kernel
theorem dX12_stop_32 : decode cX12_stop 32 = .ok (.bipush 9, 2) := by decide +kernel
theorem dX12_stop_34 : decode cX12_stop 34 = .ok (.iconst 0, 1) := by decide +kernel
theorem dX12_stop_35 : decode cX12_stop 35 = .ok (.iastore, 1) := by decide +kernel
theorem dX12_stop_36 : decode cX12_stop 36 = .ok (.iconst 0, 1) := by decide +kernel
theorem dX12_stop_37 : decode cX12_stop 37 = .ok (.ireturn, 1) := by decide +kernel
theorem dX12_stop_20 : decode cX12_stop 20 = .ok (.bipush (-2), 2) := by decide +kernel
theorem dX12_stop_22 : decode cX12_stop 22 = .ok (.ireturn, 1) := by decide +kernel
theorem dX12_stop_10 : decode cX12_stop 10 = .ok (.iload_n 2, 1) := by decide +kernel
theorem dX12_stop_11 : decode cX12_stop 11 = .ok (.iconst (-1), 1) := by decide +kernel
theorem dX12_stop_12 : decode cX12_stop 12 = .ok (.if_icmp .lt 8, 3) := by decide +kernel
theorem dX12_stop_15 : decode cX12_stop 15 = .ok (.iload_n 2, 1) := by decide +kernel
theorem dX12_stop_16 : decode cX12_stop 16 = .ok (.iconst 2, 1) := by decide +kernel
theorem dX12_stop_17 : decode cX12_stop 17 = .ok (.if_icmp .le 6, 3) := by decide +kernel
theorem dX12_stop_0 : decode cX12_stop 0 = .ok (.aload_n 0, 1) := by decide +kernel
theorem dX12_stop_1 : decode cX12_stop 1 = .ok (.iload_n 1, 1) := by decide +kernel
theorem dX12_stop_2 : decode cX12_stop 2 = .ok (.invokevirtual 161, 3) := by decide +kernel
theorem dX12_stop_5 : decode cX12_stop 5 = .ok (.ifCond .ne 5, 3) := by decide +kernel
theorem dX12_stop_8 : decode cX12_stop 8 = .ok (.iconst (-1), 1) := by decide +kernel
theorem dX12_stop_9 : decode cX12_stop 9 = .ok (.ireturn, 1) := by decide +kernel
theorem dX12_walkKey_40 : decode cX12_walkKey 40 = .ok (.ireturn, 1) := by decide +kernel
theorem dX12_walkKey_31 : decode cX12_walkKey 31 = .ok (.sipush 30000, 3) := by decide +kernel
theorem dX12_walkKey_34 : decode cX12_walkKey 34 = .ok (.iconst 2, 1) := by decide +kernel
theorem dX12_walkKey_35 : decode cX12_walkKey 35 = .ok (.iload_n 2, 1) := by decide +kernel
theorem dX12_walkKey_36 : decode cX12_walkKey 36 = .ok (.imul, 1) := by decide +kernel
theorem dX12_walkKey_37 : decode cX12_walkKey 37 = .ok (.isub, 1) := by decide +kernel
theorem dX12_walkKey_38 : decode cX12_walkKey 38 = .ok (.iload_n 1, 1) := by decide +kernel
theorem dX12_walkKey_39 : decode cX12_walkKey 39 = .ok (.isub, 1) := by decide +kernel
theorem dX12_walkKey_18 : decode cX12_walkKey 18 = .ok (.iload_n 0, 1) := by decide +kernel
theorem dX12_walkKey_19 : decode cX12_walkKey 19 = .ok (.iconst 1, 1) := by decide +kernel
theorem dX12_walkKey_20 : decode cX12_walkKey 20 = .ok (.if_icmp .ne 11, 3) := by decide +kernel
theorem dX12_walkKey_23 : decode cX12_walkKey 23 = .ok (.iconst 2, 1) := by decide +kernel
theorem dX12_walkKey_24 : decode cX12_walkKey 24 = .ok (.iload_n 2, 1) := by decide +kernel
theorem dX12_walkKey_25 : decode cX12_walkKey 25 = .ok (.imul, 1) := by decide +kernel
theorem dX12_walkKey_26 : decode cX12_walkKey 26 = .ok (.iload_n 1, 1) := by decide +kernel
theorem dX12_walkKey_27 : decode cX12_walkKey 27 = .ok (.iadd, 1) := by decide +kernel
theorem dX12_walkKey_28 : decode cX12_walkKey 28 = .ok (.goto 12, 3) := by decide +kernel
theorem dX12_walkKey_17 : decode cX12_walkKey 17 = .ok (.ireturn, 1) := by decide +kernel
theorem dX12_walkKey_12 : decode cX12_walkKey 12 = .ok (.sipush 20000, 3) := by decide +kernel
theorem dX12_walkKey_15 : decode cX12_walkKey 15 = .ok (.iload_n 2, 1) := by decide +kernel
theorem dX12_walkKey_16 : decode cX12_walkKey 16 = .ok (.isub, 1) := by decide +kernel
theorem dX12_walkKey_0 : decode cX12_walkKey 0 = .ok (.iload_n 0, 1) := by decide +kernel
theorem dX12_walkKey_1 : decode cX12_walkKey 1 = .ok (.ifCond .ne 17, 3) := by decide +kernel
theorem dX12_walkKey_4 : decode cX12_walkKey 4 = .ok (.iload_n 1, 1) := by decide +kernel
theorem dX12_walkKey_5 : decode cX12_walkKey 5 = .ok (.ifCond .ne 7, 3) := by decide +kernel
theorem dX12_walkKey_8 : decode cX12_walkKey 8 = .ok (.iload_n 2, 1) := by decide +kernel
theorem dX12_walkKey_9 : decode cX12_walkKey 9 = .ok (.goto 8, 3) := by decide +kernel
theorem dX12_isWalked_35 : decode cX12_isWalked 35 = .ok (.iconst 0, 1) := by decide +kernel
theorem dX12_isWalked_36 : decode cX12_isWalked 36 = .ok (.ireturn, 1) := by decide +kernel
theorem dX12_isWalked_29 : decode cX12_isWalked 29 = .ok (.iinc 2 1, 3) := by decide +kernel
theorem dX12_isWalked_32 : decode cX12_isWalked 32 = .ok (.goto (-30), 3) := by decide +kernel
theorem dX12_isWalked_2 : decode cX12_isWalked 2 = .ok (.iload_n 2, 1) := by decide +kernel
theorem dX12_isWalked_3 : decode cX12_isWalked 3 = .ok (.aload_n 0, 1) := by decide +kernel
theorem dX12_isWalked_4 : decode cX12_isWalked 4 = .ok (.getfield 10, 3) := by decide +kernel
theorem dX12_isWalked_7 : decode cX12_isWalked 7 = .ok (.bipush 12, 2) := by decide +kernel
theorem dX12_isWalked_9 : decode cX12_isWalked 9 = .ok (.iaload, 1) := by decide +kernel
theorem dX12_isWalked_10 : decode cX12_isWalked 10 = .ok (.if_icmp .ge 25, 3) := by decide +kernel
theorem dX12_isWalked_13 : decode cX12_isWalked 13 = .ok (.aload_n 0, 1) := by decide +kernel
theorem dX12_isWalked_14 : decode cX12_isWalked 14 = .ok (.getfield 10, 3) := by decide +kernel
theorem dX12_isWalked_17 : decode cX12_isWalked 17 = .ok (.ldc_w 361, 3) := by decide +kernel
theorem dX12_isWalked_20 : decode cX12_isWalked 20 = .ok (.iload_n 2, 1) := by decide +kernel
theorem dX12_isWalked_21 : decode cX12_isWalked 21 = .ok (.iadd, 1) := by decide +kernel
theorem dX12_isWalked_22 : decode cX12_isWalked 22 = .ok (.iaload, 1) := by decide +kernel
theorem dX12_isWalked_23 : decode cX12_isWalked 23 = .ok (.iload_n 1, 1) := by decide +kernel
theorem dX12_isWalked_24 : decode cX12_isWalked 24 = .ok (.if_icmp .ne 5, 3) := by decide +kernel
theorem dX12_isWalked_27 : decode cX12_isWalked 27 = .ok (.iconst 1, 1) := by decide +kernel
theorem dX12_isWalked_28 : decode cX12_isWalked 28 = .ok (.ireturn, 1) := by decide +kernel
theorem dX12_isWalked_0 : decode cX12_isWalked 0 = .ok (.iconst 0, 1) := by decide +kernel
theorem dX12_isWalked_1 : decode cX12_isWalked 1 = .ok (.istore_n 2, 1) := by decide +kernel
theorem dX12_comesTo_0 : decode cX12_comesTo 0 = .ok (.aload_n 0, 1) := by decide +kernel
theorem dX12_comesTo_1 : decode cX12_comesTo 1 = .ok (.getfield 10, 3) := by decide +kernel
theorem dX12_comesTo_4 : decode cX12_comesTo 4 = .ok (.ldc_w 361, 3) := by decide +kernel
theorem dX12_comesTo_7 : decode cX12_comesTo 7 = .ok (.aload_n 0, 1) := by decide +kernel
theorem dX12_comesTo_8 : decode cX12_comesTo 8 = .ok (.getfield 10, 3) := by decide +kernel
theorem dX12_comesTo_11 : decode cX12_comesTo 11 = .ok (.bipush 12, 2) := by decide +kernel
theorem dX12_comesTo_13 : decode cX12_comesTo 13 = .ok (.iaload, 1) := by decide +kernel
theorem dX12_comesTo_14 : decode cX12_comesTo 14 = .ok (.iadd, 1) := by decide +kernel
theorem dX12_comesTo_15 : decode cX12_comesTo 15 = .ok (.iload_n 1, 1) := by decide +kernel
theorem dX12_comesTo_16 : decode cX12_comesTo 16 = .ok (.iastore, 1) := by decide +kernel
theorem dX12_comesTo_17 : decode cX12_comesTo 17 = .ok (.aload_n 0, 1) := by decide +kernel
theorem dX12_comesTo_18 : decode cX12_comesTo 18 = .ok (.getfield 10, 3) := by decide +kernel
theorem dX12_comesTo_21 : decode cX12_comesTo 21 = .ok (.bipush 12, 2) := by decide +kernel
theorem dX12_comesTo_23 : decode cX12_comesTo 23 = .ok (.dup2, 1) := by decide +kernel
theorem dX12_comesTo_24 : decode cX12_comesTo 24 = .ok (.iaload, 1) := by decide +kernel
theorem dX12_comesTo_25 : decode cX12_comesTo 25 = .ok (.iconst 1, 1) := by decide +kernel
theorem dX12_comesTo_26 : decode cX12_comesTo 26 = .ok (.iadd, 1) := by decide +kernel
theorem dX12_comesTo_27 : decode cX12_comesTo 27 = .ok (.iastore, 1) := by decide +kernel
theorem dX12_comesTo_28 : decode cX12_comesTo 28 = .ok (.return_, 1) := by decide +kernel
theorem dX12_comesToAll_104 : decode cX12_comesToAll 104 = .ok (.return_, 1) := by decide +kernel
theorem dX12_comesToAll_98 : decode cX12_comesToAll 98 = .ok (.iinc 3 1, 3) := by decide +kernel
theorem dX12_comesToAll_101 : decode cX12_comesToAll 101 = .ok (.goto (-94), 3) := by decide +kernel
theorem dX12_comesToAll_92 : decode cX12_comesToAll 92 = .ok (.iinc 4 1, 3) := by decide +kernel
theorem dX12_comesToAll_95 : decode cX12_comesToAll 95 = .ok (.goto (-80), 3) := by decide +kernel
theorem dX12_comesToAll_86 : decode cX12_comesToAll 86 = .ok (.iinc 5 1, 3) := by decide +kernel
theorem dX12_comesToAll_89 : decode cX12_comesToAll 89 = .ok (.goto (-64), 3) := by decide +kernel
theorem dX12_comesToAll_25 : decode cX12_comesToAll 25 = .ok (.iload 5, 2) := by decide +kernel
theorem dX12_comesToAll_27 : decode cX12_comesToAll 27 = .ok (.aload_n 0, 1) := by decide +kernel
theorem dX12_comesToAll_28 : decode cX12_comesToAll 28 = .ok (.getfield 10, 3) := by decide +kernel
theorem dX12_comesToAll_31 : decode cX12_comesToAll 31 = .ok (.iconst 4, 1) := by decide +kernel
theorem dX12_comesToAll_32 : decode cX12_comesToAll 32 = .ok (.iaload, 1) := by decide +kernel
theorem dX12_comesToAll_33 : decode cX12_comesToAll 33 = .ok (.if_icmp .ge 59, 3) := by decide +kernel
theorem dX12_comesToAll_36 : decode cX12_comesToAll 36 = .ok (.aload_n 0, 1) := by decide +kernel
theorem dX12_comesToAll_37 : decode cX12_comesToAll 37 = .ok (.iload 5, 2) := by decide +kernel
theorem dX12_comesToAll_39 : decode cX12_comesToAll 39 = .ok (.iconst 0, 1) := by decide +kernel
theorem dX12_comesToAll_40 : decode cX12_comesToAll 40 = .ok (.invokevirtual 174, 3) := by decide +kernel
theorem dX12_comesToAll_43 : decode cX12_comesToAll 43 = .ok (.iload_n 3, 1) := by decide +kernel
theorem dX12_comesToAll_44 : decode cX12_comesToAll 44 = .ok (.if_icmp .ne 42, 3) := by decide +kernel
theorem dX12_comesToAll_47 : decode cX12_comesToAll 47 = .ok (.aload_n 0, 1) := by decide +kernel
theorem dX12_comesToAll_48 : decode cX12_comesToAll 48 = .ok (.iload 5, 2) := by decide +kernel
theorem dX12_comesToAll_50 : decode cX12_comesToAll 50 = .ok (.bipush 7, 2) := by decide +kernel
theorem dX12_comesToAll_52 : decode cX12_comesToAll 52 = .ok (.invokevirtual 174, 3) := by decide +kernel
theorem dX12_comesToAll_55 : decode cX12_comesToAll 55 = .ok (.iload 4, 2) := by decide +kernel
theorem dX12_comesToAll_57 : decode cX12_comesToAll 57 = .ok (.if_icmp .ne 29, 3) := by decide +kernel
theorem dX12_comesToAll_60 : decode cX12_comesToAll 60 = .ok (.aload_n 0, 1) := by decide +kernel
theorem dX12_comesToAll_61 : decode cX12_comesToAll 61 = .ok (.iload 5, 2) := by decide +kernel
theorem dX12_comesToAll_63 : decode cX12_comesToAll 63 = .ok (.invokevirtual 244, 3) := by decide +kernel
theorem dX12_comesToAll_66 : decode cX12_comesToAll 66 = .ok (.iload_n 1, 1) := by decide +kernel
theorem dX12_comesToAll_67 : decode cX12_comesToAll 67 = .ok (.if_icmp .ne 19, 3) := by decide +kernel
theorem dX12_comesToAll_70 : decode cX12_comesToAll 70 = .ok (.aload_n 0, 1) := by decide +kernel
theorem dX12_comesToAll_71 : decode cX12_comesToAll 71 = .ok (.iload 5, 2) := by decide +kernel
theorem dX12_comesToAll_73 : decode cX12_comesToAll 73 = .ok (.iload_n 2, 1) := by decide +kernel
theorem dX12_comesToAll_74 : decode cX12_comesToAll 74 = .ok (.invokevirtual 305, 3) := by decide +kernel
theorem dX12_comesToAll_77 : decode cX12_comesToAll 77 = .ok (.ifCond .eq 9, 3) := by decide +kernel
theorem dX12_comesToAll_80 : decode cX12_comesToAll 80 = .ok (.aload_n 0, 1) := by decide +kernel
theorem dX12_comesToAll_81 : decode cX12_comesToAll 81 = .ok (.iload 5, 2) := by decide +kernel
theorem dX12_comesToAll_83 : decode cX12_comesToAll 83 = .ok (.invokevirtual 362, 3) := by decide +kernel
theorem dX12_comesToAll_15 : decode cX12_comesToAll 15 = .ok (.iload 4, 2) := by decide +kernel
theorem dX12_comesToAll_17 : decode cX12_comesToAll 17 = .ok (.bipush 99, 2) := by decide +kernel
theorem dX12_comesToAll_19 : decode cX12_comesToAll 19 = .ok (.if_icmp .gt 79, 3) := by decide +kernel
theorem dX12_comesToAll_22 : decode cX12_comesToAll 22 = .ok (.iconst 0, 1) := by decide +kernel
theorem dX12_comesToAll_23 : decode cX12_comesToAll 23 = .ok (.istore 5, 2) := by decide +kernel
theorem dX12_comesToAll_7 : decode cX12_comesToAll 7 = .ok (.iload_n 3, 1) := by decide +kernel
theorem dX12_comesToAll_8 : decode cX12_comesToAll 8 = .ok (.iconst 4, 1) := by decide +kernel
theorem dX12_comesToAll_9 : decode cX12_comesToAll 9 = .ok (.if_icmp .gt 95, 3) := by decide +kernel
theorem dX12_comesToAll_12 : decode cX12_comesToAll 12 = .ok (.iconst 0, 1) := by decide +kernel
theorem dX12_comesToAll_13 : decode cX12_comesToAll 13 = .ok (.istore 4, 2) := by decide +kernel
theorem dX12_comesToAll_0 : decode cX12_comesToAll 0 = .ok (.aload_n 0, 1) := by decide +kernel
theorem dX12_comesToAll_1 : decode cX12_comesToAll 1 = .ok (.iload_n 1, 1) := by decide +kernel
theorem dX12_comesToAll_2 : decode cX12_comesToAll 2 = .ok (.invokevirtual 362, 3) := by decide +kernel
theorem dX12_comesToAll_5 : decode cX12_comesToAll 5 = .ok (.iconst 2, 1) := by decide +kernel
theorem dX12_comesToAll_6 : decode cX12_comesToAll 6 = .ok (.istore_n 3, 1) := by decide +kernel
theorem dX12_walk_227 : decode cX12_walk 227 = .ok (.aload_n 0, 1) := by decide +kernel
theorem dX12_walk_228 : decode cX12_walk 228 = .ok (.getfield 10, 3) := by decide +kernel
theorem dX12_walk_231 : decode cX12_walk 231 = .ok (.bipush 12, 2) := by decide +kernel
theorem dX12_walk_233 : decode cX12_walk 233 = .ok (.iaload, 1) := by decide +kernel
theorem dX12_walk_234 : decode cX12_walk 234 = .ok (.ireturn, 1) := by decide +kernel
theorem dX12_walk_221 : decode cX12_walk 221 = .ok (.iinc 2 1, 3) := by decide +kernel
theorem dX12_walk_224 : decode cX12_walk 224 = .ok (.goto (-196), 3) := by decide +kernel
theorem dX12_walk_218 : decode cX12_walk 218 = .ok (.goto (-143), 3) := by decide +kernel
theorem dX12_walk_204 : decode cX12_walk 204 = .ok (.istore 5, 2) := by decide +kernel
theorem dX12_walk_206 : decode cX12_walk 206 = .ok (.iload 5, 2) := by decide +kernel
theorem dX12_walk_208 : decode cX12_walk 208 = .ok (.ifCond .eq 10, 3) := by decide +kernel
theorem dX12_walk_211 : decode cX12_walk 211 = .ok (.aload_n 0, 1) := by decide +kernel
theorem dX12_walk_212 : decode cX12_walk 212 = .ok (.iload 6, 2) := by decide +kernel
theorem dX12_walk_214 : decode cX12_walk 214 = .ok (.iload_n 1, 1) := by decide +kernel
theorem dX12_walk_215 : decode cX12_walk 215 = .ok (.invokevirtual 371, 3) := by decide +kernel
theorem dX12_walk_203 : decode cX12_walk 203 = .ok (.iconst 0, 1) := by decide +kernel
theorem dX12_walk_193 : decode cX12_walk 193 = .ok (.iload 6, 2) := by decide +kernel
theorem dX12_walk_195 : decode cX12_walk 195 = .ok (.iconst (-1), 1) := by decide +kernel
theorem dX12_walk_196 : decode cX12_walk 196 = .ok (.if_icmp .eq 7, 3) := by decide +kernel
theorem dX12_walk_199 : decode cX12_walk 199 = .ok (.iconst 1, 1) := by decide +kernel
theorem dX12_walk_200 : decode cX12_walk 200 = .ok (.goto 4, 3) := by decide +kernel
theorem dX12_walk_187 : decode cX12_walk 187 = .ok (.iinc 8 1, 3) := by decide +kernel
theorem dX12_walk_190 : decode cX12_walk 190 = .ok (.goto (-101), 3) := by decide +kernel
theorem dX12_walk_181 : decode cX12_walk 181 = .ok (.iinc 9 1, 3) := by decide +kernel
theorem dX12_walk_184 : decode cX12_walk 184 = .ok (.goto (-81), 3) := by decide +kernel
theorem dX12_walk_173 : decode cX12_walk 173 = .ok (.iload 8, 2) := by decide +kernel
theorem dX12_walk_175 : decode cX12_walk 175 = .ok (.istore 6, 2) := by decide +kernel
theorem dX12_walk_177 : decode cX12_walk 177 = .ok (.iload 10, 2) := by decide +kernel
theorem dX12_walk_179 : decode cX12_walk 179 = .ok (.istore 7, 2) := by decide +kernel
theorem dX12_walk_134 : decode cX12_walk 134 = .ok (.iload 4, 2) := by decide +kernel
theorem dX12_walk_136 : decode cX12_walk 136 = .ok (.aload_n 0, 1) := by decide +kernel
theorem dX12_walk_137 : decode cX12_walk 137 = .ok (.iload 8, 2) := by decide +kernel
theorem dX12_walk_139 : decode cX12_walk 139 = .ok (.iload 9, 2) := by decide +kernel
theorem dX12_walk_141 : decode cX12_walk 141 = .ok (.invokevirtual 196, 3) := by decide +kernel
theorem dX12_walk_144 : decode cX12_walk 144 = .ok (.aload_n 0, 1) := by decide +kernel
theorem dX12_walk_145 : decode cX12_walk 145 = .ok (.iload 8, 2) := by decide +kernel
theorem dX12_walk_147 : decode cX12_walk 147 = .ok (.iload 9, 2) := by decide +kernel
theorem dX12_walk_149 : decode cX12_walk 149 = .ok (.invokevirtual 206, 3) := by decide +kernel
theorem dX12_walk_152 : decode cX12_walk 152 = .ok (.invokestatic 368, 3) := by decide +kernel
theorem dX12_walk_155 : decode cX12_walk 155 = .ok (.istore 10, 2) := by decide +kernel
theorem dX12_walk_157 : decode cX12_walk 157 = .ok (.iload 6, 2) := by decide +kernel
theorem dX12_walk_159 : decode cX12_walk 159 = .ok (.iconst (-1), 1) := by decide +kernel
theorem dX12_walk_160 : decode cX12_walk 160 = .ok (.if_icmp .eq 13, 3) := by decide +kernel
theorem dX12_walk_163 : decode cX12_walk 163 = .ok (.iload 10, 2) := by decide +kernel
theorem dX12_walk_165 : decode cX12_walk 165 = .ok (.iload 7, 2) := by decide +kernel
theorem dX12_walk_167 : decode cX12_walk 167 = .ok (.if_icmp .lt 6, 3) := by decide +kernel
theorem dX12_walk_170 : decode cX12_walk 170 = .ok (.goto 11, 3) := by decide +kernel
theorem dX12_walk_103 : decode cX12_walk 103 = .ok (.iload 9, 2) := by decide +kernel
theorem dX12_walk_105 : decode cX12_walk 105 = .ok (.iconst 2, 1) := by decide +kernel
theorem dX12_walk_106 : decode cX12_walk 106 = .ok (.if_icmp .ge 81, 3) := by decide +kernel
theorem dX12_walk_109 : decode cX12_walk 109 = .ok (.aload_n 0, 1) := by decide +kernel
theorem dX12_walk_110 : decode cX12_walk 110 = .ok (.iload 8, 2) := by decide +kernel
theorem dX12_walk_112 : decode cX12_walk 112 = .ok (.iload 9, 2) := by decide +kernel
theorem dX12_walk_114 : decode cX12_walk 114 = .ok (.iload_n 3, 1) := by decide +kernel
theorem dX12_walk_115 : decode cX12_walk 115 = .ok (.iload_n 1, 1) := by decide +kernel
theorem dX12_walk_116 : decode cX12_walk 116 = .ok (.invokevirtual 357, 3) := by decide +kernel
theorem dX12_walk_119 : decode cX12_walk 119 = .ok (.ifCond .eq 62, 3) := by decide +kernel
theorem dX12_walk_122 : decode cX12_walk 122 = .ok (.aload_n 0, 1) := by decide +kernel
theorem dX12_walk_123 : decode cX12_walk 123 = .ok (.iload 8, 2) := by decide +kernel
theorem dX12_walk_125 : decode cX12_walk 125 = .ok (.invokevirtual 365, 3) := by decide +kernel
theorem dX12_walk_128 : decode cX12_walk 128 = .ok (.ifCond .eq 6, 3) := by decide +kernel
theorem dX12_walk_131 : decode cX12_walk 131 = .ok (.goto 50, 3) := by decide +kernel
theorem dX12_walk_89 : decode cX12_walk 89 = .ok (.iload 8, 2) := by decide +kernel
theorem dX12_walk_91 : decode cX12_walk 91 = .ok (.aload_n 0, 1) := by decide +kernel
theorem dX12_walk_92 : decode cX12_walk 92 = .ok (.getfield 10, 3) := by decide +kernel
theorem dX12_walk_95 : decode cX12_walk 95 = .ok (.iconst 4, 1) := by decide +kernel
theorem dX12_walk_96 : decode cX12_walk 96 = .ok (.iaload, 1) := by decide +kernel
theorem dX12_walk_97 : decode cX12_walk 97 = .ok (.if_icmp .ge 96, 3) := by decide +kernel
theorem dX12_walk_100 : decode cX12_walk 100 = .ok (.iconst 0, 1) := by decide +kernel
theorem dX12_walk_101 : decode cX12_walk 101 = .ok (.istore 9, 2) := by decide +kernel
theorem dX12_walk_75 : decode cX12_walk 75 = .ok (.iload 5, 2) := by decide +kernel
theorem dX12_walk_77 : decode cX12_walk 77 = .ok (.ifCond .eq 144, 3) := by decide +kernel
theorem dX12_walk_80 : decode cX12_walk 80 = .ok (.iconst (-1), 1) := by decide +kernel
theorem dX12_walk_81 : decode cX12_walk 81 = .ok (.istore 6, 2) := by decide +kernel
theorem dX12_walk_83 : decode cX12_walk 83 = .ok (.iconst 0, 1) := by decide +kernel
theorem dX12_walk_84 : decode cX12_walk 84 = .ok (.istore 7, 2) := by decide +kernel
theorem dX12_walk_86 : decode cX12_walk 86 = .ok (.iconst 0, 1) := by decide +kernel
theorem dX12_walk_87 : decode cX12_walk 87 = .ok (.istore 8, 2) := by decide +kernel
theorem dX12_walk_28 : decode cX12_walk 28 = .ok (.iload_n 2, 1) := by decide +kernel
theorem dX12_walk_29 : decode cX12_walk 29 = .ok (.aload_n 0, 1) := by decide +kernel
theorem dX12_walk_30 : decode cX12_walk 30 = .ok (.getfield 10, 3) := by decide +kernel
theorem dX12_walk_33 : decode cX12_walk 33 = .ok (.bipush 9, 2) := by decide +kernel
theorem dX12_walk_35 : decode cX12_walk 35 = .ok (.iaload, 1) := by decide +kernel
theorem dX12_walk_36 : decode cX12_walk 36 = .ok (.if_icmp .ge 191, 3) := by decide +kernel
theorem dX12_walk_39 : decode cX12_walk 39 = .ok (.aload_n 0, 1) := by decide +kernel
theorem dX12_walk_40 : decode cX12_walk 40 = .ok (.getfield 10, 3) := by decide +kernel
theorem dX12_walk_43 : decode cX12_walk 43 = .ok (.ldc_w 360, 3) := by decide +kernel
theorem dX12_walk_46 : decode cX12_walk 46 = .ok (.iconst 2, 1) := by decide +kernel
theorem dX12_walk_47 : decode cX12_walk 47 = .ok (.iload_n 2, 1) := by decide +kernel
theorem dX12_walk_48 : decode cX12_walk 48 = .ok (.imul, 1) := by decide +kernel
theorem dX12_walk_49 : decode cX12_walk 49 = .ok (.iadd, 1) := by decide +kernel
theorem dX12_walk_50 : decode cX12_walk 50 = .ok (.iaload, 1) := by decide +kernel
theorem dX12_walk_51 : decode cX12_walk 51 = .ok (.istore_n 3, 1) := by decide +kernel
theorem dX12_walk_52 : decode cX12_walk 52 = .ok (.aload_n 0, 1) := by decide +kernel
theorem dX12_walk_53 : decode cX12_walk 53 = .ok (.getfield 10, 3) := by decide +kernel
theorem dX12_walk_56 : decode cX12_walk 56 = .ok (.ldc_w 360, 3) := by decide +kernel
theorem dX12_walk_59 : decode cX12_walk 59 = .ok (.iconst 2, 1) := by decide +kernel
theorem dX12_walk_60 : decode cX12_walk 60 = .ok (.iload_n 2, 1) := by decide +kernel
theorem dX12_walk_61 : decode cX12_walk 61 = .ok (.imul, 1) := by decide +kernel
theorem dX12_walk_62 : decode cX12_walk 62 = .ok (.iadd, 1) := by decide +kernel
theorem dX12_walk_63 : decode cX12_walk 63 = .ok (.iconst 1, 1) := by decide +kernel
theorem dX12_walk_64 : decode cX12_walk 64 = .ok (.iadd, 1) := by decide +kernel
theorem dX12_walk_65 : decode cX12_walk 65 = .ok (.iaload, 1) := by decide +kernel
theorem dX12_walk_66 : decode cX12_walk 66 = .ok (.istore 4, 2) := by decide +kernel
theorem dX12_walk_68 : decode cX12_walk 68 = .ok (.aload_n 0, 1) := by decide +kernel
theorem dX12_walk_69 : decode cX12_walk 69 = .ok (.iload_n 3, 1) := by decide +kernel
theorem dX12_walk_70 : decode cX12_walk 70 = .ok (.invokevirtual 161, 3) := by decide +kernel
theorem dX12_walk_73 : decode cX12_walk 73 = .ok (.istore 5, 2) := by decide +kernel
theorem dX12_walk_10 : decode cX12_walk 10 = .ok (.aload_n 0, 1) := by decide +kernel
theorem dX12_walk_11 : decode cX12_walk 11 = .ok (.getfield 10, 3) := by decide +kernel
theorem dX12_walk_14 : decode cX12_walk 14 = .ok (.bipush 12, 2) := by decide +kernel
theorem dX12_walk_16 : decode cX12_walk 16 = .ok (.iconst 0, 1) := by decide +kernel
theorem dX12_walk_17 : decode cX12_walk 17 = .ok (.iastore, 1) := by decide +kernel
theorem dX12_walk_18 : decode cX12_walk 18 = .ok (.aload_n 0, 1) := by decide +kernel
theorem dX12_walk_19 : decode cX12_walk 19 = .ok (.getfield 10, 3) := by decide +kernel
theorem dX12_walk_22 : decode cX12_walk 22 = .ok (.bipush 17, 2) := by decide +kernel
theorem dX12_walk_24 : decode cX12_walk 24 = .ok (.iconst 1, 1) := by decide +kernel
theorem dX12_walk_25 : decode cX12_walk 25 = .ok (.iastore, 1) := by decide +kernel
theorem dX12_walk_26 : decode cX12_walk 26 = .ok (.iconst 0, 1) := by decide +kernel
theorem dX12_walk_27 : decode cX12_walk 27 = .ok (.istore_n 2, 1) := by decide +kernel
theorem dX12_walk_0 : decode cX12_walk 0 = .ok (.iload_n 1, 1) := by decide +kernel
theorem dX12_walk_1 : decode cX12_walk 1 = .ok (.invokestatic 95, 3) := by decide +kernel
theorem dX12_walk_4 : decode cX12_walk 4 = .ok (.ifCond .ne 6, 3) := by decide +kernel
theorem dX12_walk_7 : decode cX12_walk 7 = .ok (.bipush (-2), 2) := by decide +kernel
theorem dX12_walk_9 : decode cX12_walk 9 = .ok (.ireturn, 1) := by decide +kernel
theorem dX12_walked_29 : decode cX12_walked 29 = .ok (.ireturn, 1) := by decide +kernel
theorem dX12_walked_19 : decode cX12_walked 19 = .ok (.aload_n 0, 1) := by decide +kernel
theorem dX12_walked_20 : decode cX12_walked 20 = .ok (.getfield 10, 3) := by decide +kernel
theorem dX12_walked_23 : decode cX12_walked 23 = .ok (.ldc_w 361, 3) := by decide +kernel
theorem dX12_walked_26 : decode cX12_walked 26 = .ok (.iload_n 1, 1) := by decide +kernel
theorem dX12_walked_27 : decode cX12_walked 27 = .ok (.iadd, 1) := by decide +kernel
theorem dX12_walked_28 : decode cX12_walked 28 = .ok (.iaload, 1) := by decide +kernel
theorem dX12_walked_15 : decode cX12_walked 15 = .ok (.iconst (-1), 1) := by decide +kernel
theorem dX12_walked_16 : decode cX12_walked 16 = .ok (.goto 13, 3) := by decide +kernel
theorem dX12_walked_0 : decode cX12_walked 0 = .ok (.iload_n 1, 1) := by decide +kernel
theorem dX12_walked_1 : decode cX12_walked 1 = .ok (.ifCond .lt 14, 3) := by decide +kernel
theorem dX12_walked_4 : decode cX12_walked 4 = .ok (.iload_n 1, 1) := by decide +kernel
theorem dX12_walked_5 : decode cX12_walked 5 = .ok (.aload_n 0, 1) := by decide +kernel
theorem dX12_walked_6 : decode cX12_walked 6 = .ok (.getfield 10, 3) := by decide +kernel
theorem dX12_walked_9 : decode cX12_walked 9 = .ok (.bipush 12, 2) := by decide +kernel
theorem dX12_walked_11 : decode cX12_walked 11 = .ok (.iaload, 1) := by decide +kernel
theorem dX12_walked_12 : decode cX12_walked 12 = .ok (.if_icmp .lt 7, 3) := by decide +kernel
theorem dX12_sort_186 : decode cX12_sort 186 = .ok (.aload_n 0, 1) := by decide +kernel
theorem dX12_sort_187 : decode cX12_sort 187 = .ok (.getfield 10, 3) := by decide +kernel
theorem dX12_sort_190 : decode cX12_sort 190 = .ok (.bipush 13, 2) := by decide +kernel
theorem dX12_sort_192 : decode cX12_sort 192 = .ok (.iload_n 1, 1) := by decide +kernel
theorem dX12_sort_193 : decode cX12_sort 193 = .ok (.iastore, 1) := by decide +kernel
theorem dX12_sort_194 : decode cX12_sort 194 = .ok (.aload_n 0, 1) := by decide +kernel
theorem dX12_sort_195 : decode cX12_sort 195 = .ok (.getfield 10, 3) := by decide +kernel
theorem dX12_sort_198 : decode cX12_sort 198 = .ok (.bipush 10, 2) := by decide +kernel
theorem dX12_sort_200 : decode cX12_sort 200 = .ok (.iconst 0, 1) := by decide +kernel
theorem dX12_sort_201 : decode cX12_sort 201 = .ok (.iastore, 1) := by decide +kernel
theorem dX12_sort_202 : decode cX12_sort 202 = .ok (.iload_n 1, 1) := by decide +kernel
theorem dX12_sort_203 : decode cX12_sort 203 = .ok (.ireturn, 1) := by decide +kernel
theorem dX12_sort_180 : decode cX12_sort 180 = .ok (.iinc 3 1, 3) := by decide +kernel
theorem dX12_sort_183 : decode cX12_sort 183 = .ok (.goto (-68), 3) := by decide +kernel
theorem dX12_sort_140 : decode cX12_sort 140 = .ok (.aload_n 0, 1) := by decide +kernel
theorem dX12_sort_141 : decode cX12_sort 141 = .ok (.getfield 10, 3) := by decide +kernel
theorem dX12_sort_144 : decode cX12_sort 144 = .ok (.ldc_w 374, 3) := by decide +kernel
theorem dX12_sort_147 : decode cX12_sort 147 = .ok (.iconst 2, 1) := by decide +kernel
theorem dX12_sort_148 : decode cX12_sort 148 = .ok (.iload_n 2, 1) := by decide +kernel
theorem dX12_sort_149 : decode cX12_sort 149 = .ok (.imul, 1) := by decide +kernel
theorem dX12_sort_150 : decode cX12_sort 150 = .ok (.iadd, 1) := by decide +kernel
theorem dX12_sort_151 : decode cX12_sort 151 = .ok (.iload_n 3, 1) := by decide +kernel
theorem dX12_sort_152 : decode cX12_sort 152 = .ok (.iastore, 1) := by decide +kernel
theorem dX12_sort_153 : decode cX12_sort 153 = .ok (.aload_n 0, 1) := by decide +kernel
theorem dX12_sort_154 : decode cX12_sort 154 = .ok (.getfield 10, 3) := by decide +kernel
theorem dX12_sort_157 : decode cX12_sort 157 = .ok (.ldc_w 374, 3) := by decide +kernel
theorem dX12_sort_160 : decode cX12_sort 160 = .ok (.iconst 2, 1) := by decide +kernel
theorem dX12_sort_161 : decode cX12_sort 161 = .ok (.iload_n 2, 1) := by decide +kernel
theorem dX12_sort_162 : decode cX12_sort 162 = .ok (.imul, 1) := by decide +kernel
theorem dX12_sort_163 : decode cX12_sort 163 = .ok (.iadd, 1) := by decide +kernel
theorem dX12_sort_164 : decode cX12_sort 164 = .ok (.iconst 1, 1) := by decide +kernel
theorem dX12_sort_165 : decode cX12_sort 165 = .ok (.iadd, 1) := by decide +kernel
theorem dX12_sort_166 : decode cX12_sort 166 = .ok (.aload_n 0, 1) := by decide +kernel
theorem dX12_sort_167 : decode cX12_sort 167 = .ok (.getfield 10, 3) := by decide +kernel
theorem dX12_sort_170 : decode cX12_sort 170 = .ok (.ldc_w 337, 3) := by decide +kernel
theorem dX12_sort_173 : decode cX12_sort 173 = .ok (.iload_n 3, 1) := by decide +kernel
theorem dX12_sort_174 : decode cX12_sort 174 = .ok (.iadd, 1) := by decide +kernel
theorem dX12_sort_175 : decode cX12_sort 175 = .ok (.iaload, 1) := by decide +kernel
theorem dX12_sort_176 : decode cX12_sort 176 = .ok (.iastore, 1) := by decide +kernel
theorem dX12_sort_177 : decode cX12_sort 177 = .ok (.iinc 2 1, 3) := by decide +kernel
theorem dX12_sort_115 : decode cX12_sort 115 = .ok (.iload_n 3, 1) := by decide +kernel
theorem dX12_sort_116 : decode cX12_sort 116 = .ok (.iload_n 1, 1) := by decide +kernel
theorem dX12_sort_117 : decode cX12_sort 117 = .ok (.if_icmp .ge 69, 3) := by decide +kernel
theorem dX12_sort_120 : decode cX12_sort 120 = .ok (.aload_n 0, 1) := by decide +kernel
theorem dX12_sort_121 : decode cX12_sort 121 = .ok (.aload_n 0, 1) := by decide +kernel
theorem dX12_sort_122 : decode cX12_sort 122 = .ok (.getfield 10, 3) := by decide +kernel
theorem dX12_sort_125 : decode cX12_sort 125 = .ok (.ldc_w 337, 3) := by decide +kernel
theorem dX12_sort_128 : decode cX12_sort 128 = .ok (.iload_n 3, 1) := by decide +kernel
theorem dX12_sort_129 : decode cX12_sort 129 = .ok (.iadd, 1) := by decide +kernel
theorem dX12_sort_130 : decode cX12_sort 130 = .ok (.iaload, 1) := by decide +kernel
theorem dX12_sort_131 : decode cX12_sort 131 = .ok (.invokevirtual 365, 3) := by decide +kernel
theorem dX12_sort_134 : decode cX12_sort 134 = .ok (.ifCond .eq 6, 3) := by decide +kernel
theorem dX12_sort_137 : decode cX12_sort 137 = .ok (.goto 43, 3) := by decide +kernel
theorem dX12_sort_113 : decode cX12_sort 113 = .ok (.iconst 0, 1) := by decide +kernel
theorem dX12_sort_114 : decode cX12_sort 114 = .ok (.istore_n 3, 1) := by decide +kernel
theorem dX12_sort_107 : decode cX12_sort 107 = .ok (.iinc 3 1, 3) := by decide +kernel
theorem dX12_sort_110 : decode cX12_sort 110 = .ok (.goto (-98), 3) := by decide +kernel
theorem dX12_sort_101 : decode cX12_sort 101 = .ok (.iinc 4 1, 3) := by decide +kernel
theorem dX12_sort_104 : decode cX12_sort 104 = .ok (.goto (-78), 3) := by decide +kernel
theorem dX12_sort_59 : decode cX12_sort 59 = .ok (.aload_n 0, 1) := by decide +kernel
theorem dX12_sort_60 : decode cX12_sort 60 = .ok (.getfield 10, 3) := by decide +kernel
theorem dX12_sort_63 : decode cX12_sort 63 = .ok (.ldc_w 374, 3) := by decide +kernel
theorem dX12_sort_66 : decode cX12_sort 66 = .ok (.iconst 2, 1) := by decide +kernel
theorem dX12_sort_67 : decode cX12_sort 67 = .ok (.iload_n 2, 1) := by decide +kernel
theorem dX12_sort_68 : decode cX12_sort 68 = .ok (.imul, 1) := by decide +kernel
theorem dX12_sort_69 : decode cX12_sort 69 = .ok (.iadd, 1) := by decide +kernel
theorem dX12_sort_70 : decode cX12_sort 70 = .ok (.iload 4, 2) := by decide +kernel
theorem dX12_sort_72 : decode cX12_sort 72 = .ok (.iastore, 1) := by decide +kernel
theorem dX12_sort_73 : decode cX12_sort 73 = .ok (.aload_n 0, 1) := by decide +kernel
theorem dX12_sort_74 : decode cX12_sort 74 = .ok (.getfield 10, 3) := by decide +kernel
theorem dX12_sort_77 : decode cX12_sort 77 = .ok (.ldc_w 374, 3) := by decide +kernel
theorem dX12_sort_80 : decode cX12_sort 80 = .ok (.iconst 2, 1) := by decide +kernel
theorem dX12_sort_81 : decode cX12_sort 81 = .ok (.iload_n 2, 1) := by decide +kernel
theorem dX12_sort_82 : decode cX12_sort 82 = .ok (.imul, 1) := by decide +kernel
theorem dX12_sort_83 : decode cX12_sort 83 = .ok (.iadd, 1) := by decide +kernel
theorem dX12_sort_84 : decode cX12_sort 84 = .ok (.iconst 1, 1) := by decide +kernel
theorem dX12_sort_85 : decode cX12_sort 85 = .ok (.iadd, 1) := by decide +kernel
theorem dX12_sort_86 : decode cX12_sort 86 = .ok (.aload_n 0, 1) := by decide +kernel
theorem dX12_sort_87 : decode cX12_sort 87 = .ok (.getfield 10, 3) := by decide +kernel
theorem dX12_sort_90 : decode cX12_sort 90 = .ok (.ldc_w 337, 3) := by decide +kernel
theorem dX12_sort_93 : decode cX12_sort 93 = .ok (.iload 4, 2) := by decide +kernel
theorem dX12_sort_95 : decode cX12_sort 95 = .ok (.iadd, 1) := by decide +kernel
theorem dX12_sort_96 : decode cX12_sort 96 = .ok (.iaload, 1) := by decide +kernel
theorem dX12_sort_97 : decode cX12_sort 97 = .ok (.iastore, 1) := by decide +kernel
theorem dX12_sort_98 : decode cX12_sort 98 = .ok (.iinc 2 1, 3) := by decide +kernel
theorem dX12_sort_26 : decode cX12_sort 26 = .ok (.iload 4, 2) := by decide +kernel
theorem dX12_sort_28 : decode cX12_sort 28 = .ok (.iload_n 1, 1) := by decide +kernel
theorem dX12_sort_29 : decode cX12_sort 29 = .ok (.if_icmp .ge 78, 3) := by decide +kernel
theorem dX12_sort_32 : decode cX12_sort 32 = .ok (.aload_n 0, 1) := by decide +kernel
theorem dX12_sort_33 : decode cX12_sort 33 = .ok (.getfield 10, 3) := by decide +kernel
theorem dX12_sort_36 : decode cX12_sort 36 = .ok (.ldc_w 337, 3) := by decide +kernel
theorem dX12_sort_39 : decode cX12_sort 39 = .ok (.iload 4, 2) := by decide +kernel
theorem dX12_sort_41 : decode cX12_sort 41 = .ok (.iadd, 1) := by decide +kernel
theorem dX12_sort_42 : decode cX12_sort 42 = .ok (.iaload, 1) := by decide +kernel
theorem dX12_sort_43 : decode cX12_sort 43 = .ok (.aload_n 0, 1) := by decide +kernel
theorem dX12_sort_44 : decode cX12_sort 44 = .ok (.getfield 10, 3) := by decide +kernel
theorem dX12_sort_47 : decode cX12_sort 47 = .ok (.ldc_w 361, 3) := by decide +kernel
theorem dX12_sort_50 : decode cX12_sort 50 = .ok (.iload_n 3, 1) := by decide +kernel
theorem dX12_sort_51 : decode cX12_sort 51 = .ok (.iadd, 1) := by decide +kernel
theorem dX12_sort_52 : decode cX12_sort 52 = .ok (.iaload, 1) := by decide +kernel
theorem dX12_sort_53 : decode cX12_sort 53 = .ok (.if_icmp .eq 6, 3) := by decide +kernel
theorem dX12_sort_56 : decode cX12_sort 56 = .ok (.goto 45, 3) := by decide +kernel
theorem dX12_sort_12 : decode cX12_sort 12 = .ok (.iload_n 3, 1) := by decide +kernel
theorem dX12_sort_13 : decode cX12_sort 13 = .ok (.aload_n 0, 1) := by decide +kernel
theorem dX12_sort_14 : decode cX12_sort 14 = .ok (.getfield 10, 3) := by decide +kernel
theorem dX12_sort_17 : decode cX12_sort 17 = .ok (.bipush 12, 2) := by decide +kernel
theorem dX12_sort_19 : decode cX12_sort 19 = .ok (.iaload, 1) := by decide +kernel
theorem dX12_sort_20 : decode cX12_sort 20 = .ok (.if_icmp .ge 93, 3) := by decide +kernel
theorem dX12_sort_23 : decode cX12_sort 23 = .ok (.iconst 0, 1) := by decide +kernel
theorem dX12_sort_24 : decode cX12_sort 24 = .ok (.istore 4, 2) := by decide +kernel
theorem dX12_sort_0 : decode cX12_sort 0 = .ok (.aload_n 0, 1) := by decide +kernel
theorem dX12_sort_1 : decode cX12_sort 1 = .ok (.getfield 10, 3) := by decide +kernel
theorem dX12_sort_4 : decode cX12_sort 4 = .ok (.bipush 10, 2) := by decide +kernel
theorem dX12_sort_6 : decode cX12_sort 6 = .ok (.iaload, 1) := by decide +kernel
theorem dX12_sort_7 : decode cX12_sort 7 = .ok (.istore_n 1, 1) := by decide +kernel
theorem dX12_sort_8 : decode cX12_sort 8 = .ok (.iconst 0, 1) := by decide +kernel
theorem dX12_sort_9 : decode cX12_sort 9 = .ok (.istore_n 2, 1) := by decide +kernel
theorem dX12_sort_10 : decode cX12_sort 10 = .ok (.iconst 0, 1) := by decide +kernel
theorem dX12_sort_11 : decode cX12_sort 11 = .ok (.istore_n 3, 1) := by decide +kernel
theorem dX12_sorted_42 : decode cX12_sorted 42 = .ok (.ireturn, 1) := by decide +kernel
theorem dX12_sorted_28 : decode cX12_sorted 28 = .ok (.aload_n 0, 1) := by decide +kernel
theorem dX12_sorted_29 : decode cX12_sorted 29 = .ok (.getfield 10, 3) := by decide +kernel
theorem dX12_sorted_32 : decode cX12_sorted 32 = .ok (.ldc_w 374, 3) := by decide +kernel
theorem dX12_sorted_35 : decode cX12_sorted 35 = .ok (.iconst 2, 1) := by decide +kernel
theorem dX12_sorted_36 : decode cX12_sorted 36 = .ok (.iload_n 1, 1) := by decide +kernel
theorem dX12_sorted_37 : decode cX12_sorted 37 = .ok (.imul, 1) := by decide +kernel
theorem dX12_sorted_38 : decode cX12_sorted 38 = .ok (.iadd, 1) := by decide +kernel
theorem dX12_sorted_39 : decode cX12_sorted 39 = .ok (.iload_n 2, 1) := by decide +kernel
theorem dX12_sorted_40 : decode cX12_sorted 40 = .ok (.iadd, 1) := by decide +kernel
theorem dX12_sorted_41 : decode cX12_sorted 41 = .ok (.iaload, 1) := by decide +kernel
theorem dX12_sorted_24 : decode cX12_sorted 24 = .ok (.iconst (-1), 1) := by decide +kernel
theorem dX12_sorted_25 : decode cX12_sorted 25 = .ok (.goto 17, 3) := by decide +kernel
theorem dX12_sorted_0 : decode cX12_sorted 0 = .ok (.iload_n 1, 1) := by decide +kernel
theorem dX12_sorted_1 : decode cX12_sorted 1 = .ok (.ifCond .lt 23, 3) := by decide +kernel
theorem dX12_sorted_4 : decode cX12_sorted 4 = .ok (.iload_n 1, 1) := by decide +kernel
theorem dX12_sorted_5 : decode cX12_sorted 5 = .ok (.aload_n 0, 1) := by decide +kernel
theorem dX12_sorted_6 : decode cX12_sorted 6 = .ok (.getfield 10, 3) := by decide +kernel
theorem dX12_sorted_9 : decode cX12_sorted 9 = .ok (.bipush 13, 2) := by decide +kernel
theorem dX12_sorted_11 : decode cX12_sorted 11 = .ok (.iaload, 1) := by decide +kernel
theorem dX12_sorted_12 : decode cX12_sorted 12 = .ok (.if_icmp .ge 12, 3) := by decide +kernel
theorem dX12_sorted_15 : decode cX12_sorted 15 = .ok (.iload_n 2, 1) := by decide +kernel
theorem dX12_sorted_16 : decode cX12_sorted 16 = .ok (.ifCond .lt 8, 3) := by decide +kernel
theorem dX12_sorted_19 : decode cX12_sorted 19 = .ok (.iload_n 2, 1) := by decide +kernel
theorem dX12_sorted_20 : decode cX12_sorted 20 = .ok (.iconst 1, 1) := by decide +kernel
theorem dX12_sorted_21 : decode cX12_sorted 21 = .ok (.if_icmp .le 7, 3) := by decide +kernel
theorem dX12_listed_21 : decode cX12_listed 21 = .ok (.aload_n 0, 1) := by decide +kernel
theorem dX12_listed_22 : decode cX12_listed 22 = .ok (.iload_n 1, 1) := by decide +kernel
theorem dX12_listed_23 : decode cX12_listed 23 = .ok (.iload_n 2, 1) := by decide +kernel
theorem dX12_listed_24 : decode cX12_listed 24 = .ok (.iload_n 3, 1) := by decide +kernel
theorem dX12_listed_25 : decode cX12_listed 25 = .ok (.invokevirtual 338, 3) := by decide +kernel
theorem dX12_listed_28 : decode cX12_listed 28 = .ok (.ireturn, 1) := by decide +kernel
theorem dX12_listed_19 : decode cX12_listed 19 = .ok (.iconst (-1), 1) := by decide +kernel
theorem dX12_listed_20 : decode cX12_listed 20 = .ok (.ireturn, 1) := by decide +kernel
theorem dX12_listed_0 : decode cX12_listed 0 = .ok (.aload_n 0, 1) := by decide +kernel
theorem dX12_listed_1 : decode cX12_listed 1 = .ok (.iload_n 1, 1) := by decide +kernel
theorem dX12_listed_2 : decode cX12_listed 2 = .ok (.iconst 0, 1) := by decide +kernel
theorem dX12_listed_3 : decode cX12_listed 3 = .ok (.invokevirtual 174, 3) := by decide +kernel
theorem dX12_listed_6 : decode cX12_listed 6 = .ok (.iconst 1, 1) := by decide +kernel
theorem dX12_listed_7 : decode cX12_listed 7 = .ok (.if_icmp .gt 12, 3) := by decide +kernel
theorem dX12_listed_10 : decode cX12_listed 10 = .ok (.aload_n 0, 1) := by decide +kernel
theorem dX12_listed_11 : decode cX12_listed 11 = .ok (.iload_n 1, 1) := by decide +kernel
theorem dX12_listed_12 : decode cX12_listed 12 = .ok (.iload_n 3, 1) := by decide +kernel
theorem dX12_listed_13 : decode cX12_listed 13 = .ok (.invokevirtual 305, 3) := by decide +kernel
theorem dX12_listed_16 : decode cX12_listed 16 = .ok (.ifCond .ne 5, 3) := by decide +kernel
theorem dX12_list_136 : decode cX12_list 136 = .ok (.aload_n 0, 1) := by decide +kernel
theorem dX12_list_137 : decode cX12_list 137 = .ok (.getfield 39, 3) := by decide +kernel
theorem dX12_list_140 : decode cX12_list 140 = .ok (.ireturn, 1) := by decide +kernel
theorem dX12_list_130 : decode cX12_list 130 = .ok (.iinc 2 1, 3) := by decide +kernel
theorem dX12_list_133 : decode cX12_list 133 = .ok (.goto (-116), 3) := by decide +kernel
theorem dX12_list_124 : decode cX12_list 124 = .ok (.iinc 3 1, 3) := by decide +kernel
theorem dX12_list_127 : decode cX12_list 127 = .ok (.goto (-98), 3) := by decide +kernel
theorem dX12_list_52 : decode cX12_list 52 = .ok (.aload_n 0, 1) := by decide +kernel
theorem dX12_list_53 : decode cX12_list 53 = .ok (.getfield 10, 3) := by decide +kernel
theorem dX12_list_56 : decode cX12_list 56 = .ok (.sipush 10752, 3) := by decide +kernel
theorem dX12_list_59 : decode cX12_list 59 = .ok (.bipush 6, 2) := by decide +kernel
theorem dX12_list_61 : decode cX12_list 61 = .ok (.iload 4, 2) := by decide +kernel
theorem dX12_list_63 : decode cX12_list 63 = .ok (.imul, 1) := by decide +kernel
theorem dX12_list_64 : decode cX12_list 64 = .ok (.iadd, 1) := by decide +kernel
theorem dX12_list_65 : decode cX12_list 65 = .ok (.iconst 3, 1) := by decide +kernel
theorem dX12_list_66 : decode cX12_list 66 = .ok (.iadd, 1) := by decide +kernel
theorem dX12_list_67 : decode cX12_list 67 = .ok (.iaload, 1) := by decide +kernel
theorem dX12_list_68 : decode cX12_list 68 = .ok (.istore 5, 2) := by decide +kernel
theorem dX12_list_70 : decode cX12_list 70 = .ok (.aload_n 0, 1) := by decide +kernel
theorem dX12_list_71 : decode cX12_list 71 = .ok (.iload_n 2, 1) := by decide +kernel
theorem dX12_list_72 : decode cX12_list 72 = .ok (.invokevirtual 341, 3) := by decide +kernel
theorem dX12_list_75 : decode cX12_list 75 = .ok (.aload_n 0, 1) := by decide +kernel
theorem dX12_list_76 : decode cX12_list 76 = .ok (.aload_n 0, 1) := by decide +kernel
theorem dX12_list_77 : decode cX12_list 77 = .ok (.getfield 10, 3) := by decide +kernel
theorem dX12_list_80 : decode cX12_list 80 = .ok (.sipush 10752, 3) := by decide +kernel
theorem dX12_list_83 : decode cX12_list 83 = .ok (.bipush 6, 2) := by decide +kernel
theorem dX12_list_85 : decode cX12_list 85 = .ok (.iload 4, 2) := by decide +kernel
theorem dX12_list_87 : decode cX12_list 87 = .ok (.imul, 1) := by decide +kernel
theorem dX12_list_88 : decode cX12_list 88 = .ok (.iadd, 1) := by decide +kernel
theorem dX12_list_89 : decode cX12_list 89 = .ok (.iconst 2, 1) := by decide +kernel
theorem dX12_list_90 : decode cX12_list 90 = .ok (.iadd, 1) := by decide +kernel
theorem dX12_list_91 : decode cX12_list 91 = .ok (.iaload, 1) := by decide +kernel
theorem dX12_list_92 : decode cX12_list 92 = .ok (.invokevirtual 341, 3) := by decide +kernel
theorem dX12_list_95 : decode cX12_list 95 = .ok (.aload_n 0, 1) := by decide +kernel
theorem dX12_list_96 : decode cX12_list 96 = .ok (.iload_n 3, 1) := by decide +kernel
theorem dX12_list_97 : decode cX12_list 97 = .ok (.invokevirtual 341, 3) := by decide +kernel
theorem dX12_list_100 : decode cX12_list 100 = .ok (.aload_n 0, 1) := by decide +kernel
theorem dX12_list_101 : decode cX12_list 101 = .ok (.iload 5, 2) := by decide +kernel
theorem dX12_list_103 : decode cX12_list 103 = .ok (.bipush 16, 2) := by decide +kernel
theorem dX12_list_105 : decode cX12_list 105 = .ok (.ishr, 1) := by decide +kernel
theorem dX12_list_106 : decode cX12_list 106 = .ok (.invokevirtual 341, 3) := by decide +kernel
theorem dX12_list_109 : decode cX12_list 109 = .ok (.aload_n 0, 1) := by decide +kernel
theorem dX12_list_110 : decode cX12_list 110 = .ok (.iload 5, 2) := by decide +kernel
theorem dX12_list_112 : decode cX12_list 112 = .ok (.bipush 8, 2) := by decide +kernel
theorem dX12_list_114 : decode cX12_list 114 = .ok (.ishr, 1) := by decide +kernel
theorem dX12_list_115 : decode cX12_list 115 = .ok (.invokevirtual 341, 3) := by decide +kernel
theorem dX12_list_118 : decode cX12_list 118 = .ok (.aload_n 0, 1) := by decide +kernel
theorem dX12_list_119 : decode cX12_list 119 = .ok (.iload 5, 2) := by decide +kernel
theorem dX12_list_121 : decode cX12_list 121 = .ok (.invokevirtual 341, 3) := by decide +kernel
theorem dX12_list_29 : decode cX12_list 29 = .ok (.iload_n 3, 1) := by decide +kernel
theorem dX12_list_30 : decode cX12_list 30 = .ok (.iconst 2, 1) := by decide +kernel
theorem dX12_list_31 : decode cX12_list 31 = .ok (.if_icmp .ge 99, 3) := by decide +kernel
theorem dX12_list_34 : decode cX12_list 34 = .ok (.aload_n 0, 1) := by decide +kernel
theorem dX12_list_35 : decode cX12_list 35 = .ok (.iload_n 2, 1) := by decide +kernel
theorem dX12_list_36 : decode cX12_list 36 = .ok (.iload_n 3, 1) := by decide +kernel
theorem dX12_list_37 : decode cX12_list 37 = .ok (.iload_n 1, 1) := by decide +kernel
theorem dX12_list_38 : decode cX12_list 38 = .ok (.invokevirtual 375, 3) := by decide +kernel
theorem dX12_list_41 : decode cX12_list 41 = .ok (.istore 4, 2) := by decide +kernel
theorem dX12_list_43 : decode cX12_list 43 = .ok (.iload 4, 2) := by decide +kernel
theorem dX12_list_45 : decode cX12_list 45 = .ok (.iconst (-1), 1) := by decide +kernel
theorem dX12_list_46 : decode cX12_list 46 = .ok (.if_icmp .ne 6, 3) := by decide +kernel
theorem dX12_list_49 : decode cX12_list 49 = .ok (.goto 75, 3) := by decide +kernel
theorem dX12_list_17 : decode cX12_list 17 = .ok (.iload_n 2, 1) := by decide +kernel
theorem dX12_list_18 : decode cX12_list 18 = .ok (.aload_n 0, 1) := by decide +kernel
theorem dX12_list_19 : decode cX12_list 19 = .ok (.getfield 10, 3) := by decide +kernel
theorem dX12_list_22 : decode cX12_list 22 = .ok (.iconst 4, 1) := by decide +kernel
theorem dX12_list_23 : decode cX12_list 23 = .ok (.iaload, 1) := by decide +kernel
theorem dX12_list_24 : decode cX12_list 24 = .ok (.if_icmp .ge 112, 3) := by decide +kernel
theorem dX12_list_27 : decode cX12_list 27 = .ok (.iconst 0, 1) := by decide +kernel
theorem dX12_list_28 : decode cX12_list 28 = .ok (.istore_n 3, 1) := by decide +kernel
theorem dX12_list_10 : decode cX12_list 10 = .ok (.aload_n 0, 1) := by decide +kernel
theorem dX12_list_11 : decode cX12_list 11 = .ok (.iconst 0, 1) := by decide +kernel
theorem dX12_list_12 : decode cX12_list 12 = .ok (.putfield 39, 3) := by decide +kernel
theorem dX12_list_15 : decode cX12_list 15 = .ok (.iconst 0, 1) := by decide +kernel
theorem dX12_list_16 : decode cX12_list 16 = .ok (.istore_n 2, 1) := by decide +kernel
theorem dX12_list_0 : decode cX12_list 0 = .ok (.iload_n 1, 1) := by decide +kernel
theorem dX12_list_1 : decode cX12_list 1 = .ok (.invokestatic 95, 3) := by decide +kernel
theorem dX12_list_4 : decode cX12_list 4 = .ok (.ifCond .ne 6, 3) := by decide +kernel
theorem dX12_list_7 : decode cX12_list 7 = .ok (.bipush (-2), 2) := by decide +kernel
theorem dX12_list_9 : decode cX12_list 9 = .ok (.ireturn, 1) := by decide +kernel
theorem dX12_check_294 : decode cX12_check 294 = .ok (.iconst (-1), 1) := by decide +kernel
theorem dX12_check_295 : decode cX12_check 295 = .ok (.ireturn, 1) := by decide +kernel
theorem dX12_check_288 : decode cX12_check 288 = .ok (.iinc 2 1, 3) := by decide +kernel
theorem dX12_check_291 : decode cX12_check 291 = .ok (.goto (-56), 3) := by decide +kernel
theorem dX12_check_282 : decode cX12_check 282 = .ok (.iinc 3 1, 3) := by decide +kernel
theorem dX12_check_285 : decode cX12_check 285 = .ok (.goto (-38), 3) := by decide +kernel
theorem dX12_check_247 : decode cX12_check 247 = .ok (.iload_n 3, 1) := by decide +kernel
theorem dX12_check_248 : decode cX12_check 248 = .ok (.iconst 2, 1) := by decide +kernel
theorem dX12_check_249 : decode cX12_check 249 = .ok (.if_icmp .ge 39, 3) := by decide +kernel
theorem dX12_check_252 : decode cX12_check 252 = .ok (.aload_n 0, 1) := by decide +kernel
theorem dX12_check_253 : decode cX12_check 253 = .ok (.iload_n 2, 1) := by decide +kernel
theorem dX12_check_254 : decode cX12_check 254 = .ok (.iload_n 3, 1) := by decide +kernel
theorem dX12_check_255 : decode cX12_check 255 = .ok (.iload_n 1, 1) := by decide +kernel
theorem dX12_check_256 : decode cX12_check 256 = .ok (.invokevirtual 375, 3) := by decide +kernel
theorem dX12_check_259 : decode cX12_check 259 = .ok (.iconst (-1), 1) := by decide +kernel
theorem dX12_check_260 : decode cX12_check 260 = .ok (.if_icmp .eq 22, 3) := by decide +kernel
theorem dX12_check_263 : decode cX12_check 263 = .ok (.aload_n 0, 1) := by decide +kernel
theorem dX12_check_264 : decode cX12_check 264 = .ok (.getfield 91, 3) := by decide +kernel
theorem dX12_check_267 : decode cX12_check 267 = .ok (.iconst 2, 1) := by decide +kernel
theorem dX12_check_268 : decode cX12_check 268 = .ok (.iload_n 2, 1) := by decide +kernel
theorem dX12_check_269 : decode cX12_check 269 = .ok (.imul, 1) := by decide +kernel
theorem dX12_check_270 : decode cX12_check 270 = .ok (.iload_n 3, 1) := by decide +kernel
theorem dX12_check_271 : decode cX12_check 271 = .ok (.iadd, 1) := by decide +kernel
theorem dX12_check_272 : decode cX12_check 272 = .ok (.baload, 1) := by decide +kernel
theorem dX12_check_273 : decode cX12_check 273 = .ok (.ifCond .ne 9, 3) := by decide +kernel
theorem dX12_check_276 : decode cX12_check 276 = .ok (.sipush 1000, 3) := by decide +kernel
theorem dX12_check_279 : decode cX12_check 279 = .ok (.iload_n 2, 1) := by decide +kernel
theorem dX12_check_280 : decode cX12_check 280 = .ok (.iadd, 1) := by decide +kernel
theorem dX12_check_281 : decode cX12_check 281 = .ok (.ireturn, 1) := by decide +kernel
theorem dX12_check_235 : decode cX12_check 235 = .ok (.iload_n 2, 1) := by decide +kernel
theorem dX12_check_236 : decode cX12_check 236 = .ok (.aload_n 0, 1) := by decide +kernel
theorem dX12_check_237 : decode cX12_check 237 = .ok (.getfield 10, 3) := by decide +kernel
theorem dX12_check_240 : decode cX12_check 240 = .ok (.iconst 4, 1) := by decide +kernel
theorem dX12_check_241 : decode cX12_check 241 = .ok (.iaload, 1) := by decide +kernel
theorem dX12_check_242 : decode cX12_check 242 = .ok (.if_icmp .ge 52, 3) := by decide +kernel
theorem dX12_check_245 : decode cX12_check 245 = .ok (.iconst 0, 1) := by decide +kernel
theorem dX12_check_246 : decode cX12_check 246 = .ok (.istore_n 3, 1) := by decide +kernel
theorem dX12_check_233 : decode cX12_check 233 = .ok (.iconst 0, 1) := by decide +kernel
theorem dX12_check_234 : decode cX12_check 234 = .ok (.istore_n 2, 1) := by decide +kernel
theorem dX12_check_214 : decode cX12_check 214 = .ok (.aload_n 0, 1) := by decide +kernel
theorem dX12_check_215 : decode cX12_check 215 = .ok (.getfield 91, 3) := by decide +kernel
theorem dX12_check_218 : decode cX12_check 218 = .ok (.iconst 2, 1) := by decide +kernel
theorem dX12_check_219 : decode cX12_check 219 = .ok (.iload 4, 2) := by decide +kernel
theorem dX12_check_221 : decode cX12_check 221 = .ok (.imul, 1) := by decide +kernel
theorem dX12_check_222 : decode cX12_check 222 = .ok (.iload 5, 2) := by decide +kernel
theorem dX12_check_224 : decode cX12_check 224 = .ok (.iadd, 1) := by decide +kernel
theorem dX12_check_225 : decode cX12_check 225 = .ok (.iconst 1, 1) := by decide +kernel
theorem dX12_check_226 : decode cX12_check 226 = .ok (.bastore, 1) := by decide +kernel
theorem dX12_check_227 : decode cX12_check 227 = .ok (.iinc 2 1, 3) := by decide +kernel
theorem dX12_check_230 : decode cX12_check 230 = .ok (.goto (-192), 3) := by decide +kernel
theorem dX12_check_212 : decode cX12_check 212 = .ok (.iload_n 2, 1) := by decide +kernel
theorem dX12_check_213 : decode cX12_check 213 = .ok (.ireturn, 1) := by decide +kernel
theorem dX12_check_100 : decode cX12_check 100 = .ok (.aload_n 0, 1) := by decide +kernel
theorem dX12_check_101 : decode cX12_check 101 = .ok (.iload 4, 2) := by decide +kernel
theorem dX12_check_103 : decode cX12_check 103 = .ok (.iload 5, 2) := by decide +kernel
theorem dX12_check_105 : decode cX12_check 105 = .ok (.iload_n 1, 1) := by decide +kernel
theorem dX12_check_106 : decode cX12_check 106 = .ok (.invokevirtual 375, 3) := by decide +kernel
theorem dX12_check_109 : decode cX12_check 109 = .ok (.istore 6, 2) := by decide +kernel
theorem dX12_check_111 : decode cX12_check 111 = .ok (.aload_n 0, 1) := by decide +kernel
theorem dX12_check_112 : decode cX12_check 112 = .ok (.iload_n 3, 1) := by decide +kernel
theorem dX12_check_113 : decode cX12_check 113 = .ok (.iconst 3, 1) := by decide +kernel
theorem dX12_check_114 : decode cX12_check 114 = .ok (.iadd, 1) := by decide +kernel
theorem dX12_check_115 : decode cX12_check 115 = .ok (.invokevirtual 106, 3) := by decide +kernel
theorem dX12_check_118 : decode cX12_check 118 = .ok (.ldc_w 378, 3) := by decide +kernel
theorem dX12_check_121 : decode cX12_check 121 = .ok (.imul, 1) := by decide +kernel
theorem dX12_check_122 : decode cX12_check 122 = .ok (.aload_n 0, 1) := by decide +kernel
theorem dX12_check_123 : decode cX12_check 123 = .ok (.iload_n 3, 1) := by decide +kernel
theorem dX12_check_124 : decode cX12_check 124 = .ok (.iconst 4, 1) := by decide +kernel
theorem dX12_check_125 : decode cX12_check 125 = .ok (.iadd, 1) := by decide +kernel
theorem dX12_check_126 : decode cX12_check 126 = .ok (.invokevirtual 106, 3) := by decide +kernel
theorem dX12_check_129 : decode cX12_check 129 = .ok (.sipush 256, 3) := by decide +kernel
theorem dX12_check_132 : decode cX12_check 132 = .ok (.imul, 1) := by decide +kernel
theorem dX12_check_133 : decode cX12_check 133 = .ok (.iadd, 1) := by decide +kernel
theorem dX12_check_134 : decode cX12_check 134 = .ok (.aload_n 0, 1) := by decide +kernel
theorem dX12_check_135 : decode cX12_check 135 = .ok (.iload_n 3, 1) := by decide +kernel
theorem dX12_check_136 : decode cX12_check 136 = .ok (.iconst 5, 1) := by decide +kernel
theorem dX12_check_137 : decode cX12_check 137 = .ok (.iadd, 1) := by decide +kernel
theorem dX12_check_138 : decode cX12_check 138 = .ok (.invokevirtual 106, 3) := by decide +kernel
theorem dX12_check_141 : decode cX12_check 141 = .ok (.iadd, 1) := by decide +kernel
theorem dX12_check_142 : decode cX12_check 142 = .ok (.istore 7, 2) := by decide +kernel
theorem dX12_check_144 : decode cX12_check 144 = .ok (.iload 6, 2) := by decide +kernel
theorem dX12_check_146 : decode cX12_check 146 = .ok (.iconst (-1), 1) := by decide +kernel
theorem dX12_check_147 : decode cX12_check 147 = .ok (.if_icmp .eq 65, 3) := by decide +kernel
theorem dX12_check_150 : decode cX12_check 150 = .ok (.aload_n 0, 1) := by decide +kernel
theorem dX12_check_151 : decode cX12_check 151 = .ok (.getfield 10, 3) := by decide +kernel
theorem dX12_check_154 : decode cX12_check 154 = .ok (.sipush 10752, 3) := by decide +kernel
theorem dX12_check_157 : decode cX12_check 157 = .ok (.bipush 6, 2) := by decide +kernel
theorem dX12_check_159 : decode cX12_check 159 = .ok (.iload 6, 2) := by decide +kernel
theorem dX12_check_161 : decode cX12_check 161 = .ok (.imul, 1) := by decide +kernel
theorem dX12_check_162 : decode cX12_check 162 = .ok (.iadd, 1) := by decide +kernel
theorem dX12_check_163 : decode cX12_check 163 = .ok (.iconst 2, 1) := by decide +kernel
theorem dX12_check_164 : decode cX12_check 164 = .ok (.iadd, 1) := by decide +kernel
theorem dX12_check_165 : decode cX12_check 165 = .ok (.iaload, 1) := by decide +kernel
theorem dX12_check_166 : decode cX12_check 166 = .ok (.aload_n 0, 1) := by decide +kernel
theorem dX12_check_167 : decode cX12_check 167 = .ok (.iload_n 3, 1) := by decide +kernel
theorem dX12_check_168 : decode cX12_check 168 = .ok (.iconst 1, 1) := by decide +kernel
theorem dX12_check_169 : decode cX12_check 169 = .ok (.iadd, 1) := by decide +kernel
theorem dX12_check_170 : decode cX12_check 170 = .ok (.invokevirtual 106, 3) := by decide +kernel
theorem dX12_check_173 : decode cX12_check 173 = .ok (.if_icmp .ne 39, 3) := by decide +kernel
theorem dX12_check_176 : decode cX12_check 176 = .ok (.aload_n 0, 1) := by decide +kernel
theorem dX12_check_177 : decode cX12_check 177 = .ok (.getfield 10, 3) := by decide +kernel
theorem dX12_check_180 : decode cX12_check 180 = .ok (.sipush 10752, 3) := by decide +kernel
theorem dX12_check_183 : decode cX12_check 183 = .ok (.bipush 6, 2) := by decide +kernel
theorem dX12_check_185 : decode cX12_check 185 = .ok (.iload 6, 2) := by decide +kernel
theorem dX12_check_187 : decode cX12_check 187 = .ok (.imul, 1) := by decide +kernel
theorem dX12_check_188 : decode cX12_check 188 = .ok (.iadd, 1) := by decide +kernel
theorem dX12_check_189 : decode cX12_check 189 = .ok (.iconst 3, 1) := by decide +kernel
theorem dX12_check_190 : decode cX12_check 190 = .ok (.iadd, 1) := by decide +kernel
theorem dX12_check_191 : decode cX12_check 191 = .ok (.iaload, 1) := by decide +kernel
theorem dX12_check_192 : decode cX12_check 192 = .ok (.iload 7, 2) := by decide +kernel
theorem dX12_check_194 : decode cX12_check 194 = .ok (.if_icmp .ne 18, 3) := by decide +kernel
theorem dX12_check_197 : decode cX12_check 197 = .ok (.aload_n 0, 1) := by decide +kernel
theorem dX12_check_198 : decode cX12_check 198 = .ok (.getfield 91, 3) := by decide +kernel
theorem dX12_check_201 : decode cX12_check 201 = .ok (.iconst 2, 1) := by decide +kernel
theorem dX12_check_202 : decode cX12_check 202 = .ok (.iload 4, 2) := by decide +kernel
theorem dX12_check_204 : decode cX12_check 204 = .ok (.imul, 1) := by decide +kernel
theorem dX12_check_205 : decode cX12_check 205 = .ok (.iload 5, 2) := by decide +kernel
theorem dX12_check_207 : decode cX12_check 207 = .ok (.iadd, 1) := by decide +kernel
theorem dX12_check_208 : decode cX12_check 208 = .ok (.baload, 1) := by decide +kernel
theorem dX12_check_209 : decode cX12_check 209 = .ok (.ifCond .eq 5, 3) := by decide +kernel
theorem dX12_check_98 : decode cX12_check 98 = .ok (.iload_n 2, 1) := by decide +kernel
theorem dX12_check_99 : decode cX12_check 99 = .ok (.ireturn, 1) := by decide +kernel
theorem dX12_check_67 : decode cX12_check 67 = .ok (.aload_n 0, 1) := by decide +kernel
theorem dX12_check_68 : decode cX12_check 68 = .ok (.iload_n 3, 1) := by decide +kernel
theorem dX12_check_69 : decode cX12_check 69 = .ok (.invokevirtual 106, 3) := by decide +kernel
theorem dX12_check_72 : decode cX12_check 72 = .ok (.istore 4, 2) := by decide +kernel
theorem dX12_check_74 : decode cX12_check 74 = .ok (.aload_n 0, 1) := by decide +kernel
theorem dX12_check_75 : decode cX12_check 75 = .ok (.iload_n 3, 1) := by decide +kernel
theorem dX12_check_76 : decode cX12_check 76 = .ok (.iconst 2, 1) := by decide +kernel
theorem dX12_check_77 : decode cX12_check 77 = .ok (.iadd, 1) := by decide +kernel
theorem dX12_check_78 : decode cX12_check 78 = .ok (.invokevirtual 106, 3) := by decide +kernel
theorem dX12_check_81 : decode cX12_check 81 = .ok (.istore 5, 2) := by decide +kernel
theorem dX12_check_83 : decode cX12_check 83 = .ok (.aload_n 0, 1) := by decide +kernel
theorem dX12_check_84 : decode cX12_check 84 = .ok (.iload 4, 2) := by decide +kernel
theorem dX12_check_86 : decode cX12_check 86 = .ok (.invokevirtual 171, 3) := by decide +kernel
theorem dX12_check_89 : decode cX12_check 89 = .ok (.ifCond .eq 9, 3) := by decide +kernel
theorem dX12_check_92 : decode cX12_check 92 = .ok (.iload 5, 2) := by decide +kernel
theorem dX12_check_94 : decode cX12_check 94 = .ok (.iconst 1, 1) := by decide +kernel
theorem dX12_check_95 : decode cX12_check 95 = .ok (.if_icmp .le 5, 3) := by decide +kernel
theorem dX12_check_38 : decode cX12_check 38 = .ok (.bipush 6, 2) := by decide +kernel
theorem dX12_check_40 : decode cX12_check 40 = .ok (.iload_n 2, 1) := by decide +kernel
theorem dX12_check_41 : decode cX12_check 41 = .ok (.imul, 1) := by decide +kernel
theorem dX12_check_42 : decode cX12_check 42 = .ok (.aload_n 0, 1) := by decide +kernel
theorem dX12_check_43 : decode cX12_check 43 = .ok (.getfield 33, 3) := by decide +kernel
theorem dX12_check_46 : decode cX12_check 46 = .ok (.if_icmp .ge 187, 3) := by decide +kernel
theorem dX12_check_49 : decode cX12_check 49 = .ok (.bipush 6, 2) := by decide +kernel
theorem dX12_check_51 : decode cX12_check 51 = .ok (.iload_n 2, 1) := by decide +kernel
theorem dX12_check_52 : decode cX12_check 52 = .ok (.imul, 1) := by decide +kernel
theorem dX12_check_53 : decode cX12_check 53 = .ok (.istore_n 3, 1) := by decide +kernel
theorem dX12_check_54 : decode cX12_check 54 = .ok (.iload_n 3, 1) := by decide +kernel
theorem dX12_check_55 : decode cX12_check 55 = .ok (.bipush 6, 2) := by decide +kernel
theorem dX12_check_57 : decode cX12_check 57 = .ok (.iadd, 1) := by decide +kernel
theorem dX12_check_58 : decode cX12_check 58 = .ok (.aload_n 0, 1) := by decide +kernel
theorem dX12_check_59 : decode cX12_check 59 = .ok (.getfield 33, 3) := by decide +kernel
theorem dX12_check_62 : decode cX12_check 62 = .ok (.if_icmp .le 5, 3) := by decide +kernel
theorem dX12_check_65 : decode cX12_check 65 = .ok (.iload_n 2, 1) := by decide +kernel
theorem dX12_check_66 : decode cX12_check 66 = .ok (.ireturn, 1) := by decide +kernel
theorem dX12_check_36 : decode cX12_check 36 = .ok (.iconst 0, 1) := by decide +kernel
theorem dX12_check_37 : decode cX12_check 37 = .ok (.istore_n 2, 1) := by decide +kernel
theorem dX12_check_16 : decode cX12_check 16 = .ok (.iload_n 2, 1) := by decide +kernel
theorem dX12_check_17 : decode cX12_check 17 = .ok (.sipush 200, 3) := by decide +kernel
theorem dX12_check_20 : decode cX12_check 20 = .ok (.if_icmp .ge 16, 3) := by decide +kernel
theorem dX12_check_23 : decode cX12_check 23 = .ok (.aload_n 0, 1) := by decide +kernel
theorem dX12_check_24 : decode cX12_check 24 = .ok (.getfield 91, 3) := by decide +kernel
theorem dX12_check_27 : decode cX12_check 27 = .ok (.iload_n 2, 1) := by decide +kernel
theorem dX12_check_28 : decode cX12_check 28 = .ok (.iconst 0, 1) := by decide +kernel
theorem dX12_check_29 : decode cX12_check 29 = .ok (.bastore, 1) := by decide +kernel
theorem dX12_check_30 : decode cX12_check 30 = .ok (.iinc 2 1, 3) := by decide +kernel
theorem dX12_check_33 : decode cX12_check 33 = .ok (.goto (-17), 3) := by decide +kernel
theorem dX12_check_14 : decode cX12_check 14 = .ok (.iconst 0, 1) := by decide +kernel
theorem dX12_check_15 : decode cX12_check 15 = .ok (.istore_n 2, 1) := by decide +kernel
theorem dX12_check_0 : decode cX12_check 0 = .ok (.aload_n 0, 1) := by decide +kernel
theorem dX12_check_1 : decode cX12_check 1 = .ok (.invokevirtual 112, 3) := by decide +kernel
theorem dX12_check_4 : decode cX12_check 4 = .ok (.iload_n 1, 1) := by decide +kernel
theorem dX12_check_5 : decode cX12_check 5 = .ok (.invokestatic 95, 3) := by decide +kernel
theorem dX12_check_8 : decode cX12_check 8 = .ok (.ifCond .ne 6, 3) := by decide +kernel
theorem dX12_check_11 : decode cX12_check 11 = .ok (.bipush (-2), 2) := by decide +kernel
theorem dX12_check_13 : decode cX12_check 13 = .ok (.ireturn, 1) := by decide +kernel

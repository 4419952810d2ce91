theorem dX9_add_65 : decode cX9_add 65 = .ok (.aload_n 0, 1) := by decide +kernel
theorem dX9_add_66 : decode cX9_add 66 = .ok (.getfield 9, 3) := by decide +kernel
theorem dX9_add_69 : decode cX9_add 69 = .ok (.iload 6, 2) := by decide +kernel
theorem dX9_add_71 : decode cX9_add 71 = .ok (.iload 4, 2) := by decide +kernel
theorem dX9_add_73 : decode cX9_add 73 = .ok (.iastore, 1) := by decide +kernel
theorem dX9_add_74 : decode cX9_add 74 = .ok (.aload_n 0, 1) := by decide +kernel
theorem dX9_add_75 : decode cX9_add 75 = .ok (.getfield 15, 3) := by decide +kernel
theorem dX9_add_78 : decode cX9_add 78 = .ok (.iload 6, 2) := by decide +kernel
theorem dX9_add_80 : decode cX9_add 80 = .ok (.iload_n 2, 1) := by decide +kernel
theorem dX9_add_81 : decode cX9_add 81 = .ok (.iastore, 1) := by decide +kernel
theorem dX9_add_82 : decode cX9_add 82 = .ok (.aload_n 0, 1) := by decide +kernel
theorem dX9_add_83 : decode cX9_add 83 = .ok (.getfield 18, 3) := by decide +kernel
theorem dX9_add_86 : decode cX9_add 86 = .ok (.iload 6, 2) := by decide +kernel
theorem dX9_add_88 : decode cX9_add 88 = .ok (.iload_n 3, 1) := by decide +kernel
theorem dX9_add_89 : decode cX9_add 89 = .ok (.iastore, 1) := by decide +kernel
theorem dX9_add_90 : decode cX9_add 90 = .ok (.aload_n 0, 1) := by decide +kernel
theorem dX9_add_91 : decode cX9_add 91 = .ok (.getfield 21, 3) := by decide +kernel
theorem dX9_add_94 : decode cX9_add 94 = .ok (.iload 6, 2) := by decide +kernel
theorem dX9_add_96 : decode cX9_add 96 = .ok (.aload_n 1, 1) := by decide +kernel
theorem dX9_add_97 : decode cX9_add 97 = .ok (.getfield 94, 3) := by decide +kernel
theorem dX9_add_100 : decode cX9_add 100 = .ok (.iload_n 2, 1) := by decide +kernel
theorem dX9_add_101 : decode cX9_add 101 = .ok (.iaload, 1) := by decide +kernel
theorem dX9_add_102 : decode cX9_add 102 = .ok (.iastore, 1) := by decide +kernel
theorem dX9_add_103 : decode cX9_add 103 = .ok (.aload_n 0, 1) := by decide +kernel
theorem dX9_add_104 : decode cX9_add 104 = .ok (.getfield 24, 3) := by decide +kernel
theorem dX9_add_107 : decode cX9_add 107 = .ok (.iload 6, 2) := by decide +kernel
theorem dX9_add_109 : decode cX9_add 109 = .ok (.aload_n 1, 1) := by decide +kernel
theorem dX9_add_110 : decode cX9_add 110 = .ok (.getfield 95, 3) := by decide +kernel
theorem dX9_add_113 : decode cX9_add 113 = .ok (.iload_n 2, 1) := by decide +kernel
theorem dX9_add_114 : decode cX9_add 114 = .ok (.iaload, 1) := by decide +kernel
theorem dX9_add_115 : decode cX9_add 115 = .ok (.iastore, 1) := by decide +kernel
theorem dX9_add_116 : decode cX9_add 116 = .ok (.aload_n 0, 1) := by decide +kernel
theorem dX9_add_117 : decode cX9_add 117 = .ok (.getfield 27, 3) := by decide +kernel
theorem dX9_add_120 : decode cX9_add 120 = .ok (.iload 6, 2) := by decide +kernel
theorem dX9_add_122 : decode cX9_add 122 = .ok (.iload 5, 2) := by decide +kernel
theorem dX9_add_124 : decode cX9_add 124 = .ok (.iastore, 1) := by decide +kernel
theorem dX9_add_125 : decode cX9_add 125 = .ok (.aload_n 0, 1) := by decide +kernel
theorem dX9_add_126 : decode cX9_add 126 = .ok (.dup, 1) := by decide +kernel
theorem dX9_add_127 : decode cX9_add 127 = .ok (.getfield 30, 3) := by decide +kernel
theorem dX9_add_130 : decode cX9_add 130 = .ok (.iconst 1, 1) := by decide +kernel
theorem dX9_add_131 : decode cX9_add 131 = .ok (.iadd, 1) := by decide +kernel
theorem dX9_add_132 : decode cX9_add 132 = .ok (.putfield 30, 3) := by decide +kernel
theorem dX9_add_135 : decode cX9_add 135 = .ok (.return_, 1) := by decide +kernel
theorem dX9_add_34 : decode cX9_add 34 = .ok (.iload 6, 2) := by decide +kernel
theorem dX9_add_36 : decode cX9_add 36 = .ok (.ifCond .le 29, 3) := by decide +kernel
theorem dX9_add_39 : decode cX9_add 39 = .ok (.aload_n 0, 1) := by decide +kernel
theorem dX9_add_40 : decode cX9_add 40 = .ok (.getfield 27, 3) := by decide +kernel
theorem dX9_add_43 : decode cX9_add 43 = .ok (.iload 6, 2) := by decide +kernel
theorem dX9_add_45 : decode cX9_add 45 = .ok (.iconst 1, 1) := by decide +kernel
theorem dX9_add_46 : decode cX9_add 46 = .ok (.isub, 1) := by decide +kernel
theorem dX9_add_47 : decode cX9_add 47 = .ok (.iaload, 1) := by decide +kernel
theorem dX9_add_48 : decode cX9_add 48 = .ok (.iload 5, 2) := by decide +kernel
theorem dX9_add_50 : decode cX9_add 50 = .ok (.if_icmp .le 15, 3) := by decide +kernel
theorem dX9_add_53 : decode cX9_add 53 = .ok (.aload_n 0, 1) := by decide +kernel
theorem dX9_add_54 : decode cX9_add 54 = .ok (.iload 6, 2) := by decide +kernel
theorem dX9_add_56 : decode cX9_add 56 = .ok (.invokevirtual 100, 3) := by decide +kernel
theorem dX9_add_59 : decode cX9_add 59 = .ok (.iinc 6 (-1), 3) := by decide +kernel
theorem dX9_add_62 : decode cX9_add 62 = .ok (.goto (-28), 3) := by decide +kernel
theorem dX9_add_10 : decode cX9_add 10 = .ok (.aload_n 0, 1) := by decide +kernel
theorem dX9_add_11 : decode cX9_add 11 = .ok (.aload_n 1, 1) := by decide +kernel
theorem dX9_add_12 : decode cX9_add 12 = .ok (.getfield 94, 3) := by decide +kernel
theorem dX9_add_15 : decode cX9_add 15 = .ok (.iload_n 2, 1) := by decide +kernel
theorem dX9_add_16 : decode cX9_add 16 = .ok (.iaload, 1) := by decide +kernel
theorem dX9_add_17 : decode cX9_add 17 = .ok (.aload_n 1, 1) := by decide +kernel
theorem dX9_add_18 : decode cX9_add 18 = .ok (.getfield 95, 3) := by decide +kernel
theorem dX9_add_21 : decode cX9_add 21 = .ok (.iload_n 2, 1) := by decide +kernel
theorem dX9_add_22 : decode cX9_add 22 = .ok (.iaload, 1) := by decide +kernel
theorem dX9_add_23 : decode cX9_add 23 = .ok (.invokevirtual 96, 3) := by decide +kernel
theorem dX9_add_26 : decode cX9_add 26 = .ok (.istore 5, 2) := by decide +kernel
theorem dX9_add_28 : decode cX9_add 28 = .ok (.aload_n 0, 1) := by decide +kernel
theorem dX9_add_29 : decode cX9_add 29 = .ok (.getfield 30, 3) := by decide +kernel
theorem dX9_add_32 : decode cX9_add 32 = .ok (.istore 6, 2) := by decide +kernel
theorem dX9_add_0 : decode cX9_add 0 = .ok (.aload_n 0, 1) := by decide +kernel
theorem dX9_add_1 : decode cX9_add 1 = .ok (.getfield 30, 3) := by decide +kernel
theorem dX9_add_4 : decode cX9_add 4 = .ok (.bipush 100, 2) := by decide +kernel
theorem dX9_add_6 : decode cX9_add 6 = .ok (.if_icmp .lt 4, 3) := by decide +kernel
theorem dX9_add_9 : decode cX9_add 9 = .ok (.return_, 1) := by decide +kernel
theorem dX9_fill_103 : decode cX9_fill 103 = .ok (.return_, 1) := by decide +kernel
theorem dX9_fill_97 : decode cX9_fill 97 = .ok (.iinc 6 1, 3) := by decide +kernel
theorem dX9_fill_100 : decode cX9_fill 100 = .ok (.goto (-68), 3) := by decide +kernel
theorem dX9_fill_32 : decode cX9_fill 32 = .ok (.iload 6, 2) := by decide +kernel
theorem dX9_fill_34 : decode cX9_fill 34 = .ok (.aload 5, 2) := by decide +kernel
theorem dX9_fill_36 : decode cX9_fill 36 = .ok (.getfield 56, 3) := by decide +kernel
theorem dX9_fill_39 : decode cX9_fill 39 = .ok (.if_icmp .ge 64, 3) := by decide +kernel
theorem dX9_fill_42 : decode cX9_fill 42 = .ok (.aload_n 1, 1) := by decide +kernel
theorem dX9_fill_43 : decode cX9_fill 43 = .ok (.getfield 59, 3) := by decide +kernel
theorem dX9_fill_46 : decode cX9_fill 46 = .ok (.aload 5, 2) := by decide +kernel
theorem dX9_fill_48 : decode cX9_fill 48 = .ok (.getfield 63, 3) := by decide +kernel
theorem dX9_fill_51 : decode cX9_fill 51 = .ok (.iload 6, 2) := by decide +kernel
theorem dX9_fill_53 : decode cX9_fill 53 = .ok (.iaload, 1) := by decide +kernel
theorem dX9_fill_54 : decode cX9_fill 54 = .ok (.invokevirtual 64, 3) := by decide +kernel
theorem dX9_fill_57 : decode cX9_fill 57 = .ok (.iload_n 2, 1) := by decide +kernel
theorem dX9_fill_58 : decode cX9_fill 58 = .ok (.if_icmp .ne 39, 3) := by decide +kernel
theorem dX9_fill_61 : decode cX9_fill 61 = .ok (.aload_n 1, 1) := by decide +kernel
theorem dX9_fill_62 : decode cX9_fill 62 = .ok (.iload 6, 2) := by decide +kernel
theorem dX9_fill_64 : decode cX9_fill 64 = .ok (.iload_n 3, 1) := by decide +kernel
theorem dX9_fill_65 : decode cX9_fill 65 = .ok (.invokestatic 69, 3) := by decide +kernel
theorem dX9_fill_68 : decode cX9_fill 68 = .ok (.ifCond .eq 29, 3) := by decide +kernel
theorem dX9_fill_71 : decode cX9_fill 71 = .ok (.aload_n 0, 1) := by decide +kernel
theorem dX9_fill_72 : decode cX9_fill 72 = .ok (.aload_n 1, 1) := by decide +kernel
theorem dX9_fill_73 : decode cX9_fill 73 = .ok (.getfield 59, 3) := by decide +kernel
theorem dX9_fill_76 : decode cX9_fill 76 = .ok (.aload 5, 2) := by decide +kernel
theorem dX9_fill_78 : decode cX9_fill 78 = .ok (.getfield 63, 3) := by decide +kernel
theorem dX9_fill_81 : decode cX9_fill 81 = .ok (.iload 6, 2) := by decide +kernel
theorem dX9_fill_83 : decode cX9_fill 83 = .ok (.iaload, 1) := by decide +kernel
theorem dX9_fill_84 : decode cX9_fill 84 = .ok (.aload 5, 2) := by decide +kernel
theorem dX9_fill_86 : decode cX9_fill 86 = .ok (.getfield 73, 3) := by decide +kernel
theorem dX9_fill_89 : decode cX9_fill 89 = .ok (.iload 6, 2) := by decide +kernel
theorem dX9_fill_91 : decode cX9_fill 91 = .ok (.iaload, 1) := by decide +kernel
theorem dX9_fill_92 : decode cX9_fill 92 = .ok (.iload 6, 2) := by decide +kernel
theorem dX9_fill_94 : decode cX9_fill 94 = .ok (.invokevirtual 74, 3) := by decide +kernel
theorem dX9_fill_0 : decode cX9_fill 0 = .ok (.aload_n 0, 1) := by decide +kernel
theorem dX9_fill_1 : decode cX9_fill 1 = .ok (.iconst 0, 1) := by decide +kernel
theorem dX9_fill_2 : decode cX9_fill 2 = .ok (.putfield 30, 3) := by decide +kernel
theorem dX9_fill_5 : decode cX9_fill 5 = .ok (.aload_n 0, 1) := by decide +kernel
theorem dX9_fill_6 : decode cX9_fill 6 = .ok (.aload_n 1, 1) := by decide +kernel
theorem dX9_fill_7 : decode cX9_fill 7 = .ok (.getfield 34, 3) := by decide +kernel
theorem dX9_fill_10 : decode cX9_fill 10 = .ok (.iload_n 2, 1) := by decide +kernel
theorem dX9_fill_11 : decode cX9_fill 11 = .ok (.invokevirtual 40, 3) := by decide +kernel
theorem dX9_fill_14 : decode cX9_fill 14 = .ok (.putfield 46, 3) := by decide +kernel
theorem dX9_fill_17 : decode cX9_fill 17 = .ok (.aload_n 0, 1) := by decide +kernel
theorem dX9_fill_18 : decode cX9_fill 18 = .ok (.iload 4, 2) := by decide +kernel
theorem dX9_fill_20 : decode cX9_fill 20 = .ok (.putfield 49, 3) := by decide +kernel
theorem dX9_fill_23 : decode cX9_fill 23 = .ok (.aload_n 1, 1) := by decide +kernel
theorem dX9_fill_24 : decode cX9_fill 24 = .ok (.getfield 52, 3) := by decide +kernel
theorem dX9_fill_27 : decode cX9_fill 27 = .ok (.astore 5, 2) := by decide +kernel
theorem dX9_fill_29 : decode cX9_fill 29 = .ok (.iconst 0, 1) := by decide +kernel
theorem dX9_fill_30 : decode cX9_fill 30 = .ok (.istore 6, 2) := by decide +kernel
theorem dX9_isInLine_22 : decode cX9_isInLine 22 = .ok (.ireturn, 1) := by decide +kernel
theorem dX9_isInLine_21 : decode cX9_isInLine 21 = .ok (.iconst 0, 1) := by decide +kernel
theorem dX9_isInLine_17 : decode cX9_isInLine 17 = .ok (.iconst 1, 1) := by decide +kernel
theorem dX9_isInLine_18 : decode cX9_isInLine 18 = .ok (.goto 4, 3) := by decide +kernel
theorem dX9_isInLine_0 : decode cX9_isInLine 0 = .ok (.aload_n 0, 1) := by decide +kernel
theorem dX9_isInLine_1 : decode cX9_isInLine 1 = .ok (.getfield 49, 3) := by decide +kernel
theorem dX9_isInLine_4 : decode cX9_isInLine 4 = .ok (.ifCond .eq 13, 3) := by decide +kernel
theorem dX9_isInLine_7 : decode cX9_isInLine 7 = .ok (.aload_n 0, 1) := by decide +kernel
theorem dX9_isInLine_8 : decode cX9_isInLine 8 = .ok (.getfield 21, 3) := by decide +kernel
theorem dX9_isInLine_11 : decode cX9_isInLine 11 = .ok (.iload_n 1, 1) := by decide +kernel
theorem dX9_isInLine_12 : decode cX9_isInLine 12 = .ok (.iaload, 1) := by decide +kernel
theorem dX9_isInLine_13 : decode cX9_isInLine 13 = .ok (.iload_n 2, 1) := by decide +kernel
theorem dX9_isInLine_14 : decode cX9_isInLine 14 = .ok (.if_icmp .ne 7, 3) := by decide +kernel
theorem dX9_lowAt_59 : decode cX9_lowAt 59 = .ok (.iload_n 3, 1) := by decide +kernel
theorem dX9_lowAt_60 : decode cX9_lowAt 60 = .ok (.ireturn, 1) := by decide +kernel
theorem dX9_lowAt_53 : decode cX9_lowAt 53 = .ok (.iinc 4 1, 3) := by decide +kernel
theorem dX9_lowAt_56 : decode cX9_lowAt 56 = .ok (.goto (-51), 3) := by decide +kernel
theorem dX9_lowAt_5 : decode cX9_lowAt 5 = .ok (.iload 4, 2) := by decide +kernel
theorem dX9_lowAt_7 : decode cX9_lowAt 7 = .ok (.aload_n 0, 1) := by decide +kernel
theorem dX9_lowAt_8 : decode cX9_lowAt 8 = .ok (.getfield 30, 3) := by decide +kernel
theorem dX9_lowAt_11 : decode cX9_lowAt 11 = .ok (.if_icmp .ge 48, 3) := by decide +kernel
theorem dX9_lowAt_14 : decode cX9_lowAt 14 = .ok (.aload_n 0, 1) := by decide +kernel
theorem dX9_lowAt_15 : decode cX9_lowAt 15 = .ok (.getfield 27, 3) := by decide +kernel
theorem dX9_lowAt_18 : decode cX9_lowAt 18 = .ok (.iload 4, 2) := by decide +kernel
theorem dX9_lowAt_20 : decode cX9_lowAt 20 = .ok (.iaload, 1) := by decide +kernel
theorem dX9_lowAt_21 : decode cX9_lowAt 21 = .ok (.iload_n 2, 1) := by decide +kernel
theorem dX9_lowAt_22 : decode cX9_lowAt 22 = .ok (.if_icmp .ge 31, 3) := by decide +kernel
theorem dX9_lowAt_25 : decode cX9_lowAt 25 = .ok (.aload_n 0, 1) := by decide +kernel
theorem dX9_lowAt_26 : decode cX9_lowAt 26 = .ok (.getfield 18, 3) := by decide +kernel
theorem dX9_lowAt_29 : decode cX9_lowAt 29 = .ok (.iload 4, 2) := by decide +kernel
theorem dX9_lowAt_31 : decode cX9_lowAt 31 = .ok (.iaload, 1) := by decide +kernel
theorem dX9_lowAt_32 : decode cX9_lowAt 32 = .ok (.ifCond .eq 21, 3) := by decide +kernel
theorem dX9_lowAt_35 : decode cX9_lowAt 35 = .ok (.aload_n 0, 1) := by decide +kernel
theorem dX9_lowAt_36 : decode cX9_lowAt 36 = .ok (.iload 4, 2) := by decide +kernel
theorem dX9_lowAt_38 : decode cX9_lowAt 38 = .ok (.iload_n 1, 1) := by decide +kernel
theorem dX9_lowAt_39 : decode cX9_lowAt 39 = .ok (.invokevirtual 104, 3) := by decide +kernel
theorem dX9_lowAt_42 : decode cX9_lowAt 42 = .ok (.ifCond .eq 11, 3) := by decide +kernel
theorem dX9_lowAt_45 : decode cX9_lowAt 45 = .ok (.aload_n 0, 1) := by decide +kernel
theorem dX9_lowAt_46 : decode cX9_lowAt 46 = .ok (.getfield 18, 3) := by decide +kernel
theorem dX9_lowAt_49 : decode cX9_lowAt 49 = .ok (.iload 4, 2) := by decide +kernel
theorem dX9_lowAt_51 : decode cX9_lowAt 51 = .ok (.iaload, 1) := by decide +kernel
theorem dX9_lowAt_52 : decode cX9_lowAt 52 = .ok (.istore_n 3, 1) := by decide +kernel
theorem dX9_lowAt_0 : decode cX9_lowAt 0 = .ok (.iconst 0, 1) := by decide +kernel
theorem dX9_lowAt_1 : decode cX9_lowAt 1 = .ok (.istore_n 3, 1) := by decide +kernel
theorem dX9_lowAt_2 : decode cX9_lowAt 2 = .ok (.iconst 0, 1) := by decide +kernel
theorem dX9_lowAt_3 : decode cX9_lowAt 3 = .ok (.istore 4, 2) := by decide +kernel
theorem dX9_highAt_51 : decode cX9_highAt 51 = .ok (.ldc 108, 2) := by decide +kernel
theorem dX9_highAt_53 : decode cX9_highAt 53 = .ok (.ireturn, 1) := by decide +kernel
theorem dX9_highAt_45 : decode cX9_highAt 45 = .ok (.iinc 3 1, 3) := by decide +kernel
theorem dX9_highAt_48 : decode cX9_highAt 48 = .ok (.goto (-46), 3) := by decide +kernel
theorem dX9_highAt_2 : decode cX9_highAt 2 = .ok (.iload_n 3, 1) := by decide +kernel
theorem dX9_highAt_3 : decode cX9_highAt 3 = .ok (.aload_n 0, 1) := by decide +kernel
theorem dX9_highAt_4 : decode cX9_highAt 4 = .ok (.getfield 30, 3) := by decide +kernel
theorem dX9_highAt_7 : decode cX9_highAt 7 = .ok (.if_icmp .ge 44, 3) := by decide +kernel
theorem dX9_highAt_10 : decode cX9_highAt 10 = .ok (.aload_n 0, 1) := by decide +kernel
theorem dX9_highAt_11 : decode cX9_highAt 11 = .ok (.getfield 27, 3) := by decide +kernel
theorem dX9_highAt_14 : decode cX9_highAt 14 = .ok (.iload_n 3, 1) := by decide +kernel
theorem dX9_highAt_15 : decode cX9_highAt 15 = .ok (.iaload, 1) := by decide +kernel
theorem dX9_highAt_16 : decode cX9_highAt 16 = .ok (.iload_n 2, 1) := by decide +kernel
theorem dX9_highAt_17 : decode cX9_highAt 17 = .ok (.if_icmp .le 28, 3) := by decide +kernel
theorem dX9_highAt_20 : decode cX9_highAt 20 = .ok (.aload_n 0, 1) := by decide +kernel
theorem dX9_highAt_21 : decode cX9_highAt 21 = .ok (.getfield 18, 3) := by decide +kernel
theorem dX9_highAt_24 : decode cX9_highAt 24 = .ok (.iload_n 3, 1) := by decide +kernel
theorem dX9_highAt_25 : decode cX9_highAt 25 = .ok (.iaload, 1) := by decide +kernel
theorem dX9_highAt_26 : decode cX9_highAt 26 = .ok (.ifCond .eq 19, 3) := by decide +kernel
theorem dX9_highAt_29 : decode cX9_highAt 29 = .ok (.aload_n 0, 1) := by decide +kernel
theorem dX9_highAt_30 : decode cX9_highAt 30 = .ok (.iload_n 3, 1) := by decide +kernel
theorem dX9_highAt_31 : decode cX9_highAt 31 = .ok (.iload_n 1, 1) := by decide +kernel
theorem dX9_highAt_32 : decode cX9_highAt 32 = .ok (.invokevirtual 104, 3) := by decide +kernel
theorem dX9_highAt_35 : decode cX9_highAt 35 = .ok (.ifCond .eq 10, 3) := by decide +kernel
theorem dX9_highAt_38 : decode cX9_highAt 38 = .ok (.aload_n 0, 1) := by decide +kernel
theorem dX9_highAt_39 : decode cX9_highAt 39 = .ok (.getfield 18, 3) := by decide +kernel
theorem dX9_highAt_42 : decode cX9_highAt 42 = .ok (.iload_n 3, 1) := by decide +kernel
theorem dX9_highAt_43 : decode cX9_highAt 43 = .ok (.iaload, 1) := by decide +kernel
theorem dX9_highAt_44 : decode cX9_highAt 44 = .ok (.ireturn, 1) := by decide +kernel
theorem dX9_highAt_0 : decode cX9_highAt 0 = .ok (.iconst 0, 1) := by decide +kernel
theorem dX9_highAt_1 : decode cX9_highAt 1 = .ok (.istore_n 3, 1) := by decide +kernel
theorem dX11_areDigitsOfSide_14 : decode cX11_areDigitsOfSide 14 = .ok (.ireturn, 1) := by decide +kernel
theorem dX11_areDigitsOfSide_13 : decode cX11_areDigitsOfSide 13 = .ok (.iconst 0, 1) := by decide +kernel
theorem dX11_areDigitsOfSide_0 : decode cX11_areDigitsOfSide 0 = .ok (.iload_n 0, 1) := by decide +kernel
theorem dX11_areDigitsOfSide_1 : decode cX11_areDigitsOfSide 1 = .ok (.iconst 1, 1) := by decide +kernel
theorem dX11_areDigitsOfSide_2 : decode cX11_areDigitsOfSide 2 = .ok (.iand, 1) := by decide +kernel
theorem dX11_areDigitsOfSide_3 : decode cX11_areDigitsOfSide 3 = .ok (.iconst 1, 1) := by decide +kernel
theorem dX11_areDigitsOfSide_4 : decode cX11_areDigitsOfSide 4 = .ok (.iload_n 1, 1) := by decide +kernel
theorem dX11_areDigitsOfSide_5 : decode cX11_areDigitsOfSide 5 = .ok (.isub, 1) := by decide +kernel
theorem dX11_areDigitsOfSide_6 : decode cX11_areDigitsOfSide 6 = .ok (.if_icmp .ne 7, 3) := by decide +kernel
theorem dX11_areDigitsOfSide_9 : decode cX11_areDigitsOfSide 9 = .ok (.iconst 1, 1) := by decide +kernel
theorem dX11_areDigitsOfSide_10 : decode cX11_areDigitsOfSide 10 = .ok (.goto 4, 3) := by decide +kernel
theorem dX11_digitsByPaces_0 : decode cX11_digitsByPaces 0 = .ok (.iconst 2, 1) := by decide +kernel
theorem dX11_digitsByPaces_1 : decode cX11_digitsByPaces 1 = .ok (.iload_n 1, 1) := by decide +kernel
theorem dX11_digitsByPaces_2 : decode cX11_digitsByPaces 2 = .ok (.bipush 10, 2) := by decide +kernel
theorem dX11_digitsByPaces_4 : decode cX11_digitsByPaces 4 = .ok (.idiv, 1) := by decide +kernel
theorem dX11_digitsByPaces_5 : decode cX11_digitsByPaces 5 = .ok (.imul, 1) := by decide +kernel
theorem dX11_digitsByPaces_6 : decode cX11_digitsByPaces 6 = .ok (.iconst 1, 1) := by decide +kernel
theorem dX11_digitsByPaces_7 : decode cX11_digitsByPaces 7 = .ok (.iadd, 1) := by decide +kernel
theorem dX11_digitsByPaces_8 : decode cX11_digitsByPaces 8 = .ok (.iload_n 0, 1) := by decide +kernel
theorem dX11_digitsByPaces_9 : decode cX11_digitsByPaces 9 = .ok (.iadd, 1) := by decide +kernel
theorem dX11_digitsByPaces_10 : decode cX11_digitsByPaces 10 = .ok (.ireturn, 1) := by decide +kernel
theorem dX9_indexOf_28 : decode cX9_indexOf 28 = .ok (.iconst (-1), 1) := by decide +kernel
theorem dX9_indexOf_29 : decode cX9_indexOf 29 = .ok (.ireturn, 1) := by decide +kernel
theorem dX9_indexOf_22 : decode cX9_indexOf 22 = .ok (.iinc 2 1, 3) := by decide +kernel
theorem dX9_indexOf_25 : decode cX9_indexOf 25 = .ok (.goto (-23), 3) := by decide +kernel
theorem dX9_indexOf_2 : decode cX9_indexOf 2 = .ok (.iload_n 2, 1) := by decide +kernel
theorem dX9_indexOf_3 : decode cX9_indexOf 3 = .ok (.aload_n 0, 1) := by decide +kernel
theorem dX9_indexOf_4 : decode cX9_indexOf 4 = .ok (.getfield 30, 3) := by decide +kernel
theorem dX9_indexOf_7 : decode cX9_indexOf 7 = .ok (.if_icmp .ge 21, 3) := by decide +kernel
theorem dX9_indexOf_10 : decode cX9_indexOf 10 = .ok (.aload_n 0, 1) := by decide +kernel
theorem dX9_indexOf_11 : decode cX9_indexOf 11 = .ok (.getfield 18, 3) := by decide +kernel
theorem dX9_indexOf_14 : decode cX9_indexOf 14 = .ok (.iload_n 2, 1) := by decide +kernel
theorem dX9_indexOf_15 : decode cX9_indexOf 15 = .ok (.iaload, 1) := by decide +kernel
theorem dX9_indexOf_16 : decode cX9_indexOf 16 = .ok (.iload_n 1, 1) := by decide +kernel
theorem dX9_indexOf_17 : decode cX9_indexOf 17 = .ok (.if_icmp .ne 5, 3) := by decide +kernel
theorem dX9_indexOf_20 : decode cX9_indexOf 20 = .ok (.iload_n 2, 1) := by decide +kernel
theorem dX9_indexOf_21 : decode cX9_indexOf 21 = .ok (.ireturn, 1) := by decide +kernel
theorem dX9_indexOf_0 : decode cX9_indexOf 0 = .ok (.iconst 0, 1) := by decide +kernel
theorem dX9_indexOf_1 : decode cX9_indexOf 1 = .ok (.istore_n 2, 1) := by decide +kernel
theorem dX9_isFreeByRule_58 : decode cX9_isFreeByRule 58 = .ok (.ireturn, 1) := by decide +kernel
theorem dX9_isFreeByRule_57 : decode cX9_isFreeByRule 57 = .ok (.iconst 0, 1) := by decide +kernel
theorem dX9_isFreeByRule_44 : decode cX9_isFreeByRule 44 = .ok (.aload_n 0, 1) := by decide +kernel
theorem dX9_isFreeByRule_45 : decode cX9_isFreeByRule 45 = .ok (.iload_n 1, 1) := by decide +kernel
theorem dX9_isFreeByRule_46 : decode cX9_isFreeByRule 46 = .ok (.invokevirtual 132, 3) := by decide +kernel
theorem dX9_isFreeByRule_49 : decode cX9_isFreeByRule 49 = .ok (.iconst (-1), 1) := by decide +kernel
theorem dX9_isFreeByRule_50 : decode cX9_isFreeByRule 50 = .ok (.if_icmp .ne 7, 3) := by decide +kernel
theorem dX9_isFreeByRule_53 : decode cX9_isFreeByRule 53 = .ok (.iconst 1, 1) := by decide +kernel
theorem dX9_isFreeByRule_54 : decode cX9_isFreeByRule 54 = .ok (.goto 4, 3) := by decide +kernel
theorem dX9_isFreeByRule_24 : decode cX9_isFreeByRule 24 = .ok (.aload_n 0, 1) := by decide +kernel
theorem dX9_isFreeByRule_25 : decode cX9_isFreeByRule 25 = .ok (.getfield 46, 3) := by decide +kernel
theorem dX9_isFreeByRule_28 : decode cX9_isFreeByRule 28 = .ok (.iconst 2, 1) := by decide +kernel
theorem dX9_isFreeByRule_29 : decode cX9_isFreeByRule 29 = .ok (.if_icmp .ne 15, 3) := by decide +kernel
theorem dX9_isFreeByRule_32 : decode cX9_isFreeByRule 32 = .ok (.iload 4, 2) := by decide +kernel
theorem dX9_isFreeByRule_34 : decode cX9_isFreeByRule 34 = .ok (.iload_n 2, 1) := by decide +kernel
theorem dX9_isFreeByRule_35 : decode cX9_isFreeByRule 35 = .ok (.iload_n 3, 1) := by decide +kernel
theorem dX9_isFreeByRule_36 : decode cX9_isFreeByRule 36 = .ok (.invokestatic 123, 3) := by decide +kernel
theorem dX9_isFreeByRule_39 : decode cX9_isFreeByRule 39 = .ok (.if_icmp .eq 5, 3) := by decide +kernel
theorem dX9_isFreeByRule_42 : decode cX9_isFreeByRule 42 = .ok (.iconst 0, 1) := by decide +kernel
theorem dX9_isFreeByRule_43 : decode cX9_isFreeByRule 43 = .ok (.ireturn, 1) := by decide +kernel
theorem dX9_isFreeByRule_0 : decode cX9_isFreeByRule 0 = .ok (.iload_n 1, 1) := by decide +kernel
theorem dX9_isFreeByRule_1 : decode cX9_isFreeByRule 1 = .ok (.bipush 16, 2) := by decide +kernel
theorem dX9_isFreeByRule_3 : decode cX9_isFreeByRule 3 = .ok (.idiv, 1) := by decide +kernel
theorem dX9_isFreeByRule_4 : decode cX9_isFreeByRule 4 = .ok (.istore 4, 2) := by decide +kernel
theorem dX9_isFreeByRule_6 : decode cX9_isFreeByRule 6 = .ok (.aload_n 0, 1) := by decide +kernel
theorem dX9_isFreeByRule_7 : decode cX9_isFreeByRule 7 = .ok (.getfield 46, 3) := by decide +kernel
theorem dX9_isFreeByRule_10 : decode cX9_isFreeByRule 10 = .ok (.ifCond .ne 14, 3) := by decide +kernel
theorem dX9_isFreeByRule_13 : decode cX9_isFreeByRule 13 = .ok (.iload 4, 2) := by decide +kernel
theorem dX9_isFreeByRule_15 : decode cX9_isFreeByRule 15 = .ok (.iload_n 2, 1) := by decide +kernel
theorem dX9_isFreeByRule_16 : decode cX9_isFreeByRule 16 = .ok (.invokestatic 129, 3) := by decide +kernel
theorem dX9_isFreeByRule_19 : decode cX9_isFreeByRule 19 = .ok (.ifCond .ne 5, 3) := by decide +kernel
theorem dX9_isFreeByRule_22 : decode cX9_isFreeByRule 22 = .ok (.iconst 0, 1) := by decide +kernel
theorem dX9_isFreeByRule_23 : decode cX9_isFreeByRule 23 = .ok (.ireturn, 1) := by decide +kernel
theorem dX9_fittingNumber_184 : decode cX9_fittingNumber 184 = .ok (.iconst (-1), 1) := by decide +kernel
theorem dX9_fittingNumber_185 : decode cX9_fittingNumber 185 = .ok (.ireturn, 1) := by decide +kernel
theorem dX9_fittingNumber_178 : decode cX9_fittingNumber 178 = .ok (.iinc 9 1, 3) := by decide +kernel
theorem dX9_fittingNumber_181 : decode cX9_fittingNumber 181 = .ok (.goto (-69), 3) := by decide +kernel
theorem dX9_fittingNumber_172 : decode cX9_fittingNumber 172 = .ok (.iinc 10 1, 3) := by decide +kernel
theorem dX9_fittingNumber_175 : decode cX9_fittingNumber 175 = .ok (.goto (-48), 3) := by decide +kernel
theorem dX9_fittingNumber_127 : decode cX9_fittingNumber 127 = .ok (.iload 10, 2) := by decide +kernel
theorem dX9_fittingNumber_129 : decode cX9_fittingNumber 129 = .ok (.iload 8, 2) := by decide +kernel
theorem dX9_fittingNumber_131 : decode cX9_fittingNumber 131 = .ok (.if_icmp .gt 47, 3) := by decide +kernel
theorem dX9_fittingNumber_134 : decode cX9_fittingNumber 134 = .ok (.bipush 16, 2) := by decide +kernel
theorem dX9_fittingNumber_136 : decode cX9_fittingNumber 136 = .ok (.iload 10, 2) := by decide +kernel
theorem dX9_fittingNumber_138 : decode cX9_fittingNumber 138 = .ok (.imul, 1) := by decide +kernel
theorem dX9_fittingNumber_139 : decode cX9_fittingNumber 139 = .ok (.iload 9, 2) := by decide +kernel
theorem dX9_fittingNumber_141 : decode cX9_fittingNumber 141 = .ok (.iadd, 1) := by decide +kernel
theorem dX9_fittingNumber_142 : decode cX9_fittingNumber 142 = .ok (.istore 11, 2) := by decide +kernel
theorem dX9_fittingNumber_144 : decode cX9_fittingNumber 144 = .ok (.iload 11, 2) := by decide +kernel
theorem dX9_fittingNumber_146 : decode cX9_fittingNumber 146 = .ok (.iload 5, 2) := by decide +kernel
theorem dX9_fittingNumber_148 : decode cX9_fittingNumber 148 = .ok (.if_icmp .le 24, 3) := by decide +kernel
theorem dX9_fittingNumber_151 : decode cX9_fittingNumber 151 = .ok (.iload 11, 2) := by decide +kernel
theorem dX9_fittingNumber_153 : decode cX9_fittingNumber 153 = .ok (.iload 6, 2) := by decide +kernel
theorem dX9_fittingNumber_155 : decode cX9_fittingNumber 155 = .ok (.if_icmp .ge 17, 3) := by decide +kernel
theorem dX9_fittingNumber_158 : decode cX9_fittingNumber 158 = .ok (.aload_n 0, 1) := by decide +kernel
theorem dX9_fittingNumber_159 : decode cX9_fittingNumber 159 = .ok (.iload 11, 2) := by decide +kernel
theorem dX9_fittingNumber_161 : decode cX9_fittingNumber 161 = .ok (.iload_n 1, 1) := by decide +kernel
theorem dX9_fittingNumber_162 : decode cX9_fittingNumber 162 = .ok (.iload_n 2, 1) := by decide +kernel
theorem dX9_fittingNumber_163 : decode cX9_fittingNumber 163 = .ok (.invokevirtual 115, 3) := by decide +kernel
theorem dX9_fittingNumber_166 : decode cX9_fittingNumber 166 = .ok (.ifCond .eq 6, 3) := by decide +kernel
theorem dX9_fittingNumber_169 : decode cX9_fittingNumber 169 = .ok (.iload 11, 2) := by decide +kernel
theorem dX9_fittingNumber_171 : decode cX9_fittingNumber 171 = .ok (.ireturn, 1) := by decide +kernel
theorem dX9_fittingNumber_112 : decode cX9_fittingNumber 112 = .ok (.iload 9, 2) := by decide +kernel
theorem dX9_fittingNumber_114 : decode cX9_fittingNumber 114 = .ok (.bipush 9, 2) := by decide +kernel
theorem dX9_fittingNumber_116 : decode cX9_fittingNumber 116 = .ok (.if_icmp .gt 68, 3) := by decide +kernel
theorem dX9_fittingNumber_119 : decode cX9_fittingNumber 119 = .ok (.iconst 1, 1) := by decide +kernel
theorem dX9_fittingNumber_120 : decode cX9_fittingNumber 120 = .ok (.iload 7, 2) := by decide +kernel
theorem dX9_fittingNumber_122 : decode cX9_fittingNumber 122 = .ok (.invokestatic 126, 3) := by decide +kernel
theorem dX9_fittingNumber_125 : decode cX9_fittingNumber 125 = .ok (.istore 10, 2) := by decide +kernel
theorem dX9_fittingNumber_109 : decode cX9_fittingNumber 109 = .ok (.iconst 0, 1) := by decide +kernel
theorem dX9_fittingNumber_110 : decode cX9_fittingNumber 110 = .ok (.istore 9, 2) := by decide +kernel
theorem dX9_fittingNumber_70 : decode cX9_fittingNumber 70 = .ok (.iload 5, 2) := by decide +kernel
theorem dX9_fittingNumber_72 : decode cX9_fittingNumber 72 = .ok (.bipush 16, 2) := by decide +kernel
theorem dX9_fittingNumber_74 : decode cX9_fittingNumber 74 = .ok (.idiv, 1) := by decide +kernel
theorem dX9_fittingNumber_75 : decode cX9_fittingNumber 75 = .ok (.istore 7, 2) := by decide +kernel
theorem dX9_fittingNumber_77 : decode cX9_fittingNumber 77 = .ok (.sipush 9999, 3) := by decide +kernel
theorem dX9_fittingNumber_80 : decode cX9_fittingNumber 80 = .ok (.iload 6, 2) := by decide +kernel
theorem dX9_fittingNumber_82 : decode cX9_fittingNumber 82 = .ok (.bipush 16, 2) := by decide +kernel
theorem dX9_fittingNumber_84 : decode cX9_fittingNumber 84 = .ok (.idiv, 1) := by decide +kernel
theorem dX9_fittingNumber_85 : decode cX9_fittingNumber 85 = .ok (.invokestatic 118, 3) := by decide +kernel
theorem dX9_fittingNumber_88 : decode cX9_fittingNumber 88 = .ok (.istore 8, 2) := by decide +kernel
theorem dX9_fittingNumber_90 : decode cX9_fittingNumber 90 = .ok (.aload_n 0, 1) := by decide +kernel
theorem dX9_fittingNumber_91 : decode cX9_fittingNumber 91 = .ok (.getfield 46, 3) := by decide +kernel
theorem dX9_fittingNumber_94 : decode cX9_fittingNumber 94 = .ok (.iconst 2, 1) := by decide +kernel
theorem dX9_fittingNumber_95 : decode cX9_fittingNumber 95 = .ok (.if_icmp .ne 14, 3) := by decide +kernel
theorem dX9_fittingNumber_98 : decode cX9_fittingNumber 98 = .ok (.iload_n 1, 1) := by decide +kernel
theorem dX9_fittingNumber_99 : decode cX9_fittingNumber 99 = .ok (.iload_n 2, 1) := by decide +kernel
theorem dX9_fittingNumber_100 : decode cX9_fittingNumber 100 = .ok (.invokestatic 123, 3) := by decide +kernel
theorem dX9_fittingNumber_103 : decode cX9_fittingNumber 103 = .ok (.istore 7, 2) := by decide +kernel
theorem dX9_fittingNumber_105 : decode cX9_fittingNumber 105 = .ok (.iload 7, 2) := by decide +kernel
theorem dX9_fittingNumber_107 : decode cX9_fittingNumber 107 = .ok (.istore 8, 2) := by decide +kernel
theorem dX9_fittingNumber_69 : decode cX9_fittingNumber 69 = .ok (.ireturn, 1) := by decide +kernel
theorem dX9_fittingNumber_68 : decode cX9_fittingNumber 68 = .ok (.iconst (-1), 1) := by decide +kernel
theorem dX9_fittingNumber_57 : decode cX9_fittingNumber 57 = .ok (.istore 7, 2) := by decide +kernel
theorem dX9_fittingNumber_59 : decode cX9_fittingNumber 59 = .ok (.iload 7, 2) := by decide +kernel
theorem dX9_fittingNumber_61 : decode cX9_fittingNumber 61 = .ok (.ifCond .eq 7, 3) := by decide +kernel
theorem dX9_fittingNumber_64 : decode cX9_fittingNumber 64 = .ok (.iload_n 3, 1) := by decide +kernel
theorem dX9_fittingNumber_65 : decode cX9_fittingNumber 65 = .ok (.goto 4, 3) := by decide +kernel
theorem dX9_fittingNumber_56 : decode cX9_fittingNumber 56 = .ok (.iconst 0, 1) := by decide +kernel
theorem dX9_fittingNumber_0 : decode cX9_fittingNumber 0 = .ok (.aload_n 0, 1) := by decide +kernel
theorem dX9_fittingNumber_1 : decode cX9_fittingNumber 1 = .ok (.iload_n 1, 1) := by decide +kernel
theorem dX9_fittingNumber_2 : decode cX9_fittingNumber 2 = .ok (.iload_n 2, 1) := by decide +kernel
theorem dX9_fittingNumber_3 : decode cX9_fittingNumber 3 = .ok (.invokevirtual 96, 3) := by decide +kernel
theorem dX9_fittingNumber_6 : decode cX9_fittingNumber 6 = .ok (.istore 4, 2) := by decide +kernel
theorem dX9_fittingNumber_8 : decode cX9_fittingNumber 8 = .ok (.aload_n 0, 1) := by decide +kernel
theorem dX9_fittingNumber_9 : decode cX9_fittingNumber 9 = .ok (.iload_n 1, 1) := by decide +kernel
theorem dX9_fittingNumber_10 : decode cX9_fittingNumber 10 = .ok (.iload 4, 2) := by decide +kernel
theorem dX9_fittingNumber_12 : decode cX9_fittingNumber 12 = .ok (.invokevirtual 109, 3) := by decide +kernel
theorem dX9_fittingNumber_15 : decode cX9_fittingNumber 15 = .ok (.istore 5, 2) := by decide +kernel
theorem dX9_fittingNumber_17 : decode cX9_fittingNumber 17 = .ok (.aload_n 0, 1) := by decide +kernel
theorem dX9_fittingNumber_18 : decode cX9_fittingNumber 18 = .ok (.iload_n 1, 1) := by decide +kernel
theorem dX9_fittingNumber_19 : decode cX9_fittingNumber 19 = .ok (.iload 4, 2) := by decide +kernel
theorem dX9_fittingNumber_21 : decode cX9_fittingNumber 21 = .ok (.invokevirtual 112, 3) := by decide +kernel
theorem dX9_fittingNumber_24 : decode cX9_fittingNumber 24 = .ok (.istore 6, 2) := by decide +kernel
theorem dX9_fittingNumber_26 : decode cX9_fittingNumber 26 = .ok (.iload_n 3, 1) := by decide +kernel
theorem dX9_fittingNumber_27 : decode cX9_fittingNumber 27 = .ok (.ifCond .eq 43, 3) := by decide +kernel
theorem dX9_fittingNumber_30 : decode cX9_fittingNumber 30 = .ok (.iload_n 3, 1) := by decide +kernel
theorem dX9_fittingNumber_31 : decode cX9_fittingNumber 31 = .ok (.iload 5, 2) := by decide +kernel
theorem dX9_fittingNumber_33 : decode cX9_fittingNumber 33 = .ok (.if_icmp .le 23, 3) := by decide +kernel
theorem dX9_fittingNumber_36 : decode cX9_fittingNumber 36 = .ok (.iload_n 3, 1) := by decide +kernel
theorem dX9_fittingNumber_37 : decode cX9_fittingNumber 37 = .ok (.iload 6, 2) := by decide +kernel
theorem dX9_fittingNumber_39 : decode cX9_fittingNumber 39 = .ok (.if_icmp .ge 17, 3) := by decide +kernel
theorem dX9_fittingNumber_42 : decode cX9_fittingNumber 42 = .ok (.aload_n 0, 1) := by decide +kernel
theorem dX9_fittingNumber_43 : decode cX9_fittingNumber 43 = .ok (.iload_n 3, 1) := by decide +kernel
theorem dX9_fittingNumber_44 : decode cX9_fittingNumber 44 = .ok (.iload_n 1, 1) := by decide +kernel
theorem dX9_fittingNumber_45 : decode cX9_fittingNumber 45 = .ok (.iload_n 2, 1) := by decide +kernel
theorem dX9_fittingNumber_46 : decode cX9_fittingNumber 46 = .ok (.invokevirtual 115, 3) := by decide +kernel
theorem dX9_fittingNumber_49 : decode cX9_fittingNumber 49 = .ok (.ifCond .eq 7, 3) := by decide +kernel
theorem dX9_fittingNumber_52 : decode cX9_fittingNumber 52 = .ok (.iconst 1, 1) := by decide +kernel
theorem dX9_fittingNumber_53 : decode cX9_fittingNumber 53 = .ok (.goto 4, 3) := by decide +kernel
theorem dX9_hasDoorAt_38 : decode cX9_hasDoorAt 38 = .ok (.iconst 0, 1) := by decide +kernel
theorem dX9_hasDoorAt_39 : decode cX9_hasDoorAt 39 = .ok (.ireturn, 1) := by decide +kernel
theorem dX9_hasDoorAt_32 : decode cX9_hasDoorAt 32 = .ok (.iinc 3 1, 3) := by decide +kernel
theorem dX9_hasDoorAt_35 : decode cX9_hasDoorAt 35 = .ok (.goto (-33), 3) := by decide +kernel
theorem dX9_hasDoorAt_2 : decode cX9_hasDoorAt 2 = .ok (.iload_n 3, 1) := by decide +kernel
theorem dX9_hasDoorAt_3 : decode cX9_hasDoorAt 3 = .ok (.aload_n 0, 1) := by decide +kernel
theorem dX9_hasDoorAt_4 : decode cX9_hasDoorAt 4 = .ok (.getfield 30, 3) := by decide +kernel
theorem dX9_hasDoorAt_7 : decode cX9_hasDoorAt 7 = .ok (.if_icmp .ge 31, 3) := by decide +kernel
theorem dX9_hasDoorAt_10 : decode cX9_hasDoorAt 10 = .ok (.aload_n 0, 1) := by decide +kernel
theorem dX9_hasDoorAt_11 : decode cX9_hasDoorAt 11 = .ok (.getfield 21, 3) := by decide +kernel
theorem dX9_hasDoorAt_14 : decode cX9_hasDoorAt 14 = .ok (.iload_n 3, 1) := by decide +kernel
theorem dX9_hasDoorAt_15 : decode cX9_hasDoorAt 15 = .ok (.iaload, 1) := by decide +kernel
theorem dX9_hasDoorAt_16 : decode cX9_hasDoorAt 16 = .ok (.iload_n 1, 1) := by decide +kernel
theorem dX9_hasDoorAt_17 : decode cX9_hasDoorAt 17 = .ok (.if_icmp .ne 15, 3) := by decide +kernel
theorem dX9_hasDoorAt_20 : decode cX9_hasDoorAt 20 = .ok (.aload_n 0, 1) := by decide +kernel
theorem dX9_hasDoorAt_21 : decode cX9_hasDoorAt 21 = .ok (.getfield 24, 3) := by decide +kernel
theorem dX9_hasDoorAt_24 : decode cX9_hasDoorAt 24 = .ok (.iload_n 3, 1) := by decide +kernel
theorem dX9_hasDoorAt_25 : decode cX9_hasDoorAt 25 = .ok (.iaload, 1) := by decide +kernel
theorem dX9_hasDoorAt_26 : decode cX9_hasDoorAt 26 = .ok (.iload_n 2, 1) := by decide +kernel
theorem dX9_hasDoorAt_27 : decode cX9_hasDoorAt 27 = .ok (.if_icmp .ne 5, 3) := by decide +kernel
theorem dX9_hasDoorAt_30 : decode cX9_hasDoorAt 30 = .ok (.iconst 1, 1) := by decide +kernel
theorem dX9_hasDoorAt_31 : decode cX9_hasDoorAt 31 = .ok (.ireturn, 1) := by decide +kernel
theorem dX9_hasDoorAt_0 : decode cX9_hasDoorAt 0 = .ok (.iconst 0, 1) := by decide +kernel
theorem dX9_hasDoorAt_1 : decode cX9_hasDoorAt 1 = .ok (.istore_n 3, 1) := by decide +kernel
theorem dX11_fittingNumber_68 : decode cX11_fittingNumber 68 = .ok (.ireturn, 1) := by decide +kernel
theorem dX11_fittingNumber_66 : decode cX11_fittingNumber 66 = .ok (.iload 5, 2) := by decide +kernel
theorem dX11_fittingNumber_49 : decode cX11_fittingNumber 49 = .ok (.aload_n 0, 1) := by decide +kernel
theorem dX11_fittingNumber_50 : decode cX11_fittingNumber 50 = .ok (.getfield 40, 3) := by decide +kernel
theorem dX11_fittingNumber_53 : decode cX11_fittingNumber 53 = .ok (.iload_n 2, 1) := by decide +kernel
theorem dX11_fittingNumber_54 : decode cX11_fittingNumber 54 = .ok (.iload_n 3, 1) := by decide +kernel
theorem dX11_fittingNumber_55 : decode cX11_fittingNumber 55 = .ok (.invokevirtual 538, 3) := by decide +kernel
theorem dX11_fittingNumber_58 : decode cX11_fittingNumber 58 = .ok (.ifCond .eq 8, 3) := by decide +kernel
theorem dX11_fittingNumber_61 : decode cX11_fittingNumber 61 = .ok (.bipush (-5), 2) := by decide +kernel
theorem dX11_fittingNumber_63 : decode cX11_fittingNumber 63 = .ok (.goto 5, 3) := by decide +kernel
theorem dX11_fittingNumber_0 : decode cX11_fittingNumber 0 = .ok (.aload_n 0, 1) := by decide +kernel
theorem dX11_fittingNumber_1 : decode cX11_fittingNumber 1 = .ok (.getfield 40, 3) := by decide +kernel
theorem dX11_fittingNumber_4 : decode cX11_fittingNumber 4 = .ok (.aload_n 0, 1) := by decide +kernel
theorem dX11_fittingNumber_5 : decode cX11_fittingNumber 5 = .ok (.getfield 22, 3) := by decide +kernel
theorem dX11_fittingNumber_8 : decode cX11_fittingNumber 8 = .ok (.iload_n 1, 1) := by decide +kernel
theorem dX11_fittingNumber_9 : decode cX11_fittingNumber 9 = .ok (.iconst (-1), 1) := by decide +kernel
theorem dX11_fittingNumber_10 : decode cX11_fittingNumber 10 = .ok (.aload_n 0, 1) := by decide +kernel
theorem dX11_fittingNumber_11 : decode cX11_fittingNumber 11 = .ok (.getfield 22, 3) := by decide +kernel
theorem dX11_fittingNumber_14 : decode cX11_fittingNumber 14 = .ok (.getfield 89, 3) := by decide +kernel
theorem dX11_fittingNumber_17 : decode cX11_fittingNumber 17 = .ok (.iload_n 1, 1) := by decide +kernel
theorem dX11_fittingNumber_18 : decode cX11_fittingNumber 18 = .ok (.invokevirtual 273, 3) := by decide +kernel
theorem dX11_fittingNumber_21 : decode cX11_fittingNumber 21 = .ok (.invokestatic 253, 3) := by decide +kernel
theorem dX11_fittingNumber_24 : decode cX11_fittingNumber 24 = .ok (.invokevirtual 256, 3) := by decide +kernel
theorem dX11_fittingNumber_27 : decode cX11_fittingNumber 27 = .ok (.aload_n 0, 1) := by decide +kernel
theorem dX11_fittingNumber_28 : decode cX11_fittingNumber 28 = .ok (.getfield 40, 3) := by decide +kernel
theorem dX11_fittingNumber_31 : decode cX11_fittingNumber 31 = .ok (.iload_n 2, 1) := by decide +kernel
theorem dX11_fittingNumber_32 : decode cX11_fittingNumber 32 = .ok (.iload_n 3, 1) := by decide +kernel
theorem dX11_fittingNumber_33 : decode cX11_fittingNumber 33 = .ok (.iload 4, 2) := by decide +kernel
theorem dX11_fittingNumber_35 : decode cX11_fittingNumber 35 = .ok (.invokevirtual 536, 3) := by decide +kernel
theorem dX11_fittingNumber_38 : decode cX11_fittingNumber 38 = .ok (.istore 5, 2) := by decide +kernel
theorem dX11_fittingNumber_40 : decode cX11_fittingNumber 40 = .ok (.iload 5, 2) := by decide +kernel
theorem dX11_fittingNumber_42 : decode cX11_fittingNumber 42 = .ok (.iconst (-1), 1) := by decide +kernel
theorem dX11_fittingNumber_43 : decode cX11_fittingNumber 43 = .ok (.if_icmp .ne 6, 3) := by decide +kernel
theorem dX11_fittingNumber_46 : decode cX11_fittingNumber 46 = .ok (.bipush (-4), 2) := by decide +kernel
theorem dX11_fittingNumber_48 : decode cX11_fittingNumber 48 = .ok (.ireturn, 1) := by decide +kernel
theorem dX5_hasRoomForNumbers_30 : decode cX5_hasRoomForNumbers 30 = .ok (.ireturn, 1) := by decide +kernel
theorem dX5_hasRoomForNumbers_29 : decode cX5_hasRoomForNumbers 29 = .ok (.iconst 0, 1) := by decide +kernel
theorem dX5_hasRoomForNumbers_0 : decode cX5_hasRoomForNumbers 0 = .ok (.aload_n 0, 1) := by decide +kernel
theorem dX5_hasRoomForNumbers_1 : decode cX5_hasRoomForNumbers 1 = .ok (.getfield 12, 3) := by decide +kernel
theorem dX5_hasRoomForNumbers_4 : decode cX5_hasRoomForNumbers 4 = .ok (.invokevirtual 82, 3) := by decide +kernel
theorem dX5_hasRoomForNumbers_7 : decode cX5_hasRoomForNumbers 7 = .ok (.ifCond .eq 22, 3) := by decide +kernel
theorem dX5_hasRoomForNumbers_10 : decode cX5_hasRoomForNumbers 10 = .ok (.aload_n 0, 1) := by decide +kernel
theorem dX5_hasRoomForNumbers_11 : decode cX5_hasRoomForNumbers 11 = .ok (.getfield 21, 3) := by decide +kernel
theorem dX5_hasRoomForNumbers_14 : decode cX5_hasRoomForNumbers 14 = .ok (.getfield 86, 3) := by decide +kernel
theorem dX5_hasRoomForNumbers_17 : decode cX5_hasRoomForNumbers 17 = .ok (.iload_n 1, 1) := by decide +kernel
theorem dX5_hasRoomForNumbers_18 : decode cX5_hasRoomForNumbers 18 = .ok (.iadd, 1) := by decide +kernel
theorem dX5_hasRoomForNumbers_19 : decode cX5_hasRoomForNumbers 19 = .ok (.sipush 3000, 3) := by decide +kernel
theorem dX5_hasRoomForNumbers_22 : decode cX5_hasRoomForNumbers 22 = .ok (.if_icmp .gt 7, 3) := by decide +kernel
theorem dX5_hasRoomForNumbers_25 : decode cX5_hasRoomForNumbers 25 = .ok (.iconst 1, 1) := by decide +kernel
theorem dX5_hasRoomForNumbers_26 : decode cX5_hasRoomForNumbers 26 = .ok (.goto 4, 3) := by decide +kernel
theorem dX2_isDoor_17 : decode cX2_isDoor 17 = .ok (.ireturn, 1) := by decide +kernel
theorem dX2_isDoor_16 : decode cX2_isDoor 16 = .ok (.iconst 0, 1) := by decide +kernel
theorem dX2_isDoor_0 : decode cX2_isDoor 0 = .ok (.iload_n 1, 1) := by decide +kernel
theorem dX2_isDoor_1 : decode cX2_isDoor 1 = .ok (.ifCond .lt 15, 3) := by decide +kernel
theorem dX2_isDoor_4 : decode cX2_isDoor 4 = .ok (.iload_n 1, 1) := by decide +kernel
theorem dX2_isDoor_5 : decode cX2_isDoor 5 = .ok (.aload_n 0, 1) := by decide +kernel
theorem dX2_isDoor_6 : decode cX2_isDoor 6 = .ok (.getfield 42, 3) := by decide +kernel
theorem dX2_isDoor_9 : decode cX2_isDoor 9 = .ok (.if_icmp .ge 7, 3) := by decide +kernel
theorem dX2_isDoor_12 : decode cX2_isDoor 12 = .ok (.iconst 1, 1) := by decide +kernel
theorem dX2_isDoor_13 : decode cX2_isDoor 13 = .ok (.goto 4, 3) := by decide +kernel
theorem dX2_setPlace_33 : decode cX2_setPlace 33 = .ok (.return_, 1) := by decide +kernel
theorem dX2_setPlace_0 : decode cX2_setPlace 0 = .ok (.iload_n 1, 1) := by decide +kernel
theorem dX2_setPlace_1 : decode cX2_setPlace 1 = .ok (.ifCond .lt 32, 3) := by decide +kernel
theorem dX2_setPlace_4 : decode cX2_setPlace 4 = .ok (.iload_n 1, 1) := by decide +kernel
theorem dX2_setPlace_5 : decode cX2_setPlace 5 = .ok (.sipush 200, 3) := by decide +kernel
theorem dX2_setPlace_8 : decode cX2_setPlace 8 = .ok (.if_icmp .ge 25, 3) := by decide +kernel
theorem dX2_setPlace_11 : decode cX2_setPlace 11 = .ok (.aload_n 0, 1) := by decide +kernel
theorem dX2_setPlace_12 : decode cX2_setPlace 12 = .ok (.getfield 33, 3) := by decide +kernel
theorem dX2_setPlace_15 : decode cX2_setPlace 15 = .ok (.iload_n 1, 1) := by decide +kernel
theorem dX2_setPlace_16 : decode cX2_setPlace 16 = .ok (.iload_n 2, 1) := by decide +kernel
theorem dX2_setPlace_17 : decode cX2_setPlace 17 = .ok (.iastore, 1) := by decide +kernel
theorem dX2_setPlace_18 : decode cX2_setPlace 18 = .ok (.aload_n 0, 1) := by decide +kernel
theorem dX2_setPlace_19 : decode cX2_setPlace 19 = .ok (.getfield 36, 3) := by decide +kernel
theorem dX2_setPlace_22 : decode cX2_setPlace 22 = .ok (.iload_n 1, 1) := by decide +kernel
theorem dX2_setPlace_23 : decode cX2_setPlace 23 = .ok (.iload_n 3, 1) := by decide +kernel
theorem dX2_setPlace_24 : decode cX2_setPlace 24 = .ok (.iastore, 1) := by decide +kernel
theorem dX2_setPlace_25 : decode cX2_setPlace 25 = .ok (.aload_n 0, 1) := by decide +kernel
theorem dX2_setPlace_26 : decode cX2_setPlace 26 = .ok (.getfield 39, 3) := by decide +kernel
theorem dX2_setPlace_29 : decode cX2_setPlace 29 = .ok (.iload_n 1, 1) := by decide +kernel
theorem dX2_setPlace_30 : decode cX2_setPlace 30 = .ok (.iload 4, 2) := by decide +kernel
theorem dX2_setPlace_32 : decode cX2_setPlace 32 = .ok (.iastore, 1) := by decide +kernel
theorem dX2_add_68 : decode cX2_add 68 = .ok (.iastore, 1) := by decide +kernel
theorem dX2_add_69 : decode cX2_add 69 = .ok (.aload_n 0, 1) := by decide +kernel
theorem dX2_add_70 : decode cX2_add 70 = .ok (.getfield 21, 3) := by decide +kernel
theorem dX2_add_73 : decode cX2_add 73 = .ok (.iload 5, 2) := by decide +kernel
theorem dX2_add_75 : decode cX2_add 75 = .ok (.iload_n 3, 1) := by decide +kernel
theorem dX2_add_76 : decode cX2_add 76 = .ok (.iastore, 1) := by decide +kernel
theorem dX2_add_77 : decode cX2_add 77 = .ok (.aload_n 0, 1) := by decide +kernel
theorem dX2_add_78 : decode cX2_add 78 = .ok (.getfield 24, 3) := by decide +kernel
theorem dX2_add_81 : decode cX2_add 81 = .ok (.iload 5, 2) := by decide +kernel
theorem dX2_add_83 : decode cX2_add 83 = .ok (.iload 4, 2) := by decide +kernel
theorem dX2_add_85 : decode cX2_add 85 = .ok (.iastore, 1) := by decide +kernel
theorem dX2_add_86 : decode cX2_add 86 = .ok (.aload_n 0, 1) := by decide +kernel
theorem dX2_add_87 : decode cX2_add 87 = .ok (.getfield 27, 3) := by decide +kernel
theorem dX2_add_90 : decode cX2_add 90 = .ok (.iload 5, 2) := by decide +kernel
theorem dX2_add_92 : decode cX2_add 92 = .ok (.iconst (-1), 1) := by decide +kernel
theorem dX2_add_93 : decode cX2_add 93 = .ok (.iastore, 1) := by decide +kernel
theorem dX2_add_94 : decode cX2_add 94 = .ok (.aload_n 0, 1) := by decide +kernel
theorem dX2_add_95 : decode cX2_add 95 = .ok (.getfield 30, 3) := by decide +kernel
theorem dX2_add_98 : decode cX2_add 98 = .ok (.iload 5, 2) := by decide +kernel
theorem dX2_add_100 : decode cX2_add 100 = .ok (.iconst (-1), 1) := by decide +kernel
theorem dX2_add_101 : decode cX2_add 101 = .ok (.iastore, 1) := by decide +kernel
theorem dX2_add_102 : decode cX2_add 102 = .ok (.aload_n 0, 1) := by decide +kernel
theorem dX2_add_103 : decode cX2_add 103 = .ok (.iconst 2, 1) := by decide +kernel
theorem dX2_add_104 : decode cX2_add 104 = .ok (.iload 5, 2) := by decide +kernel
theorem dX2_add_106 : decode cX2_add 106 = .ok (.imul, 1) := by decide +kernel
theorem dX2_add_107 : decode cX2_add 107 = .ok (.iconst (-1), 1) := by decide +kernel
theorem dX2_add_108 : decode cX2_add 108 = .ok (.iconst (-1), 1) := by decide +kernel
theorem dX2_add_109 : decode cX2_add 109 = .ok (.iconst (-1), 1) := by decide +kernel
theorem dX2_add_110 : decode cX2_add 110 = .ok (.invokevirtual 62, 3) := by decide +kernel
theorem dX2_add_113 : decode cX2_add 113 = .ok (.aload_n 0, 1) := by decide +kernel
theorem dX2_add_114 : decode cX2_add 114 = .ok (.iconst 2, 1) := by decide +kernel
theorem dX2_add_115 : decode cX2_add 115 = .ok (.iload 5, 2) := by decide +kernel
theorem dX2_add_117 : decode cX2_add 117 = .ok (.imul, 1) := by decide +kernel
theorem dX2_add_118 : decode cX2_add 118 = .ok (.iconst 1, 1) := by decide +kernel
theorem dX2_add_119 : decode cX2_add 119 = .ok (.iadd, 1) := by decide +kernel
theorem dX2_add_120 : decode cX2_add 120 = .ok (.iconst (-1), 1) := by decide +kernel
theorem dX2_add_121 : decode cX2_add 121 = .ok (.iconst (-1), 1) := by decide +kernel
theorem dX2_add_122 : decode cX2_add 122 = .ok (.iconst (-1), 1) := by decide +kernel
theorem dX2_add_123 : decode cX2_add 123 = .ok (.invokevirtual 62, 3) := by decide +kernel
theorem dX2_add_126 : decode cX2_add 126 = .ok (.iload 5, 2) := by decide +kernel
theorem dX2_add_128 : decode cX2_add 128 = .ok (.ireturn, 1) := by decide +kernel
theorem dX2_add_66 : decode cX2_add 66 = .ok (.iload 5, 2) := by decide +kernel
theorem dX2_add_11 : decode cX2_add 11 = .ok (.aload_n 0, 1) := by decide +kernel
theorem dX2_add_12 : decode cX2_add 12 = .ok (.getfield 42, 3) := by decide +kernel
theorem dX2_add_15 : decode cX2_add 15 = .ok (.istore 5, 2) := by decide +kernel
theorem dX2_add_17 : decode cX2_add 17 = .ok (.aload_n 0, 1) := by decide +kernel
theorem dX2_add_18 : decode cX2_add 18 = .ok (.dup, 1) := by decide +kernel
theorem dX2_add_19 : decode cX2_add 19 = .ok (.getfield 42, 3) := by decide +kernel
theorem dX2_add_22 : decode cX2_add 22 = .ok (.iconst 1, 1) := by decide +kernel
theorem dX2_add_23 : decode cX2_add 23 = .ok (.iadd, 1) := by decide +kernel
theorem dX2_add_24 : decode cX2_add 24 = .ok (.putfield 42, 3) := by decide +kernel
theorem dX2_add_27 : decode cX2_add 27 = .ok (.aload_n 0, 1) := by decide +kernel
theorem dX2_add_28 : decode cX2_add 28 = .ok (.getfield 9, 3) := by decide +kernel
theorem dX2_add_31 : decode cX2_add 31 = .ok (.iload 5, 2) := by decide +kernel
theorem dX2_add_33 : decode cX2_add 33 = .ok (.iload_n 1, 1) := by decide +kernel
theorem dX2_add_34 : decode cX2_add 34 = .ok (.iastore, 1) := by decide +kernel
theorem dX2_add_35 : decode cX2_add 35 = .ok (.aload_n 0, 1) := by decide +kernel
theorem dX2_add_36 : decode cX2_add 36 = .ok (.getfield 15, 3) := by decide +kernel
theorem dX2_add_39 : decode cX2_add 39 = .ok (.iload 5, 2) := by decide +kernel
theorem dX2_add_41 : decode cX2_add 41 = .ok (.iload_n 2, 1) := by decide +kernel
theorem dX2_add_42 : decode cX2_add 42 = .ok (.iastore, 1) := by decide +kernel
theorem dX2_add_43 : decode cX2_add 43 = .ok (.aload_n 0, 1) := by decide +kernel
theorem dX2_add_44 : decode cX2_add 44 = .ok (.getfield 18, 3) := by decide +kernel
theorem dX2_add_47 : decode cX2_add 47 = .ok (.iload 5, 2) := by decide +kernel
theorem dX2_add_49 : decode cX2_add 49 = .ok (.aload_n 0, 1) := by decide +kernel
theorem dX2_add_50 : decode cX2_add 50 = .ok (.iload_n 2, 1) := by decide +kernel
theorem dX2_add_51 : decode cX2_add 51 = .ok (.invokevirtual 52, 3) := by decide +kernel
theorem dX2_add_54 : decode cX2_add 54 = .ok (.ifCond .eq 12, 3) := by decide +kernel
theorem dX2_add_57 : decode cX2_add 57 = .ok (.aload_n 0, 1) := by decide +kernel
theorem dX2_add_58 : decode cX2_add 58 = .ok (.getfield 18, 3) := by decide +kernel
theorem dX2_add_61 : decode cX2_add 61 = .ok (.iload_n 2, 1) := by decide +kernel
theorem dX2_add_62 : decode cX2_add 62 = .ok (.iaload, 1) := by decide +kernel
theorem dX2_add_63 : decode cX2_add 63 = .ok (.goto 5, 3) := by decide +kernel
theorem dX2_add_0 : decode cX2_add 0 = .ok (.aload_n 0, 1) := by decide +kernel
theorem dX2_add_1 : decode cX2_add 1 = .ok (.getfield 42, 3) := by decide +kernel
theorem dX2_add_4 : decode cX2_add 4 = .ok (.bipush 100, 2) := by decide +kernel
theorem dX2_add_6 : decode cX2_add 6 = .ok (.if_icmp .lt 5, 3) := by decide +kernel
theorem dX2_add_9 : decode cX2_add 9 = .ok (.iconst (-1), 1) := by decide +kernel
theorem dX2_add_10 : decode cX2_add 10 = .ok (.ireturn, 1) := by decide +kernel
theorem dX4_open_60 : decode cX4_open 60 = .ok (.return_, 1) := by decide +kernel
theorem dX4_open_0 : decode cX4_open 0 = .ok (.aload_n 0, 1) := by decide +kernel
theorem dX4_open_1 : decode cX4_open 1 = .ok (.getfield 24, 3) := by decide +kernel
theorem dX4_open_4 : decode cX4_open 4 = .ok (.sipush 3000, 3) := by decide +kernel
theorem dX4_open_7 : decode cX4_open 7 = .ok (.if_icmp .ge 53, 3) := by decide +kernel
theorem dX4_open_10 : decode cX4_open 10 = .ok (.aload_n 0, 1) := by decide +kernel
theorem dX4_open_11 : decode cX4_open 11 = .ok (.getfield 9, 3) := by decide +kernel
theorem dX4_open_14 : decode cX4_open 14 = .ok (.aload_n 0, 1) := by decide +kernel
theorem dX4_open_15 : decode cX4_open 15 = .ok (.getfield 24, 3) := by decide +kernel
theorem dX4_open_18 : decode cX4_open 18 = .ok (.iload_n 1, 1) := by decide +kernel
theorem dX4_open_19 : decode cX4_open 19 = .ok (.iastore, 1) := by decide +kernel
theorem dX4_open_20 : decode cX4_open 20 = .ok (.aload_n 0, 1) := by decide +kernel
theorem dX4_open_21 : decode cX4_open 21 = .ok (.getfield 15, 3) := by decide +kernel
theorem dX4_open_24 : decode cX4_open 24 = .ok (.aload_n 0, 1) := by decide +kernel
theorem dX4_open_25 : decode cX4_open 25 = .ok (.getfield 24, 3) := by decide +kernel
theorem dX4_open_28 : decode cX4_open 28 = .ok (.iload_n 2, 1) := by decide +kernel
theorem dX4_open_29 : decode cX4_open 29 = .ok (.iastore, 1) := by decide +kernel
theorem dX4_open_30 : decode cX4_open 30 = .ok (.aload_n 0, 1) := by decide +kernel
theorem dX4_open_31 : decode cX4_open 31 = .ok (.getfield 18, 3) := by decide +kernel
theorem dX4_open_34 : decode cX4_open 34 = .ok (.aload_n 0, 1) := by decide +kernel
theorem dX4_open_35 : decode cX4_open 35 = .ok (.getfield 24, 3) := by decide +kernel
theorem dX4_open_38 : decode cX4_open 38 = .ok (.iload_n 3, 1) := by decide +kernel
theorem dX4_open_39 : decode cX4_open 39 = .ok (.iastore, 1) := by decide +kernel
theorem dX4_open_40 : decode cX4_open 40 = .ok (.aload_n 0, 1) := by decide +kernel
theorem dX4_open_41 : decode cX4_open 41 = .ok (.getfield 21, 3) := by decide +kernel
theorem dX4_open_44 : decode cX4_open 44 = .ok (.aload_n 0, 1) := by decide +kernel
theorem dX4_open_45 : decode cX4_open 45 = .ok (.getfield 24, 3) := by decide +kernel
theorem dX4_open_48 : decode cX4_open 48 = .ok (.iconst (-1), 1) := by decide +kernel
theorem dX4_open_49 : decode cX4_open 49 = .ok (.iastore, 1) := by decide +kernel
theorem dX4_open_50 : decode cX4_open 50 = .ok (.aload_n 0, 1) := by decide +kernel
theorem dX4_open_51 : decode cX4_open 51 = .ok (.dup, 1) := by decide +kernel
theorem dX4_open_52 : decode cX4_open 52 = .ok (.getfield 24, 3) := by decide +kernel
theorem dX4_open_55 : decode cX4_open 55 = .ok (.iconst 1, 1) := by decide +kernel
theorem dX4_open_56 : decode cX4_open 56 = .ok (.iadd, 1) := by decide +kernel
theorem dX4_open_57 : decode cX4_open 57 = .ok (.putfield 24, 3) := by decide +kernel
theorem dX11_door_107 : decode cX11_door 107 = .ok (.aload_n 0, 1) := by decide +kernel
theorem dX11_door_108 : decode cX11_door 108 = .ok (.getfield 22, 3) := by decide +kernel
theorem dX11_door_111 : decode cX11_door 111 = .ok (.getfield 73, 3) := by decide +kernel
theorem dX11_door_114 : decode cX11_door 114 = .ok (.iload 5, 2) := by decide +kernel
theorem dX11_door_116 : decode cX11_door 116 = .ok (.iload_n 1, 1) := by decide +kernel
theorem dX11_door_117 : decode cX11_door 117 = .ok (.iconst (-1), 1) := by decide +kernel
theorem dX11_door_118 : decode cX11_door 118 = .ok (.invokevirtual 155, 3) := by decide +kernel
theorem dX11_door_121 : decode cX11_door 121 = .ok (.istore 7, 2) := by decide +kernel
theorem dX11_door_123 : decode cX11_door 123 = .ok (.aload_n 0, 1) := by decide +kernel
theorem dX11_door_124 : decode cX11_door 124 = .ok (.getfield 22, 3) := by decide +kernel
theorem dX11_door_127 : decode cX11_door 127 = .ok (.getfield 185, 3) := by decide +kernel
theorem dX11_door_130 : decode cX11_door 130 = .ok (.iconst 0, 1) := by decide +kernel
theorem dX11_door_131 : decode cX11_door 131 = .ok (.iconst (-1), 1) := by decide +kernel
theorem dX11_door_132 : decode cX11_door 132 = .ok (.iconst 0, 1) := by decide +kernel
theorem dX11_door_133 : decode cX11_door 133 = .ok (.iload 7, 2) := by decide +kernel
theorem dX11_door_135 : decode cX11_door 135 = .ok (.invokevirtual 195, 3) := by decide +kernel
theorem dX11_door_138 : decode cX11_door 138 = .ok (.istore 8, 2) := by decide +kernel
theorem dX11_door_140 : decode cX11_door 140 = .ok (.aload_n 0, 1) := by decide +kernel
theorem dX11_door_141 : decode cX11_door 141 = .ok (.getfield 22, 3) := by decide +kernel
theorem dX11_door_144 : decode cX11_door 144 = .ok (.getfield 185, 3) := by decide +kernel
theorem dX11_door_147 : decode cX11_door 147 = .ok (.iconst 2, 1) := by decide +kernel
theorem dX11_door_148 : decode cX11_door 148 = .ok (.iload 8, 2) := by decide +kernel
theorem dX11_door_150 : decode cX11_door 150 = .ok (.imul, 1) := by decide +kernel
theorem dX11_door_151 : decode cX11_door 151 = .ok (.iload_n 1, 1) := by decide +kernel
theorem dX11_door_152 : decode cX11_door 152 = .ok (.iload_n 2, 1) := by decide +kernel
theorem dX11_door_153 : decode cX11_door 153 = .ok (.iload_n 3, 1) := by decide +kernel
theorem dX11_door_154 : decode cX11_door 154 = .ok (.invokevirtual 198, 3) := by decide +kernel
theorem dX11_door_157 : decode cX11_door 157 = .ok (.aload_n 0, 1) := by decide +kernel
theorem dX11_door_158 : decode cX11_door 158 = .ok (.getfield 22, 3) := by decide +kernel
theorem dX11_door_161 : decode cX11_door 161 = .ok (.getfield 202, 3) := by decide +kernel
theorem dX11_door_164 : decode cX11_door 164 = .ok (.iconst 2, 1) := by decide +kernel
theorem dX11_door_165 : decode cX11_door 165 = .ok (.iload 8, 2) := by decide +kernel
theorem dX11_door_167 : decode cX11_door 167 = .ok (.imul, 1) := by decide +kernel
theorem dX11_door_168 : decode cX11_door 168 = .ok (.iload 6, 2) := by decide +kernel
theorem dX11_door_170 : decode cX11_door 170 = .ok (.iload 7, 2) := by decide +kernel
theorem dX11_door_172 : decode cX11_door 172 = .ok (.invokevirtual 206, 3) := by decide +kernel
theorem dX11_door_175 : decode cX11_door 175 = .ok (.iload 8, 2) := by decide +kernel
theorem dX11_door_177 : decode cX11_door 177 = .ok (.ireturn, 1) := by decide +kernel
theorem dX11_door_104 : decode cX11_door 104 = .ok (.bipush (-6), 2) := by decide +kernel
theorem dX11_door_106 : decode cX11_door 106 = .ok (.ireturn, 1) := by decide +kernel
theorem dX11_door_78 : decode cX11_door 78 = .ok (.aload_n 0, 1) := by decide +kernel
theorem dX11_door_79 : decode cX11_door 79 = .ok (.getfield 22, 3) := by decide +kernel
theorem dX11_door_82 : decode cX11_door 82 = .ok (.getfield 185, 3) := by decide +kernel
theorem dX11_door_85 : decode cX11_door 85 = .ok (.getfield 189, 3) := by decide +kernel
theorem dX11_door_88 : decode cX11_door 88 = .ok (.bipush 100, 2) := by decide +kernel
theorem dX11_door_90 : decode cX11_door 90 = .ok (.if_icmp .ge 14, 3) := by decide +kernel
theorem dX11_door_93 : decode cX11_door 93 = .ok (.aload_n 0, 1) := by decide +kernel
theorem dX11_door_94 : decode cX11_door 94 = .ok (.getfield 22, 3) := by decide +kernel
theorem dX11_door_97 : decode cX11_door 97 = .ok (.iconst 1, 1) := by decide +kernel
theorem dX11_door_98 : decode cX11_door 98 = .ok (.invokevirtual 192, 3) := by decide +kernel
theorem dX11_door_101 : decode cX11_door 101 = .ok (.ifCond .ne 6, 3) := by decide +kernel
theorem dX11_door_59 : decode cX11_door 59 = .ok (.aload_n 0, 1) := by decide +kernel
theorem dX11_door_60 : decode cX11_door 60 = .ok (.iload_n 1, 1) := by decide +kernel
theorem dX11_door_61 : decode cX11_door 61 = .ok (.iload_n 2, 1) := by decide +kernel
theorem dX11_door_62 : decode cX11_door 62 = .ok (.iload_n 3, 1) := by decide +kernel
theorem dX11_door_63 : decode cX11_door 63 = .ok (.iload 4, 2) := by decide +kernel
theorem dX11_door_65 : decode cX11_door 65 = .ok (.invokevirtual 181, 3) := by decide +kernel
theorem dX11_door_68 : decode cX11_door 68 = .ok (.istore 6, 2) := by decide +kernel
theorem dX11_door_70 : decode cX11_door 70 = .ok (.iload 6, 2) := by decide +kernel
theorem dX11_door_72 : decode cX11_door 72 = .ok (.ifCond .ge 6, 3) := by decide +kernel
theorem dX11_door_75 : decode cX11_door 75 = .ok (.iload 6, 2) := by decide +kernel
theorem dX11_door_77 : decode cX11_door 77 = .ok (.ireturn, 1) := by decide +kernel
theorem dX11_door_43 : decode cX11_door 43 = .ok (.iload 5, 2) := by decide +kernel
theorem dX11_door_45 : decode cX11_door 45 = .ok (.aload_n 0, 1) := by decide +kernel
theorem dX11_door_46 : decode cX11_door 46 = .ok (.getfield 22, 3) := by decide +kernel
theorem dX11_door_49 : decode cX11_door 49 = .ok (.iload_n 1, 1) := by decide +kernel
theorem dX11_door_50 : decode cX11_door 50 = .ok (.invokevirtual 177, 3) := by decide +kernel
theorem dX11_door_53 : decode cX11_door 53 = .ok (.if_icmp .ge 6, 3) := by decide +kernel
theorem dX11_door_56 : decode cX11_door 56 = .ok (.bipush (-3), 2) := by decide +kernel
theorem dX11_door_58 : decode cX11_door 58 = .ok (.ireturn, 1) := by decide +kernel
theorem dX11_door_40 : decode cX11_door 40 = .ok (.bipush (-2), 2) := by decide +kernel
theorem dX11_door_42 : decode cX11_door 42 = .ok (.ireturn, 1) := by decide +kernel
theorem dX11_door_16 : decode cX11_door 16 = .ok (.iload_n 2, 1) := by decide +kernel
theorem dX11_door_17 : decode cX11_door 17 = .ok (.iload_n 3, 1) := by decide +kernel
theorem dX11_door_18 : decode cX11_door 18 = .ok (.invokestatic 170, 3) := by decide +kernel
theorem dX11_door_21 : decode cX11_door 21 = .ok (.ifCond .eq 19, 3) := by decide +kernel
theorem dX11_door_24 : decode cX11_door 24 = .ok (.iload 4, 2) := by decide +kernel
theorem dX11_door_26 : decode cX11_door 26 = .ok (.invokestatic 174, 3) := by decide +kernel
theorem dX11_door_29 : decode cX11_door 29 = .ok (.ifCond .eq 11, 3) := by decide +kernel
theorem dX11_door_32 : decode cX11_door 32 = .ok (.iload 5, 2) := by decide +kernel
theorem dX11_door_34 : decode cX11_door 34 = .ok (.invokestatic 69, 3) := by decide +kernel
theorem dX11_door_37 : decode cX11_door 37 = .ok (.ifCond .ne 6, 3) := by decide +kernel
theorem dX11_door_0 : decode cX11_door 0 = .ok (.aload_n 0, 1) := by decide +kernel
theorem dX11_door_1 : decode cX11_door 1 = .ok (.getfield 22, 3) := by decide +kernel
theorem dX11_door_4 : decode cX11_door 4 = .ok (.getfield 89, 3) := by decide +kernel
theorem dX11_door_7 : decode cX11_door 7 = .ok (.iload_n 1, 1) := by decide +kernel
theorem dX11_door_8 : decode cX11_door 8 = .ok (.invokevirtual 167, 3) := by decide +kernel
theorem dX11_door_11 : decode cX11_door 11 = .ok (.ifCond .ne 5, 3) := by decide +kernel
theorem dX11_door_14 : decode cX11_door 14 = .ok (.iconst (-1), 1) := by decide +kernel
theorem dX11_door_15 : decode cX11_door 15 = .ok (.ireturn, 1) := by decide +kernel
theorem dX2_isOpen_23 : decode cX2_isOpen 23 = .ok (.ireturn, 1) := by decide +kernel
theorem dX2_isOpen_22 : decode cX2_isOpen 22 = .ok (.iconst 0, 1) := by decide +kernel
theorem dX2_isOpen_0 : decode cX2_isOpen 0 = .ok (.aload_n 0, 1) := by decide +kernel
theorem dX2_isOpen_1 : decode cX2_isOpen 1 = .ok (.iload_n 1, 1) := by decide +kernel
theorem dX2_isOpen_2 : decode cX2_isOpen 2 = .ok (.invokevirtual 52, 3) := by decide +kernel
theorem dX2_isOpen_5 : decode cX2_isOpen 5 = .ok (.ifCond .eq 17, 3) := by decide +kernel
theorem dX2_isOpen_8 : decode cX2_isOpen 8 = .ok (.aload_n 0, 1) := by decide +kernel
theorem dX2_isOpen_9 : decode cX2_isOpen 9 = .ok (.getfield 27, 3) := by decide +kernel
theorem dX2_isOpen_12 : decode cX2_isOpen 12 = .ok (.iload_n 1, 1) := by decide +kernel
theorem dX2_isOpen_13 : decode cX2_isOpen 13 = .ok (.iaload, 1) := by decide +kernel
theorem dX2_isOpen_14 : decode cX2_isOpen 14 = .ok (.iconst (-1), 1) := by decide +kernel
theorem dX2_isOpen_15 : decode cX2_isOpen 15 = .ok (.if_icmp .ne 7, 3) := by decide +kernel
theorem dX2_isOpen_18 : decode cX2_isOpen 18 = .ok (.iconst 1, 1) := by decide +kernel
theorem dX2_isOpen_19 : decode cX2_isOpen 19 = .ok (.goto 4, 3) := by decide +kernel
theorem dX2_sortOf_30 : decode cX2_sortOf 30 = .ok (.ireturn, 1) := by decide +kernel
theorem dX2_sortOf_24 : decode cX2_sortOf 24 = .ok (.aload_n 0, 1) := by decide +kernel
theorem dX2_sortOf_25 : decode cX2_sortOf 25 = .ok (.getfield 9, 3) := by decide +kernel
theorem dX2_sortOf_28 : decode cX2_sortOf 28 = .ok (.iload_n 1, 1) := by decide +kernel
theorem dX2_sortOf_29 : decode cX2_sortOf 29 = .ok (.iaload, 1) := by decide +kernel
theorem dX2_sortOf_10 : decode cX2_sortOf 10 = .ok (.aload_n 0, 1) := by decide +kernel
theorem dX2_sortOf_11 : decode cX2_sortOf 11 = .ok (.getfield 30, 3) := by decide +kernel
theorem dX2_sortOf_14 : decode cX2_sortOf 14 = .ok (.iload_n 1, 1) := by decide +kernel
theorem dX2_sortOf_15 : decode cX2_sortOf 15 = .ok (.iaload, 1) := by decide +kernel
theorem dX2_sortOf_16 : decode cX2_sortOf 16 = .ok (.iconst (-1), 1) := by decide +kernel
theorem dX2_sortOf_17 : decode cX2_sortOf 17 = .ok (.if_icmp .eq 7, 3) := by decide +kernel
theorem dX2_sortOf_20 : decode cX2_sortOf 20 = .ok (.iconst 1, 1) := by decide +kernel
theorem dX2_sortOf_21 : decode cX2_sortOf 21 = .ok (.goto 9, 3) := by decide +kernel
theorem dX2_sortOf_0 : decode cX2_sortOf 0 = .ok (.aload_n 0, 1) := by decide +kernel
theorem dX2_sortOf_1 : decode cX2_sortOf 1 = .ok (.iload_n 1, 1) := by decide +kernel
theorem dX2_sortOf_2 : decode cX2_sortOf 2 = .ok (.invokevirtual 52, 3) := by decide +kernel
theorem dX2_sortOf_5 : decode cX2_sortOf 5 = .ok (.ifCond .ne 5, 3) := by decide +kernel
theorem dX2_sortOf_8 : decode cX2_sortOf 8 = .ok (.iconst (-1), 1) := by decide +kernel
theorem dX2_sortOf_9 : decode cX2_sortOf 9 = .ok (.ireturn, 1) := by decide +kernel
theorem dX2_makeCorner_15 : decode cX2_makeCorner 15 = .ok (.return_, 1) := by decide +kernel
theorem dX2_makeCorner_0 : decode cX2_makeCorner 0 = .ok (.aload_n 0, 1) := by decide +kernel
theorem dX2_makeCorner_1 : decode cX2_makeCorner 1 = .ok (.iload_n 1, 1) := by decide +kernel
theorem dX2_makeCorner_2 : decode cX2_makeCorner 2 = .ok (.invokevirtual 52, 3) := by decide +kernel
theorem dX2_makeCorner_5 : decode cX2_makeCorner 5 = .ok (.ifCond .eq 10, 3) := by decide +kernel
theorem dX2_makeCorner_8 : decode cX2_makeCorner 8 = .ok (.aload_n 0, 1) := by decide +kernel
theorem dX2_makeCorner_9 : decode cX2_makeCorner 9 = .ok (.getfield 30, 3) := by decide +kernel
theorem dX2_makeCorner_12 : decode cX2_makeCorner 12 = .ok (.iload_n 1, 1) := by decide +kernel
theorem dX2_makeCorner_13 : decode cX2_makeCorner 13 = .ok (.iload_n 2, 1) := by decide +kernel
theorem dX2_makeCorner_14 : decode cX2_makeCorner 14 = .ok (.iastore, 1) := by decide +kernel
theorem dX11_corner_155 : decode cX11_corner 155 = .ok (.aload_n 0, 1) := by decide +kernel
theorem dX11_corner_156 : decode cX11_corner 156 = .ok (.getfield 22, 3) := by decide +kernel
theorem dX11_corner_159 : decode cX11_corner 159 = .ok (.getfield 73, 3) := by decide +kernel
theorem dX11_corner_162 : decode cX11_corner 162 = .ok (.iload 6, 2) := by decide +kernel
theorem dX11_corner_164 : decode cX11_corner 164 = .ok (.iload 7, 2) := by decide +kernel
theorem dX11_corner_166 : decode cX11_corner 166 = .ok (.iload_n 2, 1) := by decide +kernel
theorem dX11_corner_167 : decode cX11_corner 167 = .ok (.invokevirtual 155, 3) := by decide +kernel
theorem dX11_corner_170 : decode cX11_corner 170 = .ok (.istore 9, 2) := by decide +kernel
theorem dX11_corner_172 : decode cX11_corner 172 = .ok (.aload_n 0, 1) := by decide +kernel
theorem dX11_corner_173 : decode cX11_corner 173 = .ok (.getfield 22, 3) := by decide +kernel
theorem dX11_corner_176 : decode cX11_corner 176 = .ok (.getfield 185, 3) := by decide +kernel
theorem dX11_corner_179 : decode cX11_corner 179 = .ok (.iload_n 1, 1) := by decide +kernel
theorem dX11_corner_180 : decode cX11_corner 180 = .ok (.iload 9, 2) := by decide +kernel
theorem dX11_corner_182 : decode cX11_corner 182 = .ok (.invokevirtual 225, 3) := by decide +kernel
theorem dX11_corner_185 : decode cX11_corner 185 = .ok (.aload_n 0, 1) := by decide +kernel
theorem dX11_corner_186 : decode cX11_corner 186 = .ok (.getfield 22, 3) := by decide +kernel
theorem dX11_corner_189 : decode cX11_corner 189 = .ok (.getfield 185, 3) := by decide +kernel
theorem dX11_corner_192 : decode cX11_corner 192 = .ok (.iconst 2, 1) := by decide +kernel
theorem dX11_corner_193 : decode cX11_corner 193 = .ok (.iload_n 1, 1) := by decide +kernel
theorem dX11_corner_194 : decode cX11_corner 194 = .ok (.imul, 1) := by decide +kernel
theorem dX11_corner_195 : decode cX11_corner 195 = .ok (.iconst 1, 1) := by decide +kernel
theorem dX11_corner_196 : decode cX11_corner 196 = .ok (.iadd, 1) := by decide +kernel
theorem dX11_corner_197 : decode cX11_corner 197 = .ok (.iload_n 2, 1) := by decide +kernel
theorem dX11_corner_198 : decode cX11_corner 198 = .ok (.iload_n 3, 1) := by decide +kernel
theorem dX11_corner_199 : decode cX11_corner 199 = .ok (.iload 4, 2) := by decide +kernel
theorem dX11_corner_201 : decode cX11_corner 201 = .ok (.invokevirtual 198, 3) := by decide +kernel
theorem dX11_corner_204 : decode cX11_corner 204 = .ok (.aload_n 0, 1) := by decide +kernel
theorem dX11_corner_205 : decode cX11_corner 205 = .ok (.getfield 22, 3) := by decide +kernel
theorem dX11_corner_208 : decode cX11_corner 208 = .ok (.getfield 202, 3) := by decide +kernel
theorem dX11_corner_211 : decode cX11_corner 211 = .ok (.iconst 2, 1) := by decide +kernel
theorem dX11_corner_212 : decode cX11_corner 212 = .ok (.iload_n 1, 1) := by decide +kernel
theorem dX11_corner_213 : decode cX11_corner 213 = .ok (.imul, 1) := by decide +kernel
theorem dX11_corner_214 : decode cX11_corner 214 = .ok (.iconst 1, 1) := by decide +kernel
theorem dX11_corner_215 : decode cX11_corner 215 = .ok (.iadd, 1) := by decide +kernel
theorem dX11_corner_216 : decode cX11_corner 216 = .ok (.iload 8, 2) := by decide +kernel
theorem dX11_corner_218 : decode cX11_corner 218 = .ok (.iload 9, 2) := by decide +kernel
theorem dX11_corner_220 : decode cX11_corner 220 = .ok (.invokevirtual 206, 3) := by decide +kernel
theorem dX11_corner_223 : decode cX11_corner 223 = .ok (.iload 8, 2) := by decide +kernel
theorem dX11_corner_225 : decode cX11_corner 225 = .ok (.ireturn, 1) := by decide +kernel
theorem dX11_corner_141 : decode cX11_corner 141 = .ok (.aload_n 0, 1) := by decide +kernel
theorem dX11_corner_142 : decode cX11_corner 142 = .ok (.getfield 22, 3) := by decide +kernel
theorem dX11_corner_145 : decode cX11_corner 145 = .ok (.iconst 1, 1) := by decide +kernel
theorem dX11_corner_146 : decode cX11_corner 146 = .ok (.invokevirtual 192, 3) := by decide +kernel
theorem dX11_corner_149 : decode cX11_corner 149 = .ok (.ifCond .ne 6, 3) := by decide +kernel
theorem dX11_corner_152 : decode cX11_corner 152 = .ok (.bipush (-6), 2) := by decide +kernel
theorem dX11_corner_154 : decode cX11_corner 154 = .ok (.ireturn, 1) := by decide +kernel
theorem dX11_corner_121 : decode cX11_corner 121 = .ok (.aload_n 0, 1) := by decide +kernel
theorem dX11_corner_122 : decode cX11_corner 122 = .ok (.iload_n 2, 1) := by decide +kernel
theorem dX11_corner_123 : decode cX11_corner 123 = .ok (.iload_n 3, 1) := by decide +kernel
theorem dX11_corner_124 : decode cX11_corner 124 = .ok (.iload 4, 2) := by decide +kernel
theorem dX11_corner_126 : decode cX11_corner 126 = .ok (.iload 5, 2) := by decide +kernel
theorem dX11_corner_128 : decode cX11_corner 128 = .ok (.invokevirtual 181, 3) := by decide +kernel
theorem dX11_corner_131 : decode cX11_corner 131 = .ok (.istore 8, 2) := by decide +kernel
theorem dX11_corner_133 : decode cX11_corner 133 = .ok (.iload 8, 2) := by decide +kernel
theorem dX11_corner_135 : decode cX11_corner 135 = .ok (.ifCond .ge 6, 3) := by decide +kernel
theorem dX11_corner_138 : decode cX11_corner 138 = .ok (.iload 8, 2) := by decide +kernel
theorem dX11_corner_140 : decode cX11_corner 140 = .ok (.ireturn, 1) := by decide +kernel
theorem dX11_corner_93 : decode cX11_corner 93 = .ok (.iload 6, 2) := by decide +kernel
theorem dX11_corner_95 : decode cX11_corner 95 = .ok (.aload_n 0, 1) := by decide +kernel
theorem dX11_corner_96 : decode cX11_corner 96 = .ok (.getfield 22, 3) := by decide +kernel
theorem dX11_corner_99 : decode cX11_corner 99 = .ok (.iload 7, 2) := by decide +kernel
theorem dX11_corner_101 : decode cX11_corner 101 = .ok (.invokevirtual 177, 3) := by decide +kernel
theorem dX11_corner_104 : decode cX11_corner 104 = .ok (.aload_n 0, 1) := by decide +kernel
theorem dX11_corner_105 : decode cX11_corner 105 = .ok (.getfield 22, 3) := by decide +kernel
theorem dX11_corner_108 : decode cX11_corner 108 = .ok (.iload_n 2, 1) := by decide +kernel
theorem dX11_corner_109 : decode cX11_corner 109 = .ok (.invokevirtual 177, 3) := by decide +kernel
theorem dX11_corner_112 : decode cX11_corner 112 = .ok (.invokestatic 220, 3) := by decide +kernel
theorem dX11_corner_115 : decode cX11_corner 115 = .ok (.if_icmp .ge 6, 3) := by decide +kernel
theorem dX11_corner_118 : decode cX11_corner 118 = .ok (.bipush (-3), 2) := by decide +kernel
theorem dX11_corner_120 : decode cX11_corner 120 = .ok (.ireturn, 1) := by decide +kernel
theorem dX11_corner_90 : decode cX11_corner 90 = .ok (.bipush (-2), 2) := by decide +kernel
theorem dX11_corner_92 : decode cX11_corner 92 = .ok (.ireturn, 1) := by decide +kernel
theorem dX11_corner_44 : decode cX11_corner 44 = .ok (.aload_n 0, 1) := by decide +kernel
theorem dX11_corner_45 : decode cX11_corner 45 = .ok (.getfield 22, 3) := by decide +kernel
theorem dX11_corner_48 : decode cX11_corner 48 = .ok (.getfield 185, 3) := by decide +kernel
theorem dX11_corner_51 : decode cX11_corner 51 = .ok (.iconst 2, 1) := by decide +kernel
theorem dX11_corner_52 : decode cX11_corner 52 = .ok (.iload_n 1, 1) := by decide +kernel
theorem dX11_corner_53 : decode cX11_corner 53 = .ok (.imul, 1) := by decide +kernel
theorem dX11_corner_54 : decode cX11_corner 54 = .ok (.invokevirtual 217, 3) := by decide +kernel
theorem dX11_corner_57 : decode cX11_corner 57 = .ok (.istore 7, 2) := by decide +kernel
theorem dX11_corner_59 : decode cX11_corner 59 = .ok (.iload 7, 2) := by decide +kernel
theorem dX11_corner_61 : decode cX11_corner 61 = .ok (.iload_n 2, 1) := by decide +kernel
theorem dX11_corner_62 : decode cX11_corner 62 = .ok (.if_icmp .eq 28, 3) := by decide +kernel
theorem dX11_corner_65 : decode cX11_corner 65 = .ok (.iload_n 3, 1) := by decide +kernel
theorem dX11_corner_66 : decode cX11_corner 66 = .ok (.iload 4, 2) := by decide +kernel
theorem dX11_corner_68 : decode cX11_corner 68 = .ok (.invokestatic 170, 3) := by decide +kernel
theorem dX11_corner_71 : decode cX11_corner 71 = .ok (.ifCond .eq 19, 3) := by decide +kernel
theorem dX11_corner_74 : decode cX11_corner 74 = .ok (.iload 5, 2) := by decide +kernel
theorem dX11_corner_76 : decode cX11_corner 76 = .ok (.invokestatic 174, 3) := by decide +kernel
theorem dX11_corner_79 : decode cX11_corner 79 = .ok (.ifCond .eq 11, 3) := by decide +kernel
theorem dX11_corner_82 : decode cX11_corner 82 = .ok (.iload 6, 2) := by decide +kernel
theorem dX11_corner_84 : decode cX11_corner 84 = .ok (.invokestatic 69, 3) := by decide +kernel
theorem dX11_corner_87 : decode cX11_corner 87 = .ok (.ifCond .ne 6, 3) := by decide +kernel
theorem dX11_corner_42 : decode cX11_corner 42 = .ok (.iconst (-1), 1) := by decide +kernel
theorem dX11_corner_43 : decode cX11_corner 43 = .ok (.ireturn, 1) := by decide +kernel
theorem dX11_corner_0 : decode cX11_corner 0 = .ok (.aload_n 0, 1) := by decide +kernel
theorem dX11_corner_1 : decode cX11_corner 1 = .ok (.getfield 22, 3) := by decide +kernel
theorem dX11_corner_4 : decode cX11_corner 4 = .ok (.getfield 89, 3) := by decide +kernel
theorem dX11_corner_7 : decode cX11_corner 7 = .ok (.iload_n 2, 1) := by decide +kernel
theorem dX11_corner_8 : decode cX11_corner 8 = .ok (.invokevirtual 167, 3) := by decide +kernel
theorem dX11_corner_11 : decode cX11_corner 11 = .ok (.ifCond .eq 31, 3) := by decide +kernel
theorem dX11_corner_14 : decode cX11_corner 14 = .ok (.aload_n 0, 1) := by decide +kernel
theorem dX11_corner_15 : decode cX11_corner 15 = .ok (.getfield 22, 3) := by decide +kernel
theorem dX11_corner_18 : decode cX11_corner 18 = .ok (.getfield 185, 3) := by decide +kernel
theorem dX11_corner_21 : decode cX11_corner 21 = .ok (.iload_n 1, 1) := by decide +kernel
theorem dX11_corner_22 : decode cX11_corner 22 = .ok (.invokevirtual 211, 3) := by decide +kernel
theorem dX11_corner_25 : decode cX11_corner 25 = .ok (.ifCond .eq 17, 3) := by decide +kernel
theorem dX11_corner_28 : decode cX11_corner 28 = .ok (.aload_n 0, 1) := by decide +kernel
theorem dX11_corner_29 : decode cX11_corner 29 = .ok (.getfield 22, 3) := by decide +kernel
theorem dX11_corner_32 : decode cX11_corner 32 = .ok (.getfield 185, 3) := by decide +kernel
theorem dX11_corner_35 : decode cX11_corner 35 = .ok (.iload_n 1, 1) := by decide +kernel
theorem dX11_corner_36 : decode cX11_corner 36 = .ok (.invokevirtual 214, 3) := by decide +kernel
theorem dX11_corner_39 : decode cX11_corner 39 = .ok (.ifCond .eq 5, 3) := by decide +kernel
theorem dX11_isUnderSort_15 : decode cX11_isUnderSort 15 = .ok (.ireturn, 1) := by decide +kernel
theorem dX11_isUnderSort_14 : decode cX11_isUnderSort 14 = .ok (.iconst 0, 1) := by decide +kernel
theorem dX11_isUnderSort_0 : decode cX11_isUnderSort 0 = .ok (.iload_n 0, 1) := by decide +kernel
theorem dX11_isUnderSort_1 : decode cX11_isUnderSort 1 = .ok (.iconst 2, 1) := by decide +kernel
theorem dX11_isUnderSort_2 : decode cX11_isUnderSort 2 = .ok (.if_icmp .lt 12, 3) := by decide +kernel
theorem dX11_isUnderSort_5 : decode cX11_isUnderSort 5 = .ok (.iload_n 0, 1) := by decide +kernel
theorem dX11_isUnderSort_6 : decode cX11_isUnderSort 6 = .ok (.iconst 4, 1) := by decide +kernel
theorem dX11_isUnderSort_7 : decode cX11_isUnderSort 7 = .ok (.if_icmp .gt 7, 3) := by decide +kernel
theorem dX11_isUnderSort_10 : decode cX11_isUnderSort 10 = .ok (.iconst 1, 1) := by decide +kernel
theorem dX11_isUnderSort_11 : decode cX11_isUnderSort 11 = .ok (.goto 4, 3) := by decide +kernel
theorem dX11_canHaveUnder_44 : decode cX11_canHaveUnder 44 = .ok (.ireturn, 1) := by decide +kernel
theorem dX11_canHaveUnder_43 : decode cX11_canHaveUnder 43 = .ok (.iconst 0, 1) := by decide +kernel
theorem dX11_canHaveUnder_39 : decode cX11_canHaveUnder 39 = .ok (.iconst 1, 1) := by decide +kernel
theorem dX11_canHaveUnder_40 : decode cX11_canHaveUnder 40 = .ok (.goto 4, 3) := by decide +kernel
theorem dX11_canHaveUnder_30 : decode cX11_canHaveUnder 30 = .ok (.iload_n 3, 1) := by decide +kernel
theorem dX11_canHaveUnder_31 : decode cX11_canHaveUnder 31 = .ok (.ifCond .eq 8, 3) := by decide +kernel
theorem dX11_canHaveUnder_34 : decode cX11_canHaveUnder 34 = .ok (.iload_n 3, 1) := by decide +kernel
theorem dX11_canHaveUnder_35 : decode cX11_canHaveUnder 35 = .ok (.iconst 1, 1) := by decide +kernel
theorem dX11_canHaveUnder_36 : decode cX11_canHaveUnder 36 = .ok (.if_icmp .ne 7, 3) := by decide +kernel
theorem dX11_canHaveUnder_26 : decode cX11_canHaveUnder 26 = .ok (.iconst 0, 1) := by decide +kernel
theorem dX11_canHaveUnder_27 : decode cX11_canHaveUnder 27 = .ok (.goto 17, 3) := by decide +kernel
theorem dX11_canHaveUnder_0 : decode cX11_canHaveUnder 0 = .ok (.aload_n 0, 1) := by decide +kernel
theorem dX11_canHaveUnder_1 : decode cX11_canHaveUnder 1 = .ok (.getfield 22, 3) := by decide +kernel
theorem dX11_canHaveUnder_4 : decode cX11_canHaveUnder 4 = .ok (.getfield 185, 3) := by decide +kernel
theorem dX11_canHaveUnder_7 : decode cX11_canHaveUnder 7 = .ok (.iload_n 1, 1) := by decide +kernel
theorem dX11_canHaveUnder_8 : decode cX11_canHaveUnder 8 = .ok (.invokevirtual 214, 3) := by decide +kernel
theorem dX11_canHaveUnder_11 : decode cX11_canHaveUnder 11 = .ok (.istore_n 3, 1) := by decide +kernel
theorem dX11_canHaveUnder_12 : decode cX11_canHaveUnder 12 = .ok (.iload_n 2, 1) := by decide +kernel
theorem dX11_canHaveUnder_13 : decode cX11_canHaveUnder 13 = .ok (.iconst 3, 1) := by decide +kernel
theorem dX11_canHaveUnder_14 : decode cX11_canHaveUnder 14 = .ok (.if_icmp .ne 16, 3) := by decide +kernel
theorem dX11_canHaveUnder_17 : decode cX11_canHaveUnder 17 = .ok (.iload_n 3, 1) := by decide +kernel
theorem dX11_canHaveUnder_18 : decode cX11_canHaveUnder 18 = .ok (.iconst 2, 1) := by decide +kernel
theorem dX11_canHaveUnder_19 : decode cX11_canHaveUnder 19 = .ok (.if_icmp .ne 7, 3) := by decide +kernel
theorem dX11_canHaveUnder_22 : decode cX11_canHaveUnder 22 = .ok (.iconst 1, 1) := by decide +kernel
theorem dX11_canHaveUnder_23 : decode cX11_canHaveUnder 23 = .ok (.goto 21, 3) := by decide +kernel
theorem dX11_isUnderNumber_33 : decode cX11_isUnderNumber 33 = .ok (.ireturn, 1) := by decide +kernel
theorem dX11_isUnderNumber_32 : decode cX11_isUnderNumber 32 = .ok (.iconst 0, 1) := by decide +kernel
theorem dX11_isUnderNumber_17 : decode cX11_isUnderNumber 17 = .ok (.iload_n 1, 1) := by decide +kernel
theorem dX11_isUnderNumber_18 : decode cX11_isUnderNumber 18 = .ok (.iconst 1, 1) := by decide +kernel
theorem dX11_isUnderNumber_19 : decode cX11_isUnderNumber 19 = .ok (.if_icmp .lt 13, 3) := by decide +kernel
theorem dX11_isUnderNumber_22 : decode cX11_isUnderNumber 22 = .ok (.iload_n 1, 1) := by decide +kernel
theorem dX11_isUnderNumber_23 : decode cX11_isUnderNumber 23 = .ok (.bipush 99, 2) := by decide +kernel
theorem dX11_isUnderNumber_25 : decode cX11_isUnderNumber 25 = .ok (.if_icmp .gt 7, 3) := by decide +kernel
theorem dX11_isUnderNumber_28 : decode cX11_isUnderNumber 28 = .ok (.iconst 1, 1) := by decide +kernel
theorem dX11_isUnderNumber_29 : decode cX11_isUnderNumber 29 = .ok (.goto 4, 3) := by decide +kernel
theorem dX11_isUnderNumber_13 : decode cX11_isUnderNumber 13 = .ok (.iconst 0, 1) := by decide +kernel
theorem dX11_isUnderNumber_14 : decode cX11_isUnderNumber 14 = .ok (.goto 19, 3) := by decide +kernel
theorem dX11_isUnderNumber_0 : decode cX11_isUnderNumber 0 = .ok (.iload_n 0, 1) := by decide +kernel
theorem dX11_isUnderNumber_1 : decode cX11_isUnderNumber 1 = .ok (.iconst 2, 1) := by decide +kernel
theorem dX11_isUnderNumber_2 : decode cX11_isUnderNumber 2 = .ok (.if_icmp .ne 15, 3) := by decide +kernel
theorem dX11_isUnderNumber_5 : decode cX11_isUnderNumber 5 = .ok (.iload_n 1, 1) := by decide +kernel
theorem dX11_isUnderNumber_6 : decode cX11_isUnderNumber 6 = .ok (.ifCond .ne 7, 3) := by decide +kernel
theorem dX11_isUnderNumber_9 : decode cX11_isUnderNumber 9 = .ok (.iconst 1, 1) := by decide +kernel
theorem dX11_isUnderNumber_10 : decode cX11_isUnderNumber 10 = .ok (.goto 23, 3) := by decide +kernel

theorem dX3_haveOneName_65 : decode cX3_haveOneName 65 = .ok (.iconst 0, 1) := by decide +kernel
theorem dX3_haveOneName_66 : decode cX3_haveOneName 66 = .ok (.ireturn, 1) := by decide +kernel
theorem dX3_haveOneName_59 : decode cX3_haveOneName 59 = .ok (.iinc 3 1, 3) := by decide +kernel
theorem dX3_haveOneName_62 : decode cX3_haveOneName 62 = .ok (.goto (-60), 3) := by decide +kernel
theorem dX3_haveOneName_35 : decode cX3_haveOneName 35 = .ok (.istore 4, 2) := by decide +kernel
theorem dX3_haveOneName_37 : decode cX3_haveOneName 37 = .ok (.iload 4, 2) := by decide +kernel
theorem dX3_haveOneName_39 : decode cX3_haveOneName 39 = .ok (.ifCond .eq 20, 3) := by decide +kernel
theorem dX3_haveOneName_42 : decode cX3_haveOneName 42 = .ok (.aload_n 0, 1) := by decide +kernel
theorem dX3_haveOneName_43 : decode cX3_haveOneName 43 = .ok (.aload_n 0, 1) := by decide +kernel
theorem dX3_haveOneName_44 : decode cX3_haveOneName 44 = .ok (.getfield 9, 3) := by decide +kernel
theorem dX3_haveOneName_47 : decode cX3_haveOneName 47 = .ok (.iload_n 3, 1) := by decide +kernel
theorem dX3_haveOneName_48 : decode cX3_haveOneName 48 = .ok (.iaload, 1) := by decide +kernel
theorem dX3_haveOneName_49 : decode cX3_haveOneName 49 = .ok (.iload_n 2, 1) := by decide +kernel
theorem dX3_haveOneName_50 : decode cX3_haveOneName 50 = .ok (.invokevirtual 68, 3) := by decide +kernel
theorem dX3_haveOneName_53 : decode cX3_haveOneName 53 = .ok (.iconst (-1), 1) := by decide +kernel
theorem dX3_haveOneName_54 : decode cX3_haveOneName 54 = .ok (.if_icmp .eq 5, 3) := by decide +kernel
theorem dX3_haveOneName_57 : decode cX3_haveOneName 57 = .ok (.iconst 1, 1) := by decide +kernel
theorem dX3_haveOneName_58 : decode cX3_haveOneName 58 = .ok (.ireturn, 1) := by decide +kernel
theorem dX3_haveOneName_34 : decode cX3_haveOneName 34 = .ok (.iconst 0, 1) := by decide +kernel
theorem dX3_haveOneName_2 : decode cX3_haveOneName 2 = .ok (.iload_n 3, 1) := by decide +kernel
theorem dX3_haveOneName_3 : decode cX3_haveOneName 3 = .ok (.aload_n 0, 1) := by decide +kernel
theorem dX3_haveOneName_4 : decode cX3_haveOneName 4 = .ok (.getfield 28, 3) := by decide +kernel
theorem dX3_haveOneName_7 : decode cX3_haveOneName 7 = .ok (.if_icmp .ge 58, 3) := by decide +kernel
theorem dX3_haveOneName_10 : decode cX3_haveOneName 10 = .ok (.aload_n 0, 1) := by decide +kernel
theorem dX3_haveOneName_11 : decode cX3_haveOneName 11 = .ok (.getfield 21, 3) := by decide +kernel
theorem dX3_haveOneName_14 : decode cX3_haveOneName 14 = .ok (.iload_n 3, 1) := by decide +kernel
theorem dX3_haveOneName_15 : decode cX3_haveOneName 15 = .ok (.iaload, 1) := by decide +kernel
theorem dX3_haveOneName_16 : decode cX3_haveOneName 16 = .ok (.iconst (-1), 1) := by decide +kernel
theorem dX3_haveOneName_17 : decode cX3_haveOneName 17 = .ok (.if_icmp .ne 17, 3) := by decide +kernel
theorem dX3_haveOneName_20 : decode cX3_haveOneName 20 = .ok (.aload_n 0, 1) := by decide +kernel
theorem dX3_haveOneName_21 : decode cX3_haveOneName 21 = .ok (.getfield 15, 3) := by decide +kernel
theorem dX3_haveOneName_24 : decode cX3_haveOneName 24 = .ok (.iload_n 3, 1) := by decide +kernel
theorem dX3_haveOneName_25 : decode cX3_haveOneName 25 = .ok (.iaload, 1) := by decide +kernel
theorem dX3_haveOneName_26 : decode cX3_haveOneName 26 = .ok (.iload_n 1, 1) := by decide +kernel
theorem dX3_haveOneName_27 : decode cX3_haveOneName 27 = .ok (.if_icmp .ne 7, 3) := by decide +kernel
theorem dX3_haveOneName_30 : decode cX3_haveOneName 30 = .ok (.iconst 1, 1) := by decide +kernel
theorem dX3_haveOneName_31 : decode cX3_haveOneName 31 = .ok (.goto 4, 3) := by decide +kernel
theorem dX3_haveOneName_0 : decode cX3_haveOneName 0 = .ok (.iconst 0, 1) := by decide +kernel
theorem dX3_haveOneName_1 : decode cX3_haveOneName 1 = .ok (.istore_n 3, 1) := by decide +kernel
theorem dX3_moveAll_73 : decode cX3_moveAll 73 = .ok (.aload_n 0, 1) := by decide +kernel
theorem dX3_moveAll_74 : decode cX3_moveAll 74 = .ok (.getfield 28, 3) := by decide +kernel
theorem dX3_moveAll_77 : decode cX3_moveAll 77 = .ok (.iload 4, 2) := by decide +kernel
theorem dX3_moveAll_79 : decode cX3_moveAll 79 = .ok (.isub, 1) := by decide +kernel
theorem dX3_moveAll_80 : decode cX3_moveAll 80 = .ok (.ireturn, 1) := by decide +kernel
theorem dX3_moveAll_67 : decode cX3_moveAll 67 = .ok (.iinc 5 1, 3) := by decide +kernel
theorem dX3_moveAll_70 : decode cX3_moveAll 70 = .ok (.goto (-61), 3) := by decide +kernel
theorem dX3_moveAll_9 : decode cX3_moveAll 9 = .ok (.iload 5, 2) := by decide +kernel
theorem dX3_moveAll_11 : decode cX3_moveAll 11 = .ok (.iload 4, 2) := by decide +kernel
theorem dX3_moveAll_13 : decode cX3_moveAll 13 = .ok (.if_icmp .ge 60, 3) := by decide +kernel
theorem dX3_moveAll_16 : decode cX3_moveAll 16 = .ok (.aload_n 0, 1) := by decide +kernel
theorem dX3_moveAll_17 : decode cX3_moveAll 17 = .ok (.getfield 21, 3) := by decide +kernel
theorem dX3_moveAll_20 : decode cX3_moveAll 20 = .ok (.iload 5, 2) := by decide +kernel
theorem dX3_moveAll_22 : decode cX3_moveAll 22 = .ok (.iaload, 1) := by decide +kernel
theorem dX3_moveAll_23 : decode cX3_moveAll 23 = .ok (.iconst (-1), 1) := by decide +kernel
theorem dX3_moveAll_24 : decode cX3_moveAll 24 = .ok (.if_icmp .ne 43, 3) := by decide +kernel
theorem dX3_moveAll_27 : decode cX3_moveAll 27 = .ok (.aload_n 0, 1) := by decide +kernel
theorem dX3_moveAll_28 : decode cX3_moveAll 28 = .ok (.getfield 15, 3) := by decide +kernel
theorem dX3_moveAll_31 : decode cX3_moveAll 31 = .ok (.iload 5, 2) := by decide +kernel
theorem dX3_moveAll_33 : decode cX3_moveAll 33 = .ok (.iaload, 1) := by decide +kernel
theorem dX3_moveAll_34 : decode cX3_moveAll 34 = .ok (.iload_n 1, 1) := by decide +kernel
theorem dX3_moveAll_35 : decode cX3_moveAll 35 = .ok (.if_icmp .ne 32, 3) := by decide +kernel
theorem dX3_moveAll_38 : decode cX3_moveAll 38 = .ok (.aload_n 0, 1) := by decide +kernel
theorem dX3_moveAll_39 : decode cX3_moveAll 39 = .ok (.getfield 21, 3) := by decide +kernel
theorem dX3_moveAll_42 : decode cX3_moveAll 42 = .ok (.iload 5, 2) := by decide +kernel
theorem dX3_moveAll_44 : decode cX3_moveAll 44 = .ok (.iload_n 3, 1) := by decide +kernel
theorem dX3_moveAll_45 : decode cX3_moveAll 45 = .ok (.iastore, 1) := by decide +kernel
theorem dX3_moveAll_46 : decode cX3_moveAll 46 = .ok (.aload_n 0, 1) := by decide +kernel
theorem dX3_moveAll_47 : decode cX3_moveAll 47 = .ok (.aload_n 0, 1) := by decide +kernel
theorem dX3_moveAll_48 : decode cX3_moveAll 48 = .ok (.getfield 9, 3) := by decide +kernel
theorem dX3_moveAll_51 : decode cX3_moveAll 51 = .ok (.iload 5, 2) := by decide +kernel
theorem dX3_moveAll_53 : decode cX3_moveAll 53 = .ok (.iaload, 1) := by decide +kernel
theorem dX3_moveAll_54 : decode cX3_moveAll 54 = .ok (.iload_n 2, 1) := by decide +kernel
theorem dX3_moveAll_55 : decode cX3_moveAll 55 = .ok (.aload_n 0, 1) := by decide +kernel
theorem dX3_moveAll_56 : decode cX3_moveAll 56 = .ok (.getfield 24, 3) := by decide +kernel
theorem dX3_moveAll_59 : decode cX3_moveAll 59 = .ok (.iconst 3, 1) := by decide +kernel
theorem dX3_moveAll_60 : decode cX3_moveAll 60 = .ok (.iload 5, 2) := by decide +kernel
theorem dX3_moveAll_62 : decode cX3_moveAll 62 = .ok (.imul, 1) := by decide +kernel
theorem dX3_moveAll_63 : decode cX3_moveAll 63 = .ok (.iload_n 3, 1) := by decide +kernel
theorem dX3_moveAll_64 : decode cX3_moveAll 64 = .ok (.invokevirtual 71, 3) := by decide +kernel
theorem dX3_moveAll_0 : decode cX3_moveAll 0 = .ok (.aload_n 0, 1) := by decide +kernel
theorem dX3_moveAll_1 : decode cX3_moveAll 1 = .ok (.getfield 28, 3) := by decide +kernel
theorem dX3_moveAll_4 : decode cX3_moveAll 4 = .ok (.istore 4, 2) := by decide +kernel
theorem dX3_moveAll_6 : decode cX3_moveAll 6 = .ok (.iconst 0, 1) := by decide +kernel
theorem dX3_moveAll_7 : decode cX3_moveAll 7 = .ok (.istore 5, 2) := by decide +kernel
theorem dX11_join_93 : decode cX11_join 93 = .ok (.aload_n 0, 1) := by decide +kernel
theorem dX11_join_94 : decode cX11_join 94 = .ok (.getfield 22, 3) := by decide +kernel
theorem dX11_join_97 : decode cX11_join 97 = .ok (.getfield 73, 3) := by decide +kernel
theorem dX11_join_100 : decode cX11_join 100 = .ok (.iload_n 3, 1) := by decide +kernel
theorem dX11_join_101 : decode cX11_join 101 = .ok (.iconst (-1), 1) := by decide +kernel
theorem dX11_join_102 : decode cX11_join 102 = .ok (.iconst (-1), 1) := by decide +kernel
theorem dX11_join_103 : decode cX11_join 103 = .ok (.invokevirtual 155, 3) := by decide +kernel
theorem dX11_join_106 : decode cX11_join 106 = .ok (.istore 4, 2) := by decide +kernel
theorem dX11_join_108 : decode cX11_join 108 = .ok (.aload_n 0, 1) := by decide +kernel
theorem dX11_join_109 : decode cX11_join 109 = .ok (.getfield 22, 3) := by decide +kernel
theorem dX11_join_112 : decode cX11_join 112 = .ok (.getfield 73, 3) := by decide +kernel
theorem dX11_join_115 : decode cX11_join 115 = .ok (.getfield 297, 3) := by decide +kernel
theorem dX11_join_118 : decode cX11_join 118 = .ok (.iload 4, 2) := by decide +kernel
theorem dX11_join_120 : decode cX11_join 120 = .ok (.iload_n 1, 1) := by decide +kernel
theorem dX11_join_121 : decode cX11_join 121 = .ok (.iastore, 1) := by decide +kernel
theorem dX11_join_122 : decode cX11_join 122 = .ok (.aload_n 0, 1) := by decide +kernel
theorem dX11_join_123 : decode cX11_join 123 = .ok (.getfield 22, 3) := by decide +kernel
theorem dX11_join_126 : decode cX11_join 126 = .ok (.getfield 73, 3) := by decide +kernel
theorem dX11_join_129 : decode cX11_join 129 = .ok (.getfield 300, 3) := by decide +kernel
theorem dX11_join_132 : decode cX11_join 132 = .ok (.iload 4, 2) := by decide +kernel
theorem dX11_join_134 : decode cX11_join 134 = .ok (.iload_n 2, 1) := by decide +kernel
theorem dX11_join_135 : decode cX11_join 135 = .ok (.iastore, 1) := by decide +kernel
theorem dX11_join_136 : decode cX11_join 136 = .ok (.aload_n 0, 1) := by decide +kernel
theorem dX11_join_137 : decode cX11_join 137 = .ok (.getfield 22, 3) := by decide +kernel
theorem dX11_join_140 : decode cX11_join 140 = .ok (.getfield 117, 3) := by decide +kernel
theorem dX11_join_143 : decode cX11_join 143 = .ok (.iload_n 2, 1) := by decide +kernel
theorem dX11_join_144 : decode cX11_join 144 = .ok (.iload_n 1, 1) := by decide +kernel
theorem dX11_join_145 : decode cX11_join 145 = .ok (.iload 4, 2) := by decide +kernel
theorem dX11_join_147 : decode cX11_join 147 = .ok (.invokevirtual 303, 3) := by decide +kernel
theorem dX11_join_150 : decode cX11_join 150 = .ok (.ireturn, 1) := by decide +kernel
theorem dX11_join_77 : decode cX11_join 77 = .ok (.aload_n 0, 1) := by decide +kernel
theorem dX11_join_78 : decode cX11_join 78 = .ok (.getfield 22, 3) := by decide +kernel
theorem dX11_join_81 : decode cX11_join 81 = .ok (.getfield 73, 3) := by decide +kernel
theorem dX11_join_84 : decode cX11_join 84 = .ok (.invokevirtual 152, 3) := by decide +kernel
theorem dX11_join_87 : decode cX11_join 87 = .ok (.ifCond .ne 6, 3) := by decide +kernel
theorem dX11_join_90 : decode cX11_join 90 = .ok (.bipush (-6), 2) := by decide +kernel
theorem dX11_join_92 : decode cX11_join 92 = .ok (.ireturn, 1) := by decide +kernel
theorem dX11_join_59 : decode cX11_join 59 = .ok (.aload_n 0, 1) := by decide +kernel
theorem dX11_join_60 : decode cX11_join 60 = .ok (.getfield 22, 3) := by decide +kernel
theorem dX11_join_63 : decode cX11_join 63 = .ok (.getfield 117, 3) := by decide +kernel
theorem dX11_join_66 : decode cX11_join 66 = .ok (.iload_n 1, 1) := by decide +kernel
theorem dX11_join_67 : decode cX11_join 67 = .ok (.iload_n 2, 1) := by decide +kernel
theorem dX11_join_68 : decode cX11_join 68 = .ok (.invokevirtual 294, 3) := by decide +kernel
theorem dX11_join_71 : decode cX11_join 71 = .ok (.ifCond .eq 6, 3) := by decide +kernel
theorem dX11_join_74 : decode cX11_join 74 = .ok (.bipush (-5), 2) := by decide +kernel
theorem dX11_join_76 : decode cX11_join 76 = .ok (.ireturn, 1) := by decide +kernel
theorem dX11_join_33 : decode cX11_join 33 = .ok (.iload_n 3, 1) := by decide +kernel
theorem dX11_join_34 : decode cX11_join 34 = .ok (.aload_n 0, 1) := by decide +kernel
theorem dX11_join_35 : decode cX11_join 35 = .ok (.getfield 22, 3) := by decide +kernel
theorem dX11_join_38 : decode cX11_join 38 = .ok (.iload_n 1, 1) := by decide +kernel
theorem dX11_join_39 : decode cX11_join 39 = .ok (.invokevirtual 291, 3) := by decide +kernel
theorem dX11_join_42 : decode cX11_join 42 = .ok (.aload_n 0, 1) := by decide +kernel
theorem dX11_join_43 : decode cX11_join 43 = .ok (.getfield 22, 3) := by decide +kernel
theorem dX11_join_46 : decode cX11_join 46 = .ok (.iload_n 2, 1) := by decide +kernel
theorem dX11_join_47 : decode cX11_join 47 = .ok (.invokevirtual 291, 3) := by decide +kernel
theorem dX11_join_50 : decode cX11_join 50 = .ok (.invokestatic 220, 3) := by decide +kernel
theorem dX11_join_53 : decode cX11_join 53 = .ok (.if_icmp .ge 6, 3) := by decide +kernel
theorem dX11_join_56 : decode cX11_join 56 = .ok (.bipush (-3), 2) := by decide +kernel
theorem dX11_join_58 : decode cX11_join 58 = .ok (.ireturn, 1) := by decide +kernel
theorem dX11_join_30 : decode cX11_join 30 = .ok (.bipush (-2), 2) := by decide +kernel
theorem dX11_join_32 : decode cX11_join 32 = .ok (.ireturn, 1) := by decide +kernel
theorem dX11_join_18 : decode cX11_join 18 = .ok (.iload_n 1, 1) := by decide +kernel
theorem dX11_join_19 : decode cX11_join 19 = .ok (.iload_n 2, 1) := by decide +kernel
theorem dX11_join_20 : decode cX11_join 20 = .ok (.if_icmp .eq 10, 3) := by decide +kernel
theorem dX11_join_23 : decode cX11_join 23 = .ok (.iload_n 3, 1) := by decide +kernel
theorem dX11_join_24 : decode cX11_join 24 = .ok (.invokestatic 69, 3) := by decide +kernel
theorem dX11_join_27 : decode cX11_join 27 = .ok (.ifCond .ne 6, 3) := by decide +kernel
theorem dX11_join_16 : decode cX11_join 16 = .ok (.iconst (-1), 1) := by decide +kernel
theorem dX11_join_17 : decode cX11_join 17 = .ok (.ireturn, 1) := by decide +kernel
theorem dX11_join_0 : decode cX11_join 0 = .ok (.aload_n 0, 1) := by decide +kernel
theorem dX11_join_1 : decode cX11_join 1 = .ok (.iload_n 1, 1) := by decide +kernel
theorem dX11_join_2 : decode cX11_join 2 = .ok (.invokevirtual 137, 3) := by decide +kernel
theorem dX11_join_5 : decode cX11_join 5 = .ok (.ifCond .eq 11, 3) := by decide +kernel
theorem dX11_join_8 : decode cX11_join 8 = .ok (.aload_n 0, 1) := by decide +kernel
theorem dX11_join_9 : decode cX11_join 9 = .ok (.iload_n 2, 1) := by decide +kernel
theorem dX11_join_10 : decode cX11_join 10 = .ok (.invokevirtual 137, 3) := by decide +kernel
theorem dX11_join_13 : decode cX11_join 13 = .ok (.ifCond .ne 5, 3) := by decide +kernel
theorem dX10_setRowLength_0 : decode cX10_setRowLength 0 = .ok (.aload_n 0, 1) := by decide +kernel
theorem dX10_setRowLength_1 : decode cX10_setRowLength 1 = .ok (.getfield 22, 3) := by decide +kernel
theorem dX10_setRowLength_4 : decode cX10_setRowLength 4 = .ok (.iconst 2, 1) := by decide +kernel
theorem dX10_setRowLength_5 : decode cX10_setRowLength 5 = .ok (.iload_n 1, 1) := by decide +kernel
theorem dX10_setRowLength_6 : decode cX10_setRowLength 6 = .ok (.imul, 1) := by decide +kernel
theorem dX10_setRowLength_7 : decode cX10_setRowLength 7 = .ok (.iload_n 2, 1) := by decide +kernel
theorem dX10_setRowLength_8 : decode cX10_setRowLength 8 = .ok (.iadd, 1) := by decide +kernel
theorem dX10_setRowLength_9 : decode cX10_setRowLength 9 = .ok (.iload_n 3, 1) := by decide +kernel
theorem dX10_setRowLength_10 : decode cX10_setRowLength 10 = .ok (.iastore, 1) := by decide +kernel
theorem dX10_setRowLength_11 : decode cX10_setRowLength 11 = .ok (.return_, 1) := by decide +kernel
theorem dX10_setRowWhole_23 : decode cX10_setRowWhole 23 = .ok (.return_, 1) := by decide +kernel
theorem dX10_setRowWhole_0 : decode cX10_setRowWhole 0 = .ok (.iload_n 3, 1) := by decide +kernel
theorem dX10_setRowWhole_1 : decode cX10_setRowWhole 1 = .ok (.bipush 100, 2) := by decide +kernel
theorem dX10_setRowWhole_3 : decode cX10_setRowWhole 3 = .ok (.if_icmp .ge 20, 3) := by decide +kernel
theorem dX10_setRowWhole_6 : decode cX10_setRowWhole 6 = .ok (.aload_n 0, 1) := by decide +kernel
theorem dX10_setRowWhole_7 : decode cX10_setRowWhole 7 = .ok (.getfield 25, 3) := by decide +kernel
theorem dX10_setRowWhole_10 : decode cX10_setRowWhole 10 = .ok (.iconst 2, 1) := by decide +kernel
theorem dX10_setRowWhole_11 : decode cX10_setRowWhole 11 = .ok (.iload_n 1, 1) := by decide +kernel
theorem dX10_setRowWhole_12 : decode cX10_setRowWhole 12 = .ok (.imul, 1) := by decide +kernel
theorem dX10_setRowWhole_13 : decode cX10_setRowWhole 13 = .ok (.iload_n 2, 1) := by decide +kernel
theorem dX10_setRowWhole_14 : decode cX10_setRowWhole 14 = .ok (.iadd, 1) := by decide +kernel
theorem dX10_setRowWhole_15 : decode cX10_setRowWhole 15 = .ok (.bipush 100, 2) := by decide +kernel
theorem dX10_setRowWhole_17 : decode cX10_setRowWhole 17 = .ok (.imul, 1) := by decide +kernel
theorem dX10_setRowWhole_18 : decode cX10_setRowWhole 18 = .ok (.iload_n 3, 1) := by decide +kernel
theorem dX10_setRowWhole_19 : decode cX10_setRowWhole 19 = .ok (.iadd, 1) := by decide +kernel
theorem dX10_setRowWhole_20 : decode cX10_setRowWhole 20 = .ok (.iload 4, 2) := by decide +kernel
theorem dX10_setRowWhole_22 : decode cX10_setRowWhole 22 = .ok (.iastore, 1) := by decide +kernel
theorem dX11_keepRow_121 : decode cX11_keepRow 121 = .ok (.iload_n 3, 1) := by decide +kernel
theorem dX11_keepRow_122 : decode cX11_keepRow 122 = .ok (.ireturn, 1) := by decide +kernel
theorem dX11_keepRow_64 : decode cX11_keepRow 64 = .ok (.iload 4, 2) := by decide +kernel
theorem dX11_keepRow_66 : decode cX11_keepRow 66 = .ok (.iload_n 3, 1) := by decide +kernel
theorem dX11_keepRow_67 : decode cX11_keepRow 67 = .ok (.if_icmp .ge 54, 3) := by decide +kernel
theorem dX11_keepRow_70 : decode cX11_keepRow 70 = .ok (.aload_n 0, 1) := by decide +kernel
theorem dX11_keepRow_71 : decode cX11_keepRow 71 = .ok (.getfield 22, 3) := by decide +kernel
theorem dX11_keepRow_74 : decode cX11_keepRow 74 = .ok (.getfield 89, 3) := by decide +kernel
theorem dX11_keepRow_77 : decode cX11_keepRow 77 = .ok (.iload_n 1, 1) := by decide +kernel
theorem dX11_keepRow_78 : decode cX11_keepRow 78 = .ok (.iload_n 2, 1) := by decide +kernel
theorem dX11_keepRow_79 : decode cX11_keepRow 79 = .ok (.iload 4, 2) := by decide +kernel
theorem dX11_keepRow_81 : decode cX11_keepRow 81 = .ok (.aload_n 0, 1) := by decide +kernel
theorem dX11_keepRow_82 : decode cX11_keepRow 82 = .ok (.getfield 12, 3) := by decide +kernel
theorem dX11_keepRow_85 : decode cX11_keepRow 85 = .ok (.getfield 530, 3) := by decide +kernel
theorem dX11_keepRow_88 : decode cX11_keepRow 88 = .ok (.iconst 2, 1) := by decide +kernel
theorem dX11_keepRow_89 : decode cX11_keepRow 89 = .ok (.iload 4, 2) := by decide +kernel
theorem dX11_keepRow_91 : decode cX11_keepRow 91 = .ok (.imul, 1) := by decide +kernel
theorem dX11_keepRow_92 : decode cX11_keepRow 92 = .ok (.iaload, 1) := by decide +kernel
theorem dX11_keepRow_93 : decode cX11_keepRow 93 = .ok (.sipush 256, 3) := by decide +kernel
theorem dX11_keepRow_96 : decode cX11_keepRow 96 = .ok (.imul, 1) := by decide +kernel
theorem dX11_keepRow_97 : decode cX11_keepRow 97 = .ok (.aload_n 0, 1) := by decide +kernel
theorem dX11_keepRow_98 : decode cX11_keepRow 98 = .ok (.getfield 12, 3) := by decide +kernel
theorem dX11_keepRow_101 : decode cX11_keepRow 101 = .ok (.getfield 530, 3) := by decide +kernel
theorem dX11_keepRow_104 : decode cX11_keepRow 104 = .ok (.iconst 2, 1) := by decide +kernel
theorem dX11_keepRow_105 : decode cX11_keepRow 105 = .ok (.iload 4, 2) := by decide +kernel
theorem dX11_keepRow_107 : decode cX11_keepRow 107 = .ok (.imul, 1) := by decide +kernel
theorem dX11_keepRow_108 : decode cX11_keepRow 108 = .ok (.iconst 1, 1) := by decide +kernel
theorem dX11_keepRow_109 : decode cX11_keepRow 109 = .ok (.iadd, 1) := by decide +kernel
theorem dX11_keepRow_110 : decode cX11_keepRow 110 = .ok (.iaload, 1) := by decide +kernel
theorem dX11_keepRow_111 : decode cX11_keepRow 111 = .ok (.iadd, 1) := by decide +kernel
theorem dX11_keepRow_112 : decode cX11_keepRow 112 = .ok (.invokevirtual 533, 3) := by decide +kernel
theorem dX11_keepRow_115 : decode cX11_keepRow 115 = .ok (.iinc 4 1, 3) := by decide +kernel
theorem dX11_keepRow_118 : decode cX11_keepRow 118 = .ok (.goto (-54), 3) := by decide +kernel
theorem dX11_keepRow_38 : decode cX11_keepRow 38 = .ok (.aload_n 0, 1) := by decide +kernel
theorem dX11_keepRow_39 : decode cX11_keepRow 39 = .ok (.getfield 12, 3) := by decide +kernel
theorem dX11_keepRow_42 : decode cX11_keepRow 42 = .ok (.getfield 58, 3) := by decide +kernel
theorem dX11_keepRow_45 : decode cX11_keepRow 45 = .ok (.iconst 2, 1) := by decide +kernel
theorem dX11_keepRow_46 : decode cX11_keepRow 46 = .ok (.idiv, 1) := by decide +kernel
theorem dX11_keepRow_47 : decode cX11_keepRow 47 = .ok (.istore_n 3, 1) := by decide +kernel
theorem dX11_keepRow_48 : decode cX11_keepRow 48 = .ok (.aload_n 0, 1) := by decide +kernel
theorem dX11_keepRow_49 : decode cX11_keepRow 49 = .ok (.getfield 22, 3) := by decide +kernel
theorem dX11_keepRow_52 : decode cX11_keepRow 52 = .ok (.getfield 89, 3) := by decide +kernel
theorem dX11_keepRow_55 : decode cX11_keepRow 55 = .ok (.iload_n 1, 1) := by decide +kernel
theorem dX11_keepRow_56 : decode cX11_keepRow 56 = .ok (.iload_n 2, 1) := by decide +kernel
theorem dX11_keepRow_57 : decode cX11_keepRow 57 = .ok (.iload_n 3, 1) := by decide +kernel
theorem dX11_keepRow_58 : decode cX11_keepRow 58 = .ok (.invokevirtual 318, 3) := by decide +kernel
theorem dX11_keepRow_61 : decode cX11_keepRow 61 = .ok (.iconst 0, 1) := by decide +kernel
theorem dX11_keepRow_62 : decode cX11_keepRow 62 = .ok (.istore 4, 2) := by decide +kernel
theorem dX11_keepRow_35 : decode cX11_keepRow 35 = .ok (.bipush (-2), 2) := by decide +kernel
theorem dX11_keepRow_37 : decode cX11_keepRow 37 = .ok (.ireturn, 1) := by decide +kernel
theorem dX11_keepRow_16 : decode cX11_keepRow 16 = .ok (.iload_n 2, 1) := by decide +kernel
theorem dX11_keepRow_17 : decode cX11_keepRow 17 = .ok (.invokestatic 309, 3) := by decide +kernel
theorem dX11_keepRow_20 : decode cX11_keepRow 20 = .ok (.ifCond .eq 15, 3) := by decide +kernel
theorem dX11_keepRow_23 : decode cX11_keepRow 23 = .ok (.aload_n 0, 1) := by decide +kernel
theorem dX11_keepRow_24 : decode cX11_keepRow 24 = .ok (.getfield 12, 3) := by decide +kernel
theorem dX11_keepRow_27 : decode cX11_keepRow 27 = .ok (.getfield 58, 3) := by decide +kernel
theorem dX11_keepRow_30 : decode cX11_keepRow 30 = .ok (.iconst 2, 1) := by decide +kernel
theorem dX11_keepRow_31 : decode cX11_keepRow 31 = .ok (.irem, 1) := by decide +kernel
theorem dX11_keepRow_32 : decode cX11_keepRow 32 = .ok (.ifCond .eq 6, 3) := by decide +kernel
theorem dX11_keepRow_0 : decode cX11_keepRow 0 = .ok (.aload_n 0, 1) := by decide +kernel
theorem dX11_keepRow_1 : decode cX11_keepRow 1 = .ok (.getfield 22, 3) := by decide +kernel
theorem dX11_keepRow_4 : decode cX11_keepRow 4 = .ok (.getfield 89, 3) := by decide +kernel
theorem dX11_keepRow_7 : decode cX11_keepRow 7 = .ok (.iload_n 1, 1) := by decide +kernel
theorem dX11_keepRow_8 : decode cX11_keepRow 8 = .ok (.invokevirtual 167, 3) := by decide +kernel
theorem dX11_keepRow_11 : decode cX11_keepRow 11 = .ok (.ifCond .ne 5, 3) := by decide +kernel
theorem dX11_keepRow_14 : decode cX11_keepRow 14 = .ok (.iconst (-1), 1) := by decide +kernel
theorem dX11_keepRow_15 : decode cX11_keepRow 15 = .ok (.ireturn, 1) := by decide +kernel
theorem dX11_row_0 : decode cX11_row 0 = .ok (.aload_n 0, 1) := by decide +kernel
theorem dX11_row_1 : decode cX11_row 1 = .ok (.iload_n 1, 1) := by decide +kernel
theorem dX11_row_2 : decode cX11_row 2 = .ok (.iload_n 2, 1) := by decide +kernel
theorem dX11_row_3 : decode cX11_row 3 = .ok (.invokevirtual 306, 3) := by decide +kernel
theorem dX11_row_6 : decode cX11_row 6 = .ok (.istore_n 3, 1) := by decide +kernel
theorem dX11_row_7 : decode cX11_row 7 = .ok (.aload_n 0, 1) := by decide +kernel
theorem dX11_row_8 : decode cX11_row 8 = .ok (.getfield 12, 3) := by decide +kernel
theorem dX11_row_11 : decode cX11_row 11 = .ok (.iconst 0, 1) := by decide +kernel
theorem dX11_row_12 : decode cX11_row 12 = .ok (.putfield 58, 3) := by decide +kernel
theorem dX11_row_15 : decode cX11_row 15 = .ok (.iload_n 3, 1) := by decide +kernel
theorem dX11_row_16 : decode cX11_row 16 = .ok (.ireturn, 1) := by decide +kernel
theorem dX10_rowLengthOf_0 : decode cX10_rowLengthOf 0 = .ok (.aload_n 0, 1) := by decide +kernel
theorem dX10_rowLengthOf_1 : decode cX10_rowLengthOf 1 = .ok (.getfield 22, 3) := by decide +kernel
theorem dX10_rowLengthOf_4 : decode cX10_rowLengthOf 4 = .ok (.iconst 2, 1) := by decide +kernel
theorem dX10_rowLengthOf_5 : decode cX10_rowLengthOf 5 = .ok (.iload_n 1, 1) := by decide +kernel
theorem dX10_rowLengthOf_6 : decode cX10_rowLengthOf 6 = .ok (.imul, 1) := by decide +kernel
theorem dX10_rowLengthOf_7 : decode cX10_rowLengthOf 7 = .ok (.iload_n 2, 1) := by decide +kernel
theorem dX10_rowLengthOf_8 : decode cX10_rowLengthOf 8 = .ok (.iadd, 1) := by decide +kernel
theorem dX10_rowLengthOf_9 : decode cX10_rowLengthOf 9 = .ok (.iaload, 1) := by decide +kernel
theorem dX10_rowLengthOf_10 : decode cX10_rowLengthOf 10 = .ok (.ireturn, 1) := by decide +kernel
theorem dX11_tear_31 : decode cX11_tear 31 = .ok (.aload_n 0, 1) := by decide +kernel
theorem dX11_tear_32 : decode cX11_tear 32 = .ok (.getfield 22, 3) := by decide +kernel
theorem dX11_tear_35 : decode cX11_tear 35 = .ok (.getfield 89, 3) := by decide +kernel
theorem dX11_tear_38 : decode cX11_tear 38 = .ok (.iload_n 1, 1) := by decide +kernel
theorem dX11_tear_39 : decode cX11_tear 39 = .ok (.iload_n 2, 1) := by decide +kernel
theorem dX11_tear_40 : decode cX11_tear 40 = .ok (.invokevirtual 312, 3) := by decide +kernel
theorem dX11_tear_43 : decode cX11_tear 43 = .ok (.istore 4, 2) := by decide +kernel
theorem dX11_tear_45 : decode cX11_tear 45 = .ok (.aload_n 0, 1) := by decide +kernel
theorem dX11_tear_46 : decode cX11_tear 46 = .ok (.getfield 22, 3) := by decide +kernel
theorem dX11_tear_49 : decode cX11_tear 49 = .ok (.getfield 89, 3) := by decide +kernel
theorem dX11_tear_52 : decode cX11_tear 52 = .ok (.iload_n 1, 1) := by decide +kernel
theorem dX11_tear_53 : decode cX11_tear 53 = .ok (.iload_n 2, 1) := by decide +kernel
theorem dX11_tear_54 : decode cX11_tear 54 = .ok (.iload_n 3, 1) := by decide +kernel
theorem dX11_tear_55 : decode cX11_tear 55 = .ok (.iload 4, 2) := by decide +kernel
theorem dX11_tear_57 : decode cX11_tear 57 = .ok (.invokestatic 315, 3) := by decide +kernel
theorem dX11_tear_60 : decode cX11_tear 60 = .ok (.invokevirtual 318, 3) := by decide +kernel
theorem dX11_tear_63 : decode cX11_tear 63 = .ok (.iload 4, 2) := by decide +kernel
theorem dX11_tear_65 : decode cX11_tear 65 = .ok (.ireturn, 1) := by decide +kernel
theorem dX11_tear_23 : decode cX11_tear 23 = .ok (.iload_n 3, 1) := by decide +kernel
theorem dX11_tear_24 : decode cX11_tear 24 = .ok (.iconst (-1), 1) := by decide +kernel
theorem dX11_tear_25 : decode cX11_tear 25 = .ok (.if_icmp .ge 6, 3) := by decide +kernel
theorem dX11_tear_28 : decode cX11_tear 28 = .ok (.bipush (-2), 2) := by decide +kernel
theorem dX11_tear_30 : decode cX11_tear 30 = .ok (.ireturn, 1) := by decide +kernel
theorem dX11_tear_21 : decode cX11_tear 21 = .ok (.iconst (-1), 1) := by decide +kernel
theorem dX11_tear_22 : decode cX11_tear 22 = .ok (.ireturn, 1) := by decide +kernel
theorem dX11_tear_0 : decode cX11_tear 0 = .ok (.aload_n 0, 1) := by decide +kernel
theorem dX11_tear_1 : decode cX11_tear 1 = .ok (.getfield 22, 3) := by decide +kernel
theorem dX11_tear_4 : decode cX11_tear 4 = .ok (.getfield 89, 3) := by decide +kernel
theorem dX11_tear_7 : decode cX11_tear 7 = .ok (.iload_n 1, 1) := by decide +kernel
theorem dX11_tear_8 : decode cX11_tear 8 = .ok (.invokevirtual 167, 3) := by decide +kernel
theorem dX11_tear_11 : decode cX11_tear 11 = .ok (.ifCond .eq 10, 3) := by decide +kernel
theorem dX11_tear_14 : decode cX11_tear 14 = .ok (.iload_n 2, 1) := by decide +kernel
theorem dX11_tear_15 : decode cX11_tear 15 = .ok (.invokestatic 309, 3) := by decide +kernel
theorem dX11_tear_18 : decode cX11_tear 18 = .ok (.ifCond .ne 5, 3) := by decide +kernel
theorem dX6_keptWithout_42 : decode cX6_keptWithout 42 = .ok (.iload 4, 2) := by decide +kernel
theorem dX6_keptWithout_44 : decode cX6_keptWithout 44 = .ok (.ireturn, 1) := by decide +kernel
theorem dX6_keptWithout_36 : decode cX6_keptWithout 36 = .ok (.iinc 5 1, 3) := by decide +kernel
theorem dX6_keptWithout_39 : decode cX6_keptWithout 39 = .ok (.goto (-33), 3) := by decide +kernel
theorem dX6_keptWithout_25 : decode cX6_keptWithout 25 = .ok (.aload_n 1, 1) := by decide +kernel
theorem dX6_keptWithout_26 : decode cX6_keptWithout 26 = .ok (.iload 5, 2) := by decide +kernel
theorem dX6_keptWithout_28 : decode cX6_keptWithout 28 = .ok (.iaload, 1) := by decide +kernel
theorem dX6_keptWithout_29 : decode cX6_keptWithout 29 = .ok (.iload_n 0, 1) := by decide +kernel
theorem dX6_keptWithout_30 : decode cX6_keptWithout 30 = .ok (.if_icmp .eq 6, 3) := by decide +kernel
theorem dX6_keptWithout_33 : decode cX6_keptWithout 33 = .ok (.iinc 4 1, 3) := by decide +kernel
theorem dX6_keptWithout_6 : decode cX6_keptWithout 6 = .ok (.iload 5, 2) := by decide +kernel
theorem dX6_keptWithout_8 : decode cX6_keptWithout 8 = .ok (.iload_n 3, 1) := by decide +kernel
theorem dX6_keptWithout_9 : decode cX6_keptWithout 9 = .ok (.if_icmp .ge 33, 3) := by decide +kernel
theorem dX6_keptWithout_12 : decode cX6_keptWithout 12 = .ok (.aload_n 2, 1) := by decide +kernel
theorem dX6_keptWithout_13 : decode cX6_keptWithout 13 = .ok (.iload 5, 2) := by decide +kernel
theorem dX6_keptWithout_15 : decode cX6_keptWithout 15 = .ok (.iaload, 1) := by decide +kernel
theorem dX6_keptWithout_16 : decode cX6_keptWithout 16 = .ok (.iload_n 0, 1) := by decide +kernel
theorem dX6_keptWithout_17 : decode cX6_keptWithout 17 = .ok (.if_icmp .ne 8, 3) := by decide +kernel
theorem dX6_keptWithout_20 : decode cX6_keptWithout 20 = .ok (.aload_n 2, 1) := by decide +kernel
theorem dX6_keptWithout_21 : decode cX6_keptWithout 21 = .ok (.iload 5, 2) := by decide +kernel
theorem dX6_keptWithout_23 : decode cX6_keptWithout 23 = .ok (.iconst (-1), 1) := by decide +kernel
theorem dX6_keptWithout_24 : decode cX6_keptWithout 24 = .ok (.iastore, 1) := by decide +kernel
theorem dX6_keptWithout_0 : decode cX6_keptWithout 0 = .ok (.iconst 0, 1) := by decide +kernel
theorem dX6_keptWithout_1 : decode cX6_keptWithout 1 = .ok (.istore 4, 2) := by decide +kernel
theorem dX6_keptWithout_3 : decode cX6_keptWithout 3 = .ok (.iconst 0, 1) := by decide +kernel
theorem dX6_keptWithout_4 : decode cX6_keptWithout 4 = .ok (.istore 5, 2) := by decide +kernel
theorem dX4_takeBack_0 : decode cX4_takeBack 0 = .ok (.aload_n 0, 1) := by decide +kernel
theorem dX4_takeBack_1 : decode cX4_takeBack 1 = .ok (.iload_n 1, 1) := by decide +kernel
theorem dX4_takeBack_2 : decode cX4_takeBack 2 = .ok (.aload_n 0, 1) := by decide +kernel
theorem dX4_takeBack_3 : decode cX4_takeBack 3 = .ok (.getfield 18, 3) := by decide +kernel
theorem dX4_takeBack_6 : decode cX4_takeBack 6 = .ok (.aload_n 0, 1) := by decide +kernel
theorem dX4_takeBack_7 : decode cX4_takeBack 7 = .ok (.getfield 21, 3) := by decide +kernel
theorem dX4_takeBack_10 : decode cX4_takeBack 10 = .ok (.aload_n 0, 1) := by decide +kernel
theorem dX4_takeBack_11 : decode cX4_takeBack 11 = .ok (.getfield 24, 3) := by decide +kernel
theorem dX4_takeBack_14 : decode cX4_takeBack 14 = .ok (.invokestatic 40, 3) := by decide +kernel
theorem dX4_takeBack_17 : decode cX4_takeBack 17 = .ok (.putfield 24, 3) := by decide +kernel
theorem dX4_takeBack_20 : decode cX4_takeBack 20 = .ok (.return_, 1) := by decide +kernel
theorem dX3_takeBack_0 : decode cX3_takeBack 0 = .ok (.aload_n 0, 1) := by decide +kernel
theorem dX3_takeBack_1 : decode cX3_takeBack 1 = .ok (.iload_n 1, 1) := by decide +kernel
theorem dX3_takeBack_2 : decode cX3_takeBack 2 = .ok (.aload_n 0, 1) := by decide +kernel
theorem dX3_takeBack_3 : decode cX3_takeBack 3 = .ok (.getfield 18, 3) := by decide +kernel
theorem dX3_takeBack_6 : decode cX3_takeBack 6 = .ok (.aload_n 0, 1) := by decide +kernel
theorem dX3_takeBack_7 : decode cX3_takeBack 7 = .ok (.getfield 21, 3) := by decide +kernel
theorem dX3_takeBack_10 : decode cX3_takeBack 10 = .ok (.aload_n 0, 1) := by decide +kernel
theorem dX3_takeBack_11 : decode cX3_takeBack 11 = .ok (.getfield 28, 3) := by decide +kernel
theorem dX3_takeBack_14 : decode cX3_takeBack 14 = .ok (.invokestatic 75, 3) := by decide +kernel
theorem dX3_takeBack_17 : decode cX3_takeBack 17 = .ok (.putfield 28, 3) := by decide +kernel
theorem dX3_takeBack_20 : decode cX3_takeBack 20 = .ok (.return_, 1) := by decide +kernel
theorem dX10_takeBack_32 : decode cX10_takeBack 32 = .ok (.return_, 1) := by decide +kernel
theorem dX10_takeBack_0 : decode cX10_takeBack 0 = .ok (.aload_n 0, 1) := by decide +kernel
theorem dX10_takeBack_1 : decode cX10_takeBack 1 = .ok (.getfield 32, 3) := by decide +kernel
theorem dX10_takeBack_4 : decode cX10_takeBack 4 = .ok (.ifCond .le 28, 3) := by decide +kernel
theorem dX10_takeBack_7 : decode cX10_takeBack 7 = .ok (.aload_n 0, 1) := by decide +kernel
theorem dX10_takeBack_8 : decode cX10_takeBack 8 = .ok (.getfield 19, 3) := by decide +kernel
theorem dX10_takeBack_11 : decode cX10_takeBack 11 = .ok (.aload_n 0, 1) := by decide +kernel
theorem dX10_takeBack_12 : decode cX10_takeBack 12 = .ok (.getfield 32, 3) := by decide +kernel
theorem dX10_takeBack_15 : decode cX10_takeBack 15 = .ok (.iconst 1, 1) := by decide +kernel
theorem dX10_takeBack_16 : decode cX10_takeBack 16 = .ok (.isub, 1) := by decide +kernel
theorem dX10_takeBack_17 : decode cX10_takeBack 17 = .ok (.iaload, 1) := by decide +kernel
theorem dX10_takeBack_18 : decode cX10_takeBack 18 = .ok (.iload_n 1, 1) := by decide +kernel
theorem dX10_takeBack_19 : decode cX10_takeBack 19 = .ok (.if_icmp .ne 13, 3) := by decide +kernel
theorem dX10_takeBack_22 : decode cX10_takeBack 22 = .ok (.aload_n 0, 1) := by decide +kernel
theorem dX10_takeBack_23 : decode cX10_takeBack 23 = .ok (.dup, 1) := by decide +kernel
theorem dX10_takeBack_24 : decode cX10_takeBack 24 = .ok (.getfield 32, 3) := by decide +kernel
theorem dX10_takeBack_27 : decode cX10_takeBack 27 = .ok (.iconst 1, 1) := by decide +kernel
theorem dX10_takeBack_28 : decode cX10_takeBack 28 = .ok (.isub, 1) := by decide +kernel
theorem dX10_takeBack_29 : decode cX10_takeBack 29 = .ok (.putfield 32, 3) := by decide +kernel
theorem dX2_takeBack_65 : decode cX2_takeBack 65 = .ok (.return_, 1) := by decide +kernel
theorem dX2_takeBack_59 : decode cX2_takeBack 59 = .ok (.iinc 2 1, 3) := by decide +kernel
theorem dX2_takeBack_62 : decode cX2_takeBack 62 = .ok (.goto (-40), 3) := by decide +kernel
theorem dX2_takeBack_22 : decode cX2_takeBack 22 = .ok (.iload_n 2, 1) := by decide +kernel
theorem dX2_takeBack_23 : decode cX2_takeBack 23 = .ok (.aload_n 0, 1) := by decide +kernel
theorem dX2_takeBack_24 : decode cX2_takeBack 24 = .ok (.getfield 42, 3) := by decide +kernel
theorem dX2_takeBack_27 : decode cX2_takeBack 27 = .ok (.if_icmp .ge 38, 3) := by decide +kernel
theorem dX2_takeBack_30 : decode cX2_takeBack 30 = .ok (.aload_n 0, 1) := by decide +kernel
theorem dX2_takeBack_31 : decode cX2_takeBack 31 = .ok (.getfield 30, 3) := by decide +kernel
theorem dX2_takeBack_34 : decode cX2_takeBack 34 = .ok (.iload_n 2, 1) := by decide +kernel
theorem dX2_takeBack_35 : decode cX2_takeBack 35 = .ok (.iaload, 1) := by decide +kernel
theorem dX2_takeBack_36 : decode cX2_takeBack 36 = .ok (.iload_n 1, 1) := by decide +kernel
theorem dX2_takeBack_37 : decode cX2_takeBack 37 = .ok (.if_icmp .ne 22, 3) := by decide +kernel
theorem dX2_takeBack_40 : decode cX2_takeBack 40 = .ok (.aload_n 0, 1) := by decide +kernel
theorem dX2_takeBack_41 : decode cX2_takeBack 41 = .ok (.getfield 30, 3) := by decide +kernel
theorem dX2_takeBack_44 : decode cX2_takeBack 44 = .ok (.iload_n 2, 1) := by decide +kernel
theorem dX2_takeBack_45 : decode cX2_takeBack 45 = .ok (.iconst (-1), 1) := by decide +kernel
theorem dX2_takeBack_46 : decode cX2_takeBack 46 = .ok (.iastore, 1) := by decide +kernel
theorem dX2_takeBack_47 : decode cX2_takeBack 47 = .ok (.aload_n 0, 1) := by decide +kernel
theorem dX2_takeBack_48 : decode cX2_takeBack 48 = .ok (.iconst 2, 1) := by decide +kernel
theorem dX2_takeBack_49 : decode cX2_takeBack 49 = .ok (.iload_n 2, 1) := by decide +kernel
theorem dX2_takeBack_50 : decode cX2_takeBack 50 = .ok (.imul, 1) := by decide +kernel
theorem dX2_takeBack_51 : decode cX2_takeBack 51 = .ok (.iconst 1, 1) := by decide +kernel
theorem dX2_takeBack_52 : decode cX2_takeBack 52 = .ok (.iadd, 1) := by decide +kernel
theorem dX2_takeBack_53 : decode cX2_takeBack 53 = .ok (.iconst (-1), 1) := by decide +kernel
theorem dX2_takeBack_54 : decode cX2_takeBack 54 = .ok (.iconst (-1), 1) := by decide +kernel
theorem dX2_takeBack_55 : decode cX2_takeBack 55 = .ok (.iconst (-1), 1) := by decide +kernel
theorem dX2_takeBack_56 : decode cX2_takeBack 56 = .ok (.invokevirtual 62, 3) := by decide +kernel
theorem dX2_takeBack_0 : decode cX2_takeBack 0 = .ok (.aload_n 0, 1) := by decide +kernel
theorem dX2_takeBack_1 : decode cX2_takeBack 1 = .ok (.iload_n 1, 1) := by decide +kernel
theorem dX2_takeBack_2 : decode cX2_takeBack 2 = .ok (.aload_n 0, 1) := by decide +kernel
theorem dX2_takeBack_3 : decode cX2_takeBack 3 = .ok (.getfield 24, 3) := by decide +kernel
theorem dX2_takeBack_6 : decode cX2_takeBack 6 = .ok (.aload_n 0, 1) := by decide +kernel
theorem dX2_takeBack_7 : decode cX2_takeBack 7 = .ok (.getfield 27, 3) := by decide +kernel
theorem dX2_takeBack_10 : decode cX2_takeBack 10 = .ok (.aload_n 0, 1) := by decide +kernel
theorem dX2_takeBack_11 : decode cX2_takeBack 11 = .ok (.getfield 42, 3) := by decide +kernel
theorem dX2_takeBack_14 : decode cX2_takeBack 14 = .ok (.invokestatic 69, 3) := by decide +kernel
theorem dX2_takeBack_17 : decode cX2_takeBack 17 = .ok (.putfield 42, 3) := by decide +kernel
theorem dX2_takeBack_20 : decode cX2_takeBack 20 = .ok (.iconst 0, 1) := by decide +kernel
theorem dX2_takeBack_21 : decode cX2_takeBack 21 = .ok (.istore_n 2, 1) := by decide +kernel
theorem dX5_takeBackLatest_54 : decode cX5_takeBackLatest 54 = .ok (.aload_n 0, 1) := by decide +kernel
theorem dX5_takeBackLatest_55 : decode cX5_takeBackLatest 55 = .ok (.getfield 21, 3) := by decide +kernel
theorem dX5_takeBackLatest_58 : decode cX5_takeBackLatest 58 = .ok (.iload_n 1, 1) := by decide +kernel
theorem dX5_takeBackLatest_59 : decode cX5_takeBackLatest 59 = .ok (.invokevirtual 173, 3) := by decide +kernel
theorem dX5_takeBackLatest_62 : decode cX5_takeBackLatest 62 = .ok (.aload_n 0, 1) := by decide +kernel
theorem dX5_takeBackLatest_63 : decode cX5_takeBackLatest 63 = .ok (.getfield 28, 3) := by decide +kernel
theorem dX5_takeBackLatest_66 : decode cX5_takeBackLatest 66 = .ok (.iload_n 1, 1) := by decide +kernel
theorem dX5_takeBackLatest_67 : decode cX5_takeBackLatest 67 = .ok (.invokevirtual 177, 3) := by decide +kernel
theorem dX5_takeBackLatest_70 : decode cX5_takeBackLatest 70 = .ok (.aload_n 0, 1) := by decide +kernel
theorem dX5_takeBackLatest_71 : decode cX5_takeBackLatest 71 = .ok (.getfield 35, 3) := by decide +kernel
theorem dX5_takeBackLatest_74 : decode cX5_takeBackLatest 74 = .ok (.iload_n 1, 1) := by decide +kernel
theorem dX5_takeBackLatest_75 : decode cX5_takeBackLatest 75 = .ok (.invokevirtual 178, 3) := by decide +kernel
theorem dX5_takeBackLatest_78 : decode cX5_takeBackLatest 78 = .ok (.aload_n 0, 1) := by decide +kernel
theorem dX5_takeBackLatest_79 : decode cX5_takeBackLatest 79 = .ok (.getfield 42, 3) := by decide +kernel
theorem dX5_takeBackLatest_82 : decode cX5_takeBackLatest 82 = .ok (.iload_n 1, 1) := by decide +kernel
theorem dX5_takeBackLatest_83 : decode cX5_takeBackLatest 83 = .ok (.invokevirtual 179, 3) := by decide +kernel
theorem dX5_takeBackLatest_86 : decode cX5_takeBackLatest 86 = .ok (.aload_n 0, 1) := by decide +kernel
theorem dX5_takeBackLatest_87 : decode cX5_takeBackLatest 87 = .ok (.getfield 12, 3) := by decide +kernel
theorem dX5_takeBackLatest_90 : decode cX5_takeBackLatest 90 = .ok (.iload_n 1, 1) := by decide +kernel
theorem dX5_takeBackLatest_91 : decode cX5_takeBackLatest 91 = .ok (.putfield 162, 3) := by decide +kernel
theorem dX5_takeBackLatest_94 : decode cX5_takeBackLatest 94 = .ok (.iload_n 1, 1) := by decide +kernel
theorem dX5_takeBackLatest_95 : decode cX5_takeBackLatest 95 = .ok (.ireturn, 1) := by decide +kernel
theorem dX5_takeBackLatest_16 : decode cX5_takeBackLatest 16 = .ok (.aload_n 0, 1) := by decide +kernel
theorem dX5_takeBackLatest_17 : decode cX5_takeBackLatest 17 = .ok (.getfield 12, 3) := by decide +kernel
theorem dX5_takeBackLatest_20 : decode cX5_takeBackLatest 20 = .ok (.getfield 163, 3) := by decide +kernel
theorem dX5_takeBackLatest_23 : decode cX5_takeBackLatest 23 = .ok (.iload_n 1, 1) := by decide +kernel
theorem dX5_takeBackLatest_24 : decode cX5_takeBackLatest 24 = .ok (.iaload, 1) := by decide +kernel
theorem dX5_takeBackLatest_25 : decode cX5_takeBackLatest 25 = .ok (.iconst (-1), 1) := by decide +kernel
theorem dX5_takeBackLatest_26 : decode cX5_takeBackLatest 26 = .ok (.if_icmp .eq 28, 3) := by decide +kernel
theorem dX5_takeBackLatest_29 : decode cX5_takeBackLatest 29 = .ok (.aload_n 0, 1) := by decide +kernel
theorem dX5_takeBackLatest_30 : decode cX5_takeBackLatest 30 = .ok (.getfield 35, 3) := by decide +kernel
theorem dX5_takeBackLatest_33 : decode cX5_takeBackLatest 33 = .ok (.aload_n 0, 1) := by decide +kernel
theorem dX5_takeBackLatest_34 : decode cX5_takeBackLatest 34 = .ok (.getfield 12, 3) := by decide +kernel
theorem dX5_takeBackLatest_37 : decode cX5_takeBackLatest 37 = .ok (.getfield 166, 3) := by decide +kernel
theorem dX5_takeBackLatest_40 : decode cX5_takeBackLatest 40 = .ok (.iload_n 1, 1) := by decide +kernel
theorem dX5_takeBackLatest_41 : decode cX5_takeBackLatest 41 = .ok (.iaload, 1) := by decide +kernel
theorem dX5_takeBackLatest_42 : decode cX5_takeBackLatest 42 = .ok (.aload_n 0, 1) := by decide +kernel
theorem dX5_takeBackLatest_43 : decode cX5_takeBackLatest 43 = .ok (.getfield 12, 3) := by decide +kernel
theorem dX5_takeBackLatest_46 : decode cX5_takeBackLatest 46 = .ok (.getfield 163, 3) := by decide +kernel
theorem dX5_takeBackLatest_49 : decode cX5_takeBackLatest 49 = .ok (.iload_n 1, 1) := by decide +kernel
theorem dX5_takeBackLatest_50 : decode cX5_takeBackLatest 50 = .ok (.iaload, 1) := by decide +kernel
theorem dX5_takeBackLatest_51 : decode cX5_takeBackLatest 51 = .ok (.invokevirtual 169, 3) := by decide +kernel
theorem dX5_takeBackLatest_0 : decode cX5_takeBackLatest 0 = .ok (.aload_n 0, 1) := by decide +kernel
theorem dX5_takeBackLatest_1 : decode cX5_takeBackLatest 1 = .ok (.getfield 12, 3) := by decide +kernel
theorem dX5_takeBackLatest_4 : decode cX5_takeBackLatest 4 = .ok (.getfield 162, 3) := by decide +kernel
theorem dX5_takeBackLatest_7 : decode cX5_takeBackLatest 7 = .ok (.iconst 1, 1) := by decide +kernel
theorem dX5_takeBackLatest_8 : decode cX5_takeBackLatest 8 = .ok (.isub, 1) := by decide +kernel
theorem dX5_takeBackLatest_9 : decode cX5_takeBackLatest 9 = .ok (.istore_n 1, 1) := by decide +kernel
theorem dX5_takeBackLatest_10 : decode cX5_takeBackLatest 10 = .ok (.iload_n 1, 1) := by decide +kernel
theorem dX5_takeBackLatest_11 : decode cX5_takeBackLatest 11 = .ok (.ifCond .ge 5, 3) := by decide +kernel
theorem dX5_takeBackLatest_14 : decode cX5_takeBackLatest 14 = .ok (.iconst (-1), 1) := by decide +kernel
theorem dX5_takeBackLatest_15 : decode cX5_takeBackLatest 15 = .ok (.ireturn, 1) := by decide +kernel
theorem dX11_undo_0 : decode cX11_undo 0 = .ok (.aload_n 0, 1) := by decide +kernel
theorem dX11_undo_1 : decode cX11_undo 1 = .ok (.getfield 22, 3) := by decide +kernel
theorem dX11_undo_4 : decode cX11_undo 4 = .ok (.invokevirtual 321, 3) := by decide +kernel
theorem dX11_undo_7 : decode cX11_undo 7 = .ok (.ireturn, 1) := by decide +kernel
theorem dX6_copyFrom_0 : decode cX6_copyFrom 0 = .ok (.aload_n 0, 1) := by decide +kernel
theorem dX6_copyFrom_1 : decode cX6_copyFrom 1 = .ok (.aload_n 1, 1) := by decide +kernel
theorem dX6_copyFrom_2 : decode cX6_copyFrom 2 = .ok (.getfield 37, 3) := by decide +kernel
theorem dX6_copyFrom_5 : decode cX6_copyFrom 5 = .ok (.putfield 37, 3) := by decide +kernel
theorem dX6_copyFrom_8 : decode cX6_copyFrom 8 = .ok (.aload_n 0, 1) := by decide +kernel
theorem dX6_copyFrom_9 : decode cX6_copyFrom 9 = .ok (.aload_n 1, 1) := by decide +kernel
theorem dX6_copyFrom_10 : decode cX6_copyFrom 10 = .ok (.getfield 9, 3) := by decide +kernel
theorem dX6_copyFrom_13 : decode cX6_copyFrom 13 = .ok (.putfield 9, 3) := by decide +kernel
theorem dX6_copyFrom_16 : decode cX6_copyFrom 16 = .ok (.aload_n 0, 1) := by decide +kernel
theorem dX6_copyFrom_17 : decode cX6_copyFrom 17 = .ok (.aload_n 1, 1) := by decide +kernel
theorem dX6_copyFrom_18 : decode cX6_copyFrom 18 = .ok (.getfield 40, 3) := by decide +kernel
theorem dX6_copyFrom_21 : decode cX6_copyFrom 21 = .ok (.putfield 40, 3) := by decide +kernel
theorem dX6_copyFrom_24 : decode cX6_copyFrom 24 = .ok (.aload_n 1, 1) := by decide +kernel
theorem dX6_copyFrom_25 : decode cX6_copyFrom 25 = .ok (.getfield 15, 3) := by decide +kernel
theorem dX6_copyFrom_28 : decode cX6_copyFrom 28 = .ok (.iconst 0, 1) := by decide +kernel
theorem dX6_copyFrom_29 : decode cX6_copyFrom 29 = .ok (.aload_n 0, 1) := by decide +kernel
theorem dX6_copyFrom_30 : decode cX6_copyFrom 30 = .ok (.getfield 15, 3) := by decide +kernel
theorem dX6_copyFrom_33 : decode cX6_copyFrom 33 = .ok (.iconst 0, 1) := by decide +kernel
theorem dX6_copyFrom_34 : decode cX6_copyFrom 34 = .ok (.aload_n 0, 1) := by decide +kernel
theorem dX6_copyFrom_35 : decode cX6_copyFrom 35 = .ok (.getfield 40, 3) := by decide +kernel
theorem dX6_copyFrom_38 : decode cX6_copyFrom 38 = .ok (.invokestatic 43, 3) := by decide +kernel
theorem dX6_copyFrom_41 : decode cX6_copyFrom 41 = .ok (.aload_n 1, 1) := by decide +kernel
theorem dX6_copyFrom_42 : decode cX6_copyFrom 42 = .ok (.getfield 19, 3) := by decide +kernel
theorem dX6_copyFrom_45 : decode cX6_copyFrom 45 = .ok (.iconst 0, 1) := by decide +kernel
theorem dX6_copyFrom_46 : decode cX6_copyFrom 46 = .ok (.aload_n 0, 1) := by decide +kernel
theorem dX6_copyFrom_47 : decode cX6_copyFrom 47 = .ok (.getfield 19, 3) := by decide +kernel
theorem dX6_copyFrom_50 : decode cX6_copyFrom 50 = .ok (.iconst 0, 1) := by decide +kernel
theorem dX6_copyFrom_51 : decode cX6_copyFrom 51 = .ok (.aload_n 0, 1) := by decide +kernel
theorem dX6_copyFrom_52 : decode cX6_copyFrom 52 = .ok (.getfield 40, 3) := by decide +kernel
theorem dX6_copyFrom_55 : decode cX6_copyFrom 55 = .ok (.invokestatic 43, 3) := by decide +kernel
theorem dX6_copyFrom_58 : decode cX6_copyFrom 58 = .ok (.aload_n 1, 1) := by decide +kernel
theorem dX6_copyFrom_59 : decode cX6_copyFrom 59 = .ok (.getfield 22, 3) := by decide +kernel
theorem dX6_copyFrom_62 : decode cX6_copyFrom 62 = .ok (.iconst 0, 1) := by decide +kernel
theorem dX6_copyFrom_63 : decode cX6_copyFrom 63 = .ok (.aload_n 0, 1) := by decide +kernel
theorem dX6_copyFrom_64 : decode cX6_copyFrom 64 = .ok (.getfield 22, 3) := by decide +kernel
theorem dX6_copyFrom_67 : decode cX6_copyFrom 67 = .ok (.iconst 0, 1) := by decide +kernel
theorem dX6_copyFrom_68 : decode cX6_copyFrom 68 = .ok (.aload_n 0, 1) := by decide +kernel
theorem dX6_copyFrom_69 : decode cX6_copyFrom 69 = .ok (.getfield 40, 3) := by decide +kernel
theorem dX6_copyFrom_72 : decode cX6_copyFrom 72 = .ok (.invokestatic 43, 3) := by decide +kernel
theorem dX6_copyFrom_75 : decode cX6_copyFrom 75 = .ok (.aload_n 1, 1) := by decide +kernel
theorem dX6_copyFrom_76 : decode cX6_copyFrom 76 = .ok (.getfield 25, 3) := by decide +kernel
theorem dX6_copyFrom_79 : decode cX6_copyFrom 79 = .ok (.iconst 0, 1) := by decide +kernel
theorem dX6_copyFrom_80 : decode cX6_copyFrom 80 = .ok (.aload_n 0, 1) := by decide +kernel
theorem dX6_copyFrom_81 : decode cX6_copyFrom 81 = .ok (.getfield 25, 3) := by decide +kernel
theorem dX6_copyFrom_84 : decode cX6_copyFrom 84 = .ok (.iconst 0, 1) := by decide +kernel
theorem dX6_copyFrom_85 : decode cX6_copyFrom 85 = .ok (.aload_n 0, 1) := by decide +kernel
theorem dX6_copyFrom_86 : decode cX6_copyFrom 86 = .ok (.getfield 40, 3) := by decide +kernel
theorem dX6_copyFrom_89 : decode cX6_copyFrom 89 = .ok (.invokestatic 43, 3) := by decide +kernel
theorem dX6_copyFrom_92 : decode cX6_copyFrom 92 = .ok (.aload_n 1, 1) := by decide +kernel
theorem dX6_copyFrom_93 : decode cX6_copyFrom 93 = .ok (.getfield 28, 3) := by decide +kernel
theorem dX6_copyFrom_96 : decode cX6_copyFrom 96 = .ok (.iconst 0, 1) := by decide +kernel
theorem dX6_copyFrom_97 : decode cX6_copyFrom 97 = .ok (.aload_n 0, 1) := by decide +kernel
theorem dX6_copyFrom_98 : decode cX6_copyFrom 98 = .ok (.getfield 28, 3) := by decide +kernel
theorem dX6_copyFrom_101 : decode cX6_copyFrom 101 = .ok (.iconst 0, 1) := by decide +kernel
theorem dX6_copyFrom_102 : decode cX6_copyFrom 102 = .ok (.aload_n 0, 1) := by decide +kernel
theorem dX6_copyFrom_103 : decode cX6_copyFrom 103 = .ok (.getfield 40, 3) := by decide +kernel
theorem dX6_copyFrom_106 : decode cX6_copyFrom 106 = .ok (.invokestatic 43, 3) := by decide +kernel
theorem dX6_copyFrom_109 : decode cX6_copyFrom 109 = .ok (.aload_n 1, 1) := by decide +kernel
theorem dX6_copyFrom_110 : decode cX6_copyFrom 110 = .ok (.getfield 31, 3) := by decide +kernel
theorem dX6_copyFrom_113 : decode cX6_copyFrom 113 = .ok (.iconst 0, 1) := by decide +kernel
theorem dX6_copyFrom_114 : decode cX6_copyFrom 114 = .ok (.aload_n 0, 1) := by decide +kernel
theorem dX6_copyFrom_115 : decode cX6_copyFrom 115 = .ok (.getfield 31, 3) := by decide +kernel
theorem dX6_copyFrom_118 : decode cX6_copyFrom 118 = .ok (.iconst 0, 1) := by decide +kernel
theorem dX6_copyFrom_119 : decode cX6_copyFrom 119 = .ok (.aload_n 0, 1) := by decide +kernel
theorem dX6_copyFrom_120 : decode cX6_copyFrom 120 = .ok (.getfield 40, 3) := by decide +kernel
theorem dX6_copyFrom_123 : decode cX6_copyFrom 123 = .ok (.invokestatic 43, 3) := by decide +kernel
theorem dX6_copyFrom_126 : decode cX6_copyFrom 126 = .ok (.aload_n 1, 1) := by decide +kernel
theorem dX6_copyFrom_127 : decode cX6_copyFrom 127 = .ok (.getfield 34, 3) := by decide +kernel
theorem dX6_copyFrom_130 : decode cX6_copyFrom 130 = .ok (.iconst 0, 1) := by decide +kernel
theorem dX6_copyFrom_131 : decode cX6_copyFrom 131 = .ok (.aload_n 0, 1) := by decide +kernel
theorem dX6_copyFrom_132 : decode cX6_copyFrom 132 = .ok (.getfield 34, 3) := by decide +kernel
theorem dX6_copyFrom_135 : decode cX6_copyFrom 135 = .ok (.iconst 0, 1) := by decide +kernel
theorem dX6_copyFrom_136 : decode cX6_copyFrom 136 = .ok (.aload_n 0, 1) := by decide +kernel
theorem dX6_copyFrom_137 : decode cX6_copyFrom 137 = .ok (.getfield 40, 3) := by decide +kernel
theorem dX6_copyFrom_140 : decode cX6_copyFrom 140 = .ok (.invokestatic 43, 3) := by decide +kernel
theorem dX6_copyFrom_143 : decode cX6_copyFrom 143 = .ok (.return_, 1) := by decide +kernel
theorem dX4_copyFrom_0 : decode cX4_copyFrom 0 = .ok (.aload_n 0, 1) := by decide +kernel
theorem dX4_copyFrom_1 : decode cX4_copyFrom 1 = .ok (.aload_n 1, 1) := by decide +kernel
theorem dX4_copyFrom_2 : decode cX4_copyFrom 2 = .ok (.getfield 24, 3) := by decide +kernel
theorem dX4_copyFrom_5 : decode cX4_copyFrom 5 = .ok (.putfield 24, 3) := by decide +kernel
theorem dX4_copyFrom_8 : decode cX4_copyFrom 8 = .ok (.aload_n 1, 1) := by decide +kernel
theorem dX4_copyFrom_9 : decode cX4_copyFrom 9 = .ok (.getfield 9, 3) := by decide +kernel
theorem dX4_copyFrom_12 : decode cX4_copyFrom 12 = .ok (.iconst 0, 1) := by decide +kernel
theorem dX4_copyFrom_13 : decode cX4_copyFrom 13 = .ok (.aload_n 0, 1) := by decide +kernel
theorem dX4_copyFrom_14 : decode cX4_copyFrom 14 = .ok (.getfield 9, 3) := by decide +kernel
theorem dX4_copyFrom_17 : decode cX4_copyFrom 17 = .ok (.iconst 0, 1) := by decide +kernel
theorem dX4_copyFrom_18 : decode cX4_copyFrom 18 = .ok (.aload_n 0, 1) := by decide +kernel
theorem dX4_copyFrom_19 : decode cX4_copyFrom 19 = .ok (.getfield 24, 3) := by decide +kernel
theorem dX4_copyFrom_22 : decode cX4_copyFrom 22 = .ok (.invokestatic 28, 3) := by decide +kernel
theorem dX4_copyFrom_25 : decode cX4_copyFrom 25 = .ok (.aload_n 1, 1) := by decide +kernel
theorem dX4_copyFrom_26 : decode cX4_copyFrom 26 = .ok (.getfield 15, 3) := by decide +kernel
theorem dX4_copyFrom_29 : decode cX4_copyFrom 29 = .ok (.iconst 0, 1) := by decide +kernel
theorem dX4_copyFrom_30 : decode cX4_copyFrom 30 = .ok (.aload_n 0, 1) := by decide +kernel
theorem dX4_copyFrom_31 : decode cX4_copyFrom 31 = .ok (.getfield 15, 3) := by decide +kernel
theorem dX4_copyFrom_34 : decode cX4_copyFrom 34 = .ok (.iconst 0, 1) := by decide +kernel
theorem dX4_copyFrom_35 : decode cX4_copyFrom 35 = .ok (.aload_n 0, 1) := by decide +kernel
theorem dX4_copyFrom_36 : decode cX4_copyFrom 36 = .ok (.getfield 24, 3) := by decide +kernel
theorem dX4_copyFrom_39 : decode cX4_copyFrom 39 = .ok (.invokestatic 28, 3) := by decide +kernel
theorem dX4_copyFrom_42 : decode cX4_copyFrom 42 = .ok (.aload_n 1, 1) := by decide +kernel
theorem dX4_copyFrom_43 : decode cX4_copyFrom 43 = .ok (.getfield 18, 3) := by decide +kernel
theorem dX4_copyFrom_46 : decode cX4_copyFrom 46 = .ok (.iconst 0, 1) := by decide +kernel
theorem dX4_copyFrom_47 : decode cX4_copyFrom 47 = .ok (.aload_n 0, 1) := by decide +kernel
theorem dX4_copyFrom_48 : decode cX4_copyFrom 48 = .ok (.getfield 18, 3) := by decide +kernel
theorem dX4_copyFrom_51 : decode cX4_copyFrom 51 = .ok (.iconst 0, 1) := by decide +kernel
theorem dX4_copyFrom_52 : decode cX4_copyFrom 52 = .ok (.aload_n 0, 1) := by decide +kernel
theorem dX4_copyFrom_53 : decode cX4_copyFrom 53 = .ok (.getfield 24, 3) := by decide +kernel
theorem dX4_copyFrom_56 : decode cX4_copyFrom 56 = .ok (.invokestatic 28, 3) := by decide +kernel
theorem dX4_copyFrom_59 : decode cX4_copyFrom 59 = .ok (.aload_n 1, 1) := by decide +kernel
theorem dX4_copyFrom_60 : decode cX4_copyFrom 60 = .ok (.getfield 21, 3) := by decide +kernel
theorem dX4_copyFrom_63 : decode cX4_copyFrom 63 = .ok (.iconst 0, 1) := by decide +kernel
theorem dX4_copyFrom_64 : decode cX4_copyFrom 64 = .ok (.aload_n 0, 1) := by decide +kernel
theorem dX4_copyFrom_65 : decode cX4_copyFrom 65 = .ok (.getfield 21, 3) := by decide +kernel
theorem dX4_copyFrom_68 : decode cX4_copyFrom 68 = .ok (.iconst 0, 1) := by decide +kernel
theorem dX4_copyFrom_69 : decode cX4_copyFrom 69 = .ok (.aload_n 0, 1) := by decide +kernel
theorem dX4_copyFrom_70 : decode cX4_copyFrom 70 = .ok (.getfield 24, 3) := by decide +kernel
theorem dX4_copyFrom_73 : decode cX4_copyFrom 73 = .ok (.invokestatic 28, 3) := by decide +kernel
theorem dX4_copyFrom_76 : decode cX4_copyFrom 76 = .ok (.return_, 1) := by decide +kernel
theorem dX3_copyFrom_0 : decode cX3_copyFrom 0 = .ok (.aload_n 0, 1) := by decide +kernel
theorem dX3_copyFrom_1 : decode cX3_copyFrom 1 = .ok (.aload_n 1, 1) := by decide +kernel
theorem dX3_copyFrom_2 : decode cX3_copyFrom 2 = .ok (.getfield 28, 3) := by decide +kernel
theorem dX3_copyFrom_5 : decode cX3_copyFrom 5 = .ok (.putfield 28, 3) := by decide +kernel
theorem dX3_copyFrom_8 : decode cX3_copyFrom 8 = .ok (.aload_n 1, 1) := by decide +kernel
theorem dX3_copyFrom_9 : decode cX3_copyFrom 9 = .ok (.getfield 9, 3) := by decide +kernel
theorem dX3_copyFrom_12 : decode cX3_copyFrom 12 = .ok (.iconst 0, 1) := by decide +kernel
theorem dX3_copyFrom_13 : decode cX3_copyFrom 13 = .ok (.aload_n 0, 1) := by decide +kernel
theorem dX3_copyFrom_14 : decode cX3_copyFrom 14 = .ok (.getfield 9, 3) := by decide +kernel
theorem dX3_copyFrom_17 : decode cX3_copyFrom 17 = .ok (.iconst 0, 1) := by decide +kernel
theorem dX3_copyFrom_18 : decode cX3_copyFrom 18 = .ok (.aload_n 0, 1) := by decide +kernel
theorem dX3_copyFrom_19 : decode cX3_copyFrom 19 = .ok (.getfield 28, 3) := by decide +kernel
theorem dX3_copyFrom_22 : decode cX3_copyFrom 22 = .ok (.invokestatic 32, 3) := by decide +kernel
theorem dX3_copyFrom_25 : decode cX3_copyFrom 25 = .ok (.aload_n 1, 1) := by decide +kernel
theorem dX3_copyFrom_26 : decode cX3_copyFrom 26 = .ok (.getfield 15, 3) := by decide +kernel
theorem dX3_copyFrom_29 : decode cX3_copyFrom 29 = .ok (.iconst 0, 1) := by decide +kernel
theorem dX3_copyFrom_30 : decode cX3_copyFrom 30 = .ok (.aload_n 0, 1) := by decide +kernel
theorem dX3_copyFrom_31 : decode cX3_copyFrom 31 = .ok (.getfield 15, 3) := by decide +kernel
theorem dX3_copyFrom_34 : decode cX3_copyFrom 34 = .ok (.iconst 0, 1) := by decide +kernel
theorem dX3_copyFrom_35 : decode cX3_copyFrom 35 = .ok (.aload_n 0, 1) := by decide +kernel
theorem dX3_copyFrom_36 : decode cX3_copyFrom 36 = .ok (.getfield 28, 3) := by decide +kernel
theorem dX3_copyFrom_39 : decode cX3_copyFrom 39 = .ok (.invokestatic 32, 3) := by decide +kernel
theorem dX3_copyFrom_42 : decode cX3_copyFrom 42 = .ok (.aload_n 1, 1) := by decide +kernel
theorem dX3_copyFrom_43 : decode cX3_copyFrom 43 = .ok (.getfield 18, 3) := by decide +kernel
theorem dX3_copyFrom_46 : decode cX3_copyFrom 46 = .ok (.iconst 0, 1) := by decide +kernel
theorem dX3_copyFrom_47 : decode cX3_copyFrom 47 = .ok (.aload_n 0, 1) := by decide +kernel
theorem dX3_copyFrom_48 : decode cX3_copyFrom 48 = .ok (.getfield 18, 3) := by decide +kernel
theorem dX3_copyFrom_51 : decode cX3_copyFrom 51 = .ok (.iconst 0, 1) := by decide +kernel
theorem dX3_copyFrom_52 : decode cX3_copyFrom 52 = .ok (.aload_n 0, 1) := by decide +kernel
theorem dX3_copyFrom_53 : decode cX3_copyFrom 53 = .ok (.getfield 28, 3) := by decide +kernel
theorem dX3_copyFrom_56 : decode cX3_copyFrom 56 = .ok (.invokestatic 32, 3) := by decide +kernel
theorem dX3_copyFrom_59 : decode cX3_copyFrom 59 = .ok (.aload_n 1, 1) := by decide +kernel
theorem dX3_copyFrom_60 : decode cX3_copyFrom 60 = .ok (.getfield 21, 3) := by decide +kernel
theorem dX3_copyFrom_63 : decode cX3_copyFrom 63 = .ok (.iconst 0, 1) := by decide +kernel
theorem dX3_copyFrom_64 : decode cX3_copyFrom 64 = .ok (.aload_n 0, 1) := by decide +kernel
theorem dX3_copyFrom_65 : decode cX3_copyFrom 65 = .ok (.getfield 21, 3) := by decide +kernel
theorem dX3_copyFrom_68 : decode cX3_copyFrom 68 = .ok (.iconst 0, 1) := by decide +kernel
theorem dX3_copyFrom_69 : decode cX3_copyFrom 69 = .ok (.aload_n 0, 1) := by decide +kernel
theorem dX3_copyFrom_70 : decode cX3_copyFrom 70 = .ok (.getfield 28, 3) := by decide +kernel
theorem dX3_copyFrom_73 : decode cX3_copyFrom 73 = .ok (.invokestatic 32, 3) := by decide +kernel
theorem dX3_copyFrom_76 : decode cX3_copyFrom 76 = .ok (.aload_n 1, 1) := by decide +kernel
theorem dX3_copyFrom_77 : decode cX3_copyFrom 77 = .ok (.getfield 24, 3) := by decide +kernel
theorem dX3_copyFrom_80 : decode cX3_copyFrom 80 = .ok (.iconst 0, 1) := by decide +kernel
theorem dX3_copyFrom_81 : decode cX3_copyFrom 81 = .ok (.aload_n 0, 1) := by decide +kernel
theorem dX3_copyFrom_82 : decode cX3_copyFrom 82 = .ok (.getfield 24, 3) := by decide +kernel
theorem dX3_copyFrom_85 : decode cX3_copyFrom 85 = .ok (.iconst 0, 1) := by decide +kernel
theorem dX3_copyFrom_86 : decode cX3_copyFrom 86 = .ok (.iconst 3, 1) := by decide +kernel
theorem dX3_copyFrom_87 : decode cX3_copyFrom 87 = .ok (.aload_n 0, 1) := by decide +kernel
theorem dX3_copyFrom_88 : decode cX3_copyFrom 88 = .ok (.getfield 28, 3) := by decide +kernel
theorem dX3_copyFrom_91 : decode cX3_copyFrom 91 = .ok (.imul, 1) := by decide +kernel
theorem dX3_copyFrom_92 : decode cX3_copyFrom 92 = .ok (.invokestatic 32, 3) := by decide +kernel
theorem dX3_copyFrom_95 : decode cX3_copyFrom 95 = .ok (.return_, 1) := by decide +kernel
theorem dX10_copyFrom_0 : decode cX10_copyFrom 0 = .ok (.aload_n 0, 1) := by decide +kernel
theorem dX10_copyFrom_1 : decode cX10_copyFrom 1 = .ok (.aload_n 1, 1) := by decide +kernel
theorem dX10_copyFrom_2 : decode cX10_copyFrom 2 = .ok (.getfield 28, 3) := by decide +kernel
theorem dX10_copyFrom_5 : decode cX10_copyFrom 5 = .ok (.putfield 28, 3) := by decide +kernel
theorem dX10_copyFrom_8 : decode cX10_copyFrom 8 = .ok (.aload_n 0, 1) := by decide +kernel
theorem dX10_copyFrom_9 : decode cX10_copyFrom 9 = .ok (.aload_n 1, 1) := by decide +kernel
theorem dX10_copyFrom_10 : decode cX10_copyFrom 10 = .ok (.getfield 32, 3) := by decide +kernel
theorem dX10_copyFrom_13 : decode cX10_copyFrom 13 = .ok (.putfield 32, 3) := by decide +kernel
theorem dX10_copyFrom_16 : decode cX10_copyFrom 16 = .ok (.aload_n 1, 1) := by decide +kernel
theorem dX10_copyFrom_17 : decode cX10_copyFrom 17 = .ok (.getfield 9, 3) := by decide +kernel
theorem dX10_copyFrom_20 : decode cX10_copyFrom 20 = .ok (.iconst 0, 1) := by decide +kernel
theorem dX10_copyFrom_21 : decode cX10_copyFrom 21 = .ok (.aload_n 0, 1) := by decide +kernel
theorem dX10_copyFrom_22 : decode cX10_copyFrom 22 = .ok (.getfield 9, 3) := by decide +kernel
theorem dX10_copyFrom_25 : decode cX10_copyFrom 25 = .ok (.iconst 0, 1) := by decide +kernel
theorem dX10_copyFrom_26 : decode cX10_copyFrom 26 = .ok (.iconst 3, 1) := by decide +kernel
theorem dX10_copyFrom_27 : decode cX10_copyFrom 27 = .ok (.aload_n 0, 1) := by decide +kernel
theorem dX10_copyFrom_28 : decode cX10_copyFrom 28 = .ok (.getfield 28, 3) := by decide +kernel
theorem dX10_copyFrom_31 : decode cX10_copyFrom 31 = .ok (.imul, 1) := by decide +kernel
theorem dX10_copyFrom_32 : decode cX10_copyFrom 32 = .ok (.invokestatic 35, 3) := by decide +kernel
theorem dX10_copyFrom_35 : decode cX10_copyFrom 35 = .ok (.aload_n 1, 1) := by decide +kernel
theorem dX10_copyFrom_36 : decode cX10_copyFrom 36 = .ok (.getfield 15, 3) := by decide +kernel
theorem dX10_copyFrom_39 : decode cX10_copyFrom 39 = .ok (.iconst 0, 1) := by decide +kernel
theorem dX10_copyFrom_40 : decode cX10_copyFrom 40 = .ok (.aload_n 0, 1) := by decide +kernel
theorem dX10_copyFrom_41 : decode cX10_copyFrom 41 = .ok (.getfield 15, 3) := by decide +kernel
theorem dX10_copyFrom_44 : decode cX10_copyFrom 44 = .ok (.iconst 0, 1) := by decide +kernel
theorem dX10_copyFrom_45 : decode cX10_copyFrom 45 = .ok (.aload_n 0, 1) := by decide +kernel
theorem dX10_copyFrom_46 : decode cX10_copyFrom 46 = .ok (.getfield 32, 3) := by decide +kernel
theorem dX10_copyFrom_49 : decode cX10_copyFrom 49 = .ok (.invokestatic 35, 3) := by decide +kernel
theorem dX10_copyFrom_52 : decode cX10_copyFrom 52 = .ok (.aload_n 1, 1) := by decide +kernel
theorem dX10_copyFrom_53 : decode cX10_copyFrom 53 = .ok (.getfield 19, 3) := by decide +kernel
theorem dX10_copyFrom_56 : decode cX10_copyFrom 56 = .ok (.iconst 0, 1) := by decide +kernel
theorem dX10_copyFrom_57 : decode cX10_copyFrom 57 = .ok (.aload_n 0, 1) := by decide +kernel
theorem dX10_copyFrom_58 : decode cX10_copyFrom 58 = .ok (.getfield 19, 3) := by decide +kernel
theorem dX10_copyFrom_61 : decode cX10_copyFrom 61 = .ok (.iconst 0, 1) := by decide +kernel
theorem dX10_copyFrom_62 : decode cX10_copyFrom 62 = .ok (.aload_n 0, 1) := by decide +kernel
theorem dX10_copyFrom_63 : decode cX10_copyFrom 63 = .ok (.getfield 32, 3) := by decide +kernel
theorem dX10_copyFrom_66 : decode cX10_copyFrom 66 = .ok (.invokestatic 35, 3) := by decide +kernel
theorem dX10_copyFrom_69 : decode cX10_copyFrom 69 = .ok (.aload_n 1, 1) := by decide +kernel
theorem dX10_copyFrom_70 : decode cX10_copyFrom 70 = .ok (.getfield 22, 3) := by decide +kernel
theorem dX10_copyFrom_73 : decode cX10_copyFrom 73 = .ok (.iconst 0, 1) := by decide +kernel
theorem dX10_copyFrom_74 : decode cX10_copyFrom 74 = .ok (.aload_n 0, 1) := by decide +kernel
theorem dX10_copyFrom_75 : decode cX10_copyFrom 75 = .ok (.getfield 22, 3) := by decide +kernel
theorem dX10_copyFrom_78 : decode cX10_copyFrom 78 = .ok (.iconst 0, 1) := by decide +kernel
theorem dX10_copyFrom_79 : decode cX10_copyFrom 79 = .ok (.iconst 2, 1) := by decide +kernel
theorem dX10_copyFrom_80 : decode cX10_copyFrom 80 = .ok (.aload_n 0, 1) := by decide +kernel
theorem dX10_copyFrom_81 : decode cX10_copyFrom 81 = .ok (.getfield 32, 3) := by decide +kernel
theorem dX10_copyFrom_84 : decode cX10_copyFrom 84 = .ok (.imul, 1) := by decide +kernel
theorem dX10_copyFrom_85 : decode cX10_copyFrom 85 = .ok (.invokestatic 35, 3) := by decide +kernel
theorem dX10_copyFrom_88 : decode cX10_copyFrom 88 = .ok (.aload_n 1, 1) := by decide +kernel
theorem dX10_copyFrom_89 : decode cX10_copyFrom 89 = .ok (.getfield 25, 3) := by decide +kernel
theorem dX10_copyFrom_92 : decode cX10_copyFrom 92 = .ok (.iconst 0, 1) := by decide +kernel
theorem dX10_copyFrom_93 : decode cX10_copyFrom 93 = .ok (.aload_n 0, 1) := by decide +kernel
theorem dX10_copyFrom_94 : decode cX10_copyFrom 94 = .ok (.getfield 25, 3) := by decide +kernel
theorem dX10_copyFrom_97 : decode cX10_copyFrom 97 = .ok (.iconst 0, 1) := by decide +kernel
theorem dX10_copyFrom_98 : decode cX10_copyFrom 98 = .ok (.iconst 2, 1) := by decide +kernel
theorem dX10_copyFrom_99 : decode cX10_copyFrom 99 = .ok (.aload_n 0, 1) := by decide +kernel
theorem dX10_copyFrom_100 : decode cX10_copyFrom 100 = .ok (.getfield 32, 3) := by decide +kernel
theorem dX10_copyFrom_103 : decode cX10_copyFrom 103 = .ok (.imul, 1) := by decide +kernel
theorem dX10_copyFrom_104 : decode cX10_copyFrom 104 = .ok (.bipush 100, 2) := by decide +kernel
theorem dX10_copyFrom_106 : decode cX10_copyFrom 106 = .ok (.imul, 1) := by decide +kernel
theorem dX10_copyFrom_107 : decode cX10_copyFrom 107 = .ok (.invokestatic 35, 3) := by decide +kernel
theorem dX10_copyFrom_110 : decode cX10_copyFrom 110 = .ok (.return_, 1) := by decide +kernel
theorem dX2_copyFrom_0 : decode cX2_copyFrom 0 = .ok (.aload_n 0, 1) := by decide +kernel
theorem dX2_copyFrom_1 : decode cX2_copyFrom 1 = .ok (.aload_n 1, 1) := by decide +kernel
theorem dX2_copyFrom_2 : decode cX2_copyFrom 2 = .ok (.getfield 42, 3) := by decide +kernel
theorem dX2_copyFrom_5 : decode cX2_copyFrom 5 = .ok (.putfield 42, 3) := by decide +kernel
theorem dX2_copyFrom_8 : decode cX2_copyFrom 8 = .ok (.aload_n 1, 1) := by decide +kernel
theorem dX2_copyFrom_9 : decode cX2_copyFrom 9 = .ok (.getfield 9, 3) := by decide +kernel
theorem dX2_copyFrom_12 : decode cX2_copyFrom 12 = .ok (.iconst 0, 1) := by decide +kernel
theorem dX2_copyFrom_13 : decode cX2_copyFrom 13 = .ok (.aload_n 0, 1) := by decide +kernel
theorem dX2_copyFrom_14 : decode cX2_copyFrom 14 = .ok (.getfield 9, 3) := by decide +kernel
theorem dX2_copyFrom_17 : decode cX2_copyFrom 17 = .ok (.iconst 0, 1) := by decide +kernel
theorem dX2_copyFrom_18 : decode cX2_copyFrom 18 = .ok (.aload_n 0, 1) := by decide +kernel
theorem dX2_copyFrom_19 : decode cX2_copyFrom 19 = .ok (.getfield 42, 3) := by decide +kernel
theorem dX2_copyFrom_22 : decode cX2_copyFrom 22 = .ok (.invokestatic 46, 3) := by decide +kernel
theorem dX2_copyFrom_25 : decode cX2_copyFrom 25 = .ok (.aload_n 1, 1) := by decide +kernel
theorem dX2_copyFrom_26 : decode cX2_copyFrom 26 = .ok (.getfield 15, 3) := by decide +kernel
theorem dX2_copyFrom_29 : decode cX2_copyFrom 29 = .ok (.iconst 0, 1) := by decide +kernel
theorem dX2_copyFrom_30 : decode cX2_copyFrom 30 = .ok (.aload_n 0, 1) := by decide +kernel
theorem dX2_copyFrom_31 : decode cX2_copyFrom 31 = .ok (.getfield 15, 3) := by decide +kernel
theorem dX2_copyFrom_34 : decode cX2_copyFrom 34 = .ok (.iconst 0, 1) := by decide +kernel
theorem dX2_copyFrom_35 : decode cX2_copyFrom 35 = .ok (.aload_n 0, 1) := by decide +kernel
theorem dX2_copyFrom_36 : decode cX2_copyFrom 36 = .ok (.getfield 42, 3) := by decide +kernel
theorem dX2_copyFrom_39 : decode cX2_copyFrom 39 = .ok (.invokestatic 46, 3) := by decide +kernel
theorem dX2_copyFrom_42 : decode cX2_copyFrom 42 = .ok (.aload_n 1, 1) := by decide +kernel
theorem dX2_copyFrom_43 : decode cX2_copyFrom 43 = .ok (.getfield 18, 3) := by decide +kernel
theorem dX2_copyFrom_46 : decode cX2_copyFrom 46 = .ok (.iconst 0, 1) := by decide +kernel
theorem dX2_copyFrom_47 : decode cX2_copyFrom 47 = .ok (.aload_n 0, 1) := by decide +kernel
theorem dX2_copyFrom_48 : decode cX2_copyFrom 48 = .ok (.getfield 18, 3) := by decide +kernel
theorem dX2_copyFrom_51 : decode cX2_copyFrom 51 = .ok (.iconst 0, 1) := by decide +kernel
theorem dX2_copyFrom_52 : decode cX2_copyFrom 52 = .ok (.aload_n 0, 1) := by decide +kernel
theorem dX2_copyFrom_53 : decode cX2_copyFrom 53 = .ok (.getfield 42, 3) := by decide +kernel
theorem dX2_copyFrom_56 : decode cX2_copyFrom 56 = .ok (.invokestatic 46, 3) := by decide +kernel
theorem dX2_copyFrom_59 : decode cX2_copyFrom 59 = .ok (.aload_n 1, 1) := by decide +kernel
theorem dX2_copyFrom_60 : decode cX2_copyFrom 60 = .ok (.getfield 21, 3) := by decide +kernel
theorem dX2_copyFrom_63 : decode cX2_copyFrom 63 = .ok (.iconst 0, 1) := by decide +kernel
theorem dX2_copyFrom_64 : decode cX2_copyFrom 64 = .ok (.aload_n 0, 1) := by decide +kernel
theorem dX2_copyFrom_65 : decode cX2_copyFrom 65 = .ok (.getfield 21, 3) := by decide +kernel
theorem dX2_copyFrom_68 : decode cX2_copyFrom 68 = .ok (.iconst 0, 1) := by decide +kernel
theorem dX2_copyFrom_69 : decode cX2_copyFrom 69 = .ok (.aload_n 0, 1) := by decide +kernel
theorem dX2_copyFrom_70 : decode cX2_copyFrom 70 = .ok (.getfield 42, 3) := by decide +kernel
theorem dX2_copyFrom_73 : decode cX2_copyFrom 73 = .ok (.invokestatic 46, 3) := by decide +kernel
theorem dX2_copyFrom_76 : decode cX2_copyFrom 76 = .ok (.aload_n 1, 1) := by decide +kernel
theorem dX2_copyFrom_77 : decode cX2_copyFrom 77 = .ok (.getfield 24, 3) := by decide +kernel
theorem dX2_copyFrom_80 : decode cX2_copyFrom 80 = .ok (.iconst 0, 1) := by decide +kernel
theorem dX2_copyFrom_81 : decode cX2_copyFrom 81 = .ok (.aload_n 0, 1) := by decide +kernel
theorem dX2_copyFrom_82 : decode cX2_copyFrom 82 = .ok (.getfield 24, 3) := by decide +kernel
theorem dX2_copyFrom_85 : decode cX2_copyFrom 85 = .ok (.iconst 0, 1) := by decide +kernel
theorem dX2_copyFrom_86 : decode cX2_copyFrom 86 = .ok (.aload_n 0, 1) := by decide +kernel
theorem dX2_copyFrom_87 : decode cX2_copyFrom 87 = .ok (.getfield 42, 3) := by decide +kernel
theorem dX2_copyFrom_90 : decode cX2_copyFrom 90 = .ok (.invokestatic 46, 3) := by decide +kernel
theorem dX2_copyFrom_93 : decode cX2_copyFrom 93 = .ok (.aload_n 1, 1) := by decide +kernel
theorem dX2_copyFrom_94 : decode cX2_copyFrom 94 = .ok (.getfield 27, 3) := by decide +kernel
theorem dX2_copyFrom_97 : decode cX2_copyFrom 97 = .ok (.iconst 0, 1) := by decide +kernel
theorem dX2_copyFrom_98 : decode cX2_copyFrom 98 = .ok (.aload_n 0, 1) := by decide +kernel
theorem dX2_copyFrom_99 : decode cX2_copyFrom 99 = .ok (.getfield 27, 3) := by decide +kernel
theorem dX2_copyFrom_102 : decode cX2_copyFrom 102 = .ok (.iconst 0, 1) := by decide +kernel
theorem dX2_copyFrom_103 : decode cX2_copyFrom 103 = .ok (.aload_n 0, 1) := by decide +kernel
theorem dX2_copyFrom_104 : decode cX2_copyFrom 104 = .ok (.getfield 42, 3) := by decide +kernel
theorem dX2_copyFrom_107 : decode cX2_copyFrom 107 = .ok (.invokestatic 46, 3) := by decide +kernel
theorem dX2_copyFrom_110 : decode cX2_copyFrom 110 = .ok (.aload_n 1, 1) := by decide +kernel
theorem dX2_copyFrom_111 : decode cX2_copyFrom 111 = .ok (.getfield 30, 3) := by decide +kernel
theorem dX2_copyFrom_114 : decode cX2_copyFrom 114 = .ok (.iconst 0, 1) := by decide +kernel
theorem dX2_copyFrom_115 : decode cX2_copyFrom 115 = .ok (.aload_n 0, 1) := by decide +kernel
theorem dX2_copyFrom_116 : decode cX2_copyFrom 116 = .ok (.getfield 30, 3) := by decide +kernel
theorem dX2_copyFrom_119 : decode cX2_copyFrom 119 = .ok (.iconst 0, 1) := by decide +kernel
theorem dX2_copyFrom_120 : decode cX2_copyFrom 120 = .ok (.aload_n 0, 1) := by decide +kernel
theorem dX2_copyFrom_121 : decode cX2_copyFrom 121 = .ok (.getfield 42, 3) := by decide +kernel
theorem dX2_copyFrom_124 : decode cX2_copyFrom 124 = .ok (.invokestatic 46, 3) := by decide +kernel
theorem dX2_copyFrom_127 : decode cX2_copyFrom 127 = .ok (.aload_n 1, 1) := by decide +kernel
theorem dX2_copyFrom_128 : decode cX2_copyFrom 128 = .ok (.getfield 33, 3) := by decide +kernel
theorem dX2_copyFrom_131 : decode cX2_copyFrom 131 = .ok (.iconst 0, 1) := by decide +kernel
theorem dX2_copyFrom_132 : decode cX2_copyFrom 132 = .ok (.aload_n 0, 1) := by decide +kernel
theorem dX2_copyFrom_133 : decode cX2_copyFrom 133 = .ok (.getfield 33, 3) := by decide +kernel
theorem dX2_copyFrom_136 : decode cX2_copyFrom 136 = .ok (.iconst 0, 1) := by decide +kernel
theorem dX2_copyFrom_137 : decode cX2_copyFrom 137 = .ok (.iconst 2, 1) := by decide +kernel
theorem dX2_copyFrom_138 : decode cX2_copyFrom 138 = .ok (.aload_n 0, 1) := by decide +kernel
theorem dX2_copyFrom_139 : decode cX2_copyFrom 139 = .ok (.getfield 42, 3) := by decide +kernel
theorem dX2_copyFrom_142 : decode cX2_copyFrom 142 = .ok (.imul, 1) := by decide +kernel
theorem dX2_copyFrom_143 : decode cX2_copyFrom 143 = .ok (.invokestatic 46, 3) := by decide +kernel
theorem dX2_copyFrom_146 : decode cX2_copyFrom 146 = .ok (.aload_n 1, 1) := by decide +kernel
theorem dX2_copyFrom_147 : decode cX2_copyFrom 147 = .ok (.getfield 36, 3) := by decide +kernel
theorem dX2_copyFrom_150 : decode cX2_copyFrom 150 = .ok (.iconst 0, 1) := by decide +kernel
theorem dX2_copyFrom_151 : decode cX2_copyFrom 151 = .ok (.aload_n 0, 1) := by decide +kernel
theorem dX2_copyFrom_152 : decode cX2_copyFrom 152 = .ok (.getfield 36, 3) := by decide +kernel
theorem dX2_copyFrom_155 : decode cX2_copyFrom 155 = .ok (.iconst 0, 1) := by decide +kernel
theorem dX2_copyFrom_156 : decode cX2_copyFrom 156 = .ok (.iconst 2, 1) := by decide +kernel
theorem dX2_copyFrom_157 : decode cX2_copyFrom 157 = .ok (.aload_n 0, 1) := by decide +kernel
theorem dX2_copyFrom_158 : decode cX2_copyFrom 158 = .ok (.getfield 42, 3) := by decide +kernel
theorem dX2_copyFrom_161 : decode cX2_copyFrom 161 = .ok (.imul, 1) := by decide +kernel
theorem dX2_copyFrom_162 : decode cX2_copyFrom 162 = .ok (.invokestatic 46, 3) := by decide +kernel
theorem dX2_copyFrom_165 : decode cX2_copyFrom 165 = .ok (.aload_n 1, 1) := by decide +kernel
theorem dX2_copyFrom_166 : decode cX2_copyFrom 166 = .ok (.getfield 39, 3) := by decide +kernel
theorem dX2_copyFrom_169 : decode cX2_copyFrom 169 = .ok (.iconst 0, 1) := by decide +kernel
theorem dX2_copyFrom_170 : decode cX2_copyFrom 170 = .ok (.aload_n 0, 1) := by decide +kernel
theorem dX2_copyFrom_171 : decode cX2_copyFrom 171 = .ok (.getfield 39, 3) := by decide +kernel
theorem dX2_copyFrom_174 : decode cX2_copyFrom 174 = .ok (.iconst 0, 1) := by decide +kernel
theorem dX2_copyFrom_175 : decode cX2_copyFrom 175 = .ok (.iconst 2, 1) := by decide +kernel
theorem dX2_copyFrom_176 : decode cX2_copyFrom 176 = .ok (.aload_n 0, 1) := by decide +kernel
theorem dX2_copyFrom_177 : decode cX2_copyFrom 177 = .ok (.getfield 42, 3) := by decide +kernel
theorem dX2_copyFrom_180 : decode cX2_copyFrom 180 = .ok (.imul, 1) := by decide +kernel
theorem dX2_copyFrom_181 : decode cX2_copyFrom 181 = .ok (.invokestatic 46, 3) := by decide +kernel
theorem dX2_copyFrom_184 : decode cX2_copyFrom 184 = .ok (.return_, 1) := by decide +kernel
theorem dX8_copyFrom_0 : decode cX8_copyFrom 0 = .ok (.aload_n 0, 1) := by decide +kernel
theorem dX8_copyFrom_1 : decode cX8_copyFrom 1 = .ok (.aload_n 1, 1) := by decide +kernel
theorem dX8_copyFrom_2 : decode cX8_copyFrom 2 = .ok (.getfield 18, 3) := by decide +kernel
theorem dX8_copyFrom_5 : decode cX8_copyFrom 5 = .ok (.putfield 18, 3) := by decide +kernel
theorem dX8_copyFrom_8 : decode cX8_copyFrom 8 = .ok (.aload_n 1, 1) := by decide +kernel
theorem dX8_copyFrom_9 : decode cX8_copyFrom 9 = .ok (.getfield 9, 3) := by decide +kernel
theorem dX8_copyFrom_12 : decode cX8_copyFrom 12 = .ok (.iconst 0, 1) := by decide +kernel
theorem dX8_copyFrom_13 : decode cX8_copyFrom 13 = .ok (.aload_n 0, 1) := by decide +kernel
theorem dX8_copyFrom_14 : decode cX8_copyFrom 14 = .ok (.getfield 9, 3) := by decide +kernel
theorem dX8_copyFrom_17 : decode cX8_copyFrom 17 = .ok (.iconst 0, 1) := by decide +kernel
theorem dX8_copyFrom_18 : decode cX8_copyFrom 18 = .ok (.aload_n 0, 1) := by decide +kernel
theorem dX8_copyFrom_19 : decode cX8_copyFrom 19 = .ok (.getfield 18, 3) := by decide +kernel
theorem dX8_copyFrom_22 : decode cX8_copyFrom 22 = .ok (.invokestatic 22, 3) := by decide +kernel
theorem dX8_copyFrom_25 : decode cX8_copyFrom 25 = .ok (.aload_n 1, 1) := by decide +kernel
theorem dX8_copyFrom_26 : decode cX8_copyFrom 26 = .ok (.getfield 15, 3) := by decide +kernel
theorem dX8_copyFrom_29 : decode cX8_copyFrom 29 = .ok (.iconst 0, 1) := by decide +kernel
theorem dX8_copyFrom_30 : decode cX8_copyFrom 30 = .ok (.aload_n 0, 1) := by decide +kernel
theorem dX8_copyFrom_31 : decode cX8_copyFrom 31 = .ok (.getfield 15, 3) := by decide +kernel
theorem dX8_copyFrom_34 : decode cX8_copyFrom 34 = .ok (.iconst 0, 1) := by decide +kernel
theorem dX8_copyFrom_35 : decode cX8_copyFrom 35 = .ok (.aload_n 0, 1) := by decide +kernel
theorem dX8_copyFrom_36 : decode cX8_copyFrom 36 = .ok (.getfield 18, 3) := by decide +kernel
theorem dX8_copyFrom_39 : decode cX8_copyFrom 39 = .ok (.invokestatic 22, 3) := by decide +kernel
theorem dX8_copyFrom_42 : decode cX8_copyFrom 42 = .ok (.return_, 1) := by decide +kernel

theorem dX12_opens_0 : decode cX12_opens 0 = .ok (.sipush 10752, 3) := by decide +kernel
theorem dX12_opens_3 : decode cX12_opens 3 = .ok (.bipush 6, 2) := by decide +kernel
theorem dX12_opens_5 : decode cX12_opens 5 = .ok (.aload_n 0, 1) := by decide +kernel
theorem dX12_opens_6 : decode cX12_opens 6 = .ok (.getfield 10, 3) := by decide +kernel
theorem dX12_opens_9 : decode cX12_opens 9 = .ok (.bipush 6, 2) := by decide +kernel
theorem dX12_opens_11 : decode cX12_opens 11 = .ok (.iaload, 1) := by decide +kernel
theorem dX12_opens_12 : decode cX12_opens 12 = .ok (.imul, 1) := by decide +kernel
theorem dX12_opens_13 : decode cX12_opens 13 = .ok (.iadd, 1) := by decide +kernel
theorem dX12_opens_14 : decode cX12_opens 14 = .ok (.istore 6, 2) := by decide +kernel
theorem dX12_opens_16 : decode cX12_opens 16 = .ok (.aload_n 0, 1) := by decide +kernel
theorem dX12_opens_17 : decode cX12_opens 17 = .ok (.getfield 10, 3) := by decide +kernel
theorem dX12_opens_20 : decode cX12_opens 20 = .ok (.iload 6, 2) := by decide +kernel
theorem dX12_opens_22 : decode cX12_opens 22 = .ok (.iload_n 1, 1) := by decide +kernel
theorem dX12_opens_23 : decode cX12_opens 23 = .ok (.iastore, 1) := by decide +kernel
theorem dX12_opens_24 : decode cX12_opens 24 = .ok (.aload_n 0, 1) := by decide +kernel
theorem dX12_opens_25 : decode cX12_opens 25 = .ok (.getfield 10, 3) := by decide +kernel
theorem dX12_opens_28 : decode cX12_opens 28 = .ok (.iload 6, 2) := by decide +kernel
theorem dX12_opens_30 : decode cX12_opens 30 = .ok (.iconst 1, 1) := by decide +kernel
theorem dX12_opens_31 : decode cX12_opens 31 = .ok (.iadd, 1) := by decide +kernel
theorem dX12_opens_32 : decode cX12_opens 32 = .ok (.iload_n 2, 1) := by decide +kernel
theorem dX12_opens_33 : decode cX12_opens 33 = .ok (.iastore, 1) := by decide +kernel
theorem dX12_opens_34 : decode cX12_opens 34 = .ok (.aload_n 0, 1) := by decide +kernel
theorem dX12_opens_35 : decode cX12_opens 35 = .ok (.getfield 10, 3) := by decide +kernel
theorem dX12_opens_38 : decode cX12_opens 38 = .ok (.iload 6, 2) := by decide +kernel
theorem dX12_opens_40 : decode cX12_opens 40 = .ok (.iconst 2, 1) := by decide +kernel
theorem dX12_opens_41 : decode cX12_opens 41 = .ok (.iadd, 1) := by decide +kernel
theorem dX12_opens_42 : decode cX12_opens 42 = .ok (.iload_n 3, 1) := by decide +kernel
theorem dX12_opens_43 : decode cX12_opens 43 = .ok (.iastore, 1) := by decide +kernel
theorem dX12_opens_44 : decode cX12_opens 44 = .ok (.aload_n 0, 1) := by decide +kernel
theorem dX12_opens_45 : decode cX12_opens 45 = .ok (.getfield 10, 3) := by decide +kernel
theorem dX12_opens_48 : decode cX12_opens 48 = .ok (.iload 6, 2) := by decide +kernel
theorem dX12_opens_50 : decode cX12_opens 50 = .ok (.iconst 3, 1) := by decide +kernel
theorem dX12_opens_51 : decode cX12_opens 51 = .ok (.iadd, 1) := by decide +kernel
theorem dX12_opens_52 : decode cX12_opens 52 = .ok (.iload 4, 2) := by decide +kernel
theorem dX12_opens_54 : decode cX12_opens 54 = .ok (.iastore, 1) := by decide +kernel
theorem dX12_opens_55 : decode cX12_opens 55 = .ok (.aload_n 0, 1) := by decide +kernel
theorem dX12_opens_56 : decode cX12_opens 56 = .ok (.getfield 10, 3) := by decide +kernel
theorem dX12_opens_59 : decode cX12_opens 59 = .ok (.iload 6, 2) := by decide +kernel
theorem dX12_opens_61 : decode cX12_opens 61 = .ok (.iconst 4, 1) := by decide +kernel
theorem dX12_opens_62 : decode cX12_opens 62 = .ok (.iadd, 1) := by decide +kernel
theorem dX12_opens_63 : decode cX12_opens 63 = .ok (.iload 5, 2) := by decide +kernel
theorem dX12_opens_65 : decode cX12_opens 65 = .ok (.iastore, 1) := by decide +kernel
theorem dX12_opens_66 : decode cX12_opens 66 = .ok (.aload_n 0, 1) := by decide +kernel
theorem dX12_opens_67 : decode cX12_opens 67 = .ok (.getfield 10, 3) := by decide +kernel
theorem dX12_opens_70 : decode cX12_opens 70 = .ok (.iload 6, 2) := by decide +kernel
theorem dX12_opens_72 : decode cX12_opens 72 = .ok (.iconst 5, 1) := by decide +kernel
theorem dX12_opens_73 : decode cX12_opens 73 = .ok (.iadd, 1) := by decide +kernel
theorem dX12_opens_74 : decode cX12_opens 74 = .ok (.iconst (-1), 1) := by decide +kernel
theorem dX12_opens_75 : decode cX12_opens 75 = .ok (.iastore, 1) := by decide +kernel
theorem dX12_opens_76 : decode cX12_opens 76 = .ok (.aload_n 0, 1) := by decide +kernel
theorem dX12_opens_77 : decode cX12_opens 77 = .ok (.getfield 10, 3) := by decide +kernel
theorem dX12_opens_80 : decode cX12_opens 80 = .ok (.bipush 6, 2) := by decide +kernel
theorem dX12_opens_82 : decode cX12_opens 82 = .ok (.dup2, 1) := by decide +kernel
theorem dX12_opens_83 : decode cX12_opens 83 = .ok (.iaload, 1) := by decide +kernel
theorem dX12_opens_84 : decode cX12_opens 84 = .ok (.iconst 1, 1) := by decide +kernel
theorem dX12_opens_85 : decode cX12_opens 85 = .ok (.iadd, 1) := by decide +kernel
theorem dX12_opens_86 : decode cX12_opens 86 = .ok (.iastore, 1) := by decide +kernel
theorem dX12_opens_87 : decode cX12_opens 87 = .ok (.return_, 1) := by decide +kernel
theorem dX12_along_19 : decode cX12_along 19 = .ok (.ldc 180, 2) := by decide +kernel
theorem dX12_along_21 : decode cX12_along 21 = .ok (.iload_n 1, 1) := by decide +kernel
theorem dX12_along_22 : decode cX12_along 22 = .ok (.imul, 1) := by decide +kernel
theorem dX12_along_23 : decode cX12_along 23 = .ok (.iload_n 2, 1) := by decide +kernel
theorem dX12_along_24 : decode cX12_along 24 = .ok (.iadd, 1) := by decide +kernel
theorem dX12_along_25 : decode cX12_along 25 = .ok (.ireturn, 1) := by decide +kernel
theorem dX12_along_18 : decode cX12_along 18 = .ok (.ireturn, 1) := by decide +kernel
theorem dX12_along_13 : decode cX12_along 13 = .ok (.sipush 20000, 3) := by decide +kernel
theorem dX12_along_16 : decode cX12_along 16 = .ok (.iload_n 2, 1) := by decide +kernel
theorem dX12_along_17 : decode cX12_along 17 = .ok (.isub, 1) := by decide +kernel
theorem dX12_along_0 : decode cX12_along 0 = .ok (.iload_n 0, 1) := by decide +kernel
theorem dX12_along_1 : decode cX12_along 1 = .ok (.iconst 1, 1) := by decide +kernel
theorem dX12_along_2 : decode cX12_along 2 = .ok (.if_icmp .ne 17, 3) := by decide +kernel
theorem dX12_along_5 : decode cX12_along 5 = .ok (.iload_n 1, 1) := by decide +kernel
theorem dX12_along_6 : decode cX12_along 6 = .ok (.ifCond .ne 7, 3) := by decide +kernel
theorem dX12_along_9 : decode cX12_along 9 = .ok (.iload_n 2, 1) := by decide +kernel
theorem dX12_along_10 : decode cX12_along 10 = .ok (.goto 8, 3) := by decide +kernel
theorem dX12_isOrdered_15 : decode cX12_isOrdered 15 = .ok (.ireturn, 1) := by decide +kernel
theorem dX12_isOrdered_14 : decode cX12_isOrdered 14 = .ok (.iconst 0, 1) := by decide +kernel
theorem dX12_isOrdered_10 : decode cX12_isOrdered 10 = .ok (.iconst 1, 1) := by decide +kernel
theorem dX12_isOrdered_11 : decode cX12_isOrdered 11 = .ok (.goto 4, 3) := by decide +kernel
theorem dX12_isOrdered_0 : decode cX12_isOrdered 0 = .ok (.iload_n 0, 1) := by decide +kernel
theorem dX12_isOrdered_1 : decode cX12_isOrdered 1 = .ok (.iconst 1, 1) := by decide +kernel
theorem dX12_isOrdered_2 : decode cX12_isOrdered 2 = .ok (.if_icmp .eq 8, 3) := by decide +kernel
theorem dX12_isOrdered_5 : decode cX12_isOrdered 5 = .ok (.iload_n 1, 1) := by decide +kernel
theorem dX12_isOrdered_6 : decode cX12_isOrdered 6 = .ok (.iload_n 2, 1) := by decide +kernel
theorem dX12_isOrdered_7 : decode cX12_isOrdered 7 = .ok (.if_icmp .ne 7, 3) := by decide +kernel
theorem dX12_bounds_215 : decode cX12_bounds 215 = .ok (.return_, 1) := by decide +kernel
theorem dX12_bounds_209 : decode cX12_bounds 209 = .ok (.iinc 8 1, 3) := by decide +kernel
theorem dX12_bounds_212 : decode cX12_bounds 212 = .ok (.goto (-170), 3) := by decide +kernel
theorem dX12_bounds_203 : decode cX12_bounds 203 = .ok (.iinc 9 1, 3) := by decide +kernel
theorem dX12_bounds_206 : decode cX12_bounds 206 = .ok (.goto (-150), 3) := by decide +kernel
theorem dX12_bounds_179 : decode cX12_bounds 179 = .ok (.iload 11, 2) := by decide +kernel
theorem dX12_bounds_181 : decode cX12_bounds 181 = .ok (.iload 5, 2) := by decide +kernel
theorem dX12_bounds_183 : decode cX12_bounds 183 = .ok (.if_icmp .le 20, 3) := by decide +kernel
theorem dX12_bounds_186 : decode cX12_bounds 186 = .ok (.iload 11, 2) := by decide +kernel
theorem dX12_bounds_188 : decode cX12_bounds 188 = .ok (.iload 7, 2) := by decide +kernel
theorem dX12_bounds_190 : decode cX12_bounds 190 = .ok (.if_icmp .ge 13, 3) := by decide +kernel
theorem dX12_bounds_193 : decode cX12_bounds 193 = .ok (.iload 11, 2) := by decide +kernel
theorem dX12_bounds_195 : decode cX12_bounds 195 = .ok (.istore 7, 2) := by decide +kernel
theorem dX12_bounds_197 : decode cX12_bounds 197 = .ok (.aload_n 0, 1) := by decide +kernel
theorem dX12_bounds_198 : decode cX12_bounds 198 = .ok (.iload 10, 2) := by decide +kernel
theorem dX12_bounds_200 : decode cX12_bounds 200 = .ok (.putfield 48, 3) := by decide +kernel
theorem dX12_bounds_132 : decode cX12_bounds 132 = .ok (.iload 4, 2) := by decide +kernel
theorem dX12_bounds_134 : decode cX12_bounds 134 = .ok (.aload_n 0, 1) := by decide +kernel
theorem dX12_bounds_135 : decode cX12_bounds 135 = .ok (.iload 8, 2) := by decide +kernel
theorem dX12_bounds_137 : decode cX12_bounds 137 = .ok (.iload 9, 2) := by decide +kernel
theorem dX12_bounds_139 : decode cX12_bounds 139 = .ok (.invokevirtual 196, 3) := by decide +kernel
theorem dX12_bounds_142 : decode cX12_bounds 142 = .ok (.aload_n 0, 1) := by decide +kernel
theorem dX12_bounds_143 : decode cX12_bounds 143 = .ok (.iload 8, 2) := by decide +kernel
theorem dX12_bounds_145 : decode cX12_bounds 145 = .ok (.iload 9, 2) := by decide +kernel
theorem dX12_bounds_147 : decode cX12_bounds 147 = .ok (.invokevirtual 206, 3) := by decide +kernel
theorem dX12_bounds_150 : decode cX12_bounds 150 = .ok (.invokestatic 181, 3) := by decide +kernel
theorem dX12_bounds_153 : decode cX12_bounds 153 = .ok (.istore 11, 2) := by decide +kernel
theorem dX12_bounds_155 : decode cX12_bounds 155 = .ok (.iload 11, 2) := by decide +kernel
theorem dX12_bounds_157 : decode cX12_bounds 157 = .ok (.iload 5, 2) := by decide +kernel
theorem dX12_bounds_159 : decode cX12_bounds 159 = .ok (.if_icmp .ge 20, 3) := by decide +kernel
theorem dX12_bounds_162 : decode cX12_bounds 162 = .ok (.iload 11, 2) := by decide +kernel
theorem dX12_bounds_164 : decode cX12_bounds 164 = .ok (.iload 6, 2) := by decide +kernel
theorem dX12_bounds_166 : decode cX12_bounds 166 = .ok (.if_icmp .le 13, 3) := by decide +kernel
theorem dX12_bounds_169 : decode cX12_bounds 169 = .ok (.iload 11, 2) := by decide +kernel
theorem dX12_bounds_171 : decode cX12_bounds 171 = .ok (.istore 6, 2) := by decide +kernel
theorem dX12_bounds_173 : decode cX12_bounds 173 = .ok (.aload_n 0, 1) := by decide +kernel
theorem dX12_bounds_174 : decode cX12_bounds 174 = .ok (.iload 10, 2) := by decide +kernel
theorem dX12_bounds_176 : decode cX12_bounds 176 = .ok (.putfield 45, 3) := by decide +kernel
theorem dX12_bounds_114 : decode cX12_bounds 114 = .ok (.aload_n 0, 1) := by decide +kernel
theorem dX12_bounds_115 : decode cX12_bounds 115 = .ok (.iload 8, 2) := by decide +kernel
theorem dX12_bounds_117 : decode cX12_bounds 117 = .ok (.iload 9, 2) := by decide +kernel
theorem dX12_bounds_119 : decode cX12_bounds 119 = .ok (.invokevirtual 203, 3) := by decide +kernel
theorem dX12_bounds_122 : decode cX12_bounds 122 = .ok (.istore 10, 2) := by decide +kernel
theorem dX12_bounds_124 : decode cX12_bounds 124 = .ok (.iload 10, 2) := by decide +kernel
theorem dX12_bounds_126 : decode cX12_bounds 126 = .ok (.ifCond .gt 6, 3) := by decide +kernel
theorem dX12_bounds_129 : decode cX12_bounds 129 = .ok (.goto 74, 3) := by decide +kernel
theorem dX12_bounds_56 : decode cX12_bounds 56 = .ok (.iload 9, 2) := by decide +kernel
theorem dX12_bounds_58 : decode cX12_bounds 58 = .ok (.iconst 2, 1) := by decide +kernel
theorem dX12_bounds_59 : decode cX12_bounds 59 = .ok (.if_icmp .ge 150, 3) := by decide +kernel
theorem dX12_bounds_62 : decode cX12_bounds 62 = .ok (.aload_n 0, 1) := by decide +kernel
theorem dX12_bounds_63 : decode cX12_bounds 63 = .ok (.iload 8, 2) := by decide +kernel
theorem dX12_bounds_65 : decode cX12_bounds 65 = .ok (.invokevirtual 187, 3) := by decide +kernel
theorem dX12_bounds_68 : decode cX12_bounds 68 = .ok (.ifCond .eq 135, 3) := by decide +kernel
theorem dX12_bounds_71 : decode cX12_bounds 71 = .ok (.aload_n 0, 1) := by decide +kernel
theorem dX12_bounds_72 : decode cX12_bounds 72 = .ok (.iload 8, 2) := by decide +kernel
theorem dX12_bounds_74 : decode cX12_bounds 74 = .ok (.iload 9, 2) := by decide +kernel
theorem dX12_bounds_76 : decode cX12_bounds 76 = .ok (.invokevirtual 190, 3) := by decide +kernel
theorem dX12_bounds_79 : decode cX12_bounds 79 = .ok (.ifCond .eq 124, 3) := by decide +kernel
theorem dX12_bounds_82 : decode cX12_bounds 82 = .ok (.aload_n 0, 1) := by decide +kernel
theorem dX12_bounds_83 : decode cX12_bounds 83 = .ok (.iload 8, 2) := by decide +kernel
theorem dX12_bounds_85 : decode cX12_bounds 85 = .ok (.iload 9, 2) := by decide +kernel
theorem dX12_bounds_87 : decode cX12_bounds 87 = .ok (.invokevirtual 193, 3) := by decide +kernel
theorem dX12_bounds_90 : decode cX12_bounds 90 = .ok (.iload_n 1, 1) := by decide +kernel
theorem dX12_bounds_91 : decode cX12_bounds 91 = .ok (.if_icmp .ne 112, 3) := by decide +kernel
theorem dX12_bounds_94 : decode cX12_bounds 94 = .ok (.iload 4, 2) := by decide +kernel
theorem dX12_bounds_96 : decode cX12_bounds 96 = .ok (.iload_n 2, 1) := by decide +kernel
theorem dX12_bounds_97 : decode cX12_bounds 97 = .ok (.aload_n 0, 1) := by decide +kernel
theorem dX12_bounds_98 : decode cX12_bounds 98 = .ok (.iload 8, 2) := by decide +kernel
theorem dX12_bounds_100 : decode cX12_bounds 100 = .ok (.iload 9, 2) := by decide +kernel
theorem dX12_bounds_102 : decode cX12_bounds 102 = .ok (.invokevirtual 196, 3) := by decide +kernel
theorem dX12_bounds_105 : decode cX12_bounds 105 = .ok (.invokestatic 199, 3) := by decide +kernel
theorem dX12_bounds_108 : decode cX12_bounds 108 = .ok (.ifCond .ne 6, 3) := by decide +kernel
theorem dX12_bounds_111 : decode cX12_bounds 111 = .ok (.goto 92, 3) := by decide +kernel
theorem dX12_bounds_42 : decode cX12_bounds 42 = .ok (.iload 8, 2) := by decide +kernel
theorem dX12_bounds_44 : decode cX12_bounds 44 = .ok (.aload_n 0, 1) := by decide +kernel
theorem dX12_bounds_45 : decode cX12_bounds 45 = .ok (.getfield 10, 3) := by decide +kernel
theorem dX12_bounds_48 : decode cX12_bounds 48 = .ok (.iconst 4, 1) := by decide +kernel
theorem dX12_bounds_49 : decode cX12_bounds 49 = .ok (.iaload, 1) := by decide +kernel
theorem dX12_bounds_50 : decode cX12_bounds 50 = .ok (.if_icmp .ge 165, 3) := by decide +kernel
theorem dX12_bounds_53 : decode cX12_bounds 53 = .ok (.iconst 0, 1) := by decide +kernel
theorem dX12_bounds_54 : decode cX12_bounds 54 = .ok (.istore 9, 2) := by decide +kernel
theorem dX12_bounds_0 : decode cX12_bounds 0 = .ok (.aload_n 0, 1) := by decide +kernel
theorem dX12_bounds_1 : decode cX12_bounds 1 = .ok (.getfield 10, 3) := by decide +kernel
theorem dX12_bounds_4 : decode cX12_bounds 4 = .ok (.sipush 7528, 3) := by decide +kernel
theorem dX12_bounds_7 : decode cX12_bounds 7 = .ok (.iload_n 1, 1) := by decide +kernel
theorem dX12_bounds_8 : decode cX12_bounds 8 = .ok (.iadd, 1) := by decide +kernel
theorem dX12_bounds_9 : decode cX12_bounds 9 = .ok (.iaload, 1) := by decide +kernel
theorem dX12_bounds_10 : decode cX12_bounds 10 = .ok (.istore 4, 2) := by decide +kernel
theorem dX12_bounds_12 : decode cX12_bounds 12 = .ok (.iload 4, 2) := by decide +kernel
theorem dX12_bounds_14 : decode cX12_bounds 14 = .ok (.iload_n 2, 1) := by decide +kernel
theorem dX12_bounds_15 : decode cX12_bounds 15 = .ok (.iload_n 3, 1) := by decide +kernel
theorem dX12_bounds_16 : decode cX12_bounds 16 = .ok (.invokestatic 181, 3) := by decide +kernel
theorem dX12_bounds_19 : decode cX12_bounds 19 = .ok (.istore 5, 2) := by decide +kernel
theorem dX12_bounds_21 : decode cX12_bounds 21 = .ok (.iconst (-1), 1) := by decide +kernel
theorem dX12_bounds_22 : decode cX12_bounds 22 = .ok (.istore 6, 2) := by decide +kernel
theorem dX12_bounds_24 : decode cX12_bounds 24 = .ok (.ldc 185, 2) := by decide +kernel
theorem dX12_bounds_26 : decode cX12_bounds 26 = .ok (.istore 7, 2) := by decide +kernel
theorem dX12_bounds_28 : decode cX12_bounds 28 = .ok (.aload_n 0, 1) := by decide +kernel
theorem dX12_bounds_29 : decode cX12_bounds 29 = .ok (.iconst 0, 1) := by decide +kernel
theorem dX12_bounds_30 : decode cX12_bounds 30 = .ok (.putfield 45, 3) := by decide +kernel
theorem dX12_bounds_33 : decode cX12_bounds 33 = .ok (.aload_n 0, 1) := by decide +kernel
theorem dX12_bounds_34 : decode cX12_bounds 34 = .ok (.ldc 186, 2) := by decide +kernel
theorem dX12_bounds_36 : decode cX12_bounds 36 = .ok (.putfield 48, 3) := by decide +kernel
theorem dX12_bounds_39 : decode cX12_bounds 39 = .ok (.iconst 0, 1) := by decide +kernel
theorem dX12_bounds_40 : decode cX12_bounds 40 = .ok (.istore 8, 2) := by decide +kernel
theorem dX12_isUsed_75 : decode cX12_isUsed 75 = .ok (.iconst 0, 1) := by decide +kernel
theorem dX12_isUsed_76 : decode cX12_isUsed 76 = .ok (.ireturn, 1) := by decide +kernel
theorem dX12_isUsed_69 : decode cX12_isUsed 69 = .ok (.iinc 3 1, 3) := by decide +kernel
theorem dX12_isUsed_72 : decode cX12_isUsed 72 = .ok (.goto (-70), 3) := by decide +kernel
theorem dX12_isUsed_63 : decode cX12_isUsed 63 = .ok (.iinc 4 1, 3) := by decide +kernel
theorem dX12_isUsed_66 : decode cX12_isUsed 66 = .ok (.goto (-51), 3) := by decide +kernel
theorem dX12_isUsed_15 : decode cX12_isUsed 15 = .ok (.iload 4, 2) := by decide +kernel
theorem dX12_isUsed_17 : decode cX12_isUsed 17 = .ok (.iconst 2, 1) := by decide +kernel
theorem dX12_isUsed_18 : decode cX12_isUsed 18 = .ok (.if_icmp .ge 51, 3) := by decide +kernel
theorem dX12_isUsed_21 : decode cX12_isUsed 21 = .ok (.aload_n 0, 1) := by decide +kernel
theorem dX12_isUsed_22 : decode cX12_isUsed 22 = .ok (.iload_n 3, 1) := by decide +kernel
theorem dX12_isUsed_23 : decode cX12_isUsed 23 = .ok (.invokevirtual 187, 3) := by decide +kernel
theorem dX12_isUsed_26 : decode cX12_isUsed 26 = .ok (.ifCond .eq 37, 3) := by decide +kernel
theorem dX12_isUsed_29 : decode cX12_isUsed 29 = .ok (.aload_n 0, 1) := by decide +kernel
theorem dX12_isUsed_30 : decode cX12_isUsed 30 = .ok (.iload_n 3, 1) := by decide +kernel
theorem dX12_isUsed_31 : decode cX12_isUsed 31 = .ok (.iload 4, 2) := by decide +kernel
theorem dX12_isUsed_33 : decode cX12_isUsed 33 = .ok (.invokevirtual 190, 3) := by decide +kernel
theorem dX12_isUsed_36 : decode cX12_isUsed 36 = .ok (.ifCond .eq 27, 3) := by decide +kernel
theorem dX12_isUsed_39 : decode cX12_isUsed 39 = .ok (.aload_n 0, 1) := by decide +kernel
theorem dX12_isUsed_40 : decode cX12_isUsed 40 = .ok (.iload_n 3, 1) := by decide +kernel
theorem dX12_isUsed_41 : decode cX12_isUsed 41 = .ok (.iload 4, 2) := by decide +kernel
theorem dX12_isUsed_43 : decode cX12_isUsed 43 = .ok (.invokevirtual 193, 3) := by decide +kernel
theorem dX12_isUsed_46 : decode cX12_isUsed 46 = .ok (.iload_n 1, 1) := by decide +kernel
theorem dX12_isUsed_47 : decode cX12_isUsed 47 = .ok (.if_icmp .ne 16, 3) := by decide +kernel
theorem dX12_isUsed_50 : decode cX12_isUsed 50 = .ok (.aload_n 0, 1) := by decide +kernel
theorem dX12_isUsed_51 : decode cX12_isUsed 51 = .ok (.iload_n 3, 1) := by decide +kernel
theorem dX12_isUsed_52 : decode cX12_isUsed 52 = .ok (.iload 4, 2) := by decide +kernel
theorem dX12_isUsed_54 : decode cX12_isUsed 54 = .ok (.invokevirtual 203, 3) := by decide +kernel
theorem dX12_isUsed_57 : decode cX12_isUsed 57 = .ok (.iload_n 2, 1) := by decide +kernel
theorem dX12_isUsed_58 : decode cX12_isUsed 58 = .ok (.if_icmp .ne 5, 3) := by decide +kernel
theorem dX12_isUsed_61 : decode cX12_isUsed 61 = .ok (.iconst 1, 1) := by decide +kernel
theorem dX12_isUsed_62 : decode cX12_isUsed 62 = .ok (.ireturn, 1) := by decide +kernel
theorem dX12_isUsed_2 : decode cX12_isUsed 2 = .ok (.iload_n 3, 1) := by decide +kernel
theorem dX12_isUsed_3 : decode cX12_isUsed 3 = .ok (.aload_n 0, 1) := by decide +kernel
theorem dX12_isUsed_4 : decode cX12_isUsed 4 = .ok (.getfield 10, 3) := by decide +kernel
theorem dX12_isUsed_7 : decode cX12_isUsed 7 = .ok (.iconst 4, 1) := by decide +kernel
theorem dX12_isUsed_8 : decode cX12_isUsed 8 = .ok (.iaload, 1) := by decide +kernel
theorem dX12_isUsed_9 : decode cX12_isUsed 9 = .ok (.if_icmp .ge 66, 3) := by decide +kernel
theorem dX12_isUsed_12 : decode cX12_isUsed 12 = .ok (.iconst 0, 1) := by decide +kernel
theorem dX12_isUsed_13 : decode cX12_isUsed 13 = .ok (.istore 4, 2) := by decide +kernel
theorem dX12_isUsed_0 : decode cX12_isUsed 0 = .ok (.iconst 0, 1) := by decide +kernel
theorem dX12_isUsed_1 : decode cX12_isUsed 1 = .ok (.istore_n 3, 1) := by decide +kernel
theorem dX12_mayBe_44 : decode cX12_mayBe 44 = .ok (.iconst 1, 1) := by decide +kernel
theorem dX12_mayBe_45 : decode cX12_mayBe 45 = .ok (.ireturn, 1) := by decide +kernel
theorem dX12_mayBe_43 : decode cX12_mayBe 43 = .ok (.ireturn, 1) := by decide +kernel
theorem dX12_mayBe_42 : decode cX12_mayBe 42 = .ok (.iconst 0, 1) := by decide +kernel
theorem dX12_mayBe_19 : decode cX12_mayBe 19 = .ok (.iload_n 0, 1) := by decide +kernel
theorem dX12_mayBe_20 : decode cX12_mayBe 20 = .ok (.iconst 2, 1) := by decide +kernel
theorem dX12_mayBe_21 : decode cX12_mayBe 21 = .ok (.if_icmp .ne 23, 3) := by decide +kernel
theorem dX12_mayBe_24 : decode cX12_mayBe 24 = .ok (.iload_n 3, 1) := by decide +kernel
theorem dX12_mayBe_25 : decode cX12_mayBe 25 = .ok (.iconst 2, 1) := by decide +kernel
theorem dX12_mayBe_26 : decode cX12_mayBe 26 = .ok (.iload_n 2, 1) := by decide +kernel
theorem dX12_mayBe_27 : decode cX12_mayBe 27 = .ok (.bipush 10, 2) := by decide +kernel
theorem dX12_mayBe_29 : decode cX12_mayBe 29 = .ok (.idiv, 1) := by decide +kernel
theorem dX12_mayBe_30 : decode cX12_mayBe 30 = .ok (.imul, 1) := by decide +kernel
theorem dX12_mayBe_31 : decode cX12_mayBe 31 = .ok (.iconst 1, 1) := by decide +kernel
theorem dX12_mayBe_32 : decode cX12_mayBe 32 = .ok (.iadd, 1) := by decide +kernel
theorem dX12_mayBe_33 : decode cX12_mayBe 33 = .ok (.iload_n 1, 1) := by decide +kernel
theorem dX12_mayBe_34 : decode cX12_mayBe 34 = .ok (.iadd, 1) := by decide +kernel
theorem dX12_mayBe_35 : decode cX12_mayBe 35 = .ok (.if_icmp .ne 7, 3) := by decide +kernel
theorem dX12_mayBe_38 : decode cX12_mayBe 38 = .ok (.iconst 1, 1) := by decide +kernel
theorem dX12_mayBe_39 : decode cX12_mayBe 39 = .ok (.goto 4, 3) := by decide +kernel
theorem dX12_mayBe_18 : decode cX12_mayBe 18 = .ok (.ireturn, 1) := by decide +kernel
theorem dX12_mayBe_17 : decode cX12_mayBe 17 = .ok (.iconst 0, 1) := by decide +kernel
theorem dX12_mayBe_0 : decode cX12_mayBe 0 = .ok (.iload_n 0, 1) := by decide +kernel
theorem dX12_mayBe_1 : decode cX12_mayBe 1 = .ok (.ifCond .ne 18, 3) := by decide +kernel
theorem dX12_mayBe_4 : decode cX12_mayBe 4 = .ok (.iload_n 3, 1) := by decide +kernel
theorem dX12_mayBe_5 : decode cX12_mayBe 5 = .ok (.iconst 2, 1) := by decide +kernel
theorem dX12_mayBe_6 : decode cX12_mayBe 6 = .ok (.irem, 1) := by decide +kernel
theorem dX12_mayBe_7 : decode cX12_mayBe 7 = .ok (.iconst 1, 1) := by decide +kernel
theorem dX12_mayBe_8 : decode cX12_mayBe 8 = .ok (.iload_n 1, 1) := by decide +kernel
theorem dX12_mayBe_9 : decode cX12_mayBe 9 = .ok (.isub, 1) := by decide +kernel
theorem dX12_mayBe_10 : decode cX12_mayBe 10 = .ok (.if_icmp .ne 7, 3) := by decide +kernel
theorem dX12_mayBe_13 : decode cX12_mayBe 13 = .ok (.iconst 1, 1) := by decide +kernel
theorem dX12_mayBe_14 : decode cX12_mayBe 14 = .ok (.goto 4, 3) := by decide +kernel
theorem dX12_isCandidate_56 : decode cX12_isCandidate 56 = .ok (.ireturn, 1) := by decide +kernel
theorem dX12_isCandidate_55 : decode cX12_isCandidate 55 = .ok (.iconst 0, 1) := by decide +kernel
theorem dX12_isCandidate_0 : decode cX12_isCandidate 0 = .ok (.iload 4, 2) := by decide +kernel
theorem dX12_isCandidate_2 : decode cX12_isCandidate 2 = .ok (.aload_n 0, 1) := by decide +kernel
theorem dX12_isCandidate_3 : decode cX12_isCandidate 3 = .ok (.getfield 45, 3) := by decide +kernel
theorem dX12_isCandidate_6 : decode cX12_isCandidate 6 = .ok (.if_icmp .le 49, 3) := by decide +kernel
theorem dX12_isCandidate_9 : decode cX12_isCandidate 9 = .ok (.iload 4, 2) := by decide +kernel
theorem dX12_isCandidate_11 : decode cX12_isCandidate 11 = .ok (.aload_n 0, 1) := by decide +kernel
theorem dX12_isCandidate_12 : decode cX12_isCandidate 12 = .ok (.getfield 48, 3) := by decide +kernel
theorem dX12_isCandidate_15 : decode cX12_isCandidate 15 = .ok (.if_icmp .ge 40, 3) := by decide +kernel
theorem dX12_isCandidate_18 : decode cX12_isCandidate 18 = .ok (.aload_n 0, 1) := by decide +kernel
theorem dX12_isCandidate_19 : decode cX12_isCandidate 19 = .ok (.getfield 10, 3) := by decide +kernel
theorem dX12_isCandidate_22 : decode cX12_isCandidate 22 = .ok (.sipush 7528, 3) := by decide +kernel
theorem dX12_isCandidate_25 : decode cX12_isCandidate 25 = .ok (.iload_n 1, 1) := by decide +kernel
theorem dX12_isCandidate_26 : decode cX12_isCandidate 26 = .ok (.iadd, 1) := by decide +kernel
theorem dX12_isCandidate_27 : decode cX12_isCandidate 27 = .ok (.iaload, 1) := by decide +kernel
theorem dX12_isCandidate_28 : decode cX12_isCandidate 28 = .ok (.iload_n 2, 1) := by decide +kernel
theorem dX12_isCandidate_29 : decode cX12_isCandidate 29 = .ok (.iload_n 3, 1) := by decide +kernel
theorem dX12_isCandidate_30 : decode cX12_isCandidate 30 = .ok (.iload 4, 2) := by decide +kernel
theorem dX12_isCandidate_32 : decode cX12_isCandidate 32 = .ok (.bipush 16, 2) := by decide +kernel
theorem dX12_isCandidate_34 : decode cX12_isCandidate 34 = .ok (.idiv, 1) := by decide +kernel
theorem dX12_isCandidate_35 : decode cX12_isCandidate 35 = .ok (.invokestatic 209, 3) := by decide +kernel
theorem dX12_isCandidate_38 : decode cX12_isCandidate 38 = .ok (.ifCond .eq 17, 3) := by decide +kernel
theorem dX12_isCandidate_41 : decode cX12_isCandidate 41 = .ok (.aload_n 0, 1) := by decide +kernel
theorem dX12_isCandidate_42 : decode cX12_isCandidate 42 = .ok (.iload_n 1, 1) := by decide +kernel
theorem dX12_isCandidate_43 : decode cX12_isCandidate 43 = .ok (.iload 4, 2) := by decide +kernel
theorem dX12_isCandidate_45 : decode cX12_isCandidate 45 = .ok (.invokevirtual 213, 3) := by decide +kernel
theorem dX12_isCandidate_48 : decode cX12_isCandidate 48 = .ok (.ifCond .ne 7, 3) := by decide +kernel
theorem dX12_isCandidate_51 : decode cX12_isCandidate 51 = .ok (.iconst 1, 1) := by decide +kernel
theorem dX12_isCandidate_52 : decode cX12_isCandidate 52 = .ok (.goto 4, 3) := by decide +kernel
theorem dX12_least_118 : decode cX12_least 118 = .ok (.iconst (-1), 1) := by decide +kernel
theorem dX12_least_119 : decode cX12_least 119 = .ok (.ireturn, 1) := by decide +kernel
theorem dX12_least_112 : decode cX12_least 112 = .ok (.iinc 5 1, 3) := by decide +kernel
theorem dX12_least_115 : decode cX12_least 115 = .ok (.goto (-81), 3) := by decide +kernel
theorem dX12_least_106 : decode cX12_least 106 = .ok (.iinc 6 1, 3) := by decide +kernel
theorem dX12_least_109 : decode cX12_least 109 = .ok (.goto (-59), 3) := by decide +kernel
theorem dX12_least_50 : decode cX12_least 50 = .ok (.iload 6, 2) := by decide +kernel
theorem dX12_least_52 : decode cX12_least 52 = .ok (.sipush 9999, 3) := by decide +kernel
theorem dX12_least_55 : decode cX12_least 55 = .ok (.if_icmp .gt 57, 3) := by decide +kernel
theorem dX12_least_58 : decode cX12_least 58 = .ok (.bipush 16, 2) := by decide +kernel
theorem dX12_least_60 : decode cX12_least 60 = .ok (.iload 6, 2) := by decide +kernel
theorem dX12_least_62 : decode cX12_least 62 = .ok (.imul, 1) := by decide +kernel
theorem dX12_least_63 : decode cX12_least 63 = .ok (.iload 5, 2) := by decide +kernel
theorem dX12_least_65 : decode cX12_least 65 = .ok (.iadd, 1) := by decide +kernel
theorem dX12_least_66 : decode cX12_least 66 = .ok (.aload_n 0, 1) := by decide +kernel
theorem dX12_least_67 : decode cX12_least 67 = .ok (.getfield 48, 3) := by decide +kernel
theorem dX12_least_70 : decode cX12_least 70 = .ok (.if_icmp .ge 42, 3) := by decide +kernel
theorem dX12_least_73 : decode cX12_least 73 = .ok (.iload 6, 2) := by decide +kernel
theorem dX12_least_75 : decode cX12_least 75 = .ok (.iconst 1, 1) := by decide +kernel
theorem dX12_least_76 : decode cX12_least 76 = .ok (.if_icmp .lt 30, 3) := by decide +kernel
theorem dX12_least_79 : decode cX12_least 79 = .ok (.aload_n 0, 1) := by decide +kernel
theorem dX12_least_80 : decode cX12_least 80 = .ok (.iload_n 1, 1) := by decide +kernel
theorem dX12_least_81 : decode cX12_least 81 = .ok (.iload_n 2, 1) := by decide +kernel
theorem dX12_least_82 : decode cX12_least 82 = .ok (.iload_n 3, 1) := by decide +kernel
theorem dX12_least_83 : decode cX12_least 83 = .ok (.bipush 16, 2) := by decide +kernel
theorem dX12_least_85 : decode cX12_least 85 = .ok (.iload 6, 2) := by decide +kernel
theorem dX12_least_87 : decode cX12_least 87 = .ok (.imul, 1) := by decide +kernel
theorem dX12_least_88 : decode cX12_least 88 = .ok (.iload 5, 2) := by decide +kernel
theorem dX12_least_90 : decode cX12_least 90 = .ok (.iadd, 1) := by decide +kernel
theorem dX12_least_91 : decode cX12_least 91 = .ok (.invokevirtual 220, 3) := by decide +kernel
theorem dX12_least_94 : decode cX12_least 94 = .ok (.ifCond .eq 12, 3) := by decide +kernel
theorem dX12_least_97 : decode cX12_least 97 = .ok (.bipush 16, 2) := by decide +kernel
theorem dX12_least_99 : decode cX12_least 99 = .ok (.iload 6, 2) := by decide +kernel
theorem dX12_least_101 : decode cX12_least 101 = .ok (.imul, 1) := by decide +kernel
theorem dX12_least_102 : decode cX12_least 102 = .ok (.iload 5, 2) := by decide +kernel
theorem dX12_least_104 : decode cX12_least 104 = .ok (.iadd, 1) := by decide +kernel
theorem dX12_least_105 : decode cX12_least 105 = .ok (.ireturn, 1) := by decide +kernel
theorem dX12_least_34 : decode cX12_least 34 = .ok (.iload 5, 2) := by decide +kernel
theorem dX12_least_36 : decode cX12_least 36 = .ok (.bipush 9, 2) := by decide +kernel
theorem dX12_least_38 : decode cX12_least 38 = .ok (.if_icmp .gt 80, 3) := by decide +kernel
theorem dX12_least_41 : decode cX12_least 41 = .ok (.aload_n 0, 1) := by decide +kernel
theorem dX12_least_42 : decode cX12_least 42 = .ok (.getfield 45, 3) := by decide +kernel
theorem dX12_least_45 : decode cX12_least 45 = .ok (.bipush 16, 2) := by decide +kernel
theorem dX12_least_47 : decode cX12_least 47 = .ok (.idiv, 1) := by decide +kernel
theorem dX12_least_48 : decode cX12_least 48 = .ok (.istore 6, 2) := by decide +kernel
theorem dX12_least_31 : decode cX12_least 31 = .ok (.iconst 0, 1) := by decide +kernel
theorem dX12_least_32 : decode cX12_least 32 = .ok (.istore 5, 2) := by decide +kernel
theorem dX12_least_30 : decode cX12_least 30 = .ok (.ireturn, 1) := by decide +kernel
theorem dX12_least_29 : decode cX12_least 29 = .ok (.iconst (-1), 1) := by decide +kernel
theorem dX12_least_0 : decode cX12_least 0 = .ok (.aload_n 0, 1) := by decide +kernel
theorem dX12_least_1 : decode cX12_least 1 = .ok (.iload_n 1, 1) := by decide +kernel
theorem dX12_least_2 : decode cX12_least 2 = .ok (.iload_n 2, 1) := by decide +kernel
theorem dX12_least_3 : decode cX12_least 3 = .ok (.iload_n 3, 1) := by decide +kernel
theorem dX12_least_4 : decode cX12_least 4 = .ok (.invokevirtual 216, 3) := by decide +kernel
theorem dX12_least_7 : decode cX12_least 7 = .ok (.iload 4, 2) := by decide +kernel
theorem dX12_least_9 : decode cX12_least 9 = .ok (.ifCond .le 22, 3) := by decide +kernel
theorem dX12_least_12 : decode cX12_least 12 = .ok (.aload_n 0, 1) := by decide +kernel
theorem dX12_least_13 : decode cX12_least 13 = .ok (.iload_n 1, 1) := by decide +kernel
theorem dX12_least_14 : decode cX12_least 14 = .ok (.iload_n 2, 1) := by decide +kernel
theorem dX12_least_15 : decode cX12_least 15 = .ok (.iload_n 3, 1) := by decide +kernel
theorem dX12_least_16 : decode cX12_least 16 = .ok (.iload 4, 2) := by decide +kernel
theorem dX12_least_18 : decode cX12_least 18 = .ok (.invokevirtual 220, 3) := by decide +kernel
theorem dX12_least_21 : decode cX12_least 21 = .ok (.ifCond .eq 8, 3) := by decide +kernel
theorem dX12_least_24 : decode cX12_least 24 = .ok (.iload 4, 2) := by decide +kernel
theorem dX12_least_26 : decode cX12_least 26 = .ok (.goto 4, 3) := by decide +kernel
theorem dX12_isOccupied_93 : decode cX12_isOccupied 93 = .ok (.iconst 0, 1) := by decide +kernel
theorem dX12_isOccupied_94 : decode cX12_isOccupied 94 = .ok (.ireturn, 1) := by decide +kernel
theorem dX12_isOccupied_87 : decode cX12_isOccupied 87 = .ok (.iinc 4 1, 3) := by decide +kernel
theorem dX12_isOccupied_90 : decode cX12_isOccupied 90 = .ok (.goto (-87), 3) := by decide +kernel
theorem dX12_isOccupied_81 : decode cX12_isOccupied 81 = .ok (.iinc 5 1, 3) := by decide +kernel
theorem dX12_isOccupied_84 : decode cX12_isOccupied 84 = .ok (.goto (-67), 3) := by decide +kernel
theorem dX12_isOccupied_17 : decode cX12_isOccupied 17 = .ok (.iload 5, 2) := by decide +kernel
theorem dX12_isOccupied_19 : decode cX12_isOccupied 19 = .ok (.iconst 2, 1) := by decide +kernel
theorem dX12_isOccupied_20 : decode cX12_isOccupied 20 = .ok (.if_icmp .ge 67, 3) := by decide +kernel
theorem dX12_isOccupied_23 : decode cX12_isOccupied 23 = .ok (.aload_n 0, 1) := by decide +kernel
theorem dX12_isOccupied_24 : decode cX12_isOccupied 24 = .ok (.iload 4, 2) := by decide +kernel
theorem dX12_isOccupied_26 : decode cX12_isOccupied 26 = .ok (.invokevirtual 187, 3) := by decide +kernel
theorem dX12_isOccupied_29 : decode cX12_isOccupied 29 = .ok (.ifCond .eq 52, 3) := by decide +kernel
theorem dX12_isOccupied_32 : decode cX12_isOccupied 32 = .ok (.aload_n 0, 1) := by decide +kernel
theorem dX12_isOccupied_33 : decode cX12_isOccupied 33 = .ok (.iload 4, 2) := by decide +kernel
theorem dX12_isOccupied_35 : decode cX12_isOccupied 35 = .ok (.iload 5, 2) := by decide +kernel
theorem dX12_isOccupied_37 : decode cX12_isOccupied 37 = .ok (.invokevirtual 190, 3) := by decide +kernel
theorem dX12_isOccupied_40 : decode cX12_isOccupied 40 = .ok (.ifCond .eq 41, 3) := by decide +kernel
theorem dX12_isOccupied_43 : decode cX12_isOccupied 43 = .ok (.aload_n 0, 1) := by decide +kernel
theorem dX12_isOccupied_44 : decode cX12_isOccupied 44 = .ok (.iload 4, 2) := by decide +kernel
theorem dX12_isOccupied_46 : decode cX12_isOccupied 46 = .ok (.iload 5, 2) := by decide +kernel
theorem dX12_isOccupied_48 : decode cX12_isOccupied 48 = .ok (.invokevirtual 193, 3) := by decide +kernel
theorem dX12_isOccupied_51 : decode cX12_isOccupied 51 = .ok (.iload_n 1, 1) := by decide +kernel
theorem dX12_isOccupied_52 : decode cX12_isOccupied 52 = .ok (.if_icmp .ne 29, 3) := by decide +kernel
theorem dX12_isOccupied_55 : decode cX12_isOccupied 55 = .ok (.aload_n 0, 1) := by decide +kernel
theorem dX12_isOccupied_56 : decode cX12_isOccupied 56 = .ok (.iload 4, 2) := by decide +kernel
theorem dX12_isOccupied_58 : decode cX12_isOccupied 58 = .ok (.iload 5, 2) := by decide +kernel
theorem dX12_isOccupied_60 : decode cX12_isOccupied 60 = .ok (.invokevirtual 196, 3) := by decide +kernel
theorem dX12_isOccupied_63 : decode cX12_isOccupied 63 = .ok (.iload_n 2, 1) := by decide +kernel
theorem dX12_isOccupied_64 : decode cX12_isOccupied 64 = .ok (.if_icmp .ne 17, 3) := by decide +kernel
theorem dX12_isOccupied_67 : decode cX12_isOccupied 67 = .ok (.aload_n 0, 1) := by decide +kernel
theorem dX12_isOccupied_68 : decode cX12_isOccupied 68 = .ok (.iload 4, 2) := by decide +kernel
theorem dX12_isOccupied_70 : decode cX12_isOccupied 70 = .ok (.iload 5, 2) := by decide +kernel
theorem dX12_isOccupied_72 : decode cX12_isOccupied 72 = .ok (.invokevirtual 206, 3) := by decide +kernel
theorem dX12_isOccupied_75 : decode cX12_isOccupied 75 = .ok (.iload_n 3, 1) := by decide +kernel
theorem dX12_isOccupied_76 : decode cX12_isOccupied 76 = .ok (.if_icmp .ne 5, 3) := by decide +kernel
theorem dX12_isOccupied_79 : decode cX12_isOccupied 79 = .ok (.iconst 1, 1) := by decide +kernel
theorem dX12_isOccupied_80 : decode cX12_isOccupied 80 = .ok (.ireturn, 1) := by decide +kernel
theorem dX12_isOccupied_3 : decode cX12_isOccupied 3 = .ok (.iload 4, 2) := by decide +kernel
theorem dX12_isOccupied_5 : decode cX12_isOccupied 5 = .ok (.aload_n 0, 1) := by decide +kernel
theorem dX12_isOccupied_6 : decode cX12_isOccupied 6 = .ok (.getfield 10, 3) := by decide +kernel
theorem dX12_isOccupied_9 : decode cX12_isOccupied 9 = .ok (.iconst 4, 1) := by decide +kernel
theorem dX12_isOccupied_10 : decode cX12_isOccupied 10 = .ok (.iaload, 1) := by decide +kernel
theorem dX12_isOccupied_11 : decode cX12_isOccupied 11 = .ok (.if_icmp .ge 82, 3) := by decide +kernel
theorem dX12_isOccupied_14 : decode cX12_isOccupied 14 = .ok (.iconst 0, 1) := by decide +kernel
theorem dX12_isOccupied_15 : decode cX12_isOccupied 15 = .ok (.istore 5, 2) := by decide +kernel
theorem dX12_isOccupied_0 : decode cX12_isOccupied 0 = .ok (.iconst 0, 1) := by decide +kernel
theorem dX12_isOccupied_1 : decode cX12_isOccupied 1 = .ok (.istore 4, 2) := by decide +kernel
theorem dX12_isPlace_25 : decode cX12_isPlace 25 = .ok (.ireturn, 1) := by decide +kernel
theorem dX12_isPlace_24 : decode cX12_isPlace 24 = .ok (.iconst 0, 1) := by decide +kernel
theorem dX12_isPlace_0 : decode cX12_isPlace 0 = .ok (.iload_n 0, 1) := by decide +kernel
theorem dX12_isPlace_1 : decode cX12_isPlace 1 = .ok (.ifCond .lt 23, 3) := by decide +kernel
theorem dX12_isPlace_4 : decode cX12_isPlace 4 = .ok (.iload_n 0, 1) := by decide +kernel
theorem dX12_isPlace_5 : decode cX12_isPlace 5 = .ok (.iconst 1, 1) := by decide +kernel
theorem dX12_isPlace_6 : decode cX12_isPlace 6 = .ok (.if_icmp .gt 18, 3) := by decide +kernel
theorem dX12_isPlace_9 : decode cX12_isPlace 9 = .ok (.iload_n 1, 1) := by decide +kernel
theorem dX12_isPlace_10 : decode cX12_isPlace 10 = .ok (.ifCond .lt 14, 3) := by decide +kernel
theorem dX12_isPlace_13 : decode cX12_isPlace 13 = .ok (.iload_n 1, 1) := by decide +kernel
theorem dX12_isPlace_14 : decode cX12_isPlace 14 = .ok (.sipush 9999, 3) := by decide +kernel
theorem dX12_isPlace_17 : decode cX12_isPlace 17 = .ok (.if_icmp .gt 7, 3) := by decide +kernel
theorem dX12_isPlace_20 : decode cX12_isPlace 20 = .ok (.iconst 1, 1) := by decide +kernel
theorem dX12_isPlace_21 : decode cX12_isPlace 21 = .ok (.goto 4, 3) := by decide +kernel
theorem dX12_made_0 : decode cX12_made 0 = .ok (.aload_n 0, 1) := by decide +kernel
theorem dX12_made_1 : decode cX12_made 1 = .ok (.getfield 10, 3) := by decide +kernel
theorem dX12_made_4 : decode cX12_made 4 = .ok (.iconst 4, 1) := by decide +kernel
theorem dX12_made_5 : decode cX12_made 5 = .ok (.iaload, 1) := by decide +kernel
theorem dX12_made_6 : decode cX12_made 6 = .ok (.istore 8, 2) := by decide +kernel
theorem dX12_made_8 : decode cX12_made 8 = .ok (.sipush 9552, 3) := by decide +kernel
theorem dX12_made_11 : decode cX12_made 11 = .ok (.bipush 12, 2) := by decide +kernel
theorem dX12_made_13 : decode cX12_made 13 = .ok (.iload 8, 2) := by decide +kernel
theorem dX12_made_15 : decode cX12_made 15 = .ok (.imul, 1) := by decide +kernel
theorem dX12_made_16 : decode cX12_made 16 = .ok (.iadd, 1) := by decide +kernel
theorem dX12_made_17 : decode cX12_made 17 = .ok (.istore 9, 2) := by decide +kernel
theorem dX12_made_19 : decode cX12_made 19 = .ok (.aload_n 0, 1) := by decide +kernel
theorem dX12_made_20 : decode cX12_made 20 = .ok (.getfield 10, 3) := by decide +kernel
theorem dX12_made_23 : decode cX12_made 23 = .ok (.iload 9, 2) := by decide +kernel
theorem dX12_made_25 : decode cX12_made 25 = .ok (.iload_n 1, 1) := by decide +kernel
theorem dX12_made_26 : decode cX12_made 26 = .ok (.iastore, 1) := by decide +kernel
theorem dX12_made_27 : decode cX12_made 27 = .ok (.aload_n 0, 1) := by decide +kernel
theorem dX12_made_28 : decode cX12_made 28 = .ok (.getfield 10, 3) := by decide +kernel
theorem dX12_made_31 : decode cX12_made 31 = .ok (.iload 9, 2) := by decide +kernel
theorem dX12_made_33 : decode cX12_made 33 = .ok (.iconst 1, 1) := by decide +kernel
theorem dX12_made_34 : decode cX12_made 34 = .ok (.iadd, 1) := by decide +kernel
theorem dX12_made_35 : decode cX12_made 35 = .ok (.iload_n 2, 1) := by decide +kernel
theorem dX12_made_36 : decode cX12_made 36 = .ok (.iastore, 1) := by decide +kernel
theorem dX12_made_37 : decode cX12_made 37 = .ok (.aload_n 0, 1) := by decide +kernel
theorem dX12_made_38 : decode cX12_made 38 = .ok (.getfield 10, 3) := by decide +kernel
theorem dX12_made_41 : decode cX12_made 41 = .ok (.iload 9, 2) := by decide +kernel
theorem dX12_made_43 : decode cX12_made 43 = .ok (.iconst 2, 1) := by decide +kernel
theorem dX12_made_44 : decode cX12_made 44 = .ok (.iadd, 1) := by decide +kernel
theorem dX12_made_45 : decode cX12_made 45 = .ok (.iload_n 3, 1) := by decide +kernel
theorem dX12_made_46 : decode cX12_made 46 = .ok (.iastore, 1) := by decide +kernel
theorem dX12_made_47 : decode cX12_made 47 = .ok (.aload_n 0, 1) := by decide +kernel
theorem dX12_made_48 : decode cX12_made 48 = .ok (.getfield 10, 3) := by decide +kernel
theorem dX12_made_51 : decode cX12_made 51 = .ok (.iload 9, 2) := by decide +kernel
theorem dX12_made_53 : decode cX12_made 53 = .ok (.iconst 3, 1) := by decide +kernel
theorem dX12_made_54 : decode cX12_made 54 = .ok (.iadd, 1) := by decide +kernel
theorem dX12_made_55 : decode cX12_made 55 = .ok (.iload 4, 2) := by decide +kernel
theorem dX12_made_57 : decode cX12_made 57 = .ok (.iastore, 1) := by decide +kernel
theorem dX12_made_58 : decode cX12_made 58 = .ok (.aload_n 0, 1) := by decide +kernel
theorem dX12_made_59 : decode cX12_made 59 = .ok (.getfield 10, 3) := by decide +kernel
theorem dX12_made_62 : decode cX12_made 62 = .ok (.iload 9, 2) := by decide +kernel
theorem dX12_made_64 : decode cX12_made 64 = .ok (.iconst 4, 1) := by decide +kernel
theorem dX12_made_65 : decode cX12_made 65 = .ok (.iadd, 1) := by decide +kernel
theorem dX12_made_66 : decode cX12_made 66 = .ok (.iconst (-1), 1) := by decide +kernel
theorem dX12_made_67 : decode cX12_made 67 = .ok (.iastore, 1) := by decide +kernel
theorem dX12_made_68 : decode cX12_made 68 = .ok (.aload_n 0, 1) := by decide +kernel
theorem dX12_made_69 : decode cX12_made 69 = .ok (.getfield 10, 3) := by decide +kernel
theorem dX12_made_72 : decode cX12_made 72 = .ok (.iload 9, 2) := by decide +kernel
theorem dX12_made_74 : decode cX12_made 74 = .ok (.iconst 5, 1) := by decide +kernel
theorem dX12_made_75 : decode cX12_made 75 = .ok (.iadd, 1) := by decide +kernel
theorem dX12_made_76 : decode cX12_made 76 = .ok (.iconst (-1), 1) := by decide +kernel
theorem dX12_made_77 : decode cX12_made 77 = .ok (.iastore, 1) := by decide +kernel
theorem dX12_made_78 : decode cX12_made 78 = .ok (.aload_n 0, 1) := by decide +kernel
theorem dX12_made_79 : decode cX12_made 79 = .ok (.getfield 10, 3) := by decide +kernel
theorem dX12_made_82 : decode cX12_made 82 = .ok (.iload 9, 2) := by decide +kernel
theorem dX12_made_84 : decode cX12_made 84 = .ok (.bipush 6, 2) := by decide +kernel
theorem dX12_made_86 : decode cX12_made 86 = .ok (.iadd, 1) := by decide +kernel
theorem dX12_made_87 : decode cX12_made 87 = .ok (.iconst (-1), 1) := by decide +kernel
theorem dX12_made_88 : decode cX12_made 88 = .ok (.iastore, 1) := by decide +kernel
theorem dX12_made_89 : decode cX12_made 89 = .ok (.aload_n 0, 1) := by decide +kernel
theorem dX12_made_90 : decode cX12_made 90 = .ok (.getfield 10, 3) := by decide +kernel
theorem dX12_made_93 : decode cX12_made 93 = .ok (.iload 9, 2) := by decide +kernel
theorem dX12_made_95 : decode cX12_made 95 = .ok (.bipush 7, 2) := by decide +kernel
theorem dX12_made_97 : decode cX12_made 97 = .ok (.iadd, 1) := by decide +kernel
theorem dX12_made_98 : decode cX12_made 98 = .ok (.iload 5, 2) := by decide +kernel
theorem dX12_made_100 : decode cX12_made 100 = .ok (.iastore, 1) := by decide +kernel
theorem dX12_made_101 : decode cX12_made 101 = .ok (.aload_n 0, 1) := by decide +kernel
theorem dX12_made_102 : decode cX12_made 102 = .ok (.getfield 10, 3) := by decide +kernel
theorem dX12_made_105 : decode cX12_made 105 = .ok (.iload 9, 2) := by decide +kernel
theorem dX12_made_107 : decode cX12_made 107 = .ok (.bipush 8, 2) := by decide +kernel
theorem dX12_made_109 : decode cX12_made 109 = .ok (.iadd, 1) := by decide +kernel
theorem dX12_made_110 : decode cX12_made 110 = .ok (.iload 6, 2) := by decide +kernel
theorem dX12_made_112 : decode cX12_made 112 = .ok (.iastore, 1) := by decide +kernel
theorem dX12_made_113 : decode cX12_made 113 = .ok (.aload_n 0, 1) := by decide +kernel
theorem dX12_made_114 : decode cX12_made 114 = .ok (.getfield 10, 3) := by decide +kernel
theorem dX12_made_117 : decode cX12_made 117 = .ok (.iload 9, 2) := by decide +kernel
theorem dX12_made_119 : decode cX12_made 119 = .ok (.bipush 9, 2) := by decide +kernel
theorem dX12_made_121 : decode cX12_made 121 = .ok (.iadd, 1) := by decide +kernel
theorem dX12_made_122 : decode cX12_made 122 = .ok (.iload 7, 2) := by decide +kernel
theorem dX12_made_124 : decode cX12_made 124 = .ok (.iastore, 1) := by decide +kernel
theorem dX12_made_125 : decode cX12_made 125 = .ok (.aload_n 0, 1) := by decide +kernel
theorem dX12_made_126 : decode cX12_made 126 = .ok (.getfield 10, 3) := by decide +kernel
theorem dX12_made_129 : decode cX12_made 129 = .ok (.iload 9, 2) := by decide +kernel
theorem dX12_made_131 : decode cX12_made 131 = .ok (.bipush 10, 2) := by decide +kernel
theorem dX12_made_133 : decode cX12_made 133 = .ok (.iadd, 1) := by decide +kernel
theorem dX12_made_134 : decode cX12_made 134 = .ok (.iconst (-1), 1) := by decide +kernel
theorem dX12_made_135 : decode cX12_made 135 = .ok (.iastore, 1) := by decide +kernel
theorem dX12_made_136 : decode cX12_made 136 = .ok (.aload_n 0, 1) := by decide +kernel
theorem dX12_made_137 : decode cX12_made 137 = .ok (.getfield 10, 3) := by decide +kernel
theorem dX12_made_140 : decode cX12_made 140 = .ok (.iload 9, 2) := by decide +kernel
theorem dX12_made_142 : decode cX12_made 142 = .ok (.bipush 11, 2) := by decide +kernel
theorem dX12_made_144 : decode cX12_made 144 = .ok (.iadd, 1) := by decide +kernel
theorem dX12_made_145 : decode cX12_made 145 = .ok (.iconst (-1), 1) := by decide +kernel
theorem dX12_made_146 : decode cX12_made 146 = .ok (.iastore, 1) := by decide +kernel
theorem dX12_made_147 : decode cX12_made 147 = .ok (.aload_n 0, 1) := by decide +kernel
theorem dX12_made_148 : decode cX12_made 148 = .ok (.getfield 10, 3) := by decide +kernel
theorem dX12_made_151 : decode cX12_made 151 = .ok (.iconst 4, 1) := by decide +kernel
theorem dX12_made_152 : decode cX12_made 152 = .ok (.dup2, 1) := by decide +kernel
theorem dX12_made_153 : decode cX12_made 153 = .ok (.iaload, 1) := by decide +kernel
theorem dX12_made_154 : decode cX12_made 154 = .ok (.iconst 1, 1) := by decide +kernel
theorem dX12_made_155 : decode cX12_made 155 = .ok (.iadd, 1) := by decide +kernel
theorem dX12_made_156 : decode cX12_made 156 = .ok (.iastore, 1) := by decide +kernel
theorem dX12_made_157 : decode cX12_made 157 = .ok (.iload 8, 2) := by decide +kernel
theorem dX12_made_159 : decode cX12_made 159 = .ok (.ireturn, 1) := by decide +kernel
theorem dX12_door_127 : decode cX12_door 127 = .ok (.aload_n 0, 1) := by decide +kernel
theorem dX12_door_128 : decode cX12_door 128 = .ok (.iload 5, 2) := by decide +kernel
theorem dX12_door_130 : decode cX12_door 130 = .ok (.iload_n 1, 1) := by decide +kernel
theorem dX12_door_131 : decode cX12_door 131 = .ok (.iconst (-1), 1) := by decide +kernel
theorem dX12_door_132 : decode cX12_door 132 = .ok (.iconst (-1), 1) := by decide +kernel
theorem dX12_door_133 : decode cX12_door 133 = .ok (.iconst (-1), 1) := by decide +kernel
theorem dX12_door_134 : decode cX12_door 134 = .ok (.invokevirtual 154, 3) := by decide +kernel
theorem dX12_door_137 : decode cX12_door 137 = .ok (.istore 7, 2) := by decide +kernel
theorem dX12_door_139 : decode cX12_door 139 = .ok (.aload_n 0, 1) := by decide +kernel
theorem dX12_door_140 : decode cX12_door 140 = .ok (.iconst 0, 1) := by decide +kernel
theorem dX12_door_141 : decode cX12_door 141 = .ok (.iload_n 1, 1) := by decide +kernel
theorem dX12_door_142 : decode cX12_door 142 = .ok (.iload_n 2, 1) := by decide +kernel
theorem dX12_door_143 : decode cX12_door 143 = .ok (.iload_n 3, 1) := by decide +kernel
theorem dX12_door_144 : decode cX12_door 144 = .ok (.iconst 0, 1) := by decide +kernel
theorem dX12_door_145 : decode cX12_door 145 = .ok (.iconst (-1), 1) := by decide +kernel
theorem dX12_door_146 : decode cX12_door 146 = .ok (.iload 7, 2) := by decide +kernel
theorem dX12_door_148 : decode cX12_door 148 = .ok (.invokevirtual 236, 3) := by decide +kernel
theorem dX12_door_151 : decode cX12_door 151 = .ok (.istore 8, 2) := by decide +kernel
theorem dX12_door_153 : decode cX12_door 153 = .ok (.aload_n 0, 1) := by decide +kernel
theorem dX12_door_154 : decode cX12_door 154 = .ok (.iload 8, 2) := by decide +kernel
theorem dX12_door_156 : decode cX12_door 156 = .ok (.iconst 0, 1) := by decide +kernel
theorem dX12_door_157 : decode cX12_door 157 = .ok (.iload_n 1, 1) := by decide +kernel
theorem dX12_door_158 : decode cX12_door 158 = .ok (.iload 6, 2) := by decide +kernel
theorem dX12_door_160 : decode cX12_door 160 = .ok (.iload 7, 2) := by decide +kernel
theorem dX12_door_162 : decode cX12_door 162 = .ok (.invokevirtual 240, 3) := by decide +kernel
theorem dX12_door_165 : decode cX12_door 165 = .ok (.iload 8, 2) := by decide +kernel
theorem dX12_door_167 : decode cX12_door 167 = .ok (.ireturn, 1) := by decide +kernel
theorem dX12_door_124 : decode cX12_door 124 = .ok (.bipush (-6), 2) := by decide +kernel
theorem dX12_door_126 : decode cX12_door 126 = .ok (.ireturn, 1) := by decide +kernel
theorem dX12_door_88 : decode cX12_door 88 = .ok (.aload_n 0, 1) := by decide +kernel
theorem dX12_door_89 : decode cX12_door 89 = .ok (.getfield 10, 3) := by decide +kernel
theorem dX12_door_92 : decode cX12_door 92 = .ok (.iconst 4, 1) := by decide +kernel
theorem dX12_door_93 : decode cX12_door 93 = .ok (.iaload, 1) := by decide +kernel
theorem dX12_door_94 : decode cX12_door 94 = .ok (.bipush 100, 2) := by decide +kernel
theorem dX12_door_96 : decode cX12_door 96 = .ok (.if_icmp .eq 28, 3) := by decide +kernel
theorem dX12_door_99 : decode cX12_door 99 = .ok (.aload_n 0, 1) := by decide +kernel
theorem dX12_door_100 : decode cX12_door 100 = .ok (.getfield 10, 3) := by decide +kernel
theorem dX12_door_103 : decode cX12_door 103 = .ok (.iconst 5, 1) := by decide +kernel
theorem dX12_door_104 : decode cX12_door 104 = .ok (.iaload, 1) := by decide +kernel
theorem dX12_door_105 : decode cX12_door 105 = .ok (.sipush 200, 3) := by decide +kernel
theorem dX12_door_108 : decode cX12_door 108 = .ok (.if_icmp .eq 16, 3) := by decide +kernel
theorem dX12_door_111 : decode cX12_door 111 = .ok (.aload_n 0, 1) := by decide +kernel
theorem dX12_door_112 : decode cX12_door 112 = .ok (.getfield 10, 3) := by decide +kernel
theorem dX12_door_115 : decode cX12_door 115 = .ok (.bipush 6, 2) := by decide +kernel
theorem dX12_door_117 : decode cX12_door 117 = .ok (.iaload, 1) := by decide +kernel
theorem dX12_door_118 : decode cX12_door 118 = .ok (.sipush 3000, 3) := by decide +kernel
theorem dX12_door_121 : decode cX12_door 121 = .ok (.if_icmp .ne 6, 3) := by decide +kernel
theorem dX12_door_75 : decode cX12_door 75 = .ok (.aload_n 0, 1) := by decide +kernel
theorem dX12_door_76 : decode cX12_door 76 = .ok (.iload_n 1, 1) := by decide +kernel
theorem dX12_door_77 : decode cX12_door 77 = .ok (.iload_n 2, 1) := by decide +kernel
theorem dX12_door_78 : decode cX12_door 78 = .ok (.iload_n 3, 1) := by decide +kernel
theorem dX12_door_79 : decode cX12_door 79 = .ok (.invokevirtual 233, 3) := by decide +kernel
theorem dX12_door_82 : decode cX12_door 82 = .ok (.ifCond .eq 6, 3) := by decide +kernel
theorem dX12_door_85 : decode cX12_door 85 = .ok (.bipush (-5), 2) := by decide +kernel
theorem dX12_door_87 : decode cX12_door 87 = .ok (.ireturn, 1) := by decide +kernel
theorem dX12_door_55 : decode cX12_door 55 = .ok (.aload_n 0, 1) := by decide +kernel
theorem dX12_door_56 : decode cX12_door 56 = .ok (.iload_n 1, 1) := by decide +kernel
theorem dX12_door_57 : decode cX12_door 57 = .ok (.iload_n 2, 1) := by decide +kernel
theorem dX12_door_58 : decode cX12_door 58 = .ok (.iload_n 3, 1) := by decide +kernel
theorem dX12_door_59 : decode cX12_door 59 = .ok (.iload 4, 2) := by decide +kernel
theorem dX12_door_61 : decode cX12_door 61 = .ok (.invokevirtual 229, 3) := by decide +kernel
theorem dX12_door_64 : decode cX12_door 64 = .ok (.istore 6, 2) := by decide +kernel
theorem dX12_door_66 : decode cX12_door 66 = .ok (.iload 6, 2) := by decide +kernel
theorem dX12_door_68 : decode cX12_door 68 = .ok (.iconst (-1), 1) := by decide +kernel
theorem dX12_door_69 : decode cX12_door 69 = .ok (.if_icmp .ne 6, 3) := by decide +kernel
theorem dX12_door_72 : decode cX12_door 72 = .ok (.bipush (-4), 2) := by decide +kernel
theorem dX12_door_74 : decode cX12_door 74 = .ok (.ireturn, 1) := by decide +kernel
theorem dX12_door_42 : decode cX12_door 42 = .ok (.aload_n 0, 1) := by decide +kernel
theorem dX12_door_43 : decode cX12_door 43 = .ok (.iload_n 1, 1) := by decide +kernel
theorem dX12_door_44 : decode cX12_door 44 = .ok (.iload 5, 2) := by decide +kernel
theorem dX12_door_46 : decode cX12_door 46 = .ok (.invokevirtual 164, 3) := by decide +kernel
theorem dX12_door_49 : decode cX12_door 49 = .ok (.ifCond .eq 6, 3) := by decide +kernel
theorem dX12_door_52 : decode cX12_door 52 = .ok (.bipush (-3), 2) := by decide +kernel
theorem dX12_door_54 : decode cX12_door 54 = .ok (.ireturn, 1) := by decide +kernel
theorem dX12_door_39 : decode cX12_door 39 = .ok (.bipush (-2), 2) := by decide +kernel
theorem dX12_door_41 : decode cX12_door 41 = .ok (.ireturn, 1) := by decide +kernel
theorem dX12_door_31 : decode cX12_door 31 = .ok (.iload 5, 2) := by decide +kernel
theorem dX12_door_33 : decode cX12_door 33 = .ok (.invokestatic 95, 3) := by decide +kernel
theorem dX12_door_36 : decode cX12_door 36 = .ok (.ifCond .ne 6, 3) := by decide +kernel
theorem dX12_door_10 : decode cX12_door 10 = .ok (.iload_n 2, 1) := by decide +kernel
theorem dX12_door_11 : decode cX12_door 11 = .ok (.iload_n 3, 1) := by decide +kernel
theorem dX12_door_12 : decode cX12_door 12 = .ok (.invokestatic 223, 3) := by decide +kernel
theorem dX12_door_15 : decode cX12_door 15 = .ok (.ifCond .eq 24, 3) := by decide +kernel
theorem dX12_door_18 : decode cX12_door 18 = .ok (.iload 4, 2) := by decide +kernel
theorem dX12_door_20 : decode cX12_door 20 = .ok (.ifCond .eq 11, 3) := by decide +kernel
theorem dX12_door_23 : decode cX12_door 23 = .ok (.iload 4, 2) := by decide +kernel
theorem dX12_door_25 : decode cX12_door 25 = .ok (.invokestatic 226, 3) := by decide +kernel
theorem dX12_door_28 : decode cX12_door 28 = .ok (.ifCond .eq 11, 3) := by decide +kernel
theorem dX12_door_0 : decode cX12_door 0 = .ok (.aload_n 0, 1) := by decide +kernel
theorem dX12_door_1 : decode cX12_door 1 = .ok (.iload_n 1, 1) := by decide +kernel
theorem dX12_door_2 : decode cX12_door 2 = .ok (.invokevirtual 161, 3) := by decide +kernel
theorem dX12_door_5 : decode cX12_door 5 = .ok (.ifCond .ne 5, 3) := by decide +kernel
theorem dX12_door_8 : decode cX12_door 8 = .ok (.iconst (-1), 1) := by decide +kernel
theorem dX12_door_9 : decode cX12_door 9 = .ok (.ireturn, 1) := by decide +kernel
theorem dX12_free_57 : decode cX12_free 57 = .ok (.ireturn, 1) := by decide +kernel
theorem dX12_free_55 : decode cX12_free 55 = .ok (.iload 4, 2) := by decide +kernel
theorem dX12_free_40 : decode cX12_free 40 = .ok (.aload_n 0, 1) := by decide +kernel
theorem dX12_free_41 : decode cX12_free 41 = .ok (.iload_n 1, 1) := by decide +kernel
theorem dX12_free_42 : decode cX12_free 42 = .ok (.iload_n 2, 1) := by decide +kernel
theorem dX12_free_43 : decode cX12_free 43 = .ok (.iload_n 3, 1) := by decide +kernel
theorem dX12_free_44 : decode cX12_free 44 = .ok (.invokevirtual 233, 3) := by decide +kernel
theorem dX12_free_47 : decode cX12_free 47 = .ok (.ifCond .eq 8, 3) := by decide +kernel
theorem dX12_free_50 : decode cX12_free 50 = .ok (.bipush (-5), 2) := by decide +kernel
theorem dX12_free_52 : decode cX12_free 52 = .ok (.goto 5, 3) := by decide +kernel
theorem dX12_free_21 : decode cX12_free 21 = .ok (.aload_n 0, 1) := by decide +kernel
theorem dX12_free_22 : decode cX12_free 22 = .ok (.iload_n 1, 1) := by decide +kernel
theorem dX12_free_23 : decode cX12_free 23 = .ok (.iload_n 2, 1) := by decide +kernel
theorem dX12_free_24 : decode cX12_free 24 = .ok (.iload_n 3, 1) := by decide +kernel
theorem dX12_free_25 : decode cX12_free 25 = .ok (.iconst 0, 1) := by decide +kernel
theorem dX12_free_26 : decode cX12_free 26 = .ok (.invokevirtual 229, 3) := by decide +kernel
theorem dX12_free_29 : decode cX12_free 29 = .ok (.istore 4, 2) := by decide +kernel
theorem dX12_free_31 : decode cX12_free 31 = .ok (.iload 4, 2) := by decide +kernel
theorem dX12_free_33 : decode cX12_free 33 = .ok (.iconst (-1), 1) := by decide +kernel
theorem dX12_free_34 : decode cX12_free 34 = .ok (.if_icmp .ne 6, 3) := by decide +kernel
theorem dX12_free_37 : decode cX12_free 37 = .ok (.bipush (-4), 2) := by decide +kernel
theorem dX12_free_39 : decode cX12_free 39 = .ok (.ireturn, 1) := by decide +kernel
theorem dX12_free_10 : decode cX12_free 10 = .ok (.iload_n 2, 1) := by decide +kernel
theorem dX12_free_11 : decode cX12_free 11 = .ok (.iload_n 3, 1) := by decide +kernel
theorem dX12_free_12 : decode cX12_free 12 = .ok (.invokestatic 223, 3) := by decide +kernel
theorem dX12_free_15 : decode cX12_free 15 = .ok (.ifCond .ne 6, 3) := by decide +kernel
theorem dX12_free_18 : decode cX12_free 18 = .ok (.bipush (-2), 2) := by decide +kernel
theorem dX12_free_20 : decode cX12_free 20 = .ok (.ireturn, 1) := by decide +kernel
theorem dX12_free_0 : decode cX12_free 0 = .ok (.aload_n 0, 1) := by decide +kernel
theorem dX12_free_1 : decode cX12_free 1 = .ok (.iload_n 1, 1) := by decide +kernel
theorem dX12_free_2 : decode cX12_free 2 = .ok (.invokevirtual 161, 3) := by decide +kernel
theorem dX12_free_5 : decode cX12_free 5 = .ok (.ifCond .ne 5, 3) := by decide +kernel
theorem dX12_free_8 : decode cX12_free 8 = .ok (.iconst (-1), 1) := by decide +kernel
theorem dX12_free_9 : decode cX12_free 9 = .ok (.ireturn, 1) := by decide +kernel
theorem dX12_corner_161 : decode cX12_corner 161 = .ok (.aload_n 0, 1) := by decide +kernel
theorem dX12_corner_162 : decode cX12_corner 162 = .ok (.iload 6, 2) := by decide +kernel
theorem dX12_corner_164 : decode cX12_corner 164 = .ok (.aload_n 0, 1) := by decide +kernel
theorem dX12_corner_165 : decode cX12_corner 165 = .ok (.iload_n 1, 1) := by decide +kernel
theorem dX12_corner_166 : decode cX12_corner 166 = .ok (.iconst 1, 1) := by decide +kernel
theorem dX12_corner_167 : decode cX12_corner 167 = .ok (.invokevirtual 174, 3) := by decide +kernel
theorem dX12_corner_170 : decode cX12_corner 170 = .ok (.iload_n 2, 1) := by decide +kernel
theorem dX12_corner_171 : decode cX12_corner 171 = .ok (.iconst (-1), 1) := by decide +kernel
theorem dX12_corner_172 : decode cX12_corner 172 = .ok (.iconst (-1), 1) := by decide +kernel
theorem dX12_corner_173 : decode cX12_corner 173 = .ok (.invokevirtual 154, 3) := by decide +kernel
theorem dX12_corner_176 : decode cX12_corner 176 = .ok (.istore 8, 2) := by decide +kernel
theorem dX12_corner_178 : decode cX12_corner 178 = .ok (.sipush 9552, 3) := by decide +kernel
theorem dX12_corner_181 : decode cX12_corner 181 = .ok (.bipush 12, 2) := by decide +kernel
theorem dX12_corner_183 : decode cX12_corner 183 = .ok (.iload_n 1, 1) := by decide +kernel
theorem dX12_corner_184 : decode cX12_corner 184 = .ok (.imul, 1) := by decide +kernel
theorem dX12_corner_185 : decode cX12_corner 185 = .ok (.iadd, 1) := by decide +kernel
theorem dX12_corner_186 : decode cX12_corner 186 = .ok (.istore 9, 2) := by decide +kernel
theorem dX12_corner_188 : decode cX12_corner 188 = .ok (.aload_n 0, 1) := by decide +kernel
theorem dX12_corner_189 : decode cX12_corner 189 = .ok (.getfield 10, 3) := by decide +kernel
theorem dX12_corner_192 : decode cX12_corner 192 = .ok (.iload 9, 2) := by decide +kernel
theorem dX12_corner_194 : decode cX12_corner 194 = .ok (.iconst 1, 1) := by decide +kernel
theorem dX12_corner_195 : decode cX12_corner 195 = .ok (.iastore, 1) := by decide +kernel
theorem dX12_corner_196 : decode cX12_corner 196 = .ok (.aload_n 0, 1) := by decide +kernel
theorem dX12_corner_197 : decode cX12_corner 197 = .ok (.getfield 10, 3) := by decide +kernel
theorem dX12_corner_200 : decode cX12_corner 200 = .ok (.iload 9, 2) := by decide +kernel
theorem dX12_corner_202 : decode cX12_corner 202 = .ok (.iconst 4, 1) := by decide +kernel
theorem dX12_corner_203 : decode cX12_corner 203 = .ok (.iadd, 1) := by decide +kernel
theorem dX12_corner_204 : decode cX12_corner 204 = .ok (.iload_n 2, 1) := by decide +kernel
theorem dX12_corner_205 : decode cX12_corner 205 = .ok (.iastore, 1) := by decide +kernel
theorem dX12_corner_206 : decode cX12_corner 206 = .ok (.aload_n 0, 1) := by decide +kernel
theorem dX12_corner_207 : decode cX12_corner 207 = .ok (.getfield 10, 3) := by decide +kernel
theorem dX12_corner_210 : decode cX12_corner 210 = .ok (.iload 9, 2) := by decide +kernel
theorem dX12_corner_212 : decode cX12_corner 212 = .ok (.iconst 5, 1) := by decide +kernel
theorem dX12_corner_213 : decode cX12_corner 213 = .ok (.iadd, 1) := by decide +kernel
theorem dX12_corner_214 : decode cX12_corner 214 = .ok (.iload_n 3, 1) := by decide +kernel
theorem dX12_corner_215 : decode cX12_corner 215 = .ok (.iastore, 1) := by decide +kernel
theorem dX12_corner_216 : decode cX12_corner 216 = .ok (.aload_n 0, 1) := by decide +kernel
theorem dX12_corner_217 : decode cX12_corner 217 = .ok (.getfield 10, 3) := by decide +kernel
theorem dX12_corner_220 : decode cX12_corner 220 = .ok (.iload 9, 2) := by decide +kernel
theorem dX12_corner_222 : decode cX12_corner 222 = .ok (.bipush 6, 2) := by decide +kernel
theorem dX12_corner_224 : decode cX12_corner 224 = .ok (.iadd, 1) := by decide +kernel
theorem dX12_corner_225 : decode cX12_corner 225 = .ok (.iload 4, 2) := by decide +kernel
theorem dX12_corner_227 : decode cX12_corner 227 = .ok (.iastore, 1) := by decide +kernel
theorem dX12_corner_228 : decode cX12_corner 228 = .ok (.aload_n 0, 1) := by decide +kernel
theorem dX12_corner_229 : decode cX12_corner 229 = .ok (.getfield 10, 3) := by decide +kernel
theorem dX12_corner_232 : decode cX12_corner 232 = .ok (.iload 9, 2) := by decide +kernel
theorem dX12_corner_234 : decode cX12_corner 234 = .ok (.bipush 11, 2) := by decide +kernel
theorem dX12_corner_236 : decode cX12_corner 236 = .ok (.iadd, 1) := by decide +kernel
theorem dX12_corner_237 : decode cX12_corner 237 = .ok (.iload 8, 2) := by decide +kernel
theorem dX12_corner_239 : decode cX12_corner 239 = .ok (.iastore, 1) := by decide +kernel
theorem dX12_corner_240 : decode cX12_corner 240 = .ok (.aload_n 0, 1) := by decide +kernel
theorem dX12_corner_241 : decode cX12_corner 241 = .ok (.iload_n 1, 1) := by decide +kernel
theorem dX12_corner_242 : decode cX12_corner 242 = .ok (.iconst 1, 1) := by decide +kernel
theorem dX12_corner_243 : decode cX12_corner 243 = .ok (.iload_n 2, 1) := by decide +kernel
theorem dX12_corner_244 : decode cX12_corner 244 = .ok (.iload 7, 2) := by decide +kernel
theorem dX12_corner_246 : decode cX12_corner 246 = .ok (.iload 8, 2) := by decide +kernel
theorem dX12_corner_248 : decode cX12_corner 248 = .ok (.invokevirtual 240, 3) := by decide +kernel
theorem dX12_corner_251 : decode cX12_corner 251 = .ok (.iload 7, 2) := by decide +kernel
theorem dX12_corner_253 : decode cX12_corner 253 = .ok (.ireturn, 1) := by decide +kernel
theorem dX12_corner_158 : decode cX12_corner 158 = .ok (.bipush (-6), 2) := by decide +kernel
theorem dX12_corner_160 : decode cX12_corner 160 = .ok (.ireturn, 1) := by decide +kernel
theorem dX12_corner_133 : decode cX12_corner 133 = .ok (.aload_n 0, 1) := by decide +kernel
theorem dX12_corner_134 : decode cX12_corner 134 = .ok (.getfield 10, 3) := by decide +kernel
theorem dX12_corner_137 : decode cX12_corner 137 = .ok (.iconst 5, 1) := by decide +kernel
theorem dX12_corner_138 : decode cX12_corner 138 = .ok (.iaload, 1) := by decide +kernel
theorem dX12_corner_139 : decode cX12_corner 139 = .ok (.sipush 200, 3) := by decide +kernel
theorem dX12_corner_142 : decode cX12_corner 142 = .ok (.if_icmp .eq 16, 3) := by decide +kernel
theorem dX12_corner_145 : decode cX12_corner 145 = .ok (.aload_n 0, 1) := by decide +kernel
theorem dX12_corner_146 : decode cX12_corner 146 = .ok (.getfield 10, 3) := by decide +kernel
theorem dX12_corner_149 : decode cX12_corner 149 = .ok (.bipush 6, 2) := by decide +kernel
theorem dX12_corner_151 : decode cX12_corner 151 = .ok (.iaload, 1) := by decide +kernel
theorem dX12_corner_152 : decode cX12_corner 152 = .ok (.sipush 3000, 3) := by decide +kernel
theorem dX12_corner_155 : decode cX12_corner 155 = .ok (.if_icmp .ne 6, 3) := by decide +kernel
theorem dX12_corner_119 : decode cX12_corner 119 = .ok (.aload_n 0, 1) := by decide +kernel
theorem dX12_corner_120 : decode cX12_corner 120 = .ok (.iload_n 2, 1) := by decide +kernel
theorem dX12_corner_121 : decode cX12_corner 121 = .ok (.iload_n 3, 1) := by decide +kernel
theorem dX12_corner_122 : decode cX12_corner 122 = .ok (.iload 4, 2) := by decide +kernel
theorem dX12_corner_124 : decode cX12_corner 124 = .ok (.invokevirtual 233, 3) := by decide +kernel
theorem dX12_corner_127 : decode cX12_corner 127 = .ok (.ifCond .eq 6, 3) := by decide +kernel
theorem dX12_corner_130 : decode cX12_corner 130 = .ok (.bipush (-5), 2) := by decide +kernel
theorem dX12_corner_132 : decode cX12_corner 132 = .ok (.ireturn, 1) := by decide +kernel
theorem dX12_corner_98 : decode cX12_corner 98 = .ok (.aload_n 0, 1) := by decide +kernel
theorem dX12_corner_99 : decode cX12_corner 99 = .ok (.iload_n 2, 1) := by decide +kernel
theorem dX12_corner_100 : decode cX12_corner 100 = .ok (.iload_n 3, 1) := by decide +kernel
theorem dX12_corner_101 : decode cX12_corner 101 = .ok (.iload 4, 2) := by decide +kernel
theorem dX12_corner_103 : decode cX12_corner 103 = .ok (.iload 5, 2) := by decide +kernel
theorem dX12_corner_105 : decode cX12_corner 105 = .ok (.invokevirtual 229, 3) := by decide +kernel
theorem dX12_corner_108 : decode cX12_corner 108 = .ok (.istore 7, 2) := by decide +kernel
theorem dX12_corner_110 : decode cX12_corner 110 = .ok (.iload 7, 2) := by decide +kernel
theorem dX12_corner_112 : decode cX12_corner 112 = .ok (.iconst (-1), 1) := by decide +kernel
theorem dX12_corner_113 : decode cX12_corner 113 = .ok (.if_icmp .ne 6, 3) := by decide +kernel
theorem dX12_corner_116 : decode cX12_corner 116 = .ok (.bipush (-4), 2) := by decide +kernel
theorem dX12_corner_118 : decode cX12_corner 118 = .ok (.ireturn, 1) := by decide +kernel
theorem dX12_corner_95 : decode cX12_corner 95 = .ok (.bipush (-3), 2) := by decide +kernel
theorem dX12_corner_97 : decode cX12_corner 97 = .ok (.ireturn, 1) := by decide +kernel
theorem dX12_corner_70 : decode cX12_corner 70 = .ok (.aload_n 0, 1) := by decide +kernel
theorem dX12_corner_71 : decode cX12_corner 71 = .ok (.iload_n 2, 1) := by decide +kernel
theorem dX12_corner_72 : decode cX12_corner 72 = .ok (.iload 6, 2) := by decide +kernel
theorem dX12_corner_74 : decode cX12_corner 74 = .ok (.invokevirtual 164, 3) := by decide +kernel
theorem dX12_corner_77 : decode cX12_corner 77 = .ok (.ifCond .ne 18, 3) := by decide +kernel
theorem dX12_corner_80 : decode cX12_corner 80 = .ok (.aload_n 0, 1) := by decide +kernel
theorem dX12_corner_81 : decode cX12_corner 81 = .ok (.aload_n 0, 1) := by decide +kernel
theorem dX12_corner_82 : decode cX12_corner 82 = .ok (.iload_n 1, 1) := by decide +kernel
theorem dX12_corner_83 : decode cX12_corner 83 = .ok (.iconst 1, 1) := by decide +kernel
theorem dX12_corner_84 : decode cX12_corner 84 = .ok (.invokevirtual 174, 3) := by decide +kernel
theorem dX12_corner_87 : decode cX12_corner 87 = .ok (.iload 6, 2) := by decide +kernel
theorem dX12_corner_89 : decode cX12_corner 89 = .ok (.invokevirtual 164, 3) := by decide +kernel
theorem dX12_corner_92 : decode cX12_corner 92 = .ok (.ifCond .eq 6, 3) := by decide +kernel
theorem dX12_corner_67 : decode cX12_corner 67 = .ok (.bipush (-2), 2) := by decide +kernel
theorem dX12_corner_69 : decode cX12_corner 69 = .ok (.ireturn, 1) := by decide +kernel
theorem dX12_corner_59 : decode cX12_corner 59 = .ok (.iload 6, 2) := by decide +kernel
theorem dX12_corner_61 : decode cX12_corner 61 = .ok (.invokestatic 95, 3) := by decide +kernel
theorem dX12_corner_64 : decode cX12_corner 64 = .ok (.ifCond .ne 6, 3) := by decide +kernel
theorem dX12_corner_27 : decode cX12_corner 27 = .ok (.aload_n 0, 1) := by decide +kernel
theorem dX12_corner_28 : decode cX12_corner 28 = .ok (.iload_n 1, 1) := by decide +kernel
theorem dX12_corner_29 : decode cX12_corner 29 = .ok (.iconst 1, 1) := by decide +kernel
theorem dX12_corner_30 : decode cX12_corner 30 = .ok (.invokevirtual 174, 3) := by decide +kernel
theorem dX12_corner_33 : decode cX12_corner 33 = .ok (.iload_n 2, 1) := by decide +kernel
theorem dX12_corner_34 : decode cX12_corner 34 = .ok (.if_icmp .eq 33, 3) := by decide +kernel
theorem dX12_corner_37 : decode cX12_corner 37 = .ok (.iload_n 3, 1) := by decide +kernel
theorem dX12_corner_38 : decode cX12_corner 38 = .ok (.iload 4, 2) := by decide +kernel
theorem dX12_corner_40 : decode cX12_corner 40 = .ok (.invokestatic 223, 3) := by decide +kernel
theorem dX12_corner_43 : decode cX12_corner 43 = .ok (.ifCond .eq 24, 3) := by decide +kernel
theorem dX12_corner_46 : decode cX12_corner 46 = .ok (.iload 5, 2) := by decide +kernel
theorem dX12_corner_48 : decode cX12_corner 48 = .ok (.ifCond .eq 11, 3) := by decide +kernel
theorem dX12_corner_51 : decode cX12_corner 51 = .ok (.iload 5, 2) := by decide +kernel
theorem dX12_corner_53 : decode cX12_corner 53 = .ok (.invokestatic 226, 3) := by decide +kernel
theorem dX12_corner_56 : decode cX12_corner 56 = .ok (.ifCond .eq 11, 3) := by decide +kernel
theorem dX12_corner_25 : decode cX12_corner 25 = .ok (.iconst (-1), 1) := by decide +kernel
theorem dX12_corner_26 : decode cX12_corner 26 = .ok (.ireturn, 1) := by decide +kernel
theorem dX12_corner_0 : decode cX12_corner 0 = .ok (.aload_n 0, 1) := by decide +kernel
theorem dX12_corner_1 : decode cX12_corner 1 = .ok (.iload_n 2, 1) := by decide +kernel
theorem dX12_corner_2 : decode cX12_corner 2 = .ok (.invokevirtual 161, 3) := by decide +kernel
theorem dX12_corner_5 : decode cX12_corner 5 = .ok (.ifCond .eq 20, 3) := by decide +kernel
theorem dX12_corner_8 : decode cX12_corner 8 = .ok (.aload_n 0, 1) := by decide +kernel
theorem dX12_corner_9 : decode cX12_corner 9 = .ok (.iload_n 1, 1) := by decide +kernel
theorem dX12_corner_10 : decode cX12_corner 10 = .ok (.invokevirtual 187, 3) := by decide +kernel
theorem dX12_corner_13 : decode cX12_corner 13 = .ok (.ifCond .eq 12, 3) := by decide +kernel
theorem dX12_corner_16 : decode cX12_corner 16 = .ok (.aload_n 0, 1) := by decide +kernel
theorem dX12_corner_17 : decode cX12_corner 17 = .ok (.iload_n 1, 1) := by decide +kernel
theorem dX12_corner_18 : decode cX12_corner 18 = .ok (.iconst 0, 1) := by decide +kernel
theorem dX12_corner_19 : decode cX12_corner 19 = .ok (.invokevirtual 174, 3) := by decide +kernel
theorem dX12_corner_22 : decode cX12_corner 22 = .ok (.ifCond .eq 5, 3) := by decide +kernel
theorem dX12_underneath_67 : decode cX12_underneath 67 = .ok (.iconst (-1), 1) := by decide +kernel
theorem dX12_underneath_68 : decode cX12_underneath 68 = .ok (.ireturn, 1) := by decide +kernel
theorem dX12_underneath_61 : decode cX12_underneath 61 = .ok (.iinc 4 1, 3) := by decide +kernel
theorem dX12_underneath_64 : decode cX12_underneath 64 = .ok (.goto (-61), 3) := by decide +kernel
theorem dX12_underneath_3 : decode cX12_underneath 3 = .ok (.iload 4, 2) := by decide +kernel
theorem dX12_underneath_5 : decode cX12_underneath 5 = .ok (.aload_n 0, 1) := by decide +kernel
theorem dX12_underneath_6 : decode cX12_underneath 6 = .ok (.getfield 10, 3) := by decide +kernel
theorem dX12_underneath_9 : decode cX12_underneath 9 = .ok (.iconst 4, 1) := by decide +kernel
theorem dX12_underneath_10 : decode cX12_underneath 10 = .ok (.iaload, 1) := by decide +kernel
theorem dX12_underneath_11 : decode cX12_underneath 11 = .ok (.if_icmp .ge 56, 3) := by decide +kernel
theorem dX12_underneath_14 : decode cX12_underneath 14 = .ok (.aload_n 0, 1) := by decide +kernel
theorem dX12_underneath_15 : decode cX12_underneath 15 = .ok (.iload 4, 2) := by decide +kernel
theorem dX12_underneath_17 : decode cX12_underneath 17 = .ok (.invokevirtual 187, 3) := by decide +kernel
theorem dX12_underneath_20 : decode cX12_underneath 20 = .ok (.ifCond .eq 41, 3) := by decide +kernel
theorem dX12_underneath_23 : decode cX12_underneath 23 = .ok (.aload_n 0, 1) := by decide +kernel
theorem dX12_underneath_24 : decode cX12_underneath 24 = .ok (.iload 4, 2) := by decide +kernel
theorem dX12_underneath_26 : decode cX12_underneath 26 = .ok (.bipush 8, 2) := by decide +kernel
theorem dX12_underneath_28 : decode cX12_underneath 28 = .ok (.invokevirtual 174, 3) := by decide +kernel
theorem dX12_underneath_31 : decode cX12_underneath 31 = .ok (.iload_n 1, 1) := by decide +kernel
theorem dX12_underneath_32 : decode cX12_underneath 32 = .ok (.if_icmp .ne 29, 3) := by decide +kernel
theorem dX12_underneath_35 : decode cX12_underneath 35 = .ok (.aload_n 0, 1) := by decide +kernel
theorem dX12_underneath_36 : decode cX12_underneath 36 = .ok (.iload 4, 2) := by decide +kernel
theorem dX12_underneath_38 : decode cX12_underneath 38 = .ok (.iconst 0, 1) := by decide +kernel
theorem dX12_underneath_39 : decode cX12_underneath 39 = .ok (.invokevirtual 174, 3) := by decide +kernel
theorem dX12_underneath_42 : decode cX12_underneath 42 = .ok (.iload_n 2, 1) := by decide +kernel
theorem dX12_underneath_43 : decode cX12_underneath 43 = .ok (.if_icmp .ne 18, 3) := by decide +kernel
theorem dX12_underneath_46 : decode cX12_underneath 46 = .ok (.aload_n 0, 1) := by decide +kernel
theorem dX12_underneath_47 : decode cX12_underneath 47 = .ok (.iload 4, 2) := by decide +kernel
theorem dX12_underneath_49 : decode cX12_underneath 49 = .ok (.bipush 7, 2) := by decide +kernel
theorem dX12_underneath_51 : decode cX12_underneath 51 = .ok (.invokevirtual 174, 3) := by decide +kernel
theorem dX12_underneath_54 : decode cX12_underneath 54 = .ok (.iload_n 3, 1) := by decide +kernel
theorem dX12_underneath_55 : decode cX12_underneath 55 = .ok (.if_icmp .ne 6, 3) := by decide +kernel
theorem dX12_underneath_58 : decode cX12_underneath 58 = .ok (.iload 4, 2) := by decide +kernel
theorem dX12_underneath_60 : decode cX12_underneath 60 = .ok (.ireturn, 1) := by decide +kernel
theorem dX12_underneath_0 : decode cX12_underneath 0 = .ok (.iconst 0, 1) := by decide +kernel
theorem dX12_underneath_1 : decode cX12_underneath 1 = .ok (.istore 4, 2) := by decide +kernel
theorem dX12_isEarlyAt_42 : decode cX12_isEarlyAt 42 = .ok (.ireturn, 1) := by decide +kernel
theorem dX12_isEarlyAt_41 : decode cX12_isEarlyAt 41 = .ok (.iconst 0, 1) := by decide +kernel
theorem dX12_isEarlyAt_37 : decode cX12_isEarlyAt 37 = .ok (.iconst 1, 1) := by decide +kernel
theorem dX12_isEarlyAt_38 : decode cX12_isEarlyAt 38 = .ok (.goto 4, 3) := by decide +kernel
theorem dX12_isEarlyAt_0 : decode cX12_isEarlyAt 0 = .ok (.aload_n 0, 1) := by decide +kernel
theorem dX12_isEarlyAt_1 : decode cX12_isEarlyAt 1 = .ok (.aload_n 0, 1) := by decide +kernel
theorem dX12_isEarlyAt_2 : decode cX12_isEarlyAt 2 = .ok (.iload_n 1, 1) := by decide +kernel
theorem dX12_isEarlyAt_3 : decode cX12_isEarlyAt 3 = .ok (.iconst 1, 1) := by decide +kernel
theorem dX12_isEarlyAt_4 : decode cX12_isEarlyAt 4 = .ok (.invokevirtual 174, 3) := by decide +kernel
theorem dX12_isEarlyAt_7 : decode cX12_isEarlyAt 7 = .ok (.iload_n 2, 1) := by decide +kernel
theorem dX12_isEarlyAt_8 : decode cX12_isEarlyAt 8 = .ok (.invokevirtual 164, 3) := by decide +kernel
theorem dX12_isEarlyAt_11 : decode cX12_isEarlyAt 11 = .ok (.ifCond .ne 26, 3) := by decide +kernel
theorem dX12_isEarlyAt_14 : decode cX12_isEarlyAt 14 = .ok (.aload_n 0, 1) := by decide +kernel
theorem dX12_isEarlyAt_15 : decode cX12_isEarlyAt 15 = .ok (.iload_n 1, 1) := by decide +kernel
theorem dX12_isEarlyAt_16 : decode cX12_isEarlyAt 16 = .ok (.iconst 1, 1) := by decide +kernel
theorem dX12_isEarlyAt_17 : decode cX12_isEarlyAt 17 = .ok (.invokevirtual 190, 3) := by decide +kernel
theorem dX12_isEarlyAt_20 : decode cX12_isEarlyAt 20 = .ok (.ifCond .eq 21, 3) := by decide +kernel
theorem dX12_isEarlyAt_23 : decode cX12_isEarlyAt 23 = .ok (.aload_n 0, 1) := by decide +kernel
theorem dX12_isEarlyAt_24 : decode cX12_isEarlyAt 24 = .ok (.aload_n 0, 1) := by decide +kernel
theorem dX12_isEarlyAt_25 : decode cX12_isEarlyAt 25 = .ok (.iload_n 1, 1) := by decide +kernel
theorem dX12_isEarlyAt_26 : decode cX12_isEarlyAt 26 = .ok (.iconst 4, 1) := by decide +kernel
theorem dX12_isEarlyAt_27 : decode cX12_isEarlyAt 27 = .ok (.invokevirtual 174, 3) := by decide +kernel
theorem dX12_isEarlyAt_30 : decode cX12_isEarlyAt 30 = .ok (.iload_n 2, 1) := by decide +kernel
theorem dX12_isEarlyAt_31 : decode cX12_isEarlyAt 31 = .ok (.invokevirtual 164, 3) := by decide +kernel
theorem dX12_isEarlyAt_34 : decode cX12_isEarlyAt 34 = .ok (.ifCond .eq 7, 3) := by decide +kernel
theorem dX12_paperOn_27 : decode cX12_paperOn 27 = .ok (.iconst (-1), 1) := by decide +kernel
theorem dX12_paperOn_28 : decode cX12_paperOn 28 = .ok (.iconst (-1), 1) := by decide +kernel
theorem dX12_paperOn_29 : decode cX12_paperOn 29 = .ok (.invokevirtual 154, 3) := by decide +kernel
theorem dX12_paperOn_32 : decode cX12_paperOn 32 = .ok (.ireturn, 1) := by decide +kernel
theorem dX12_paperOn_26 : decode cX12_paperOn 26 = .ok (.iconst (-1), 1) := by decide +kernel
theorem dX12_paperOn_0 : decode cX12_paperOn 0 = .ok (.aload_n 0, 1) := by decide +kernel
theorem dX12_paperOn_1 : decode cX12_paperOn 1 = .ok (.iload_n 2, 1) := by decide +kernel
theorem dX12_paperOn_2 : decode cX12_paperOn 2 = .ok (.aload_n 0, 1) := by decide +kernel
theorem dX12_paperOn_3 : decode cX12_paperOn 3 = .ok (.iload_n 1, 1) := by decide +kernel
theorem dX12_paperOn_4 : decode cX12_paperOn 4 = .ok (.iconst 1, 1) := by decide +kernel
theorem dX12_paperOn_5 : decode cX12_paperOn 5 = .ok (.invokevirtual 174, 3) := by decide +kernel
theorem dX12_paperOn_8 : decode cX12_paperOn 8 = .ok (.aload_n 0, 1) := by decide +kernel
theorem dX12_paperOn_9 : decode cX12_paperOn 9 = .ok (.iload_n 1, 1) := by decide +kernel
theorem dX12_paperOn_10 : decode cX12_paperOn 10 = .ok (.iconst 1, 1) := by decide +kernel
theorem dX12_paperOn_11 : decode cX12_paperOn 11 = .ok (.invokevirtual 190, 3) := by decide +kernel
theorem dX12_paperOn_14 : decode cX12_paperOn 14 = .ok (.ifCond .eq 12, 3) := by decide +kernel
theorem dX12_paperOn_17 : decode cX12_paperOn 17 = .ok (.aload_n 0, 1) := by decide +kernel
theorem dX12_paperOn_18 : decode cX12_paperOn 18 = .ok (.iload_n 1, 1) := by decide +kernel
theorem dX12_paperOn_19 : decode cX12_paperOn 19 = .ok (.iconst 4, 1) := by decide +kernel
theorem dX12_paperOn_20 : decode cX12_paperOn 20 = .ok (.invokevirtual 174, 3) := by decide +kernel
theorem dX12_paperOn_23 : decode cX12_paperOn 23 = .ok (.goto 4, 3) := by decide +kernel

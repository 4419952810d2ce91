theorem dX12_under_165 : decode cX12_under 165 = .ok (.aload_n 0, 1) := by decide +kernel
theorem dX12_under_166 : decode cX12_under 166 = .ok (.iload_n 1, 1) := by decide +kernel
theorem dX12_under_167 : decode cX12_under 167 = .ok (.iconst (-1), 1) := by decide +kernel
theorem dX12_under_168 : decode cX12_under 168 = .ok (.iconst (-1), 1) := by decide +kernel
theorem dX12_under_169 : decode cX12_under 169 = .ok (.iconst (-1), 1) := by decide +kernel
theorem dX12_under_170 : decode cX12_under 170 = .ok (.iload_n 3, 1) := by decide +kernel
theorem dX12_under_171 : decode cX12_under 171 = .ok (.iload_n 2, 1) := by decide +kernel
theorem dX12_under_172 : decode cX12_under 172 = .ok (.aload_n 0, 1) := by decide +kernel
theorem dX12_under_173 : decode cX12_under 173 = .ok (.iload 6, 2) := by decide +kernel
theorem dX12_under_175 : decode cX12_under 175 = .ok (.iload 4, 2) := by decide +kernel
theorem dX12_under_177 : decode cX12_under 177 = .ok (.invokevirtual 253, 3) := by decide +kernel
theorem dX12_under_180 : decode cX12_under 180 = .ok (.invokevirtual 236, 3) := by decide +kernel
theorem dX12_under_183 : decode cX12_under 183 = .ok (.ireturn, 1) := by decide +kernel
theorem dX12_under_162 : decode cX12_under 162 = .ok (.bipush (-6), 2) := by decide +kernel
theorem dX12_under_164 : decode cX12_under 164 = .ok (.ireturn, 1) := by decide +kernel
theorem dX12_under_139 : decode cX12_under 139 = .ok (.aload_n 0, 1) := by decide +kernel
theorem dX12_under_140 : decode cX12_under 140 = .ok (.getfield 10, 3) := by decide +kernel
theorem dX12_under_143 : decode cX12_under 143 = .ok (.iconst 4, 1) := by decide +kernel
theorem dX12_under_144 : decode cX12_under 144 = .ok (.iaload, 1) := by decide +kernel
theorem dX12_under_145 : decode cX12_under 145 = .ok (.bipush 100, 2) := by decide +kernel
theorem dX12_under_147 : decode cX12_under 147 = .ok (.if_icmp .eq 15, 3) := by decide +kernel
theorem dX12_under_150 : decode cX12_under 150 = .ok (.aload_n 0, 1) := by decide +kernel
theorem dX12_under_151 : decode cX12_under 151 = .ok (.getfield 10, 3) := by decide +kernel
theorem dX12_under_154 : decode cX12_under 154 = .ok (.iconst 5, 1) := by decide +kernel
theorem dX12_under_155 : decode cX12_under 155 = .ok (.iaload, 1) := by decide +kernel
theorem dX12_under_156 : decode cX12_under 156 = .ok (.sipush 200, 3) := by decide +kernel
theorem dX12_under_159 : decode cX12_under 159 = .ok (.if_icmp .ne 6, 3) := by decide +kernel
theorem dX12_under_125 : decode cX12_under 125 = .ok (.aload_n 0, 1) := by decide +kernel
theorem dX12_under_126 : decode cX12_under 126 = .ok (.iload_n 2, 1) := by decide +kernel
theorem dX12_under_127 : decode cX12_under 127 = .ok (.iload_n 1, 1) := by decide +kernel
theorem dX12_under_128 : decode cX12_under 128 = .ok (.iload_n 3, 1) := by decide +kernel
theorem dX12_under_129 : decode cX12_under 129 = .ok (.invokevirtual 250, 3) := by decide +kernel
theorem dX12_under_132 : decode cX12_under 132 = .ok (.iconst (-1), 1) := by decide +kernel
theorem dX12_under_133 : decode cX12_under 133 = .ok (.if_icmp .eq 6, 3) := by decide +kernel
theorem dX12_under_136 : decode cX12_under 136 = .ok (.bipush (-5), 2) := by decide +kernel
theorem dX12_under_138 : decode cX12_under 138 = .ok (.ireturn, 1) := by decide +kernel
theorem dX12_under_104 : decode cX12_under 104 = .ok (.aload_n 0, 1) := by decide +kernel
theorem dX12_under_105 : decode cX12_under 105 = .ok (.iload_n 2, 1) := by decide +kernel
theorem dX12_under_106 : decode cX12_under 106 = .ok (.invokevirtual 244, 3) := by decide +kernel
theorem dX12_under_109 : decode cX12_under 109 = .ok (.istore 6, 2) := by decide +kernel
theorem dX12_under_111 : decode cX12_under 111 = .ok (.aload_n 0, 1) := by decide +kernel
theorem dX12_under_112 : decode cX12_under 112 = .ok (.iload 6, 2) := by decide +kernel
theorem dX12_under_114 : decode cX12_under 114 = .ok (.iload 4, 2) := by decide +kernel
theorem dX12_under_116 : decode cX12_under 116 = .ok (.invokevirtual 247, 3) := by decide +kernel
theorem dX12_under_119 : decode cX12_under 119 = .ok (.ifCond .eq 6, 3) := by decide +kernel
theorem dX12_under_122 : decode cX12_under 122 = .ok (.bipush (-3), 2) := by decide +kernel
theorem dX12_under_124 : decode cX12_under 124 = .ok (.ireturn, 1) := by decide +kernel
theorem dX12_under_101 : decode cX12_under 101 = .ok (.bipush (-2), 2) := by decide +kernel
theorem dX12_under_103 : decode cX12_under 103 = .ok (.ireturn, 1) := by decide +kernel
theorem dX12_under_86 : decode cX12_under 86 = .ok (.istore 5, 2) := by decide +kernel
theorem dX12_under_88 : decode cX12_under 88 = .ok (.iload 5, 2) := by decide +kernel
theorem dX12_under_90 : decode cX12_under 90 = .ok (.ifCond .eq 11, 3) := by decide +kernel
theorem dX12_under_93 : decode cX12_under 93 = .ok (.iload 4, 2) := by decide +kernel
theorem dX12_under_95 : decode cX12_under 95 = .ok (.invokestatic 95, 3) := by decide +kernel
theorem dX12_under_98 : decode cX12_under 98 = .ok (.ifCond .ne 6, 3) := by decide +kernel
theorem dX12_under_85 : decode cX12_under 85 = .ok (.iconst 0, 1) := by decide +kernel
theorem dX12_under_70 : decode cX12_under 70 = .ok (.iload_n 3, 1) := by decide +kernel
theorem dX12_under_71 : decode cX12_under 71 = .ok (.iconst 1, 1) := by decide +kernel
theorem dX12_under_72 : decode cX12_under 72 = .ok (.if_icmp .lt 13, 3) := by decide +kernel
theorem dX12_under_75 : decode cX12_under 75 = .ok (.iload_n 3, 1) := by decide +kernel
theorem dX12_under_76 : decode cX12_under 76 = .ok (.bipush 99, 2) := by decide +kernel
theorem dX12_under_78 : decode cX12_under 78 = .ok (.if_icmp .gt 7, 3) := by decide +kernel
theorem dX12_under_81 : decode cX12_under 81 = .ok (.iconst 1, 1) := by decide +kernel
theorem dX12_under_82 : decode cX12_under 82 = .ok (.goto 4, 3) := by decide +kernel
theorem dX12_under_66 : decode cX12_under 66 = .ok (.iconst 0, 1) := by decide +kernel
theorem dX12_under_67 : decode cX12_under 67 = .ok (.goto 19, 3) := by decide +kernel
theorem dX12_under_53 : decode cX12_under 53 = .ok (.iload_n 1, 1) := by decide +kernel
theorem dX12_under_54 : decode cX12_under 54 = .ok (.iconst 2, 1) := by decide +kernel
theorem dX12_under_55 : decode cX12_under 55 = .ok (.if_icmp .ne 15, 3) := by decide +kernel
theorem dX12_under_58 : decode cX12_under 58 = .ok (.iload_n 3, 1) := by decide +kernel
theorem dX12_under_59 : decode cX12_under 59 = .ok (.ifCond .ne 7, 3) := by decide +kernel
theorem dX12_under_62 : decode cX12_under 62 = .ok (.iconst 1, 1) := by decide +kernel
theorem dX12_under_63 : decode cX12_under 63 = .ok (.goto 23, 3) := by decide +kernel
theorem dX12_under_51 : decode cX12_under 51 = .ok (.iconst (-1), 1) := by decide +kernel
theorem dX12_under_52 : decode cX12_under 52 = .ok (.ireturn, 1) := by decide +kernel
theorem dX12_under_41 : decode cX12_under 41 = .ok (.aload_n 0, 1) := by decide +kernel
theorem dX12_under_42 : decode cX12_under 42 = .ok (.iload_n 2, 1) := by decide +kernel
theorem dX12_under_43 : decode cX12_under 43 = .ok (.iconst 0, 1) := by decide +kernel
theorem dX12_under_44 : decode cX12_under 44 = .ok (.invokevirtual 174, 3) := by decide +kernel
theorem dX12_under_47 : decode cX12_under 47 = .ok (.iconst 1, 1) := by decide +kernel
theorem dX12_under_48 : decode cX12_under 48 = .ok (.if_icmp .le 5, 3) := by decide +kernel
theorem dX12_under_23 : decode cX12_under 23 = .ok (.iload_n 1, 1) := by decide +kernel
theorem dX12_under_24 : decode cX12_under 24 = .ok (.iconst 3, 1) := by decide +kernel
theorem dX12_under_25 : decode cX12_under 25 = .ok (.if_icmp .ne 16, 3) := by decide +kernel
theorem dX12_under_28 : decode cX12_under 28 = .ok (.aload_n 0, 1) := by decide +kernel
theorem dX12_under_29 : decode cX12_under 29 = .ok (.iload_n 2, 1) := by decide +kernel
theorem dX12_under_30 : decode cX12_under 30 = .ok (.iconst 0, 1) := by decide +kernel
theorem dX12_under_31 : decode cX12_under 31 = .ok (.invokevirtual 174, 3) := by decide +kernel
theorem dX12_under_34 : decode cX12_under 34 = .ok (.iconst 2, 1) := by decide +kernel
theorem dX12_under_35 : decode cX12_under 35 = .ok (.if_icmp .eq 18, 3) := by decide +kernel
theorem dX12_under_38 : decode cX12_under 38 = .ok (.goto 13, 3) := by decide +kernel
theorem dX12_under_20 : decode cX12_under 20 = .ok (.bipush (-2), 2) := by decide +kernel
theorem dX12_under_22 : decode cX12_under 22 = .ok (.ireturn, 1) := by decide +kernel
theorem dX12_under_10 : decode cX12_under 10 = .ok (.iload_n 1, 1) := by decide +kernel
theorem dX12_under_11 : decode cX12_under 11 = .ok (.iconst 2, 1) := by decide +kernel
theorem dX12_under_12 : decode cX12_under 12 = .ok (.if_icmp .lt 8, 3) := by decide +kernel
theorem dX12_under_15 : decode cX12_under 15 = .ok (.iload_n 1, 1) := by decide +kernel
theorem dX12_under_16 : decode cX12_under 16 = .ok (.iconst 4, 1) := by decide +kernel
theorem dX12_under_17 : decode cX12_under 17 = .ok (.if_icmp .le 6, 3) := by decide +kernel
theorem dX12_under_0 : decode cX12_under 0 = .ok (.aload_n 0, 1) := by decide +kernel
theorem dX12_under_1 : decode cX12_under 1 = .ok (.iload_n 2, 1) := by decide +kernel
theorem dX12_under_2 : decode cX12_under 2 = .ok (.invokevirtual 187, 3) := by decide +kernel
theorem dX12_under_5 : decode cX12_under 5 = .ok (.ifCond .ne 5, 3) := by decide +kernel
theorem dX12_under_8 : decode cX12_under 8 = .ok (.iconst (-1), 1) := by decide +kernel
theorem dX12_under_9 : decode cX12_under 9 = .ok (.ireturn, 1) := by decide +kernel
theorem dX12_isUnder_39 : decode cX12_isUnder 39 = .ok (.ireturn, 1) := by decide +kernel
theorem dX12_isUnder_38 : decode cX12_isUnder 38 = .ok (.iconst 0, 1) := by decide +kernel
theorem dX12_isUnder_29 : decode cX12_isUnder 29 = .ok (.iload_n 3, 1) := by decide +kernel
theorem dX12_isUnder_30 : decode cX12_isUnder 30 = .ok (.iload_n 2, 1) := by decide +kernel
theorem dX12_isUnder_31 : decode cX12_isUnder 31 = .ok (.if_icmp .ne 7, 3) := by decide +kernel
theorem dX12_isUnder_34 : decode cX12_isUnder 34 = .ok (.iconst 1, 1) := by decide +kernel
theorem dX12_isUnder_35 : decode cX12_isUnder 35 = .ok (.goto 4, 3) := by decide +kernel
theorem dX12_isUnder_2 : decode cX12_isUnder 2 = .ok (.iload_n 3, 1) := by decide +kernel
theorem dX12_isUnder_3 : decode cX12_isUnder 3 = .ok (.iload_n 2, 1) := by decide +kernel
theorem dX12_isUnder_4 : decode cX12_isUnder 4 = .ok (.if_icmp .eq 25, 3) := by decide +kernel
theorem dX12_isUnder_7 : decode cX12_isUnder 7 = .ok (.aload_n 0, 1) := by decide +kernel
theorem dX12_isUnder_8 : decode cX12_isUnder 8 = .ok (.iload_n 3, 1) := by decide +kernel
theorem dX12_isUnder_9 : decode cX12_isUnder 9 = .ok (.bipush 8, 2) := by decide +kernel
theorem dX12_isUnder_11 : decode cX12_isUnder 11 = .ok (.invokevirtual 174, 3) := by decide +kernel
theorem dX12_isUnder_14 : decode cX12_isUnder 14 = .ok (.iconst (-1), 1) := by decide +kernel
theorem dX12_isUnder_15 : decode cX12_isUnder 15 = .ok (.if_icmp .eq 14, 3) := by decide +kernel
theorem dX12_isUnder_18 : decode cX12_isUnder 18 = .ok (.aload_n 0, 1) := by decide +kernel
theorem dX12_isUnder_19 : decode cX12_isUnder 19 = .ok (.iload_n 3, 1) := by decide +kernel
theorem dX12_isUnder_20 : decode cX12_isUnder 20 = .ok (.bipush 8, 2) := by decide +kernel
theorem dX12_isUnder_22 : decode cX12_isUnder 22 = .ok (.invokevirtual 174, 3) := by decide +kernel
theorem dX12_isUnder_25 : decode cX12_isUnder 25 = .ok (.istore_n 3, 1) := by decide +kernel
theorem dX12_isUnder_26 : decode cX12_isUnder 26 = .ok (.goto (-24), 3) := by decide +kernel
theorem dX12_isUnder_0 : decode cX12_isUnder 0 = .ok (.iload_n 1, 1) := by decide +kernel
theorem dX12_isUnder_1 : decode cX12_isUnder 1 = .ok (.istore_n 3, 1) := by decide +kernel
theorem dX12_gone_192 : decode cX12_gone 192 = .ok (.iload 5, 2) := by decide +kernel
theorem dX12_gone_194 : decode cX12_gone 194 = .ok (.ireturn, 1) := by decide +kernel
theorem dX12_gone_186 : decode cX12_gone 186 = .ok (.iinc 6 1, 3) := by decide +kernel
theorem dX12_gone_189 : decode cX12_gone 189 = .ok (.goto (-122), 3) := by decide +kernel
theorem dX12_gone_180 : decode cX12_gone 180 = .ok (.iinc 7 1, 3) := by decide +kernel
theorem dX12_gone_183 : decode cX12_gone 183 = .ok (.goto (-58), 3) := by decide +kernel
theorem dX12_gone_154 : decode cX12_gone 154 = .ok (.istore 8, 2) := by decide +kernel
theorem dX12_gone_156 : decode cX12_gone 156 = .ok (.iload 8, 2) := by decide +kernel
theorem dX12_gone_158 : decode cX12_gone 158 = .ok (.iconst (-1), 1) := by decide +kernel
theorem dX12_gone_159 : decode cX12_gone 159 = .ok (.if_icmp .eq 21, 3) := by decide +kernel
theorem dX12_gone_162 : decode cX12_gone 162 = .ok (.aload_n 0, 1) := by decide +kernel
theorem dX12_gone_163 : decode cX12_gone 163 = .ok (.getfield 10, 3) := by decide +kernel
theorem dX12_gone_166 : decode cX12_gone 166 = .ok (.sipush 10752, 3) := by decide +kernel
theorem dX12_gone_169 : decode cX12_gone 169 = .ok (.bipush 6, 2) := by decide +kernel
theorem dX12_gone_171 : decode cX12_gone 171 = .ok (.iload 8, 2) := by decide +kernel
theorem dX12_gone_173 : decode cX12_gone 173 = .ok (.imul, 1) := by decide +kernel
theorem dX12_gone_174 : decode cX12_gone 174 = .ok (.iadd, 1) := by decide +kernel
theorem dX12_gone_175 : decode cX12_gone 175 = .ok (.iconst 5, 1) := by decide +kernel
theorem dX12_gone_176 : decode cX12_gone 176 = .ok (.iadd, 1) := by decide +kernel
theorem dX12_gone_177 : decode cX12_gone 177 = .ok (.iload 4, 2) := by decide +kernel
theorem dX12_gone_179 : decode cX12_gone 179 = .ok (.iastore, 1) := by decide +kernel
theorem dX12_gone_153 : decode cX12_gone 153 = .ok (.iconst (-1), 1) := by decide +kernel
theorem dX12_gone_125 : decode cX12_gone 125 = .ok (.iload 7, 2) := by decide +kernel
theorem dX12_gone_127 : decode cX12_gone 127 = .ok (.iconst 2, 1) := by decide +kernel
theorem dX12_gone_128 : decode cX12_gone 128 = .ok (.if_icmp .ge 58, 3) := by decide +kernel
theorem dX12_gone_131 : decode cX12_gone 131 = .ok (.aload_n 0, 1) := by decide +kernel
theorem dX12_gone_132 : decode cX12_gone 132 = .ok (.iload 6, 2) := by decide +kernel
theorem dX12_gone_134 : decode cX12_gone 134 = .ok (.iload 7, 2) := by decide +kernel
theorem dX12_gone_136 : decode cX12_gone 136 = .ok (.invokevirtual 190, 3) := by decide +kernel
theorem dX12_gone_139 : decode cX12_gone 139 = .ok (.ifCond .eq 14, 3) := by decide +kernel
theorem dX12_gone_142 : decode cX12_gone 142 = .ok (.aload_n 0, 1) := by decide +kernel
theorem dX12_gone_143 : decode cX12_gone 143 = .ok (.iload 6, 2) := by decide +kernel
theorem dX12_gone_145 : decode cX12_gone 145 = .ok (.iload 7, 2) := by decide +kernel
theorem dX12_gone_147 : decode cX12_gone 147 = .ok (.invokevirtual 177, 3) := by decide +kernel
theorem dX12_gone_150 : decode cX12_gone 150 = .ok (.goto 4, 3) := by decide +kernel
theorem dX12_gone_100 : decode cX12_gone 100 = .ok (.iinc 5 1, 3) := by decide +kernel
theorem dX12_gone_103 : decode cX12_gone 103 = .ok (.aload_n 0, 1) := by decide +kernel
theorem dX12_gone_104 : decode cX12_gone 104 = .ok (.getfield 10, 3) := by decide +kernel
theorem dX12_gone_107 : decode cX12_gone 107 = .ok (.sipush 9552, 3) := by decide +kernel
theorem dX12_gone_110 : decode cX12_gone 110 = .ok (.bipush 12, 2) := by decide +kernel
theorem dX12_gone_112 : decode cX12_gone 112 = .ok (.iload 6, 2) := by decide +kernel
theorem dX12_gone_114 : decode cX12_gone 114 = .ok (.imul, 1) := by decide +kernel
theorem dX12_gone_115 : decode cX12_gone 115 = .ok (.iadd, 1) := by decide +kernel
theorem dX12_gone_116 : decode cX12_gone 116 = .ok (.bipush 10, 2) := by decide +kernel
theorem dX12_gone_118 : decode cX12_gone 118 = .ok (.iadd, 1) := by decide +kernel
theorem dX12_gone_119 : decode cX12_gone 119 = .ok (.iload 4, 2) := by decide +kernel
theorem dX12_gone_121 : decode cX12_gone 121 = .ok (.iastore, 1) := by decide +kernel
theorem dX12_gone_122 : decode cX12_gone 122 = .ok (.iconst 0, 1) := by decide +kernel
theorem dX12_gone_123 : decode cX12_gone 123 = .ok (.istore 7, 2) := by decide +kernel
theorem dX12_gone_67 : decode cX12_gone 67 = .ok (.iload 6, 2) := by decide +kernel
theorem dX12_gone_69 : decode cX12_gone 69 = .ok (.aload_n 0, 1) := by decide +kernel
theorem dX12_gone_70 : decode cX12_gone 70 = .ok (.getfield 10, 3) := by decide +kernel
theorem dX12_gone_73 : decode cX12_gone 73 = .ok (.iconst 4, 1) := by decide +kernel
theorem dX12_gone_74 : decode cX12_gone 74 = .ok (.iaload, 1) := by decide +kernel
theorem dX12_gone_75 : decode cX12_gone 75 = .ok (.if_icmp .ge 117, 3) := by decide +kernel
theorem dX12_gone_78 : decode cX12_gone 78 = .ok (.aload_n 0, 1) := by decide +kernel
theorem dX12_gone_79 : decode cX12_gone 79 = .ok (.iload 6, 2) := by decide +kernel
theorem dX12_gone_81 : decode cX12_gone 81 = .ok (.invokevirtual 187, 3) := by decide +kernel
theorem dX12_gone_84 : decode cX12_gone 84 = .ok (.ifCond .eq 102, 3) := by decide +kernel
theorem dX12_gone_87 : decode cX12_gone 87 = .ok (.aload_n 0, 1) := by decide +kernel
theorem dX12_gone_88 : decode cX12_gone 88 = .ok (.iload 6, 2) := by decide +kernel
theorem dX12_gone_90 : decode cX12_gone 90 = .ok (.iload_n 1, 1) := by decide +kernel
theorem dX12_gone_91 : decode cX12_gone 91 = .ok (.invokevirtual 256, 3) := by decide +kernel
theorem dX12_gone_94 : decode cX12_gone 94 = .ok (.ifCond .ne 6, 3) := by decide +kernel
theorem dX12_gone_97 : decode cX12_gone 97 = .ok (.goto 89, 3) := by decide +kernel
theorem dX12_gone_53 : decode cX12_gone 53 = .ok (.aload_n 0, 1) := by decide +kernel
theorem dX12_gone_54 : decode cX12_gone 54 = .ok (.iload_n 3, 1) := by decide +kernel
theorem dX12_gone_55 : decode cX12_gone 55 = .ok (.iload_n 2, 1) := by decide +kernel
theorem dX12_gone_56 : decode cX12_gone 56 = .ok (.invokevirtual 253, 3) := by decide +kernel
theorem dX12_gone_59 : decode cX12_gone 59 = .ok (.istore 4, 2) := by decide +kernel
theorem dX12_gone_61 : decode cX12_gone 61 = .ok (.iconst 0, 1) := by decide +kernel
theorem dX12_gone_62 : decode cX12_gone 62 = .ok (.istore 5, 2) := by decide +kernel
theorem dX12_gone_64 : decode cX12_gone 64 = .ok (.iconst 0, 1) := by decide +kernel
theorem dX12_gone_65 : decode cX12_gone 65 = .ok (.istore 6, 2) := by decide +kernel
theorem dX12_gone_38 : decode cX12_gone 38 = .ok (.aload_n 0, 1) := by decide +kernel
theorem dX12_gone_39 : decode cX12_gone 39 = .ok (.getfield 10, 3) := by decide +kernel
theorem dX12_gone_42 : decode cX12_gone 42 = .ok (.iconst 5, 1) := by decide +kernel
theorem dX12_gone_43 : decode cX12_gone 43 = .ok (.iaload, 1) := by decide +kernel
theorem dX12_gone_44 : decode cX12_gone 44 = .ok (.sipush 200, 3) := by decide +kernel
theorem dX12_gone_47 : decode cX12_gone 47 = .ok (.if_icmp .ne 6, 3) := by decide +kernel
theorem dX12_gone_50 : decode cX12_gone 50 = .ok (.bipush (-6), 2) := by decide +kernel
theorem dX12_gone_52 : decode cX12_gone 52 = .ok (.ireturn, 1) := by decide +kernel
theorem dX12_gone_20 : decode cX12_gone 20 = .ok (.aload_n 0, 1) := by decide +kernel
theorem dX12_gone_21 : decode cX12_gone 21 = .ok (.iload_n 1, 1) := by decide +kernel
theorem dX12_gone_22 : decode cX12_gone 22 = .ok (.invokevirtual 244, 3) := by decide +kernel
theorem dX12_gone_25 : decode cX12_gone 25 = .ok (.istore_n 3, 1) := by decide +kernel
theorem dX12_gone_26 : decode cX12_gone 26 = .ok (.aload_n 0, 1) := by decide +kernel
theorem dX12_gone_27 : decode cX12_gone 27 = .ok (.iload_n 3, 1) := by decide +kernel
theorem dX12_gone_28 : decode cX12_gone 28 = .ok (.iload_n 2, 1) := by decide +kernel
theorem dX12_gone_29 : decode cX12_gone 29 = .ok (.invokevirtual 247, 3) := by decide +kernel
theorem dX12_gone_32 : decode cX12_gone 32 = .ok (.ifCond .eq 6, 3) := by decide +kernel
theorem dX12_gone_35 : decode cX12_gone 35 = .ok (.bipush (-3), 2) := by decide +kernel
theorem dX12_gone_37 : decode cX12_gone 37 = .ok (.ireturn, 1) := by decide +kernel
theorem dX12_gone_10 : decode cX12_gone 10 = .ok (.iload_n 2, 1) := by decide +kernel
theorem dX12_gone_11 : decode cX12_gone 11 = .ok (.invokestatic 95, 3) := by decide +kernel
theorem dX12_gone_14 : decode cX12_gone 14 = .ok (.ifCond .ne 6, 3) := by decide +kernel
theorem dX12_gone_17 : decode cX12_gone 17 = .ok (.bipush (-2), 2) := by decide +kernel
theorem dX12_gone_19 : decode cX12_gone 19 = .ok (.ireturn, 1) := by decide +kernel
theorem dX12_gone_0 : decode cX12_gone 0 = .ok (.aload_n 0, 1) := by decide +kernel
theorem dX12_gone_1 : decode cX12_gone 1 = .ok (.iload_n 1, 1) := by decide +kernel
theorem dX12_gone_2 : decode cX12_gone 2 = .ok (.invokevirtual 187, 3) := by decide +kernel
theorem dX12_gone_5 : decode cX12_gone 5 = .ok (.ifCond .ne 5, 3) := by decide +kernel
theorem dX12_gone_8 : decode cX12_gone 8 = .ok (.iconst (-1), 1) := by decide +kernel
theorem dX12_gone_9 : decode cX12_gone 9 = .ok (.ireturn, 1) := by decide +kernel
theorem dX12_orders_203 : decode cX12_orders 203 = .ok (.return_, 1) := by decide +kernel
theorem dX12_orders_197 : decode cX12_orders 197 = .ok (.iinc 3 1, 3) := by decide +kernel
theorem dX12_orders_200 : decode cX12_orders 200 = .ok (.goto (-193), 3) := by decide +kernel
theorem dX12_orders_191 : decode cX12_orders 191 = .ok (.iinc 4 1, 3) := by decide +kernel
theorem dX12_orders_194 : decode cX12_orders 194 = .ok (.goto (-174), 3) := by decide +kernel
theorem dX12_orders_168 : decode cX12_orders 168 = .ok (.aload_n 0, 1) := by decide +kernel
theorem dX12_orders_169 : decode cX12_orders 169 = .ok (.getfield 51, 3) := by decide +kernel
theorem dX12_orders_172 : decode cX12_orders 172 = .ok (.iload 5, 2) := by decide +kernel
theorem dX12_orders_174 : decode cX12_orders 174 = .ok (.iconst 2, 1) := by decide +kernel
theorem dX12_orders_175 : decode cX12_orders 175 = .ok (.iload_n 3, 1) := by decide +kernel
theorem dX12_orders_176 : decode cX12_orders 176 = .ok (.imul, 1) := by decide +kernel
theorem dX12_orders_177 : decode cX12_orders 177 = .ok (.iload 4, 2) := by decide +kernel
theorem dX12_orders_179 : decode cX12_orders 179 = .ok (.iadd, 1) := by decide +kernel
theorem dX12_orders_180 : decode cX12_orders 180 = .ok (.iastore, 1) := by decide +kernel
theorem dX12_orders_181 : decode cX12_orders 181 = .ok (.aload_n 0, 1) := by decide +kernel
theorem dX12_orders_182 : decode cX12_orders 182 = .ok (.dup, 1) := by decide +kernel
theorem dX12_orders_183 : decode cX12_orders 183 = .ok (.getfield 54, 3) := by decide +kernel
theorem dX12_orders_186 : decode cX12_orders 186 = .ok (.iconst 1, 1) := by decide +kernel
theorem dX12_orders_187 : decode cX12_orders 187 = .ok (.iadd, 1) := by decide +kernel
theorem dX12_orders_188 : decode cX12_orders 188 = .ok (.putfield 54, 3) := by decide +kernel
theorem dX12_orders_64 : decode cX12_orders 64 = .ok (.iload 5, 2) := by decide +kernel
theorem dX12_orders_66 : decode cX12_orders 66 = .ok (.ifCond .le 102, 3) := by decide +kernel
theorem dX12_orders_69 : decode cX12_orders 69 = .ok (.iload_n 2, 1) := by decide +kernel
theorem dX12_orders_70 : decode cX12_orders 70 = .ok (.aload_n 0, 1) := by decide +kernel
theorem dX12_orders_71 : decode cX12_orders 71 = .ok (.aload_n 0, 1) := by decide +kernel
theorem dX12_orders_72 : decode cX12_orders 72 = .ok (.getfield 51, 3) := by decide +kernel
theorem dX12_orders_75 : decode cX12_orders 75 = .ok (.iload 5, 2) := by decide +kernel
theorem dX12_orders_77 : decode cX12_orders 77 = .ok (.iconst 1, 1) := by decide +kernel
theorem dX12_orders_78 : decode cX12_orders 78 = .ok (.isub, 1) := by decide +kernel
theorem dX12_orders_79 : decode cX12_orders 79 = .ok (.iaload, 1) := by decide +kernel
theorem dX12_orders_80 : decode cX12_orders 80 = .ok (.iconst 2, 1) := by decide +kernel
theorem dX12_orders_81 : decode cX12_orders 81 = .ok (.idiv, 1) := by decide +kernel
theorem dX12_orders_82 : decode cX12_orders 82 = .ok (.aload_n 0, 1) := by decide +kernel
theorem dX12_orders_83 : decode cX12_orders 83 = .ok (.getfield 51, 3) := by decide +kernel
theorem dX12_orders_86 : decode cX12_orders 86 = .ok (.iload 5, 2) := by decide +kernel
theorem dX12_orders_88 : decode cX12_orders 88 = .ok (.iconst 1, 1) := by decide +kernel
theorem dX12_orders_89 : decode cX12_orders 89 = .ok (.isub, 1) := by decide +kernel
theorem dX12_orders_90 : decode cX12_orders 90 = .ok (.iaload, 1) := by decide +kernel
theorem dX12_orders_91 : decode cX12_orders 91 = .ok (.iconst 2, 1) := by decide +kernel
theorem dX12_orders_92 : decode cX12_orders 92 = .ok (.irem, 1) := by decide +kernel
theorem dX12_orders_93 : decode cX12_orders 93 = .ok (.invokevirtual 196, 3) := by decide +kernel
theorem dX12_orders_96 : decode cX12_orders 96 = .ok (.aload_n 0, 1) := by decide +kernel
theorem dX12_orders_97 : decode cX12_orders 97 = .ok (.aload_n 0, 1) := by decide +kernel
theorem dX12_orders_98 : decode cX12_orders 98 = .ok (.getfield 51, 3) := by decide +kernel
theorem dX12_orders_101 : decode cX12_orders 101 = .ok (.iload 5, 2) := by decide +kernel
theorem dX12_orders_103 : decode cX12_orders 103 = .ok (.iconst 1, 1) := by decide +kernel
theorem dX12_orders_104 : decode cX12_orders 104 = .ok (.isub, 1) := by decide +kernel
theorem dX12_orders_105 : decode cX12_orders 105 = .ok (.iaload, 1) := by decide +kernel
theorem dX12_orders_106 : decode cX12_orders 106 = .ok (.iconst 2, 1) := by decide +kernel
theorem dX12_orders_107 : decode cX12_orders 107 = .ok (.idiv, 1) := by decide +kernel
theorem dX12_orders_108 : decode cX12_orders 108 = .ok (.aload_n 0, 1) := by decide +kernel
theorem dX12_orders_109 : decode cX12_orders 109 = .ok (.getfield 51, 3) := by decide +kernel
theorem dX12_orders_112 : decode cX12_orders 112 = .ok (.iload 5, 2) := by decide +kernel
theorem dX12_orders_114 : decode cX12_orders 114 = .ok (.iconst 1, 1) := by decide +kernel
theorem dX12_orders_115 : decode cX12_orders 115 = .ok (.isub, 1) := by decide +kernel
theorem dX12_orders_116 : decode cX12_orders 116 = .ok (.iaload, 1) := by decide +kernel
theorem dX12_orders_117 : decode cX12_orders 117 = .ok (.iconst 2, 1) := by decide +kernel
theorem dX12_orders_118 : decode cX12_orders 118 = .ok (.irem, 1) := by decide +kernel
theorem dX12_orders_119 : decode cX12_orders 119 = .ok (.invokevirtual 206, 3) := by decide +kernel
theorem dX12_orders_122 : decode cX12_orders 122 = .ok (.invokestatic 181, 3) := by decide +kernel
theorem dX12_orders_125 : decode cX12_orders 125 = .ok (.iload_n 2, 1) := by decide +kernel
theorem dX12_orders_126 : decode cX12_orders 126 = .ok (.aload_n 0, 1) := by decide +kernel
theorem dX12_orders_127 : decode cX12_orders 127 = .ok (.iload_n 3, 1) := by decide +kernel
theorem dX12_orders_128 : decode cX12_orders 128 = .ok (.iload 4, 2) := by decide +kernel
theorem dX12_orders_130 : decode cX12_orders 130 = .ok (.invokevirtual 196, 3) := by decide +kernel
theorem dX12_orders_133 : decode cX12_orders 133 = .ok (.aload_n 0, 1) := by decide +kernel
theorem dX12_orders_134 : decode cX12_orders 134 = .ok (.iload_n 3, 1) := by decide +kernel
theorem dX12_orders_135 : decode cX12_orders 135 = .ok (.iload 4, 2) := by decide +kernel
theorem dX12_orders_137 : decode cX12_orders 137 = .ok (.invokevirtual 206, 3) := by decide +kernel
theorem dX12_orders_140 : decode cX12_orders 140 = .ok (.invokestatic 181, 3) := by decide +kernel
theorem dX12_orders_143 : decode cX12_orders 143 = .ok (.if_icmp .le 25, 3) := by decide +kernel
theorem dX12_orders_146 : decode cX12_orders 146 = .ok (.aload_n 0, 1) := by decide +kernel
theorem dX12_orders_147 : decode cX12_orders 147 = .ok (.getfield 51, 3) := by decide +kernel
theorem dX12_orders_150 : decode cX12_orders 150 = .ok (.iload 5, 2) := by decide +kernel
theorem dX12_orders_152 : decode cX12_orders 152 = .ok (.aload_n 0, 1) := by decide +kernel
theorem dX12_orders_153 : decode cX12_orders 153 = .ok (.getfield 51, 3) := by decide +kernel
theorem dX12_orders_156 : decode cX12_orders 156 = .ok (.iload 5, 2) := by decide +kernel
theorem dX12_orders_158 : decode cX12_orders 158 = .ok (.iconst 1, 1) := by decide +kernel
theorem dX12_orders_159 : decode cX12_orders 159 = .ok (.isub, 1) := by decide +kernel
theorem dX12_orders_160 : decode cX12_orders 160 = .ok (.iaload, 1) := by decide +kernel
theorem dX12_orders_161 : decode cX12_orders 161 = .ok (.iastore, 1) := by decide +kernel
theorem dX12_orders_162 : decode cX12_orders 162 = .ok (.iinc 5 (-1), 3) := by decide +kernel
theorem dX12_orders_165 : decode cX12_orders 165 = .ok (.goto (-101), 3) := by decide +kernel
theorem dX12_orders_58 : decode cX12_orders 58 = .ok (.aload_n 0, 1) := by decide +kernel
theorem dX12_orders_59 : decode cX12_orders 59 = .ok (.getfield 54, 3) := by decide +kernel
theorem dX12_orders_62 : decode cX12_orders 62 = .ok (.istore 5, 2) := by decide +kernel
theorem dX12_orders_20 : decode cX12_orders 20 = .ok (.iload 4, 2) := by decide +kernel
theorem dX12_orders_22 : decode cX12_orders 22 = .ok (.iconst 2, 1) := by decide +kernel
theorem dX12_orders_23 : decode cX12_orders 23 = .ok (.if_icmp .ge 174, 3) := by decide +kernel
theorem dX12_orders_26 : decode cX12_orders 26 = .ok (.aload_n 0, 1) := by decide +kernel
theorem dX12_orders_27 : decode cX12_orders 27 = .ok (.iload_n 3, 1) := by decide +kernel
theorem dX12_orders_28 : decode cX12_orders 28 = .ok (.invokevirtual 187, 3) := by decide +kernel
theorem dX12_orders_31 : decode cX12_orders 31 = .ok (.ifCond .eq 160, 3) := by decide +kernel
theorem dX12_orders_34 : decode cX12_orders 34 = .ok (.aload_n 0, 1) := by decide +kernel
theorem dX12_orders_35 : decode cX12_orders 35 = .ok (.iload_n 3, 1) := by decide +kernel
theorem dX12_orders_36 : decode cX12_orders 36 = .ok (.iload 4, 2) := by decide +kernel
theorem dX12_orders_38 : decode cX12_orders 38 = .ok (.invokevirtual 190, 3) := by decide +kernel
theorem dX12_orders_41 : decode cX12_orders 41 = .ok (.ifCond .eq 150, 3) := by decide +kernel
theorem dX12_orders_44 : decode cX12_orders 44 = .ok (.aload_n 0, 1) := by decide +kernel
theorem dX12_orders_45 : decode cX12_orders 45 = .ok (.iload_n 3, 1) := by decide +kernel
theorem dX12_orders_46 : decode cX12_orders 46 = .ok (.iload 4, 2) := by decide +kernel
theorem dX12_orders_48 : decode cX12_orders 48 = .ok (.invokevirtual 193, 3) := by decide +kernel
theorem dX12_orders_51 : decode cX12_orders 51 = .ok (.iload_n 1, 1) := by decide +kernel
theorem dX12_orders_52 : decode cX12_orders 52 = .ok (.if_icmp .eq 6, 3) := by decide +kernel
theorem dX12_orders_55 : decode cX12_orders 55 = .ok (.goto 136, 3) := by decide +kernel
theorem dX12_orders_7 : decode cX12_orders 7 = .ok (.iload_n 3, 1) := by decide +kernel
theorem dX12_orders_8 : decode cX12_orders 8 = .ok (.aload_n 0, 1) := by decide +kernel
theorem dX12_orders_9 : decode cX12_orders 9 = .ok (.getfield 10, 3) := by decide +kernel
theorem dX12_orders_12 : decode cX12_orders 12 = .ok (.iconst 4, 1) := by decide +kernel
theorem dX12_orders_13 : decode cX12_orders 13 = .ok (.iaload, 1) := by decide +kernel
theorem dX12_orders_14 : decode cX12_orders 14 = .ok (.if_icmp .ge 189, 3) := by decide +kernel
theorem dX12_orders_17 : decode cX12_orders 17 = .ok (.iconst 0, 1) := by decide +kernel
theorem dX12_orders_18 : decode cX12_orders 18 = .ok (.istore 4, 2) := by decide +kernel
theorem dX12_orders_0 : decode cX12_orders 0 = .ok (.aload_n 0, 1) := by decide +kernel
theorem dX12_orders_1 : decode cX12_orders 1 = .ok (.iconst 0, 1) := by decide +kernel
theorem dX12_orders_2 : decode cX12_orders 2 = .ok (.putfield 54, 3) := by decide +kernel
theorem dX12_orders_5 : decode cX12_orders 5 = .ok (.iconst 0, 1) := by decide +kernel
theorem dX12_orders_6 : decode cX12_orders 6 = .ok (.istore_n 3, 1) := by decide +kernel
theorem dX12_isRising_135 : decode cX12_isRising 135 = .ok (.iconst 1, 1) := by decide +kernel
theorem dX12_isRising_136 : decode cX12_isRising 136 = .ok (.ireturn, 1) := by decide +kernel
theorem dX12_isRising_129 : decode cX12_isRising 129 = .ok (.iinc 1 1, 3) := by decide +kernel
theorem dX12_isRising_132 : decode cX12_isRising 132 = .ok (.goto (-130), 3) := by decide +kernel
theorem dX12_isRising_123 : decode cX12_isRising 123 = .ok (.iinc 2 1, 3) := by decide +kernel
theorem dX12_isRising_126 : decode cX12_isRising 126 = .ok (.goto (-114), 3) := by decide +kernel
theorem dX12_isRising_121 : decode cX12_isRising 121 = .ok (.iconst 0, 1) := by decide +kernel
theorem dX12_isRising_122 : decode cX12_isRising 122 = .ok (.ireturn, 1) := by decide +kernel
theorem dX12_isRising_86 : decode cX12_isRising 86 = .ok (.istore_n 3, 1) := by decide +kernel
theorem dX12_isRising_87 : decode cX12_isRising 87 = .ok (.aload_n 0, 1) := by decide +kernel
theorem dX12_isRising_88 : decode cX12_isRising 88 = .ok (.getfield 57, 3) := by decide +kernel
theorem dX12_isRising_91 : decode cX12_isRising 91 = .ok (.iload_n 1, 1) := by decide +kernel
theorem dX12_isRising_92 : decode cX12_isRising 92 = .ok (.iaload, 1) := by decide +kernel
theorem dX12_isRising_93 : decode cX12_isRising 93 = .ok (.aload_n 0, 1) := by decide +kernel
theorem dX12_isRising_94 : decode cX12_isRising 94 = .ok (.getfield 57, 3) := by decide +kernel
theorem dX12_isRising_97 : decode cX12_isRising 97 = .ok (.iload_n 2, 1) := by decide +kernel
theorem dX12_isRising_98 : decode cX12_isRising 98 = .ok (.iaload, 1) := by decide +kernel
theorem dX12_isRising_99 : decode cX12_isRising 99 = .ok (.if_icmp .eq 22, 3) := by decide +kernel
theorem dX12_isRising_102 : decode cX12_isRising 102 = .ok (.iload_n 3, 1) := by decide +kernel
theorem dX12_isRising_103 : decode cX12_isRising 103 = .ok (.ifCond .eq 20, 3) := by decide +kernel
theorem dX12_isRising_106 : decode cX12_isRising 106 = .ok (.aload_n 0, 1) := by decide +kernel
theorem dX12_isRising_107 : decode cX12_isRising 107 = .ok (.getfield 57, 3) := by decide +kernel
theorem dX12_isRising_110 : decode cX12_isRising 110 = .ok (.iload_n 1, 1) := by decide +kernel
theorem dX12_isRising_111 : decode cX12_isRising 111 = .ok (.iaload, 1) := by decide +kernel
theorem dX12_isRising_112 : decode cX12_isRising 112 = .ok (.aload_n 0, 1) := by decide +kernel
theorem dX12_isRising_113 : decode cX12_isRising 113 = .ok (.getfield 57, 3) := by decide +kernel
theorem dX12_isRising_116 : decode cX12_isRising 116 = .ok (.iload_n 2, 1) := by decide +kernel
theorem dX12_isRising_117 : decode cX12_isRising 117 = .ok (.iaload, 1) := by decide +kernel
theorem dX12_isRising_118 : decode cX12_isRising 118 = .ok (.if_icmp .ge 5, 3) := by decide +kernel
theorem dX12_isRising_85 : decode cX12_isRising 85 = .ok (.iconst 0, 1) := by decide +kernel
theorem dX12_isRising_38 : decode cX12_isRising 38 = .ok (.aload_n 0, 1) := by decide +kernel
theorem dX12_isRising_39 : decode cX12_isRising 39 = .ok (.aload_n 0, 1) := by decide +kernel
theorem dX12_isRising_40 : decode cX12_isRising 40 = .ok (.getfield 51, 3) := by decide +kernel
theorem dX12_isRising_43 : decode cX12_isRising 43 = .ok (.iload_n 1, 1) := by decide +kernel
theorem dX12_isRising_44 : decode cX12_isRising 44 = .ok (.iaload, 1) := by decide +kernel
theorem dX12_isRising_45 : decode cX12_isRising 45 = .ok (.iconst 2, 1) := by decide +kernel
theorem dX12_isRising_46 : decode cX12_isRising 46 = .ok (.idiv, 1) := by decide +kernel
theorem dX12_isRising_47 : decode cX12_isRising 47 = .ok (.aload_n 0, 1) := by decide +kernel
theorem dX12_isRising_48 : decode cX12_isRising 48 = .ok (.getfield 51, 3) := by decide +kernel
theorem dX12_isRising_51 : decode cX12_isRising 51 = .ok (.iload_n 1, 1) := by decide +kernel
theorem dX12_isRising_52 : decode cX12_isRising 52 = .ok (.iaload, 1) := by decide +kernel
theorem dX12_isRising_53 : decode cX12_isRising 53 = .ok (.iconst 2, 1) := by decide +kernel
theorem dX12_isRising_54 : decode cX12_isRising 54 = .ok (.irem, 1) := by decide +kernel
theorem dX12_isRising_55 : decode cX12_isRising 55 = .ok (.invokevirtual 196, 3) := by decide +kernel
theorem dX12_isRising_58 : decode cX12_isRising 58 = .ok (.aload_n 0, 1) := by decide +kernel
theorem dX12_isRising_59 : decode cX12_isRising 59 = .ok (.aload_n 0, 1) := by decide +kernel
theorem dX12_isRising_60 : decode cX12_isRising 60 = .ok (.getfield 51, 3) := by decide +kernel
theorem dX12_isRising_63 : decode cX12_isRising 63 = .ok (.iload_n 2, 1) := by decide +kernel
theorem dX12_isRising_64 : decode cX12_isRising 64 = .ok (.iaload, 1) := by decide +kernel
theorem dX12_isRising_65 : decode cX12_isRising 65 = .ok (.iconst 2, 1) := by decide +kernel
theorem dX12_isRising_66 : decode cX12_isRising 66 = .ok (.idiv, 1) := by decide +kernel
theorem dX12_isRising_67 : decode cX12_isRising 67 = .ok (.aload_n 0, 1) := by decide +kernel
theorem dX12_isRising_68 : decode cX12_isRising 68 = .ok (.getfield 51, 3) := by decide +kernel
theorem dX12_isRising_71 : decode cX12_isRising 71 = .ok (.iload_n 2, 1) := by decide +kernel
theorem dX12_isRising_72 : decode cX12_isRising 72 = .ok (.iaload, 1) := by decide +kernel
theorem dX12_isRising_73 : decode cX12_isRising 73 = .ok (.iconst 2, 1) := by decide +kernel
theorem dX12_isRising_74 : decode cX12_isRising 74 = .ok (.irem, 1) := by decide +kernel
theorem dX12_isRising_75 : decode cX12_isRising 75 = .ok (.invokevirtual 196, 3) := by decide +kernel
theorem dX12_isRising_78 : decode cX12_isRising 78 = .ok (.if_icmp .ne 7, 3) := by decide +kernel
theorem dX12_isRising_81 : decode cX12_isRising 81 = .ok (.iconst 1, 1) := by decide +kernel
theorem dX12_isRising_82 : decode cX12_isRising 82 = .ok (.goto 4, 3) := by decide +kernel
theorem dX12_isRising_12 : decode cX12_isRising 12 = .ok (.iload_n 2, 1) := by decide +kernel
theorem dX12_isRising_13 : decode cX12_isRising 13 = .ok (.iload_n 1, 1) := by decide +kernel
theorem dX12_isRising_14 : decode cX12_isRising 14 = .ok (.if_icmp .ge 115, 3) := by decide +kernel
theorem dX12_isRising_17 : decode cX12_isRising 17 = .ok (.aload_n 0, 1) := by decide +kernel
theorem dX12_isRising_18 : decode cX12_isRising 18 = .ok (.getfield 57, 3) := by decide +kernel
theorem dX12_isRising_21 : decode cX12_isRising 21 = .ok (.iload_n 1, 1) := by decide +kernel
theorem dX12_isRising_22 : decode cX12_isRising 22 = .ok (.iaload, 1) := by decide +kernel
theorem dX12_isRising_23 : decode cX12_isRising 23 = .ok (.ifCond .eq 100, 3) := by decide +kernel
theorem dX12_isRising_26 : decode cX12_isRising 26 = .ok (.aload_n 0, 1) := by decide +kernel
theorem dX12_isRising_27 : decode cX12_isRising 27 = .ok (.getfield 57, 3) := by decide +kernel
theorem dX12_isRising_30 : decode cX12_isRising 30 = .ok (.iload_n 2, 1) := by decide +kernel
theorem dX12_isRising_31 : decode cX12_isRising 31 = .ok (.iaload, 1) := by decide +kernel
theorem dX12_isRising_32 : decode cX12_isRising 32 = .ok (.ifCond .ne 6, 3) := by decide +kernel
theorem dX12_isRising_35 : decode cX12_isRising 35 = .ok (.goto 88, 3) := by decide +kernel
theorem dX12_isRising_2 : decode cX12_isRising 2 = .ok (.iload_n 1, 1) := by decide +kernel
theorem dX12_isRising_3 : decode cX12_isRising 3 = .ok (.aload_n 0, 1) := by decide +kernel
theorem dX12_isRising_4 : decode cX12_isRising 4 = .ok (.getfield 54, 3) := by decide +kernel
theorem dX12_isRising_7 : decode cX12_isRising 7 = .ok (.if_icmp .ge 128, 3) := by decide +kernel
theorem dX12_isRising_10 : decode cX12_isRising 10 = .ok (.iconst 0, 1) := by decide +kernel
theorem dX12_isRising_11 : decode cX12_isRising 11 = .ok (.istore_n 2, 1) := by decide +kernel
theorem dX12_isRising_0 : decode cX12_isRising 0 = .ok (.iconst 0, 1) := by decide +kernel
theorem dX12_isRising_1 : decode cX12_isRising 1 = .ok (.istore_n 1, 1) := by decide +kernel
theorem dX12_gets_343 : decode cX12_gets 343 = .ok (.ireturn, 1) := by decide +kernel
theorem dX12_gets_342 : decode cX12_gets 342 = .ok (.iconst 0, 1) := by decide +kernel
theorem dX12_gets_338 : decode cX12_gets 338 = .ok (.iconst 1, 1) := by decide +kernel
theorem dX12_gets_339 : decode cX12_gets 339 = .ok (.goto 4, 3) := by decide +kernel
theorem dX12_gets_326 : decode cX12_gets 326 = .ok (.iload_n 2, 1) := by decide +kernel
theorem dX12_gets_327 : decode cX12_gets 327 = .ok (.iconst 3, 1) := by decide +kernel
theorem dX12_gets_328 : decode cX12_gets 328 = .ok (.if_icmp .ne 10, 3) := by decide +kernel
theorem dX12_gets_331 : decode cX12_gets 331 = .ok (.aload_n 0, 1) := by decide +kernel
theorem dX12_gets_332 : decode cX12_gets 332 = .ok (.invokevirtual 263, 3) := by decide +kernel
theorem dX12_gets_335 : decode cX12_gets 335 = .ok (.ifCond .eq 7, 3) := by decide +kernel
theorem dX12_gets_312 : decode cX12_gets 312 = .ok (.aload_n 3, 1) := by decide +kernel
theorem dX12_gets_313 : decode cX12_gets 313 = .ok (.iload 5, 2) := by decide +kernel
theorem dX12_gets_315 : decode cX12_gets 315 = .ok (.dup2, 1) := by decide +kernel
theorem dX12_gets_316 : decode cX12_gets 316 = .ok (.iaload, 1) := by decide +kernel
theorem dX12_gets_317 : decode cX12_gets 317 = .ok (.iconst 1, 1) := by decide +kernel
theorem dX12_gets_318 : decode cX12_gets 318 = .ok (.iadd, 1) := by decide +kernel
theorem dX12_gets_319 : decode cX12_gets 319 = .ok (.iastore, 1) := by decide +kernel
theorem dX12_gets_320 : decode cX12_gets 320 = .ok (.iinc 4 1, 3) := by decide +kernel
theorem dX12_gets_323 : decode cX12_gets 323 = .ok (.goto (-301), 3) := by decide +kernel
theorem dX12_gets_282 : decode cX12_gets 282 = .ok (.iastore, 1) := by decide +kernel
theorem dX12_gets_283 : decode cX12_gets 283 = .ok (.aload_n 3, 1) := by decide +kernel
theorem dX12_gets_284 : decode cX12_gets 284 = .ok (.iload 5, 2) := by decide +kernel
theorem dX12_gets_286 : decode cX12_gets 286 = .ok (.iaload, 1) := by decide +kernel
theorem dX12_gets_287 : decode cX12_gets 287 = .ok (.aload_n 0, 1) := by decide +kernel
theorem dX12_gets_288 : decode cX12_gets 288 = .ok (.getfield 10, 3) := by decide +kernel
theorem dX12_gets_291 : decode cX12_gets 291 = .ok (.iload 7, 2) := by decide +kernel
theorem dX12_gets_293 : decode cX12_gets 293 = .ok (.iaload, 1) := by decide +kernel
theorem dX12_gets_294 : decode cX12_gets 294 = .ok (.if_icmp .ge 18, 3) := by decide +kernel
theorem dX12_gets_297 : decode cX12_gets 297 = .ok (.aload_n 0, 1) := by decide +kernel
theorem dX12_gets_298 : decode cX12_gets 298 = .ok (.getfield 57, 3) := by decide +kernel
theorem dX12_gets_301 : decode cX12_gets 301 = .ok (.iload 4, 2) := by decide +kernel
theorem dX12_gets_303 : decode cX12_gets 303 = .ok (.iaload, 1) := by decide +kernel
theorem dX12_gets_304 : decode cX12_gets 304 = .ok (.invokestatic 226, 3) := by decide +kernel
theorem dX12_gets_307 : decode cX12_gets 307 = .ok (.ifCond .ne 5, 3) := by decide +kernel
theorem dX12_gets_310 : decode cX12_gets 310 = .ok (.iconst 0, 1) := by decide +kernel
theorem dX12_gets_311 : decode cX12_gets 311 = .ok (.ireturn, 1) := by decide +kernel
theorem dX12_gets_281 : decode cX12_gets 281 = .ok (.iconst 0, 1) := by decide +kernel
theorem dX12_gets_228 : decode cX12_gets 228 = .ok (.sipush 30632, 3) := by decide +kernel
theorem dX12_gets_231 : decode cX12_gets 231 = .ok (.sipush 601, 3) := by decide +kernel
theorem dX12_gets_234 : decode cX12_gets 234 = .ok (.iconst 2, 1) := by decide +kernel
theorem dX12_gets_235 : decode cX12_gets 235 = .ok (.iload_n 1, 1) := by decide +kernel
theorem dX12_gets_236 : decode cX12_gets 236 = .ok (.imul, 1) := by decide +kernel
theorem dX12_gets_237 : decode cX12_gets 237 = .ok (.iload 5, 2) := by decide +kernel
theorem dX12_gets_239 : decode cX12_gets 239 = .ok (.iadd, 1) := by decide +kernel
theorem dX12_gets_240 : decode cX12_gets 240 = .ok (.imul, 1) := by decide +kernel
theorem dX12_gets_241 : decode cX12_gets 241 = .ok (.iadd, 1) := by decide +kernel
theorem dX12_gets_242 : decode cX12_gets 242 = .ok (.istore 7, 2) := by decide +kernel
theorem dX12_gets_244 : decode cX12_gets 244 = .ok (.aload_n 0, 1) := by decide +kernel
theorem dX12_gets_245 : decode cX12_gets 245 = .ok (.getfield 57, 3) := by decide +kernel
theorem dX12_gets_248 : decode cX12_gets 248 = .ok (.iload 4, 2) := by decide +kernel
theorem dX12_gets_250 : decode cX12_gets 250 = .ok (.aload_n 3, 1) := by decide +kernel
theorem dX12_gets_251 : decode cX12_gets 251 = .ok (.iload 5, 2) := by decide +kernel
theorem dX12_gets_253 : decode cX12_gets 253 = .ok (.iaload, 1) := by decide +kernel
theorem dX12_gets_254 : decode cX12_gets 254 = .ok (.aload_n 0, 1) := by decide +kernel
theorem dX12_gets_255 : decode cX12_gets 255 = .ok (.getfield 10, 3) := by decide +kernel
theorem dX12_gets_258 : decode cX12_gets 258 = .ok (.iload 7, 2) := by decide +kernel
theorem dX12_gets_260 : decode cX12_gets 260 = .ok (.iaload, 1) := by decide +kernel
theorem dX12_gets_261 : decode cX12_gets 261 = .ok (.if_icmp .ge 20, 3) := by decide +kernel
theorem dX12_gets_264 : decode cX12_gets 264 = .ok (.aload_n 0, 1) := by decide +kernel
theorem dX12_gets_265 : decode cX12_gets 265 = .ok (.getfield 10, 3) := by decide +kernel
theorem dX12_gets_268 : decode cX12_gets 268 = .ok (.iload 7, 2) := by decide +kernel
theorem dX12_gets_270 : decode cX12_gets 270 = .ok (.iconst 1, 1) := by decide +kernel
theorem dX12_gets_271 : decode cX12_gets 271 = .ok (.iadd, 1) := by decide +kernel
theorem dX12_gets_272 : decode cX12_gets 272 = .ok (.aload_n 3, 1) := by decide +kernel
theorem dX12_gets_273 : decode cX12_gets 273 = .ok (.iload 5, 2) := by decide +kernel
theorem dX12_gets_275 : decode cX12_gets 275 = .ok (.iaload, 1) := by decide +kernel
theorem dX12_gets_276 : decode cX12_gets 276 = .ok (.iadd, 1) := by decide +kernel
theorem dX12_gets_277 : decode cX12_gets 277 = .ok (.iaload, 1) := by decide +kernel
theorem dX12_gets_278 : decode cX12_gets 278 = .ok (.goto 4, 3) := by decide +kernel
theorem dX12_gets_225 : decode cX12_gets 225 = .ok (.goto 87, 3) := by decide +kernel
theorem dX12_gets_207 : decode cX12_gets 207 = .ok (.iastore, 1) := by decide +kernel
theorem dX12_gets_208 : decode cX12_gets 208 = .ok (.aload_n 0, 1) := by decide +kernel
theorem dX12_gets_209 : decode cX12_gets 209 = .ok (.getfield 57, 3) := by decide +kernel
theorem dX12_gets_212 : decode cX12_gets 212 = .ok (.iload 4, 2) := by decide +kernel
theorem dX12_gets_214 : decode cX12_gets 214 = .ok (.iaload, 1) := by decide +kernel
theorem dX12_gets_215 : decode cX12_gets 215 = .ok (.bipush 16, 2) := by decide +kernel
theorem dX12_gets_217 : decode cX12_gets 217 = .ok (.irem, 1) := by decide +kernel
theorem dX12_gets_218 : decode cX12_gets 218 = .ok (.bipush 9, 2) := by decide +kernel
theorem dX12_gets_220 : decode cX12_gets 220 = .ok (.if_icmp .le 5, 3) := by decide +kernel
theorem dX12_gets_223 : decode cX12_gets 223 = .ok (.iconst 0, 1) := by decide +kernel
theorem dX12_gets_224 : decode cX12_gets 224 = .ok (.ireturn, 1) := by decide +kernel
theorem dX12_gets_202 : decode cX12_gets 202 = .ok (.bipush 16, 2) := by decide +kernel
theorem dX12_gets_204 : decode cX12_gets 204 = .ok (.iload 7, 2) := by decide +kernel
theorem dX12_gets_206 : decode cX12_gets 206 = .ok (.imul, 1) := by decide +kernel
theorem dX12_gets_175 : decode cX12_gets 175 = .ok (.istore 8, 2) := by decide +kernel
theorem dX12_gets_177 : decode cX12_gets 177 = .ok (.aload_n 0, 1) := by decide +kernel
theorem dX12_gets_178 : decode cX12_gets 178 = .ok (.getfield 57, 3) := by decide +kernel
theorem dX12_gets_181 : decode cX12_gets 181 = .ok (.iload 4, 2) := by decide +kernel
theorem dX12_gets_183 : decode cX12_gets 183 = .ok (.iload 8, 2) := by decide +kernel
theorem dX12_gets_185 : decode cX12_gets 185 = .ok (.ifCond .eq 17, 3) := by decide +kernel
theorem dX12_gets_188 : decode cX12_gets 188 = .ok (.aload_n 0, 1) := by decide +kernel
theorem dX12_gets_189 : decode cX12_gets 189 = .ok (.getfield 57, 3) := by decide +kernel
theorem dX12_gets_192 : decode cX12_gets 192 = .ok (.iload 4, 2) := by decide +kernel
theorem dX12_gets_194 : decode cX12_gets 194 = .ok (.iconst 1, 1) := by decide +kernel
theorem dX12_gets_195 : decode cX12_gets 195 = .ok (.isub, 1) := by decide +kernel
theorem dX12_gets_196 : decode cX12_gets 196 = .ok (.iaload, 1) := by decide +kernel
theorem dX12_gets_197 : decode cX12_gets 197 = .ok (.iconst 1, 1) := by decide +kernel
theorem dX12_gets_198 : decode cX12_gets 198 = .ok (.iadd, 1) := by decide +kernel
theorem dX12_gets_199 : decode cX12_gets 199 = .ok (.goto 8, 3) := by decide +kernel
theorem dX12_gets_174 : decode cX12_gets 174 = .ok (.iconst 0, 1) := by decide +kernel
theorem dX12_gets_129 : decode cX12_gets 129 = .ok (.iload_n 2, 1) := by decide +kernel
theorem dX12_gets_130 : decode cX12_gets 130 = .ok (.iconst 2, 1) := by decide +kernel
theorem dX12_gets_131 : decode cX12_gets 131 = .ok (.if_icmp .ne 97, 3) := by decide +kernel
theorem dX12_gets_134 : decode cX12_gets 134 = .ok (.iconst 2, 1) := by decide +kernel
theorem dX12_gets_135 : decode cX12_gets 135 = .ok (.iload 6, 2) := by decide +kernel
theorem dX12_gets_137 : decode cX12_gets 137 = .ok (.bipush 10, 2) := by decide +kernel
theorem dX12_gets_139 : decode cX12_gets 139 = .ok (.idiv, 1) := by decide +kernel
theorem dX12_gets_140 : decode cX12_gets 140 = .ok (.imul, 1) := by decide +kernel
theorem dX12_gets_141 : decode cX12_gets 141 = .ok (.iconst 1, 1) := by decide +kernel
theorem dX12_gets_142 : decode cX12_gets 142 = .ok (.iadd, 1) := by decide +kernel
theorem dX12_gets_143 : decode cX12_gets 143 = .ok (.iload 5, 2) := by decide +kernel
theorem dX12_gets_145 : decode cX12_gets 145 = .ok (.iadd, 1) := by decide +kernel
theorem dX12_gets_146 : decode cX12_gets 146 = .ok (.istore 7, 2) := by decide +kernel
theorem dX12_gets_148 : decode cX12_gets 148 = .ok (.iload 4, 2) := by decide +kernel
theorem dX12_gets_150 : decode cX12_gets 150 = .ok (.ifCond .le 24, 3) := by decide +kernel
theorem dX12_gets_153 : decode cX12_gets 153 = .ok (.aload_n 0, 1) := by decide +kernel
theorem dX12_gets_154 : decode cX12_gets 154 = .ok (.getfield 57, 3) := by decide +kernel
theorem dX12_gets_157 : decode cX12_gets 157 = .ok (.iload 4, 2) := by decide +kernel
theorem dX12_gets_159 : decode cX12_gets 159 = .ok (.iconst 1, 1) := by decide +kernel
theorem dX12_gets_160 : decode cX12_gets 160 = .ok (.isub, 1) := by decide +kernel
theorem dX12_gets_161 : decode cX12_gets 161 = .ok (.iaload, 1) := by decide +kernel
theorem dX12_gets_162 : decode cX12_gets 162 = .ok (.bipush 16, 2) := by decide +kernel
theorem dX12_gets_164 : decode cX12_gets 164 = .ok (.idiv, 1) := by decide +kernel
theorem dX12_gets_165 : decode cX12_gets 165 = .ok (.iload 7, 2) := by decide +kernel
theorem dX12_gets_167 : decode cX12_gets 167 = .ok (.if_icmp .ne 7, 3) := by decide +kernel
theorem dX12_gets_170 : decode cX12_gets 170 = .ok (.iconst 1, 1) := by decide +kernel
theorem dX12_gets_171 : decode cX12_gets 171 = .ok (.goto 4, 3) := by decide +kernel
theorem dX12_gets_107 : decode cX12_gets 107 = .ok (.iload_n 2, 1) := by decide +kernel
theorem dX12_gets_108 : decode cX12_gets 108 = .ok (.iconst 1, 1) := by decide +kernel
theorem dX12_gets_109 : decode cX12_gets 109 = .ok (.if_icmp .ne 20, 3) := by decide +kernel
theorem dX12_gets_112 : decode cX12_gets 112 = .ok (.aload_n 0, 1) := by decide +kernel
theorem dX12_gets_113 : decode cX12_gets 113 = .ok (.getfield 57, 3) := by decide +kernel
theorem dX12_gets_116 : decode cX12_gets 116 = .ok (.iload 4, 2) := by decide +kernel
theorem dX12_gets_118 : decode cX12_gets 118 = .ok (.bipush 16, 2) := by decide +kernel
theorem dX12_gets_120 : decode cX12_gets 120 = .ok (.iload 4, 2) := by decide +kernel
theorem dX12_gets_122 : decode cX12_gets 122 = .ok (.iconst 1, 1) := by decide +kernel
theorem dX12_gets_123 : decode cX12_gets 123 = .ok (.iadd, 1) := by decide +kernel
theorem dX12_gets_124 : decode cX12_gets 124 = .ok (.imul, 1) := by decide +kernel
theorem dX12_gets_125 : decode cX12_gets 125 = .ok (.iastore, 1) := by decide +kernel
theorem dX12_gets_126 : decode cX12_gets 126 = .ok (.goto 186, 3) := by decide +kernel
theorem dX12_gets_22 : decode cX12_gets 22 = .ok (.iload 4, 2) := by decide +kernel
theorem dX12_gets_24 : decode cX12_gets 24 = .ok (.aload_n 0, 1) := by decide +kernel
theorem dX12_gets_25 : decode cX12_gets 25 = .ok (.getfield 54, 3) := by decide +kernel
theorem dX12_gets_28 : decode cX12_gets 28 = .ok (.if_icmp .ge 298, 3) := by decide +kernel
theorem dX12_gets_31 : decode cX12_gets 31 = .ok (.aload_n 0, 1) := by decide +kernel
theorem dX12_gets_32 : decode cX12_gets 32 = .ok (.aload_n 0, 1) := by decide +kernel
theorem dX12_gets_33 : decode cX12_gets 33 = .ok (.getfield 51, 3) := by decide +kernel
theorem dX12_gets_36 : decode cX12_gets 36 = .ok (.iload 4, 2) := by decide +kernel
theorem dX12_gets_38 : decode cX12_gets 38 = .ok (.iaload, 1) := by decide +kernel
theorem dX12_gets_39 : decode cX12_gets 39 = .ok (.iconst 2, 1) := by decide +kernel
theorem dX12_gets_40 : decode cX12_gets 40 = .ok (.idiv, 1) := by decide +kernel
theorem dX12_gets_41 : decode cX12_gets 41 = .ok (.aload_n 0, 1) := by decide +kernel
theorem dX12_gets_42 : decode cX12_gets 42 = .ok (.getfield 51, 3) := by decide +kernel
theorem dX12_gets_45 : decode cX12_gets 45 = .ok (.iload 4, 2) := by decide +kernel
theorem dX12_gets_47 : decode cX12_gets 47 = .ok (.iaload, 1) := by decide +kernel
theorem dX12_gets_48 : decode cX12_gets 48 = .ok (.iconst 2, 1) := by decide +kernel
theorem dX12_gets_49 : decode cX12_gets 49 = .ok (.irem, 1) := by decide +kernel
theorem dX12_gets_50 : decode cX12_gets 50 = .ok (.invokevirtual 196, 3) := by decide +kernel
theorem dX12_gets_53 : decode cX12_gets 53 = .ok (.istore 5, 2) := by decide +kernel
theorem dX12_gets_55 : decode cX12_gets 55 = .ok (.aload_n 0, 1) := by decide +kernel
theorem dX12_gets_56 : decode cX12_gets 56 = .ok (.aload_n 0, 1) := by decide +kernel
theorem dX12_gets_57 : decode cX12_gets 57 = .ok (.getfield 51, 3) := by decide +kernel
theorem dX12_gets_60 : decode cX12_gets 60 = .ok (.iload 4, 2) := by decide +kernel
theorem dX12_gets_62 : decode cX12_gets 62 = .ok (.iaload, 1) := by decide +kernel
theorem dX12_gets_63 : decode cX12_gets 63 = .ok (.iconst 2, 1) := by decide +kernel
theorem dX12_gets_64 : decode cX12_gets 64 = .ok (.idiv, 1) := by decide +kernel
theorem dX12_gets_65 : decode cX12_gets 65 = .ok (.aload_n 0, 1) := by decide +kernel
theorem dX12_gets_66 : decode cX12_gets 66 = .ok (.getfield 51, 3) := by decide +kernel
theorem dX12_gets_69 : decode cX12_gets 69 = .ok (.iload 4, 2) := by decide +kernel
theorem dX12_gets_71 : decode cX12_gets 71 = .ok (.iaload, 1) := by decide +kernel
theorem dX12_gets_72 : decode cX12_gets 72 = .ok (.iconst 2, 1) := by decide +kernel
theorem dX12_gets_73 : decode cX12_gets 73 = .ok (.irem, 1) := by decide +kernel
theorem dX12_gets_74 : decode cX12_gets 74 = .ok (.invokevirtual 206, 3) := by decide +kernel
theorem dX12_gets_77 : decode cX12_gets 77 = .ok (.istore 6, 2) := by decide +kernel
theorem dX12_gets_79 : decode cX12_gets 79 = .ok (.iload_n 2, 1) := by decide +kernel
theorem dX12_gets_80 : decode cX12_gets 80 = .ok (.ifCond .ne 27, 3) := by decide +kernel
theorem dX12_gets_83 : decode cX12_gets 83 = .ok (.aload_n 0, 1) := by decide +kernel
theorem dX12_gets_84 : decode cX12_gets 84 = .ok (.getfield 57, 3) := by decide +kernel
theorem dX12_gets_87 : decode cX12_gets 87 = .ok (.iload 4, 2) := by decide +kernel
theorem dX12_gets_89 : decode cX12_gets 89 = .ok (.bipush 16, 2) := by decide +kernel
theorem dX12_gets_91 : decode cX12_gets 91 = .ok (.iconst 2, 1) := by decide +kernel
theorem dX12_gets_92 : decode cX12_gets 92 = .ok (.aload_n 3, 1) := by decide +kernel
theorem dX12_gets_93 : decode cX12_gets 93 = .ok (.iload 5, 2) := by decide +kernel
theorem dX12_gets_95 : decode cX12_gets 95 = .ok (.iaload, 1) := by decide +kernel
theorem dX12_gets_96 : decode cX12_gets 96 = .ok (.imul, 1) := by decide +kernel
theorem dX12_gets_97 : decode cX12_gets 97 = .ok (.iconst 1, 1) := by decide +kernel
theorem dX12_gets_98 : decode cX12_gets 98 = .ok (.iadd, 1) := by decide +kernel
theorem dX12_gets_99 : decode cX12_gets 99 = .ok (.iload 5, 2) := by decide +kernel
theorem dX12_gets_101 : decode cX12_gets 101 = .ok (.iadd, 1) := by decide +kernel
theorem dX12_gets_102 : decode cX12_gets 102 = .ok (.imul, 1) := by decide +kernel
theorem dX12_gets_103 : decode cX12_gets 103 = .ok (.iastore, 1) := by decide +kernel
theorem dX12_gets_104 : decode cX12_gets 104 = .ok (.goto 208, 3) := by decide +kernel
theorem dX12_gets_0 : decode cX12_gets 0 = .ok (.aload_n 0, 1) := by decide +kernel
theorem dX12_gets_1 : decode cX12_gets 1 = .ok (.iload_n 1, 1) := by decide +kernel
theorem dX12_gets_2 : decode cX12_gets 2 = .ok (.iload_n 2, 1) := by decide +kernel
theorem dX12_gets_3 : decode cX12_gets 3 = .ok (.invokevirtual 259, 3) := by decide +kernel
theorem dX12_gets_6 : decode cX12_gets 6 = .ok (.aload_n 0, 1) := by decide +kernel
theorem dX12_gets_7 : decode cX12_gets 7 = .ok (.getfield 60, 3) := by decide +kernel
theorem dX12_gets_10 : decode cX12_gets 10 = .ok (.astore_n 3, 1) := by decide +kernel
theorem dX12_gets_11 : decode cX12_gets 11 = .ok (.aload_n 3, 1) := by decide +kernel
theorem dX12_gets_12 : decode cX12_gets 12 = .ok (.iconst 0, 1) := by decide +kernel
theorem dX12_gets_13 : decode cX12_gets 13 = .ok (.iconst 0, 1) := by decide +kernel
theorem dX12_gets_14 : decode cX12_gets 14 = .ok (.iastore, 1) := by decide +kernel
theorem dX12_gets_15 : decode cX12_gets 15 = .ok (.aload_n 3, 1) := by decide +kernel
theorem dX12_gets_16 : decode cX12_gets 16 = .ok (.iconst 1, 1) := by decide +kernel
theorem dX12_gets_17 : decode cX12_gets 17 = .ok (.iconst 0, 1) := by decide +kernel
theorem dX12_gets_18 : decode cX12_gets 18 = .ok (.iastore, 1) := by decide +kernel
theorem dX12_gets_19 : decode cX12_gets 19 = .ok (.iconst 0, 1) := by decide +kernel
theorem dX12_gets_20 : decode cX12_gets 20 = .ok (.istore 4, 2) := by decide +kernel
theorem dX12_renumber_299 : decode cX12_renumber 299 = .ok (.iload 4, 2) := by decide +kernel
theorem dX12_renumber_301 : decode cX12_renumber 301 = .ok (.ireturn, 1) := by decide +kernel
theorem dX12_renumber_293 : decode cX12_renumber 293 = .ok (.iinc 6 1, 3) := by decide +kernel
theorem dX12_renumber_296 : decode cX12_renumber 296 = .ok (.goto (-97), 3) := by decide +kernel
theorem dX12_renumber_251 : decode cX12_renumber 251 = .ok (.aload_n 0, 1) := by decide +kernel
theorem dX12_renumber_252 : decode cX12_renumber 252 = .ok (.getfield 10, 3) := by decide +kernel
theorem dX12_renumber_255 : decode cX12_renumber 255 = .ok (.sipush 10752, 3) := by decide +kernel
theorem dX12_renumber_258 : decode cX12_renumber 258 = .ok (.bipush 6, 2) := by decide +kernel
theorem dX12_renumber_260 : decode cX12_renumber 260 = .ok (.aload_n 0, 1) := by decide +kernel
theorem dX12_renumber_261 : decode cX12_renumber 261 = .ok (.iload 7, 2) := by decide +kernel
theorem dX12_renumber_263 : decode cX12_renumber 263 = .ok (.iload 8, 2) := by decide +kernel
theorem dX12_renumber_265 : decode cX12_renumber 265 = .ok (.invokevirtual 177, 3) := by decide +kernel
theorem dX12_renumber_268 : decode cX12_renumber 268 = .ok (.imul, 1) := by decide +kernel
theorem dX12_renumber_269 : decode cX12_renumber 269 = .ok (.iadd, 1) := by decide +kernel
theorem dX12_renumber_270 : decode cX12_renumber 270 = .ok (.iconst 5, 1) := by decide +kernel
theorem dX12_renumber_271 : decode cX12_renumber 271 = .ok (.iadd, 1) := by decide +kernel
theorem dX12_renumber_272 : decode cX12_renumber 272 = .ok (.iload 5, 2) := by decide +kernel
theorem dX12_renumber_274 : decode cX12_renumber 274 = .ok (.iastore, 1) := by decide +kernel
theorem dX12_renumber_275 : decode cX12_renumber 275 = .ok (.aload_n 0, 1) := by decide +kernel
theorem dX12_renumber_276 : decode cX12_renumber 276 = .ok (.iload 7, 2) := by decide +kernel
theorem dX12_renumber_278 : decode cX12_renumber 278 = .ok (.iload 8, 2) := by decide +kernel
theorem dX12_renumber_280 : decode cX12_renumber 280 = .ok (.iload_n 1, 1) := by decide +kernel
theorem dX12_renumber_281 : decode cX12_renumber 281 = .ok (.aload_n 0, 1) := by decide +kernel
theorem dX12_renumber_282 : decode cX12_renumber 282 = .ok (.getfield 57, 3) := by decide +kernel
theorem dX12_renumber_285 : decode cX12_renumber 285 = .ok (.iload 6, 2) := by decide +kernel
theorem dX12_renumber_287 : decode cX12_renumber 287 = .ok (.iaload, 1) := by decide +kernel
theorem dX12_renumber_288 : decode cX12_renumber 288 = .ok (.iload 5, 2) := by decide +kernel
theorem dX12_renumber_290 : decode cX12_renumber 290 = .ok (.invokevirtual 240, 3) := by decide +kernel
theorem dX12_renumber_199 : decode cX12_renumber 199 = .ok (.iload 6, 2) := by decide +kernel
theorem dX12_renumber_201 : decode cX12_renumber 201 = .ok (.aload_n 0, 1) := by decide +kernel
theorem dX12_renumber_202 : decode cX12_renumber 202 = .ok (.getfield 54, 3) := by decide +kernel
theorem dX12_renumber_205 : decode cX12_renumber 205 = .ok (.if_icmp .ge 94, 3) := by decide +kernel
theorem dX12_renumber_208 : decode cX12_renumber 208 = .ok (.aload_n 0, 1) := by decide +kernel
theorem dX12_renumber_209 : decode cX12_renumber 209 = .ok (.getfield 51, 3) := by decide +kernel
theorem dX12_renumber_212 : decode cX12_renumber 212 = .ok (.iload 6, 2) := by decide +kernel
theorem dX12_renumber_214 : decode cX12_renumber 214 = .ok (.iaload, 1) := by decide +kernel
theorem dX12_renumber_215 : decode cX12_renumber 215 = .ok (.iconst 2, 1) := by decide +kernel
theorem dX12_renumber_216 : decode cX12_renumber 216 = .ok (.idiv, 1) := by decide +kernel
theorem dX12_renumber_217 : decode cX12_renumber 217 = .ok (.istore 7, 2) := by decide +kernel
theorem dX12_renumber_219 : decode cX12_renumber 219 = .ok (.aload_n 0, 1) := by decide +kernel
theorem dX12_renumber_220 : decode cX12_renumber 220 = .ok (.getfield 51, 3) := by decide +kernel
theorem dX12_renumber_223 : decode cX12_renumber 223 = .ok (.iload 6, 2) := by decide +kernel
theorem dX12_renumber_225 : decode cX12_renumber 225 = .ok (.iaload, 1) := by decide +kernel
theorem dX12_renumber_226 : decode cX12_renumber 226 = .ok (.iconst 2, 1) := by decide +kernel
theorem dX12_renumber_227 : decode cX12_renumber 227 = .ok (.irem, 1) := by decide +kernel
theorem dX12_renumber_228 : decode cX12_renumber 228 = .ok (.istore 8, 2) := by decide +kernel
theorem dX12_renumber_230 : decode cX12_renumber 230 = .ok (.aload_n 0, 1) := by decide +kernel
theorem dX12_renumber_231 : decode cX12_renumber 231 = .ok (.iload 7, 2) := by decide +kernel
theorem dX12_renumber_233 : decode cX12_renumber 233 = .ok (.iload 8, 2) := by decide +kernel
theorem dX12_renumber_235 : decode cX12_renumber 235 = .ok (.invokevirtual 203, 3) := by decide +kernel
theorem dX12_renumber_238 : decode cX12_renumber 238 = .ok (.aload_n 0, 1) := by decide +kernel
theorem dX12_renumber_239 : decode cX12_renumber 239 = .ok (.getfield 57, 3) := by decide +kernel
theorem dX12_renumber_242 : decode cX12_renumber 242 = .ok (.iload 6, 2) := by decide +kernel
theorem dX12_renumber_244 : decode cX12_renumber 244 = .ok (.iaload, 1) := by decide +kernel
theorem dX12_renumber_245 : decode cX12_renumber 245 = .ok (.if_icmp .ne 6, 3) := by decide +kernel
theorem dX12_renumber_248 : decode cX12_renumber 248 = .ok (.goto 45, 3) := by decide +kernel
theorem dX12_renumber_147 : decode cX12_renumber 147 = .ok (.aload_n 0, 1) := by decide +kernel
theorem dX12_renumber_148 : decode cX12_renumber 148 = .ok (.iload_n 3, 1) := by decide +kernel
theorem dX12_renumber_149 : decode cX12_renumber 149 = .ok (.iload_n 1, 1) := by decide +kernel
theorem dX12_renumber_150 : decode cX12_renumber 150 = .ok (.iconst (-1), 1) := by decide +kernel
theorem dX12_renumber_151 : decode cX12_renumber 151 = .ok (.iconst (-1), 1) := by decide +kernel
theorem dX12_renumber_152 : decode cX12_renumber 152 = .ok (.iconst (-1), 1) := by decide +kernel
theorem dX12_renumber_153 : decode cX12_renumber 153 = .ok (.invokevirtual 154, 3) := by decide +kernel
theorem dX12_renumber_156 : decode cX12_renumber 156 = .ok (.istore 5, 2) := by decide +kernel
theorem dX12_renumber_158 : decode cX12_renumber 158 = .ok (.aload_n 0, 1) := by decide +kernel
theorem dX12_renumber_159 : decode cX12_renumber 159 = .ok (.getfield 10, 3) := by decide +kernel
theorem dX12_renumber_162 : decode cX12_renumber 162 = .ok (.sipush 28752, 3) := by decide +kernel
theorem dX12_renumber_165 : decode cX12_renumber 165 = .ok (.bipush 7, 2) := by decide +kernel
theorem dX12_renumber_167 : decode cX12_renumber 167 = .ok (.iload 5, 2) := by decide +kernel
theorem dX12_renumber_169 : decode cX12_renumber 169 = .ok (.imul, 1) := by decide +kernel
theorem dX12_renumber_170 : decode cX12_renumber 170 = .ok (.iadd, 1) := by decide +kernel
theorem dX12_renumber_171 : decode cX12_renumber 171 = .ok (.bipush 6, 2) := by decide +kernel
theorem dX12_renumber_173 : decode cX12_renumber 173 = .ok (.iadd, 1) := by decide +kernel
theorem dX12_renumber_174 : decode cX12_renumber 174 = .ok (.aload_n 0, 1) := by decide +kernel
theorem dX12_renumber_175 : decode cX12_renumber 175 = .ok (.getfield 10, 3) := by decide +kernel
theorem dX12_renumber_178 : decode cX12_renumber 178 = .ok (.sipush 7528, 3) := by decide +kernel
theorem dX12_renumber_181 : decode cX12_renumber 181 = .ok (.iload_n 1, 1) := by decide +kernel
theorem dX12_renumber_182 : decode cX12_renumber 182 = .ok (.iadd, 1) := by decide +kernel
theorem dX12_renumber_183 : decode cX12_renumber 183 = .ok (.iaload, 1) := by decide +kernel
theorem dX12_renumber_184 : decode cX12_renumber 184 = .ok (.iastore, 1) := by decide +kernel
theorem dX12_renumber_185 : decode cX12_renumber 185 = .ok (.aload_n 0, 1) := by decide +kernel
theorem dX12_renumber_186 : decode cX12_renumber 186 = .ok (.getfield 10, 3) := by decide +kernel
theorem dX12_renumber_189 : decode cX12_renumber 189 = .ok (.sipush 7528, 3) := by decide +kernel
theorem dX12_renumber_192 : decode cX12_renumber 192 = .ok (.iload_n 1, 1) := by decide +kernel
theorem dX12_renumber_193 : decode cX12_renumber 193 = .ok (.iadd, 1) := by decide +kernel
theorem dX12_renumber_194 : decode cX12_renumber 194 = .ok (.iload_n 2, 1) := by decide +kernel
theorem dX12_renumber_195 : decode cX12_renumber 195 = .ok (.iastore, 1) := by decide +kernel
theorem dX12_renumber_196 : decode cX12_renumber 196 = .ok (.iconst 0, 1) := by decide +kernel
theorem dX12_renumber_197 : decode cX12_renumber 197 = .ok (.istore 6, 2) := by decide +kernel
theorem dX12_renumber_144 : decode cX12_renumber 144 = .ok (.bipush (-6), 2) := by decide +kernel
theorem dX12_renumber_146 : decode cX12_renumber 146 = .ok (.ireturn, 1) := by decide +kernel
theorem dX12_renumber_116 : decode cX12_renumber 116 = .ok (.aload_n 0, 1) := by decide +kernel
theorem dX12_renumber_117 : decode cX12_renumber 117 = .ok (.getfield 10, 3) := by decide +kernel
theorem dX12_renumber_120 : decode cX12_renumber 120 = .ok (.iconst 5, 1) := by decide +kernel
theorem dX12_renumber_121 : decode cX12_renumber 121 = .ok (.iaload, 1) := by decide +kernel
theorem dX12_renumber_122 : decode cX12_renumber 122 = .ok (.sipush 200, 3) := by decide +kernel
theorem dX12_renumber_125 : decode cX12_renumber 125 = .ok (.if_icmp .eq 19, 3) := by decide +kernel
theorem dX12_renumber_128 : decode cX12_renumber 128 = .ok (.aload_n 0, 1) := by decide +kernel
theorem dX12_renumber_129 : decode cX12_renumber 129 = .ok (.getfield 10, 3) := by decide +kernel
theorem dX12_renumber_132 : decode cX12_renumber 132 = .ok (.bipush 6, 2) := by decide +kernel
theorem dX12_renumber_134 : decode cX12_renumber 134 = .ok (.iaload, 1) := by decide +kernel
theorem dX12_renumber_135 : decode cX12_renumber 135 = .ok (.iload 4, 2) := by decide +kernel
theorem dX12_renumber_137 : decode cX12_renumber 137 = .ok (.iadd, 1) := by decide +kernel
theorem dX12_renumber_138 : decode cX12_renumber 138 = .ok (.sipush 3000, 3) := by decide +kernel
theorem dX12_renumber_141 : decode cX12_renumber 141 = .ok (.if_icmp .le 6, 3) := by decide +kernel
theorem dX12_renumber_107 : decode cX12_renumber 107 = .ok (.iadd, 1) := by decide +kernel
theorem dX12_renumber_108 : decode cX12_renumber 108 = .ok (.istore 4, 2) := by decide +kernel
theorem dX12_renumber_110 : decode cX12_renumber 110 = .ok (.iinc 5 1, 3) := by decide +kernel
theorem dX12_renumber_113 : decode cX12_renumber 113 = .ok (.goto (-54), 3) := by decide +kernel
theorem dX12_renumber_106 : decode cX12_renumber 106 = .ok (.iconst 1, 1) := by decide +kernel
theorem dX12_renumber_59 : decode cX12_renumber 59 = .ok (.iload 5, 2) := by decide +kernel
theorem dX12_renumber_61 : decode cX12_renumber 61 = .ok (.aload_n 0, 1) := by decide +kernel
theorem dX12_renumber_62 : decode cX12_renumber 62 = .ok (.getfield 54, 3) := by decide +kernel
theorem dX12_renumber_65 : decode cX12_renumber 65 = .ok (.if_icmp .ge 51, 3) := by decide +kernel
theorem dX12_renumber_68 : decode cX12_renumber 68 = .ok (.iload 4, 2) := by decide +kernel
theorem dX12_renumber_70 : decode cX12_renumber 70 = .ok (.aload_n 0, 1) := by decide +kernel
theorem dX12_renumber_71 : decode cX12_renumber 71 = .ok (.aload_n 0, 1) := by decide +kernel
theorem dX12_renumber_72 : decode cX12_renumber 72 = .ok (.getfield 51, 3) := by decide +kernel
theorem dX12_renumber_75 : decode cX12_renumber 75 = .ok (.iload 5, 2) := by decide +kernel
theorem dX12_renumber_77 : decode cX12_renumber 77 = .ok (.iaload, 1) := by decide +kernel
theorem dX12_renumber_78 : decode cX12_renumber 78 = .ok (.iconst 2, 1) := by decide +kernel
theorem dX12_renumber_79 : decode cX12_renumber 79 = .ok (.idiv, 1) := by decide +kernel
theorem dX12_renumber_80 : decode cX12_renumber 80 = .ok (.aload_n 0, 1) := by decide +kernel
theorem dX12_renumber_81 : decode cX12_renumber 81 = .ok (.getfield 51, 3) := by decide +kernel
theorem dX12_renumber_84 : decode cX12_renumber 84 = .ok (.iload 5, 2) := by decide +kernel
theorem dX12_renumber_86 : decode cX12_renumber 86 = .ok (.iaload, 1) := by decide +kernel
theorem dX12_renumber_87 : decode cX12_renumber 87 = .ok (.iconst 2, 1) := by decide +kernel
theorem dX12_renumber_88 : decode cX12_renumber 88 = .ok (.irem, 1) := by decide +kernel
theorem dX12_renumber_89 : decode cX12_renumber 89 = .ok (.invokevirtual 203, 3) := by decide +kernel
theorem dX12_renumber_92 : decode cX12_renumber 92 = .ok (.aload_n 0, 1) := by decide +kernel
theorem dX12_renumber_93 : decode cX12_renumber 93 = .ok (.getfield 57, 3) := by decide +kernel
theorem dX12_renumber_96 : decode cX12_renumber 96 = .ok (.iload 5, 2) := by decide +kernel
theorem dX12_renumber_98 : decode cX12_renumber 98 = .ok (.iaload, 1) := by decide +kernel
theorem dX12_renumber_99 : decode cX12_renumber 99 = .ok (.if_icmp .ne 7, 3) := by decide +kernel
theorem dX12_renumber_102 : decode cX12_renumber 102 = .ok (.iconst 0, 1) := by decide +kernel
theorem dX12_renumber_103 : decode cX12_renumber 103 = .ok (.goto 4, 3) := by decide +kernel
theorem dX12_renumber_53 : decode cX12_renumber 53 = .ok (.iconst 0, 1) := by decide +kernel
theorem dX12_renumber_54 : decode cX12_renumber 54 = .ok (.istore 4, 2) := by decide +kernel
theorem dX12_renumber_56 : decode cX12_renumber 56 = .ok (.iconst 0, 1) := by decide +kernel
theorem dX12_renumber_57 : decode cX12_renumber 57 = .ok (.istore 5, 2) := by decide +kernel
theorem dX12_renumber_41 : decode cX12_renumber 41 = .ok (.aload_n 0, 1) := by decide +kernel
theorem dX12_renumber_42 : decode cX12_renumber 42 = .ok (.iload_n 1, 1) := by decide +kernel
theorem dX12_renumber_43 : decode cX12_renumber 43 = .ok (.iload_n 2, 1) := by decide +kernel
theorem dX12_renumber_44 : decode cX12_renumber 44 = .ok (.invokevirtual 266, 3) := by decide +kernel
theorem dX12_renumber_47 : decode cX12_renumber 47 = .ok (.ifCond .ne 6, 3) := by decide +kernel
theorem dX12_renumber_50 : decode cX12_renumber 50 = .ok (.bipush (-4), 2) := by decide +kernel
theorem dX12_renumber_52 : decode cX12_renumber 52 = .ok (.ireturn, 1) := by decide +kernel
theorem dX12_renumber_29 : decode cX12_renumber 29 = .ok (.aload_n 0, 1) := by decide +kernel
theorem dX12_renumber_30 : decode cX12_renumber 30 = .ok (.iload_n 1, 1) := by decide +kernel
theorem dX12_renumber_31 : decode cX12_renumber 31 = .ok (.iload_n 3, 1) := by decide +kernel
theorem dX12_renumber_32 : decode cX12_renumber 32 = .ok (.invokevirtual 164, 3) := by decide +kernel
theorem dX12_renumber_35 : decode cX12_renumber 35 = .ok (.ifCond .eq 6, 3) := by decide +kernel
theorem dX12_renumber_38 : decode cX12_renumber 38 = .ok (.bipush (-3), 2) := by decide +kernel
theorem dX12_renumber_40 : decode cX12_renumber 40 = .ok (.ireturn, 1) := by decide +kernel
theorem dX12_renumber_26 : decode cX12_renumber 26 = .ok (.bipush (-2), 2) := by decide +kernel
theorem dX12_renumber_28 : decode cX12_renumber 28 = .ok (.ireturn, 1) := by decide +kernel
theorem dX12_renumber_10 : decode cX12_renumber 10 = .ok (.iload_n 2, 1) := by decide +kernel
theorem dX12_renumber_11 : decode cX12_renumber 11 = .ok (.ifCond .lt 15, 3) := by decide +kernel
theorem dX12_renumber_14 : decode cX12_renumber 14 = .ok (.iload_n 2, 1) := by decide +kernel
theorem dX12_renumber_15 : decode cX12_renumber 15 = .ok (.iconst 3, 1) := by decide +kernel
theorem dX12_renumber_16 : decode cX12_renumber 16 = .ok (.if_icmp .gt 10, 3) := by decide +kernel
theorem dX12_renumber_19 : decode cX12_renumber 19 = .ok (.iload_n 3, 1) := by decide +kernel
theorem dX12_renumber_20 : decode cX12_renumber 20 = .ok (.invokestatic 95, 3) := by decide +kernel
theorem dX12_renumber_23 : decode cX12_renumber 23 = .ok (.ifCond .ne 6, 3) := by decide +kernel
theorem dX12_renumber_0 : decode cX12_renumber 0 = .ok (.aload_n 0, 1) := by decide +kernel
theorem dX12_renumber_1 : decode cX12_renumber 1 = .ok (.iload_n 1, 1) := by decide +kernel
theorem dX12_renumber_2 : decode cX12_renumber 2 = .ok (.invokevirtual 161, 3) := by decide +kernel
theorem dX12_renumber_5 : decode cX12_renumber 5 = .ok (.ifCond .ne 5, 3) := by decide +kernel
theorem dX12_renumber_8 : decode cX12_renumber 8 = .ok (.iconst (-1), 1) := by decide +kernel
theorem dX12_renumber_9 : decode cX12_renumber 9 = .ok (.ireturn, 1) := by decide +kernel
theorem dX12_row_116 : decode cX12_row 116 = .ok (.aload_n 0, 1) := by decide +kernel
theorem dX12_row_117 : decode cX12_row 117 = .ok (.getfield 33, 3) := by decide +kernel
theorem dX12_row_120 : decode cX12_row 120 = .ok (.iconst 2, 1) := by decide +kernel
theorem dX12_row_121 : decode cX12_row 121 = .ok (.idiv, 1) := by decide +kernel
theorem dX12_row_122 : decode cX12_row 122 = .ok (.ireturn, 1) := by decide +kernel
theorem dX12_row_65 : decode cX12_row 65 = .ok (.iload 4, 2) := by decide +kernel
theorem dX12_row_67 : decode cX12_row 67 = .ok (.aload_n 0, 1) := by decide +kernel
theorem dX12_row_68 : decode cX12_row 68 = .ok (.getfield 33, 3) := by decide +kernel
theorem dX12_row_71 : decode cX12_row 71 = .ok (.iconst 2, 1) := by decide +kernel
theorem dX12_row_72 : decode cX12_row 72 = .ok (.idiv, 1) := by decide +kernel
theorem dX12_row_73 : decode cX12_row 73 = .ok (.if_icmp .ge 43, 3) := by decide +kernel
theorem dX12_row_76 : decode cX12_row 76 = .ok (.aload_n 0, 1) := by decide +kernel
theorem dX12_row_77 : decode cX12_row 77 = .ok (.getfield 10, 3) := by decide +kernel
theorem dX12_row_80 : decode cX12_row 80 = .ok (.iload_n 3, 1) := by decide +kernel
theorem dX12_row_81 : decode cX12_row 81 = .ok (.iconst 1, 1) := by decide +kernel
theorem dX12_row_82 : decode cX12_row 82 = .ok (.iadd, 1) := by decide +kernel
theorem dX12_row_83 : decode cX12_row 83 = .ok (.iload 4, 2) := by decide +kernel
theorem dX12_row_85 : decode cX12_row 85 = .ok (.iadd, 1) := by decide +kernel
theorem dX12_row_86 : decode cX12_row 86 = .ok (.aload_n 0, 1) := by decide +kernel
theorem dX12_row_87 : decode cX12_row 87 = .ok (.iconst 2, 1) := by decide +kernel
theorem dX12_row_88 : decode cX12_row 88 = .ok (.iload 4, 2) := by decide +kernel
theorem dX12_row_90 : decode cX12_row 90 = .ok (.imul, 1) := by decide +kernel
theorem dX12_row_91 : decode cX12_row 91 = .ok (.invokevirtual 106, 3) := by decide +kernel
theorem dX12_row_94 : decode cX12_row 94 = .ok (.sipush 256, 3) := by decide +kernel
theorem dX12_row_97 : decode cX12_row 97 = .ok (.imul, 1) := by decide +kernel
theorem dX12_row_98 : decode cX12_row 98 = .ok (.aload_n 0, 1) := by decide +kernel
theorem dX12_row_99 : decode cX12_row 99 = .ok (.iconst 2, 1) := by decide +kernel
theorem dX12_row_100 : decode cX12_row 100 = .ok (.iload 4, 2) := by decide +kernel
theorem dX12_row_102 : decode cX12_row 102 = .ok (.imul, 1) := by decide +kernel
theorem dX12_row_103 : decode cX12_row 103 = .ok (.iconst 1, 1) := by decide +kernel
theorem dX12_row_104 : decode cX12_row 104 = .ok (.iadd, 1) := by decide +kernel
theorem dX12_row_105 : decode cX12_row 105 = .ok (.invokevirtual 106, 3) := by decide +kernel
theorem dX12_row_108 : decode cX12_row 108 = .ok (.iadd, 1) := by decide +kernel
theorem dX12_row_109 : decode cX12_row 109 = .ok (.iastore, 1) := by decide +kernel
theorem dX12_row_110 : decode cX12_row 110 = .ok (.iinc 4 1, 3) := by decide +kernel
theorem dX12_row_113 : decode cX12_row 113 = .ok (.goto (-48), 3) := by decide +kernel
theorem dX12_row_36 : decode cX12_row 36 = .ok (.sipush 30632, 3) := by decide +kernel
theorem dX12_row_39 : decode cX12_row 39 = .ok (.sipush 601, 3) := by decide +kernel
theorem dX12_row_42 : decode cX12_row 42 = .ok (.iconst 2, 1) := by decide +kernel
theorem dX12_row_43 : decode cX12_row 43 = .ok (.iload_n 1, 1) := by decide +kernel
theorem dX12_row_44 : decode cX12_row 44 = .ok (.imul, 1) := by decide +kernel
theorem dX12_row_45 : decode cX12_row 45 = .ok (.iload_n 2, 1) := by decide +kernel
theorem dX12_row_46 : decode cX12_row 46 = .ok (.iadd, 1) := by decide +kernel
theorem dX12_row_47 : decode cX12_row 47 = .ok (.imul, 1) := by decide +kernel
theorem dX12_row_48 : decode cX12_row 48 = .ok (.iadd, 1) := by decide +kernel
theorem dX12_row_49 : decode cX12_row 49 = .ok (.istore_n 3, 1) := by decide +kernel
theorem dX12_row_50 : decode cX12_row 50 = .ok (.aload_n 0, 1) := by decide +kernel
theorem dX12_row_51 : decode cX12_row 51 = .ok (.getfield 10, 3) := by decide +kernel
theorem dX12_row_54 : decode cX12_row 54 = .ok (.iload_n 3, 1) := by decide +kernel
theorem dX12_row_55 : decode cX12_row 55 = .ok (.aload_n 0, 1) := by decide +kernel
theorem dX12_row_56 : decode cX12_row 56 = .ok (.getfield 33, 3) := by decide +kernel
theorem dX12_row_59 : decode cX12_row 59 = .ok (.iconst 2, 1) := by decide +kernel
theorem dX12_row_60 : decode cX12_row 60 = .ok (.idiv, 1) := by decide +kernel
theorem dX12_row_61 : decode cX12_row 61 = .ok (.iastore, 1) := by decide +kernel
theorem dX12_row_62 : decode cX12_row 62 = .ok (.iconst 0, 1) := by decide +kernel
theorem dX12_row_63 : decode cX12_row 63 = .ok (.istore 4, 2) := by decide +kernel
theorem dX12_row_33 : decode cX12_row 33 = .ok (.bipush (-2), 2) := by decide +kernel
theorem dX12_row_35 : decode cX12_row 35 = .ok (.ireturn, 1) := by decide +kernel
theorem dX12_row_14 : decode cX12_row 14 = .ok (.iload_n 2, 1) := by decide +kernel
theorem dX12_row_15 : decode cX12_row 15 = .ok (.ifCond .lt 18, 3) := by decide +kernel
theorem dX12_row_18 : decode cX12_row 18 = .ok (.iload_n 2, 1) := by decide +kernel
theorem dX12_row_19 : decode cX12_row 19 = .ok (.iconst 1, 1) := by decide +kernel
theorem dX12_row_20 : decode cX12_row 20 = .ok (.if_icmp .gt 13, 3) := by decide +kernel
theorem dX12_row_23 : decode cX12_row 23 = .ok (.aload_n 0, 1) := by decide +kernel
theorem dX12_row_24 : decode cX12_row 24 = .ok (.getfield 33, 3) := by decide +kernel
theorem dX12_row_27 : decode cX12_row 27 = .ok (.iconst 2, 1) := by decide +kernel
theorem dX12_row_28 : decode cX12_row 28 = .ok (.irem, 1) := by decide +kernel
theorem dX12_row_29 : decode cX12_row 29 = .ok (.iconst 1, 1) := by decide +kernel
theorem dX12_row_30 : decode cX12_row 30 = .ok (.if_icmp .ne 6, 3) := by decide +kernel
theorem dX12_row_0 : decode cX12_row 0 = .ok (.aload_n 0, 1) := by decide +kernel
theorem dX12_row_1 : decode cX12_row 1 = .ok (.invokevirtual 112, 3) := by decide +kernel
theorem dX12_row_4 : decode cX12_row 4 = .ok (.aload_n 0, 1) := by decide +kernel
theorem dX12_row_5 : decode cX12_row 5 = .ok (.iload_n 1, 1) := by decide +kernel
theorem dX12_row_6 : decode cX12_row 6 = .ok (.invokevirtual 161, 3) := by decide +kernel
theorem dX12_row_9 : decode cX12_row 9 = .ok (.ifCond .ne 5, 3) := by decide +kernel
theorem dX12_row_12 : decode cX12_row 12 = .ok (.iconst (-1), 1) := by decide +kernel
theorem dX12_row_13 : decode cX12_row 13 = .ok (.ireturn, 1) := by decide +kernel

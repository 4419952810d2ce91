theorem dX12_count_176 : decode cX12_count 176 = .ok (.iconst (-1), 1) := by decide +kernel
theorem dX12_count_177 : decode cX12_count 177 = .ok (.ireturn, 1) := by decide +kernel
theorem dX12_count_171 : decode cX12_count 171 = .ok (.aload_n 0, 1) := by decide +kernel
theorem dX12_count_172 : decode cX12_count 172 = .ok (.getfield 26, 3) := by decide +kernel
theorem dX12_count_175 : decode cX12_count 175 = .ok (.ireturn, 1) := by decide +kernel
theorem dX12_count_163 : decode cX12_count 163 = .ok (.aload_n 0, 1) := by decide +kernel
theorem dX12_count_164 : decode cX12_count 164 = .ok (.getfield 10, 3) := by decide +kernel
theorem dX12_count_167 : decode cX12_count 167 = .ok (.bipush 11, 2) := by decide +kernel
theorem dX12_count_169 : decode cX12_count 169 = .ok (.iaload, 1) := by decide +kernel
theorem dX12_count_170 : decode cX12_count 170 = .ok (.ireturn, 1) := by decide +kernel
theorem dX12_count_155 : decode cX12_count 155 = .ok (.aload_n 0, 1) := by decide +kernel
theorem dX12_count_156 : decode cX12_count 156 = .ok (.getfield 10, 3) := by decide +kernel
theorem dX12_count_159 : decode cX12_count 159 = .ok (.bipush 10, 2) := by decide +kernel
theorem dX12_count_161 : decode cX12_count 161 = .ok (.iaload, 1) := by decide +kernel
theorem dX12_count_162 : decode cX12_count 162 = .ok (.ireturn, 1) := by decide +kernel
theorem dX12_count_147 : decode cX12_count 147 = .ok (.aload_n 0, 1) := by decide +kernel
theorem dX12_count_148 : decode cX12_count 148 = .ok (.getfield 10, 3) := by decide +kernel
theorem dX12_count_151 : decode cX12_count 151 = .ok (.bipush 9, 2) := by decide +kernel
theorem dX12_count_153 : decode cX12_count 153 = .ok (.iaload, 1) := by decide +kernel
theorem dX12_count_154 : decode cX12_count 154 = .ok (.ireturn, 1) := by decide +kernel
theorem dX12_count_139 : decode cX12_count 139 = .ok (.aload_n 0, 1) := by decide +kernel
theorem dX12_count_140 : decode cX12_count 140 = .ok (.getfield 10, 3) := by decide +kernel
theorem dX12_count_143 : decode cX12_count 143 = .ok (.bipush 8, 2) := by decide +kernel
theorem dX12_count_145 : decode cX12_count 145 = .ok (.iaload, 1) := by decide +kernel
theorem dX12_count_146 : decode cX12_count 146 = .ok (.ireturn, 1) := by decide +kernel
theorem dX12_count_132 : decode cX12_count 132 = .ok (.aload_n 0, 1) := by decide +kernel
theorem dX12_count_133 : decode cX12_count 133 = .ok (.getfield 10, 3) := by decide +kernel
theorem dX12_count_136 : decode cX12_count 136 = .ok (.iconst 0, 1) := by decide +kernel
theorem dX12_count_137 : decode cX12_count 137 = .ok (.iaload, 1) := by decide +kernel
theorem dX12_count_138 : decode cX12_count 138 = .ok (.ireturn, 1) := by decide +kernel
theorem dX12_count_124 : decode cX12_count 124 = .ok (.aload_n 0, 1) := by decide +kernel
theorem dX12_count_125 : decode cX12_count 125 = .ok (.getfield 10, 3) := by decide +kernel
theorem dX12_count_128 : decode cX12_count 128 = .ok (.bipush 6, 2) := by decide +kernel
theorem dX12_count_130 : decode cX12_count 130 = .ok (.iaload, 1) := by decide +kernel
theorem dX12_count_131 : decode cX12_count 131 = .ok (.ireturn, 1) := by decide +kernel
theorem dX12_count_117 : decode cX12_count 117 = .ok (.aload_n 0, 1) := by decide +kernel
theorem dX12_count_118 : decode cX12_count 118 = .ok (.getfield 10, 3) := by decide +kernel
theorem dX12_count_121 : decode cX12_count 121 = .ok (.iconst 5, 1) := by decide +kernel
theorem dX12_count_122 : decode cX12_count 122 = .ok (.iaload, 1) := by decide +kernel
theorem dX12_count_123 : decode cX12_count 123 = .ok (.ireturn, 1) := by decide +kernel
theorem dX12_count_110 : decode cX12_count 110 = .ok (.aload_n 0, 1) := by decide +kernel
theorem dX12_count_111 : decode cX12_count 111 = .ok (.getfield 10, 3) := by decide +kernel
theorem dX12_count_114 : decode cX12_count 114 = .ok (.iconst 4, 1) := by decide +kernel
theorem dX12_count_115 : decode cX12_count 115 = .ok (.iaload, 1) := by decide +kernel
theorem dX12_count_116 : decode cX12_count 116 = .ok (.ireturn, 1) := by decide +kernel
theorem dX12_count_103 : decode cX12_count 103 = .ok (.aload_n 0, 1) := by decide +kernel
theorem dX12_count_104 : decode cX12_count 104 = .ok (.getfield 10, 3) := by decide +kernel
theorem dX12_count_107 : decode cX12_count 107 = .ok (.iconst 3, 1) := by decide +kernel
theorem dX12_count_108 : decode cX12_count 108 = .ok (.iaload, 1) := by decide +kernel
theorem dX12_count_109 : decode cX12_count 109 = .ok (.ireturn, 1) := by decide +kernel
theorem dX12_count_96 : decode cX12_count 96 = .ok (.aload_n 0, 1) := by decide +kernel
theorem dX12_count_97 : decode cX12_count 97 = .ok (.getfield 10, 3) := by decide +kernel
theorem dX12_count_100 : decode cX12_count 100 = .ok (.iconst 2, 1) := by decide +kernel
theorem dX12_count_101 : decode cX12_count 101 = .ok (.iaload, 1) := by decide +kernel
theorem dX12_count_102 : decode cX12_count 102 = .ok (.ireturn, 1) := by decide +kernel
theorem dX12_count_35 : decode cX12_count 35 = .ok (.iload_n 1, 1) := by decide +kernel
theorem dX12_count_36 : decode cX12_count 36 = .ok (.tableswitch 140 0 10 #[60, 67, 74, 81, 88, 96, 103, 111, 119, 127, 135], 60) := by decide +kernel
theorem dX12_count_34 : decode cX12_count 34 = .ok (.ireturn, 1) := by decide +kernel
theorem dX12_count_33 : decode cX12_count 33 = .ok (.iconst (-1), 1) := by decide +kernel
theorem dX12_count_0 : decode cX12_count 0 = .ok (.iload_n 1, 1) := by decide +kernel
theorem dX12_count_1 : decode cX12_count 1 = .ok (.bipush 100, 2) := by decide +kernel
theorem dX12_count_3 : decode cX12_count 3 = .ok (.if_icmp .lt 32, 3) := by decide +kernel
theorem dX12_count_6 : decode cX12_count 6 = .ok (.aload_n 0, 1) := by decide +kernel
theorem dX12_count_7 : decode cX12_count 7 = .ok (.iload_n 1, 1) := by decide +kernel
theorem dX12_count_8 : decode cX12_count 8 = .ok (.bipush 100, 2) := by decide +kernel
theorem dX12_count_10 : decode cX12_count 10 = .ok (.isub, 1) := by decide +kernel
theorem dX12_count_11 : decode cX12_count 11 = .ok (.invokevirtual 161, 3) := by decide +kernel
theorem dX12_count_14 : decode cX12_count 14 = .ok (.ifCond .eq 19, 3) := by decide +kernel
theorem dX12_count_17 : decode cX12_count 17 = .ok (.aload_n 0, 1) := by decide +kernel
theorem dX12_count_18 : decode cX12_count 18 = .ok (.getfield 10, 3) := by decide +kernel
theorem dX12_count_21 : decode cX12_count 21 = .ok (.sipush 7528, 3) := by decide +kernel
theorem dX12_count_24 : decode cX12_count 24 = .ok (.iload_n 1, 1) := by decide +kernel
theorem dX12_count_25 : decode cX12_count 25 = .ok (.iadd, 1) := by decide +kernel
theorem dX12_count_26 : decode cX12_count 26 = .ok (.bipush 100, 2) := by decide +kernel
theorem dX12_count_28 : decode cX12_count 28 = .ok (.isub, 1) := by decide +kernel
theorem dX12_count_29 : decode cX12_count 29 = .ok (.iaload, 1) := by decide +kernel
theorem dX12_count_30 : decode cX12_count 30 = .ok (.goto 4, 3) := by decide +kernel

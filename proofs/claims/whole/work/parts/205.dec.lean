theorem dX1_copyFrom_0 : decode cX1_copyFrom 0 = .ok (.aload_n 0, 1) := by decide +kernel
theorem dX1_copyFrom_1 : decode cX1_copyFrom 1 = .ok (.aload_n 1, 1) := by decide +kernel
theorem dX1_copyFrom_2 : decode cX1_copyFrom 2 = .ok (.getfield 9, 3) := by decide +kernel
theorem dX1_copyFrom_5 : decode cX1_copyFrom 5 = .ok (.putfield 9, 3) := by decide +kernel
theorem dX1_copyFrom_8 : decode cX1_copyFrom 8 = .ok (.aload_n 0, 1) := by decide +kernel
theorem dX1_copyFrom_9 : decode cX1_copyFrom 9 = .ok (.aload_n 1, 1) := by decide +kernel
theorem dX1_copyFrom_10 : decode cX1_copyFrom 10 = .ok (.getfield 15, 3) := by decide +kernel
theorem dX1_copyFrom_13 : decode cX1_copyFrom 13 = .ok (.putfield 15, 3) := by decide +kernel
theorem dX1_copyFrom_16 : decode cX1_copyFrom 16 = .ok (.aload_n 0, 1) := by decide +kernel
theorem dX1_copyFrom_17 : decode cX1_copyFrom 17 = .ok (.aload_n 1, 1) := by decide +kernel
theorem dX1_copyFrom_18 : decode cX1_copyFrom 18 = .ok (.getfield 55, 3) := by decide +kernel
theorem dX1_copyFrom_21 : decode cX1_copyFrom 21 = .ok (.putfield 55, 3) := by decide +kernel
theorem dX1_copyFrom_24 : decode cX1_copyFrom 24 = .ok (.aload_n 0, 1) := by decide +kernel
theorem dX1_copyFrom_25 : decode cX1_copyFrom 25 = .ok (.aload_n 1, 1) := by decide +kernel
theorem dX1_copyFrom_26 : decode cX1_copyFrom 26 = .ok (.getfield 58, 3) := by decide +kernel
theorem dX1_copyFrom_29 : decode cX1_copyFrom 29 = .ok (.putfield 58, 3) := by decide +kernel
theorem dX1_copyFrom_32 : decode cX1_copyFrom 32 = .ok (.aload_n 0, 1) := by decide +kernel
theorem dX1_copyFrom_33 : decode cX1_copyFrom 33 = .ok (.aload_n 1, 1) := by decide +kernel
theorem dX1_copyFrom_34 : decode cX1_copyFrom 34 = .ok (.getfield 61, 3) := by decide +kernel
theorem dX1_copyFrom_37 : decode cX1_copyFrom 37 = .ok (.putfield 61, 3) := by decide +kernel
theorem dX1_copyFrom_40 : decode cX1_copyFrom 40 = .ok (.aload_n 0, 1) := by decide +kernel
theorem dX1_copyFrom_41 : decode cX1_copyFrom 41 = .ok (.aload_n 1, 1) := by decide +kernel
theorem dX1_copyFrom_42 : decode cX1_copyFrom 42 = .ok (.getfield 64, 3) := by decide +kernel
theorem dX1_copyFrom_45 : decode cX1_copyFrom 45 = .ok (.putfield 64, 3) := by decide +kernel
theorem dX1_copyFrom_48 : decode cX1_copyFrom 48 = .ok (.aload_n 0, 1) := by decide +kernel
theorem dX1_copyFrom_49 : decode cX1_copyFrom 49 = .ok (.aload_n 1, 1) := by decide +kernel
theorem dX1_copyFrom_50 : decode cX1_copyFrom 50 = .ok (.getfield 67, 3) := by decide +kernel
theorem dX1_copyFrom_53 : decode cX1_copyFrom 53 = .ok (.putfield 67, 3) := by decide +kernel
theorem dX1_copyFrom_56 : decode cX1_copyFrom 56 = .ok (.aload_n 0, 1) := by decide +kernel
theorem dX1_copyFrom_57 : decode cX1_copyFrom 57 = .ok (.aload_n 1, 1) := by decide +kernel
theorem dX1_copyFrom_58 : decode cX1_copyFrom 58 = .ok (.getfield 70, 3) := by decide +kernel
theorem dX1_copyFrom_61 : decode cX1_copyFrom 61 = .ok (.putfield 70, 3) := by decide +kernel
theorem dX1_copyFrom_64 : decode cX1_copyFrom 64 = .ok (.aload_n 1, 1) := by decide +kernel
theorem dX1_copyFrom_65 : decode cX1_copyFrom 65 = .ok (.getfield 18, 3) := by decide +kernel
theorem dX1_copyFrom_68 : decode cX1_copyFrom 68 = .ok (.iconst 0, 1) := by decide +kernel
theorem dX1_copyFrom_69 : decode cX1_copyFrom 69 = .ok (.aload_n 0, 1) := by decide +kernel
theorem dX1_copyFrom_70 : decode cX1_copyFrom 70 = .ok (.getfield 18, 3) := by decide +kernel
theorem dX1_copyFrom_73 : decode cX1_copyFrom 73 = .ok (.iconst 0, 1) := by decide +kernel
theorem dX1_copyFrom_74 : decode cX1_copyFrom 74 = .ok (.aload_n 0, 1) := by decide +kernel
theorem dX1_copyFrom_75 : decode cX1_copyFrom 75 = .ok (.getfield 55, 3) := by decide +kernel
theorem dX1_copyFrom_78 : decode cX1_copyFrom 78 = .ok (.invokestatic 73, 3) := by decide +kernel
theorem dX1_copyFrom_81 : decode cX1_copyFrom 81 = .ok (.aload_n 1, 1) := by decide +kernel
theorem dX1_copyFrom_82 : decode cX1_copyFrom 82 = .ok (.getfield 22, 3) := by decide +kernel
theorem dX1_copyFrom_85 : decode cX1_copyFrom 85 = .ok (.iconst 0, 1) := by decide +kernel
theorem dX1_copyFrom_86 : decode cX1_copyFrom 86 = .ok (.aload_n 0, 1) := by decide +kernel
theorem dX1_copyFrom_87 : decode cX1_copyFrom 87 = .ok (.getfield 22, 3) := by decide +kernel
theorem dX1_copyFrom_90 : decode cX1_copyFrom 90 = .ok (.iconst 0, 1) := by decide +kernel
theorem dX1_copyFrom_91 : decode cX1_copyFrom 91 = .ok (.aload_n 0, 1) := by decide +kernel
theorem dX1_copyFrom_92 : decode cX1_copyFrom 92 = .ok (.getfield 55, 3) := by decide +kernel
theorem dX1_copyFrom_95 : decode cX1_copyFrom 95 = .ok (.invokestatic 73, 3) := by decide +kernel
theorem dX1_copyFrom_98 : decode cX1_copyFrom 98 = .ok (.aload_n 1, 1) := by decide +kernel
theorem dX1_copyFrom_99 : decode cX1_copyFrom 99 = .ok (.getfield 28, 3) := by decide +kernel
theorem dX1_copyFrom_102 : decode cX1_copyFrom 102 = .ok (.iconst 0, 1) := by decide +kernel
theorem dX1_copyFrom_103 : decode cX1_copyFrom 103 = .ok (.aload_n 0, 1) := by decide +kernel
theorem dX1_copyFrom_104 : decode cX1_copyFrom 104 = .ok (.getfield 28, 3) := by decide +kernel
theorem dX1_copyFrom_107 : decode cX1_copyFrom 107 = .ok (.iconst 0, 1) := by decide +kernel
theorem dX1_copyFrom_108 : decode cX1_copyFrom 108 = .ok (.aload_n 0, 1) := by decide +kernel
theorem dX1_copyFrom_109 : decode cX1_copyFrom 109 = .ok (.getfield 58, 3) := by decide +kernel
theorem dX1_copyFrom_112 : decode cX1_copyFrom 112 = .ok (.invokestatic 73, 3) := by decide +kernel
theorem dX1_copyFrom_115 : decode cX1_copyFrom 115 = .ok (.aload_n 1, 1) := by decide +kernel
theorem dX1_copyFrom_116 : decode cX1_copyFrom 116 = .ok (.getfield 31, 3) := by decide +kernel
theorem dX1_copyFrom_119 : decode cX1_copyFrom 119 = .ok (.iconst 0, 1) := by decide +kernel
theorem dX1_copyFrom_120 : decode cX1_copyFrom 120 = .ok (.aload_n 0, 1) := by decide +kernel
theorem dX1_copyFrom_121 : decode cX1_copyFrom 121 = .ok (.getfield 31, 3) := by decide +kernel
theorem dX1_copyFrom_124 : decode cX1_copyFrom 124 = .ok (.iconst 0, 1) := by decide +kernel
theorem dX1_copyFrom_125 : decode cX1_copyFrom 125 = .ok (.aload_n 0, 1) := by decide +kernel
theorem dX1_copyFrom_126 : decode cX1_copyFrom 126 = .ok (.getfield 58, 3) := by decide +kernel
theorem dX1_copyFrom_129 : decode cX1_copyFrom 129 = .ok (.invokestatic 73, 3) := by decide +kernel
theorem dX1_copyFrom_132 : decode cX1_copyFrom 132 = .ok (.aload_n 1, 1) := by decide +kernel
theorem dX1_copyFrom_133 : decode cX1_copyFrom 133 = .ok (.getfield 37, 3) := by decide +kernel
theorem dX1_copyFrom_136 : decode cX1_copyFrom 136 = .ok (.iconst 0, 1) := by decide +kernel
theorem dX1_copyFrom_137 : decode cX1_copyFrom 137 = .ok (.aload_n 0, 1) := by decide +kernel
theorem dX1_copyFrom_138 : decode cX1_copyFrom 138 = .ok (.getfield 37, 3) := by decide +kernel
theorem dX1_copyFrom_141 : decode cX1_copyFrom 141 = .ok (.iconst 0, 1) := by decide +kernel
theorem dX1_copyFrom_142 : decode cX1_copyFrom 142 = .ok (.aload_n 0, 1) := by decide +kernel
theorem dX1_copyFrom_143 : decode cX1_copyFrom 143 = .ok (.getfield 61, 3) := by decide +kernel
theorem dX1_copyFrom_146 : decode cX1_copyFrom 146 = .ok (.invokestatic 73, 3) := by decide +kernel
theorem dX1_copyFrom_149 : decode cX1_copyFrom 149 = .ok (.aload_n 1, 1) := by decide +kernel
theorem dX1_copyFrom_150 : decode cX1_copyFrom 150 = .ok (.getfield 40, 3) := by decide +kernel
theorem dX1_copyFrom_153 : decode cX1_copyFrom 153 = .ok (.iconst 0, 1) := by decide +kernel
theorem dX1_copyFrom_154 : decode cX1_copyFrom 154 = .ok (.aload_n 0, 1) := by decide +kernel
theorem dX1_copyFrom_155 : decode cX1_copyFrom 155 = .ok (.getfield 40, 3) := by decide +kernel
theorem dX1_copyFrom_158 : decode cX1_copyFrom 158 = .ok (.iconst 0, 1) := by decide +kernel
theorem dX1_copyFrom_159 : decode cX1_copyFrom 159 = .ok (.aload_n 0, 1) := by decide +kernel
theorem dX1_copyFrom_160 : decode cX1_copyFrom 160 = .ok (.getfield 61, 3) := by decide +kernel
theorem dX1_copyFrom_163 : decode cX1_copyFrom 163 = .ok (.invokestatic 73, 3) := by decide +kernel
theorem dX1_copyFrom_166 : decode cX1_copyFrom 166 = .ok (.aload_n 1, 1) := by decide +kernel
theorem dX1_copyFrom_167 : decode cX1_copyFrom 167 = .ok (.getfield 43, 3) := by decide +kernel
theorem dX1_copyFrom_170 : decode cX1_copyFrom 170 = .ok (.iconst 0, 1) := by decide +kernel
theorem dX1_copyFrom_171 : decode cX1_copyFrom 171 = .ok (.aload_n 0, 1) := by decide +kernel
theorem dX1_copyFrom_172 : decode cX1_copyFrom 172 = .ok (.getfield 43, 3) := by decide +kernel
theorem dX1_copyFrom_175 : decode cX1_copyFrom 175 = .ok (.iconst 0, 1) := by decide +kernel
theorem dX1_copyFrom_176 : decode cX1_copyFrom 176 = .ok (.aload_n 0, 1) := by decide +kernel
theorem dX1_copyFrom_177 : decode cX1_copyFrom 177 = .ok (.getfield 64, 3) := by decide +kernel
theorem dX1_copyFrom_180 : decode cX1_copyFrom 180 = .ok (.invokestatic 73, 3) := by decide +kernel
theorem dX1_copyFrom_183 : decode cX1_copyFrom 183 = .ok (.aload_n 1, 1) := by decide +kernel
theorem dX1_copyFrom_184 : decode cX1_copyFrom 184 = .ok (.getfield 46, 3) := by decide +kernel
theorem dX1_copyFrom_187 : decode cX1_copyFrom 187 = .ok (.iconst 0, 1) := by decide +kernel
theorem dX1_copyFrom_188 : decode cX1_copyFrom 188 = .ok (.aload_n 0, 1) := by decide +kernel
theorem dX1_copyFrom_189 : decode cX1_copyFrom 189 = .ok (.getfield 46, 3) := by decide +kernel
theorem dX1_copyFrom_192 : decode cX1_copyFrom 192 = .ok (.iconst 0, 1) := by decide +kernel
theorem dX1_copyFrom_193 : decode cX1_copyFrom 193 = .ok (.aload_n 0, 1) := by decide +kernel
theorem dX1_copyFrom_194 : decode cX1_copyFrom 194 = .ok (.getfield 67, 3) := by decide +kernel
theorem dX1_copyFrom_197 : decode cX1_copyFrom 197 = .ok (.invokestatic 73, 3) := by decide +kernel
theorem dX1_copyFrom_200 : decode cX1_copyFrom 200 = .ok (.aload_n 1, 1) := by decide +kernel
theorem dX1_copyFrom_201 : decode cX1_copyFrom 201 = .ok (.getfield 49, 3) := by decide +kernel
theorem dX1_copyFrom_204 : decode cX1_copyFrom 204 = .ok (.iconst 0, 1) := by decide +kernel
theorem dX1_copyFrom_205 : decode cX1_copyFrom 205 = .ok (.aload_n 0, 1) := by decide +kernel
theorem dX1_copyFrom_206 : decode cX1_copyFrom 206 = .ok (.getfield 49, 3) := by decide +kernel
theorem dX1_copyFrom_209 : decode cX1_copyFrom 209 = .ok (.iconst 0, 1) := by decide +kernel
theorem dX1_copyFrom_210 : decode cX1_copyFrom 210 = .ok (.aload_n 0, 1) := by decide +kernel
theorem dX1_copyFrom_211 : decode cX1_copyFrom 211 = .ok (.getfield 70, 3) := by decide +kernel
theorem dX1_copyFrom_214 : decode cX1_copyFrom 214 = .ok (.invokestatic 73, 3) := by decide +kernel
theorem dX1_copyFrom_217 : decode cX1_copyFrom 217 = .ok (.aload_n 1, 1) := by decide +kernel
theorem dX1_copyFrom_218 : decode cX1_copyFrom 218 = .ok (.getfield 52, 3) := by decide +kernel
theorem dX1_copyFrom_221 : decode cX1_copyFrom 221 = .ok (.iconst 0, 1) := by decide +kernel
theorem dX1_copyFrom_222 : decode cX1_copyFrom 222 = .ok (.aload_n 0, 1) := by decide +kernel
theorem dX1_copyFrom_223 : decode cX1_copyFrom 223 = .ok (.getfield 52, 3) := by decide +kernel
theorem dX1_copyFrom_226 : decode cX1_copyFrom 226 = .ok (.iconst 0, 1) := by decide +kernel
theorem dX1_copyFrom_227 : decode cX1_copyFrom 227 = .ok (.aload_n 0, 1) := by decide +kernel
theorem dX1_copyFrom_228 : decode cX1_copyFrom 228 = .ok (.getfield 70, 3) := by decide +kernel
theorem dX1_copyFrom_231 : decode cX1_copyFrom 231 = .ok (.invokestatic 73, 3) := by decide +kernel
theorem dX1_copyFrom_234 : decode cX1_copyFrom 234 = .ok (.return_, 1) := by decide +kernel
theorem dX5_copyFrom_0 : decode cX5_copyFrom 0 = .ok (.aload_n 0, 1) := by decide +kernel
theorem dX5_copyFrom_1 : decode cX5_copyFrom 1 = .ok (.getfield 12, 3) := by decide +kernel
theorem dX5_copyFrom_4 : decode cX5_copyFrom 4 = .ok (.aload_n 1, 1) := by decide +kernel
theorem dX5_copyFrom_5 : decode cX5_copyFrom 5 = .ok (.getfield 12, 3) := by decide +kernel
theorem dX5_copyFrom_8 : decode cX5_copyFrom 8 = .ok (.invokevirtual 60, 3) := by decide +kernel
theorem dX5_copyFrom_11 : decode cX5_copyFrom 11 = .ok (.aload_n 0, 1) := by decide +kernel
theorem dX5_copyFrom_12 : decode cX5_copyFrom 12 = .ok (.getfield 21, 3) := by decide +kernel
theorem dX5_copyFrom_15 : decode cX5_copyFrom 15 = .ok (.aload_n 1, 1) := by decide +kernel
theorem dX5_copyFrom_16 : decode cX5_copyFrom 16 = .ok (.getfield 21, 3) := by decide +kernel
theorem dX5_copyFrom_19 : decode cX5_copyFrom 19 = .ok (.invokevirtual 64, 3) := by decide +kernel
theorem dX5_copyFrom_22 : decode cX5_copyFrom 22 = .ok (.aload_n 0, 1) := by decide +kernel
theorem dX5_copyFrom_23 : decode cX5_copyFrom 23 = .ok (.getfield 28, 3) := by decide +kernel
theorem dX5_copyFrom_26 : decode cX5_copyFrom 26 = .ok (.aload_n 1, 1) := by decide +kernel
theorem dX5_copyFrom_27 : decode cX5_copyFrom 27 = .ok (.getfield 28, 3) := by decide +kernel
theorem dX5_copyFrom_30 : decode cX5_copyFrom 30 = .ok (.invokevirtual 67, 3) := by decide +kernel
theorem dX5_copyFrom_33 : decode cX5_copyFrom 33 = .ok (.aload_n 0, 1) := by decide +kernel
theorem dX5_copyFrom_34 : decode cX5_copyFrom 34 = .ok (.getfield 35, 3) := by decide +kernel
theorem dX5_copyFrom_37 : decode cX5_copyFrom 37 = .ok (.aload_n 1, 1) := by decide +kernel
theorem dX5_copyFrom_38 : decode cX5_copyFrom 38 = .ok (.getfield 35, 3) := by decide +kernel
theorem dX5_copyFrom_41 : decode cX5_copyFrom 41 = .ok (.invokevirtual 70, 3) := by decide +kernel
theorem dX5_copyFrom_44 : decode cX5_copyFrom 44 = .ok (.aload_n 0, 1) := by decide +kernel
theorem dX5_copyFrom_45 : decode cX5_copyFrom 45 = .ok (.getfield 42, 3) := by decide +kernel
theorem dX5_copyFrom_48 : decode cX5_copyFrom 48 = .ok (.aload_n 1, 1) := by decide +kernel
theorem dX5_copyFrom_49 : decode cX5_copyFrom 49 = .ok (.getfield 42, 3) := by decide +kernel
theorem dX5_copyFrom_52 : decode cX5_copyFrom 52 = .ok (.invokevirtual 73, 3) := by decide +kernel
theorem dX5_copyFrom_55 : decode cX5_copyFrom 55 = .ok (.aload_n 0, 1) := by decide +kernel
theorem dX5_copyFrom_56 : decode cX5_copyFrom 56 = .ok (.getfield 49, 3) := by decide +kernel
theorem dX5_copyFrom_59 : decode cX5_copyFrom 59 = .ok (.aload_n 1, 1) := by decide +kernel
theorem dX5_copyFrom_60 : decode cX5_copyFrom 60 = .ok (.getfield 49, 3) := by decide +kernel
theorem dX5_copyFrom_63 : decode cX5_copyFrom 63 = .ok (.invokevirtual 76, 3) := by decide +kernel
theorem dX5_copyFrom_66 : decode cX5_copyFrom 66 = .ok (.aload_n 0, 1) := by decide +kernel
theorem dX5_copyFrom_67 : decode cX5_copyFrom 67 = .ok (.getfield 56, 3) := by decide +kernel
theorem dX5_copyFrom_70 : decode cX5_copyFrom 70 = .ok (.aload_n 1, 1) := by decide +kernel
theorem dX5_copyFrom_71 : decode cX5_copyFrom 71 = .ok (.getfield 56, 3) := by decide +kernel
theorem dX5_copyFrom_74 : decode cX5_copyFrom 74 = .ok (.invokevirtual 79, 3) := by decide +kernel
theorem dX5_copyFrom_77 : decode cX5_copyFrom 77 = .ok (.return_, 1) := by decide +kernel
theorem dX11_image_33 : decode cX11_image 33 = .ok (.aload_n 0, 1) := by decide +kernel
theorem dX11_image_34 : decode cX11_image 34 = .ok (.getfield 26, 3) := by decide +kernel
theorem dX11_image_37 : decode cX11_image 37 = .ok (.iload_n 1, 1) := by decide +kernel
theorem dX11_image_38 : decode cX11_image 38 = .ok (.aaload, 1) := by decide +kernel
theorem dX11_image_39 : decode cX11_image 39 = .ok (.aload_n 0, 1) := by decide +kernel
theorem dX11_image_40 : decode cX11_image 40 = .ok (.getfield 22, 3) := by decide +kernel
theorem dX11_image_43 : decode cX11_image 43 = .ok (.invokevirtual 324, 3) := by decide +kernel
theorem dX11_image_46 : decode cX11_image 46 = .ok (.iconst 1, 1) := by decide +kernel
theorem dX11_image_47 : decode cX11_image 47 = .ok (.ireturn, 1) := by decide +kernel
theorem dX11_image_11 : decode cX11_image 11 = .ok (.aload_n 0, 1) := by decide +kernel
theorem dX11_image_12 : decode cX11_image 12 = .ok (.getfield 26, 3) := by decide +kernel
theorem dX11_image_15 : decode cX11_image 15 = .ok (.iload_n 1, 1) := by decide +kernel
theorem dX11_image_16 : decode cX11_image 16 = .ok (.aaload, 1) := by decide +kernel
theorem dX11_image_17 : decode cX11_image 17 = .ok (.ifnonnull 16, 3) := by decide +kernel
theorem dX11_image_20 : decode cX11_image 20 = .ok (.aload_n 0, 1) := by decide +kernel
theorem dX11_image_21 : decode cX11_image 21 = .ok (.getfield 26, 3) := by decide +kernel
theorem dX11_image_24 : decode cX11_image 24 = .ok (.iload_n 1, 1) := by decide +kernel
theorem dX11_image_25 : decode cX11_image 25 = .ok (.new 19, 3) := by decide +kernel
theorem dX11_image_28 : decode cX11_image 28 = .ok (.dup, 1) := by decide +kernel
theorem dX11_image_29 : decode cX11_image 29 = .ok (.invokespecial 21, 3) := by decide +kernel
theorem dX11_image_32 : decode cX11_image 32 = .ok (.aastore, 1) := by decide +kernel
theorem dX11_image_9 : decode cX11_image 9 = .ok (.iconst 0, 1) := by decide +kernel
theorem dX11_image_10 : decode cX11_image 10 = .ok (.ireturn, 1) := by decide +kernel
theorem dX11_image_0 : decode cX11_image 0 = .ok (.iload_n 1, 1) := by decide +kernel
theorem dX11_image_1 : decode cX11_image 1 = .ok (.ifCond .lt 8, 3) := by decide +kernel
theorem dX11_image_4 : decode cX11_image 4 = .ok (.iload_n 1, 1) := by decide +kernel
theorem dX11_image_5 : decode cX11_image 5 = .ok (.iconst 3, 1) := by decide +kernel
theorem dX11_image_6 : decode cX11_image 6 = .ok (.if_icmp .lt 5, 3) := by decide +kernel
theorem dX11_back_20 : decode cX11_back 20 = .ok (.aload_n 0, 1) := by decide +kernel
theorem dX11_back_21 : decode cX11_back 21 = .ok (.getfield 22, 3) := by decide +kernel
theorem dX11_back_24 : decode cX11_back 24 = .ok (.aload_n 0, 1) := by decide +kernel
theorem dX11_back_25 : decode cX11_back 25 = .ok (.getfield 26, 3) := by decide +kernel
theorem dX11_back_28 : decode cX11_back 28 = .ok (.iload_n 1, 1) := by decide +kernel
theorem dX11_back_29 : decode cX11_back 29 = .ok (.aaload, 1) := by decide +kernel
theorem dX11_back_30 : decode cX11_back 30 = .ok (.invokevirtual 324, 3) := by decide +kernel
theorem dX11_back_33 : decode cX11_back 33 = .ok (.iconst 1, 1) := by decide +kernel
theorem dX11_back_34 : decode cX11_back 34 = .ok (.ireturn, 1) := by decide +kernel
theorem dX11_back_18 : decode cX11_back 18 = .ok (.iconst 0, 1) := by decide +kernel
theorem dX11_back_19 : decode cX11_back 19 = .ok (.ireturn, 1) := by decide +kernel
theorem dX11_back_0 : decode cX11_back 0 = .ok (.iload_n 1, 1) := by decide +kernel
theorem dX11_back_1 : decode cX11_back 1 = .ok (.ifCond .lt 17, 3) := by decide +kernel
theorem dX11_back_4 : decode cX11_back 4 = .ok (.iload_n 1, 1) := by decide +kernel
theorem dX11_back_5 : decode cX11_back 5 = .ok (.iconst 3, 1) := by decide +kernel
theorem dX11_back_6 : decode cX11_back 6 = .ok (.if_icmp .ge 12, 3) := by decide +kernel
theorem dX11_back_9 : decode cX11_back 9 = .ok (.aload_n 0, 1) := by decide +kernel
theorem dX11_back_10 : decode cX11_back 10 = .ok (.getfield 26, 3) := by decide +kernel
theorem dX11_back_13 : decode cX11_back 13 = .ok (.iload_n 1, 1) := by decide +kernel
theorem dX11_back_14 : decode cX11_back 14 = .ok (.aaload, 1) := by decide +kernel
theorem dX11_back_15 : decode cX11_back 15 = .ok (.ifnonnull 5, 3) := by decide +kernel
theorem dX11_about_219 : decode cX11_about 219 = .ok (.iconst (-1), 1) := by decide +kernel
theorem dX11_about_220 : decode cX11_about 220 = .ok (.ireturn, 1) := by decide +kernel
theorem dX11_about_206 : decode cX11_about 206 = .ok (.aload_n 0, 1) := by decide +kernel
theorem dX11_about_207 : decode cX11_about 207 = .ok (.getfield 22, 3) := by decide +kernel
theorem dX11_about_210 : decode cX11_about 210 = .ok (.getfield 185, 3) := by decide +kernel
theorem dX11_about_213 : decode cX11_about 213 = .ok (.getfield 345, 3) := by decide +kernel
theorem dX11_about_216 : decode cX11_about 216 = .ok (.iload_n 1, 1) := by decide +kernel
theorem dX11_about_217 : decode cX11_about 217 = .ok (.iaload, 1) := by decide +kernel
theorem dX11_about_218 : decode cX11_about 218 = .ok (.ireturn, 1) := by decide +kernel
theorem dX11_about_193 : decode cX11_about 193 = .ok (.aload_n 0, 1) := by decide +kernel
theorem dX11_about_194 : decode cX11_about 194 = .ok (.getfield 22, 3) := by decide +kernel
theorem dX11_about_197 : decode cX11_about 197 = .ok (.getfield 185, 3) := by decide +kernel
theorem dX11_about_200 : decode cX11_about 200 = .ok (.getfield 342, 3) := by decide +kernel
theorem dX11_about_203 : decode cX11_about 203 = .ok (.iload_n 1, 1) := by decide +kernel
theorem dX11_about_204 : decode cX11_about 204 = .ok (.iaload, 1) := by decide +kernel
theorem dX11_about_205 : decode cX11_about 205 = .ok (.ireturn, 1) := by decide +kernel
theorem dX11_about_176 : decode cX11_about 176 = .ok (.aload_n 0, 1) := by decide +kernel
theorem dX11_about_177 : decode cX11_about 177 = .ok (.getfield 22, 3) := by decide +kernel
theorem dX11_about_180 : decode cX11_about 180 = .ok (.getfield 185, 3) := by decide +kernel
theorem dX11_about_183 : decode cX11_about 183 = .ok (.getfield 339, 3) := by decide +kernel
theorem dX11_about_186 : decode cX11_about 186 = .ok (.iconst 2, 1) := by decide +kernel
theorem dX11_about_187 : decode cX11_about 187 = .ok (.iload_n 1, 1) := by decide +kernel
theorem dX11_about_188 : decode cX11_about 188 = .ok (.imul, 1) := by decide +kernel
theorem dX11_about_189 : decode cX11_about 189 = .ok (.iconst 1, 1) := by decide +kernel
theorem dX11_about_190 : decode cX11_about 190 = .ok (.iadd, 1) := by decide +kernel
theorem dX11_about_191 : decode cX11_about 191 = .ok (.iaload, 1) := by decide +kernel
theorem dX11_about_192 : decode cX11_about 192 = .ok (.ireturn, 1) := by decide +kernel
theorem dX11_about_159 : decode cX11_about 159 = .ok (.aload_n 0, 1) := by decide +kernel
theorem dX11_about_160 : decode cX11_about 160 = .ok (.getfield 22, 3) := by decide +kernel
theorem dX11_about_163 : decode cX11_about 163 = .ok (.getfield 185, 3) := by decide +kernel
theorem dX11_about_166 : decode cX11_about 166 = .ok (.getfield 336, 3) := by decide +kernel
theorem dX11_about_169 : decode cX11_about 169 = .ok (.iconst 2, 1) := by decide +kernel
theorem dX11_about_170 : decode cX11_about 170 = .ok (.iload_n 1, 1) := by decide +kernel
theorem dX11_about_171 : decode cX11_about 171 = .ok (.imul, 1) := by decide +kernel
theorem dX11_about_172 : decode cX11_about 172 = .ok (.iconst 1, 1) := by decide +kernel
theorem dX11_about_173 : decode cX11_about 173 = .ok (.iadd, 1) := by decide +kernel
theorem dX11_about_174 : decode cX11_about 174 = .ok (.iaload, 1) := by decide +kernel
theorem dX11_about_175 : decode cX11_about 175 = .ok (.ireturn, 1) := by decide +kernel
theorem dX11_about_142 : decode cX11_about 142 = .ok (.aload_n 0, 1) := by decide +kernel
theorem dX11_about_143 : decode cX11_about 143 = .ok (.getfield 22, 3) := by decide +kernel
theorem dX11_about_146 : decode cX11_about 146 = .ok (.getfield 185, 3) := by decide +kernel
theorem dX11_about_149 : decode cX11_about 149 = .ok (.getfield 333, 3) := by decide +kernel
theorem dX11_about_152 : decode cX11_about 152 = .ok (.iconst 2, 1) := by decide +kernel
theorem dX11_about_153 : decode cX11_about 153 = .ok (.iload_n 1, 1) := by decide +kernel
theorem dX11_about_154 : decode cX11_about 154 = .ok (.imul, 1) := by decide +kernel
theorem dX11_about_155 : decode cX11_about 155 = .ok (.iconst 1, 1) := by decide +kernel
theorem dX11_about_156 : decode cX11_about 156 = .ok (.iadd, 1) := by decide +kernel
theorem dX11_about_157 : decode cX11_about 157 = .ok (.iaload, 1) := by decide +kernel
theorem dX11_about_158 : decode cX11_about 158 = .ok (.ireturn, 1) := by decide +kernel
theorem dX11_about_127 : decode cX11_about 127 = .ok (.aload_n 0, 1) := by decide +kernel
theorem dX11_about_128 : decode cX11_about 128 = .ok (.getfield 22, 3) := by decide +kernel
theorem dX11_about_131 : decode cX11_about 131 = .ok (.getfield 185, 3) := by decide +kernel
theorem dX11_about_134 : decode cX11_about 134 = .ok (.getfield 339, 3) := by decide +kernel
theorem dX11_about_137 : decode cX11_about 137 = .ok (.iconst 2, 1) := by decide +kernel
theorem dX11_about_138 : decode cX11_about 138 = .ok (.iload_n 1, 1) := by decide +kernel
theorem dX11_about_139 : decode cX11_about 139 = .ok (.imul, 1) := by decide +kernel
theorem dX11_about_140 : decode cX11_about 140 = .ok (.iaload, 1) := by decide +kernel
theorem dX11_about_141 : decode cX11_about 141 = .ok (.ireturn, 1) := by decide +kernel
theorem dX11_about_112 : decode cX11_about 112 = .ok (.aload_n 0, 1) := by decide +kernel
theorem dX11_about_113 : decode cX11_about 113 = .ok (.getfield 22, 3) := by decide +kernel
theorem dX11_about_116 : decode cX11_about 116 = .ok (.getfield 185, 3) := by decide +kernel
theorem dX11_about_119 : decode cX11_about 119 = .ok (.getfield 336, 3) := by decide +kernel
theorem dX11_about_122 : decode cX11_about 122 = .ok (.iconst 2, 1) := by decide +kernel
theorem dX11_about_123 : decode cX11_about 123 = .ok (.iload_n 1, 1) := by decide +kernel
theorem dX11_about_124 : decode cX11_about 124 = .ok (.imul, 1) := by decide +kernel
theorem dX11_about_125 : decode cX11_about 125 = .ok (.iaload, 1) := by decide +kernel
theorem dX11_about_126 : decode cX11_about 126 = .ok (.ireturn, 1) := by decide +kernel
theorem dX11_about_97 : decode cX11_about 97 = .ok (.aload_n 0, 1) := by decide +kernel
theorem dX11_about_98 : decode cX11_about 98 = .ok (.getfield 22, 3) := by decide +kernel
theorem dX11_about_101 : decode cX11_about 101 = .ok (.getfield 185, 3) := by decide +kernel
theorem dX11_about_104 : decode cX11_about 104 = .ok (.getfield 333, 3) := by decide +kernel
theorem dX11_about_107 : decode cX11_about 107 = .ok (.iconst 2, 1) := by decide +kernel
theorem dX11_about_108 : decode cX11_about 108 = .ok (.iload_n 1, 1) := by decide +kernel
theorem dX11_about_109 : decode cX11_about 109 = .ok (.imul, 1) := by decide +kernel
theorem dX11_about_110 : decode cX11_about 110 = .ok (.iaload, 1) := by decide +kernel
theorem dX11_about_111 : decode cX11_about 111 = .ok (.ireturn, 1) := by decide +kernel
theorem dX11_about_84 : decode cX11_about 84 = .ok (.aload_n 0, 1) := by decide +kernel
theorem dX11_about_85 : decode cX11_about 85 = .ok (.getfield 22, 3) := by decide +kernel
theorem dX11_about_88 : decode cX11_about 88 = .ok (.getfield 185, 3) := by decide +kernel
theorem dX11_about_91 : decode cX11_about 91 = .ok (.getfield 330, 3) := by decide +kernel
theorem dX11_about_94 : decode cX11_about 94 = .ok (.iload_n 1, 1) := by decide +kernel
theorem dX11_about_95 : decode cX11_about 95 = .ok (.iaload, 1) := by decide +kernel
theorem dX11_about_96 : decode cX11_about 96 = .ok (.ireturn, 1) := by decide +kernel
theorem dX11_about_72 : decode cX11_about 72 = .ok (.aload_n 0, 1) := by decide +kernel
theorem dX11_about_73 : decode cX11_about 73 = .ok (.getfield 22, 3) := by decide +kernel
theorem dX11_about_76 : decode cX11_about 76 = .ok (.getfield 185, 3) := by decide +kernel
theorem dX11_about_79 : decode cX11_about 79 = .ok (.iload_n 1, 1) := by decide +kernel
theorem dX11_about_80 : decode cX11_about 80 = .ok (.invokevirtual 214, 3) := by decide +kernel
theorem dX11_about_83 : decode cX11_about 83 = .ok (.ireturn, 1) := by decide +kernel
theorem dX11_about_16 : decode cX11_about 16 = .ok (.iload_n 2, 1) := by decide +kernel
theorem dX11_about_17 : decode cX11_about 17 = .ok (.tableswitch 202 0 9 #[55, 67, 80, 95, 110, 125, 142, 159, 176, 189], 55) := by decide +kernel
theorem dX11_about_0 : decode cX11_about 0 = .ok (.aload_n 0, 1) := by decide +kernel
theorem dX11_about_1 : decode cX11_about 1 = .ok (.getfield 22, 3) := by decide +kernel
theorem dX11_about_4 : decode cX11_about 4 = .ok (.getfield 185, 3) := by decide +kernel
theorem dX11_about_7 : decode cX11_about 7 = .ok (.iload_n 1, 1) := by decide +kernel
theorem dX11_about_8 : decode cX11_about 8 = .ok (.invokevirtual 327, 3) := by decide +kernel
theorem dX11_about_11 : decode cX11_about 11 = .ok (.ifCond .ne 5, 3) := by decide +kernel
theorem dX11_about_14 : decode cX11_about 14 = .ok (.iconst (-1), 1) := by decide +kernel
theorem dX11_about_15 : decode cX11_about 15 = .ok (.ireturn, 1) := by decide +kernel
theorem dX2_isThereOn_33 : decode cX2_isThereOn 33 = .ok (.ireturn, 1) := by decide +kernel
theorem dX2_isThereOn_32 : decode cX2_isThereOn 32 = .ok (.iconst 0, 1) := by decide +kernel
theorem dX2_isThereOn_0 : decode cX2_isThereOn 0 = .ok (.aload_n 0, 1) := by decide +kernel
theorem dX2_isThereOn_1 : decode cX2_isThereOn 1 = .ok (.iload_n 1, 1) := by decide +kernel
theorem dX2_isThereOn_2 : decode cX2_isThereOn 2 = .ok (.invokevirtual 52, 3) := by decide +kernel
theorem dX2_isThereOn_5 : decode cX2_isThereOn 5 = .ok (.ifCond .eq 27, 3) := by decide +kernel
theorem dX2_isThereOn_8 : decode cX2_isThereOn 8 = .ok (.aload_n 3, 1) := by decide +kernel
theorem dX2_isThereOn_9 : decode cX2_isThereOn 9 = .ok (.aload_n 0, 1) := by decide +kernel
theorem dX2_isThereOn_10 : decode cX2_isThereOn 10 = .ok (.getfield 24, 3) := by decide +kernel
theorem dX2_isThereOn_13 : decode cX2_isThereOn 13 = .ok (.iload_n 1, 1) := by decide +kernel
theorem dX2_isThereOn_14 : decode cX2_isThereOn 14 = .ok (.iaload, 1) := by decide +kernel
theorem dX2_isThereOn_15 : decode cX2_isThereOn 15 = .ok (.aload_n 0, 1) := by decide +kernel
theorem dX2_isThereOn_16 : decode cX2_isThereOn 16 = .ok (.getfield 27, 3) := by decide +kernel
theorem dX2_isThereOn_19 : decode cX2_isThereOn 19 = .ok (.iload_n 1, 1) := by decide +kernel
theorem dX2_isThereOn_20 : decode cX2_isThereOn 20 = .ok (.iaload, 1) := by decide +kernel
theorem dX2_isThereOn_21 : decode cX2_isThereOn 21 = .ok (.iload_n 2, 1) := by decide +kernel
theorem dX2_isThereOn_22 : decode cX2_isThereOn 22 = .ok (.invokevirtual 56, 3) := by decide +kernel
theorem dX2_isThereOn_25 : decode cX2_isThereOn 25 = .ok (.ifCond .eq 7, 3) := by decide +kernel
theorem dX2_isThereOn_28 : decode cX2_isThereOn 28 = .ok (.iconst 1, 1) := by decide +kernel
theorem dX2_isThereOn_29 : decode cX2_isThereOn 29 = .ok (.goto 4, 3) := by decide +kernel
theorem dX11_stands_34 : decode cX11_stands 34 = .ok (.ireturn, 1) := by decide +kernel
theorem dX11_stands_33 : decode cX11_stands 33 = .ok (.iconst 0, 1) := by decide +kernel
theorem dX11_stands_0 : decode cX11_stands 0 = .ok (.iload_n 2, 1) := by decide +kernel
theorem dX11_stands_1 : decode cX11_stands 1 = .ok (.invokestatic 69, 3) := by decide +kernel
theorem dX11_stands_4 : decode cX11_stands 4 = .ok (.ifCond .eq 29, 3) := by decide +kernel
theorem dX11_stands_7 : decode cX11_stands 7 = .ok (.aload_n 0, 1) := by decide +kernel
theorem dX11_stands_8 : decode cX11_stands 8 = .ok (.getfield 22, 3) := by decide +kernel
theorem dX11_stands_11 : decode cX11_stands 11 = .ok (.getfield 185, 3) := by decide +kernel
theorem dX11_stands_14 : decode cX11_stands 14 = .ok (.iload_n 1, 1) := by decide +kernel
theorem dX11_stands_15 : decode cX11_stands 15 = .ok (.iload_n 2, 1) := by decide +kernel
theorem dX11_stands_16 : decode cX11_stands 16 = .ok (.aload_n 0, 1) := by decide +kernel
theorem dX11_stands_17 : decode cX11_stands 17 = .ok (.getfield 22, 3) := by decide +kernel
theorem dX11_stands_20 : decode cX11_stands 20 = .ok (.getfield 73, 3) := by decide +kernel
theorem dX11_stands_23 : decode cX11_stands 23 = .ok (.invokevirtual 348, 3) := by decide +kernel
theorem dX11_stands_26 : decode cX11_stands 26 = .ok (.ifCond .eq 7, 3) := by decide +kernel
theorem dX11_stands_29 : decode cX11_stands 29 = .ok (.iconst 1, 1) := by decide +kernel
theorem dX11_stands_30 : decode cX11_stands 30 = .ok (.goto 4, 3) := by decide +kernel
theorem dX4_holding_54 : decode cX4_holding 54 = .ok (.iconst (-1), 1) := by decide +kernel
theorem dX4_holding_55 : decode cX4_holding 55 = .ok (.ireturn, 1) := by decide +kernel
theorem dX4_holding_48 : decode cX4_holding 48 = .ok (.iinc 4 1, 3) := by decide +kernel
theorem dX4_holding_51 : decode cX4_holding 51 = .ok (.goto (-48), 3) := by decide +kernel
theorem dX4_holding_3 : decode cX4_holding 3 = .ok (.iload 4, 2) := by decide +kernel
theorem dX4_holding_5 : decode cX4_holding 5 = .ok (.aload_n 0, 1) := by decide +kernel
theorem dX4_holding_6 : decode cX4_holding 6 = .ok (.getfield 24, 3) := by decide +kernel
theorem dX4_holding_9 : decode cX4_holding 9 = .ok (.if_icmp .ge 45, 3) := by decide +kernel
theorem dX4_holding_12 : decode cX4_holding 12 = .ok (.aload_n 0, 1) := by decide +kernel
theorem dX4_holding_13 : decode cX4_holding 13 = .ok (.getfield 9, 3) := by decide +kernel
theorem dX4_holding_16 : decode cX4_holding 16 = .ok (.iload 4, 2) := by decide +kernel
theorem dX4_holding_18 : decode cX4_holding 18 = .ok (.iaload, 1) := by decide +kernel
theorem dX4_holding_19 : decode cX4_holding 19 = .ok (.iload_n 1, 1) := by decide +kernel
theorem dX4_holding_20 : decode cX4_holding 20 = .ok (.if_icmp .ne 28, 3) := by decide +kernel
theorem dX4_holding_23 : decode cX4_holding 23 = .ok (.aload_n 3, 1) := by decide +kernel
theorem dX4_holding_24 : decode cX4_holding 24 = .ok (.aload_n 0, 1) := by decide +kernel
theorem dX4_holding_25 : decode cX4_holding 25 = .ok (.getfield 18, 3) := by decide +kernel
theorem dX4_holding_28 : decode cX4_holding 28 = .ok (.iload 4, 2) := by decide +kernel
theorem dX4_holding_30 : decode cX4_holding 30 = .ok (.iaload, 1) := by decide +kernel
theorem dX4_holding_31 : decode cX4_holding 31 = .ok (.aload_n 0, 1) := by decide +kernel
theorem dX4_holding_32 : decode cX4_holding 32 = .ok (.getfield 21, 3) := by decide +kernel
theorem dX4_holding_35 : decode cX4_holding 35 = .ok (.iload 4, 2) := by decide +kernel
theorem dX4_holding_37 : decode cX4_holding 37 = .ok (.iaload, 1) := by decide +kernel
theorem dX4_holding_38 : decode cX4_holding 38 = .ok (.iload_n 2, 1) := by decide +kernel
theorem dX4_holding_39 : decode cX4_holding 39 = .ok (.invokevirtual 34, 3) := by decide +kernel
theorem dX4_holding_42 : decode cX4_holding 42 = .ok (.ifCond .eq 6, 3) := by decide +kernel
theorem dX4_holding_45 : decode cX4_holding 45 = .ok (.iload 4, 2) := by decide +kernel
theorem dX4_holding_47 : decode cX4_holding 47 = .ok (.ireturn, 1) := by decide +kernel
theorem dX4_holding_0 : decode cX4_holding 0 = .ok (.iconst 0, 1) := by decide +kernel
theorem dX4_holding_1 : decode cX4_holding 1 = .ok (.istore 4, 2) := by decide +kernel
theorem dX6_endOf_19 : decode cX6_endOf 19 = .ok (.ireturn, 1) := by decide +kernel
theorem dX6_endOf_17 : decode cX6_endOf 17 = .ok (.ldc 59, 2) := by decide +kernel
theorem dX6_endOf_0 : decode cX6_endOf 0 = .ok (.aload_n 0, 1) := by decide +kernel
theorem dX6_endOf_1 : decode cX6_endOf 1 = .ok (.iload_n 1, 1) := by decide +kernel
theorem dX6_endOf_2 : decode cX6_endOf 2 = .ok (.invokevirtual 60, 3) := by decide +kernel
theorem dX6_endOf_5 : decode cX6_endOf 5 = .ok (.ifCond .eq 12, 3) := by decide +kernel
theorem dX6_endOf_8 : decode cX6_endOf 8 = .ok (.aload_n 0, 1) := by decide +kernel
theorem dX6_endOf_9 : decode cX6_endOf 9 = .ok (.getfield 15, 3) := by decide +kernel
theorem dX6_endOf_12 : decode cX6_endOf 12 = .ok (.iload_n 1, 1) := by decide +kernel
theorem dX6_endOf_13 : decode cX6_endOf 13 = .ok (.iaload, 1) := by decide +kernel
theorem dX6_endOf_14 : decode cX6_endOf 14 = .ok (.goto 5, 3) := by decide +kernel
theorem dX11_number_182 : decode cX11_number 182 = .ok (.iconst (-1), 1) := by decide +kernel
theorem dX11_number_183 : decode cX11_number 183 = .ok (.ireturn, 1) := by decide +kernel
theorem dX11_number_181 : decode cX11_number 181 = .ok (.ireturn, 1) := by decide +kernel
theorem dX11_number_179 : decode cX11_number 179 = .ok (.iload 6, 2) := by decide +kernel
theorem dX11_number_142 : decode cX11_number 142 = .ok (.aload_n 0, 1) := by decide +kernel
theorem dX11_number_143 : decode cX11_number 143 = .ok (.getfield 22, 3) := by decide +kernel
theorem dX11_number_146 : decode cX11_number 146 = .ok (.getfield 73, 3) := by decide +kernel
theorem dX11_number_149 : decode cX11_number 149 = .ok (.aload_n 0, 1) := by decide +kernel
theorem dX11_number_150 : decode cX11_number 150 = .ok (.getfield 22, 3) := by decide +kernel
theorem dX11_number_153 : decode cX11_number 153 = .ok (.getfield 202, 3) := by decide +kernel
theorem dX11_number_156 : decode cX11_number 156 = .ok (.getfield 365, 3) := by decide +kernel
theorem dX11_number_159 : decode cX11_number 159 = .ok (.iload 5, 2) := by decide +kernel
theorem dX11_number_161 : decode cX11_number 161 = .ok (.iaload, 1) := by decide +kernel
theorem dX11_number_162 : decode cX11_number 162 = .ok (.invokevirtual 366, 3) := by decide +kernel
theorem dX11_number_165 : decode cX11_number 165 = .ok (.istore 6, 2) := by decide +kernel
theorem dX11_number_167 : decode cX11_number 167 = .ok (.iload 6, 2) := by decide +kernel
theorem dX11_number_169 : decode cX11_number 169 = .ok (.ldc_w 369, 3) := by decide +kernel
theorem dX11_number_172 : decode cX11_number 172 = .ok (.if_icmp .ne 7, 3) := by decide +kernel
theorem dX11_number_175 : decode cX11_number 175 = .ok (.iconst (-1), 1) := by decide +kernel
theorem dX11_number_176 : decode cX11_number 176 = .ok (.goto 5, 3) := by decide +kernel
theorem dX11_number_118 : decode cX11_number 118 = .ok (.aload_n 0, 1) := by decide +kernel
theorem dX11_number_119 : decode cX11_number 119 = .ok (.getfield 22, 3) := by decide +kernel
theorem dX11_number_122 : decode cX11_number 122 = .ok (.getfield 73, 3) := by decide +kernel
theorem dX11_number_125 : decode cX11_number 125 = .ok (.aload_n 0, 1) := by decide +kernel
theorem dX11_number_126 : decode cX11_number 126 = .ok (.getfield 22, 3) := by decide +kernel
theorem dX11_number_129 : decode cX11_number 129 = .ok (.getfield 202, 3) := by decide +kernel
theorem dX11_number_132 : decode cX11_number 132 = .ok (.getfield 359, 3) := by decide +kernel
theorem dX11_number_135 : decode cX11_number 135 = .ok (.iload 5, 2) := by decide +kernel
theorem dX11_number_137 : decode cX11_number 137 = .ok (.iaload, 1) := by decide +kernel
theorem dX11_number_138 : decode cX11_number 138 = .ok (.invokevirtual 362, 3) := by decide +kernel
theorem dX11_number_141 : decode cX11_number 141 = .ok (.ireturn, 1) := by decide +kernel
theorem dX11_number_104 : decode cX11_number 104 = .ok (.aload_n 0, 1) := by decide +kernel
theorem dX11_number_105 : decode cX11_number 105 = .ok (.getfield 22, 3) := by decide +kernel
theorem dX11_number_108 : decode cX11_number 108 = .ok (.getfield 202, 3) := by decide +kernel
theorem dX11_number_111 : decode cX11_number 111 = .ok (.getfield 356, 3) := by decide +kernel
theorem dX11_number_114 : decode cX11_number 114 = .ok (.iload 5, 2) := by decide +kernel
theorem dX11_number_116 : decode cX11_number 116 = .ok (.iaload, 1) := by decide +kernel
theorem dX11_number_117 : decode cX11_number 117 = .ok (.ireturn, 1) := by decide +kernel
theorem dX11_number_76 : decode cX11_number 76 = .ok (.iload 4, 2) := by decide +kernel
theorem dX11_number_78 : decode cX11_number 78 = .ok (.tableswitch 104 0 2 #[26, 40, 64], 26) := by decide +kernel
theorem dX11_number_32 : decode cX11_number 32 = .ok (.aload_n 0, 1) := by decide +kernel
theorem dX11_number_33 : decode cX11_number 33 = .ok (.getfield 22, 3) := by decide +kernel
theorem dX11_number_36 : decode cX11_number 36 = .ok (.getfield 202, 3) := by decide +kernel
theorem dX11_number_39 : decode cX11_number 39 = .ok (.iconst 2, 1) := by decide +kernel
theorem dX11_number_40 : decode cX11_number 40 = .ok (.aload_n 0, 1) := by decide +kernel
theorem dX11_number_41 : decode cX11_number 41 = .ok (.getfield 22, 3) := by decide +kernel
theorem dX11_number_44 : decode cX11_number 44 = .ok (.getfield 185, 3) := by decide +kernel
theorem dX11_number_47 : decode cX11_number 47 = .ok (.getfield 330, 3) := by decide +kernel
theorem dX11_number_50 : decode cX11_number 50 = .ok (.iload_n 1, 1) := by decide +kernel
theorem dX11_number_51 : decode cX11_number 51 = .ok (.iaload, 1) := by decide +kernel
theorem dX11_number_52 : decode cX11_number 52 = .ok (.imul, 1) := by decide +kernel
theorem dX11_number_53 : decode cX11_number 53 = .ok (.iload_n 2, 1) := by decide +kernel
theorem dX11_number_54 : decode cX11_number 54 = .ok (.iadd, 1) := by decide +kernel
theorem dX11_number_55 : decode cX11_number 55 = .ok (.iload_n 3, 1) := by decide +kernel
theorem dX11_number_56 : decode cX11_number 56 = .ok (.aload_n 0, 1) := by decide +kernel
theorem dX11_number_57 : decode cX11_number 57 = .ok (.getfield 22, 3) := by decide +kernel
theorem dX11_number_60 : decode cX11_number 60 = .ok (.getfield 73, 3) := by decide +kernel
theorem dX11_number_63 : decode cX11_number 63 = .ok (.invokevirtual 352, 3) := by decide +kernel
theorem dX11_number_66 : decode cX11_number 66 = .ok (.istore 5, 2) := by decide +kernel
theorem dX11_number_68 : decode cX11_number 68 = .ok (.iload 5, 2) := by decide +kernel
theorem dX11_number_70 : decode cX11_number 70 = .ok (.iconst (-1), 1) := by decide +kernel
theorem dX11_number_71 : decode cX11_number 71 = .ok (.if_icmp .ne 5, 3) := by decide +kernel
theorem dX11_number_74 : decode cX11_number 74 = .ok (.iconst (-1), 1) := by decide +kernel
theorem dX11_number_75 : decode cX11_number 75 = .ok (.ireturn, 1) := by decide +kernel
theorem dX11_number_30 : decode cX11_number 30 = .ok (.iconst (-1), 1) := by decide +kernel
theorem dX11_number_31 : decode cX11_number 31 = .ok (.ireturn, 1) := by decide +kernel
theorem dX11_number_0 : decode cX11_number 0 = .ok (.aload_n 0, 1) := by decide +kernel
theorem dX11_number_1 : decode cX11_number 1 = .ok (.getfield 22, 3) := by decide +kernel
theorem dX11_number_4 : decode cX11_number 4 = .ok (.getfield 185, 3) := by decide +kernel
theorem dX11_number_7 : decode cX11_number 7 = .ok (.iload_n 1, 1) := by decide +kernel
theorem dX11_number_8 : decode cX11_number 8 = .ok (.invokevirtual 327, 3) := by decide +kernel
theorem dX11_number_11 : decode cX11_number 11 = .ok (.ifCond .eq 19, 3) := by decide +kernel
theorem dX11_number_14 : decode cX11_number 14 = .ok (.iload_n 2, 1) := by decide +kernel
theorem dX11_number_15 : decode cX11_number 15 = .ok (.ifCond .lt 15, 3) := by decide +kernel
theorem dX11_number_18 : decode cX11_number 18 = .ok (.iload_n 2, 1) := by decide +kernel
theorem dX11_number_19 : decode cX11_number 19 = .ok (.iconst 1, 1) := by decide +kernel
theorem dX11_number_20 : decode cX11_number 20 = .ok (.if_icmp .gt 10, 3) := by decide +kernel
theorem dX11_number_23 : decode cX11_number 23 = .ok (.iload_n 3, 1) := by decide +kernel
theorem dX11_number_24 : decode cX11_number 24 = .ok (.invokestatic 69, 3) := by decide +kernel
theorem dX11_number_27 : decode cX11_number 27 = .ok (.ifCond .ne 5, 3) := by decide +kernel
theorem dX3_holding_54 : decode cX3_holding 54 = .ok (.iconst (-1), 1) := by decide +kernel
theorem dX3_holding_55 : decode cX3_holding 55 = .ok (.ireturn, 1) := by decide +kernel
theorem dX3_holding_48 : decode cX3_holding 48 = .ok (.iinc 4 1, 3) := by decide +kernel
theorem dX3_holding_51 : decode cX3_holding 51 = .ok (.goto (-48), 3) := by decide +kernel
theorem dX3_holding_3 : decode cX3_holding 3 = .ok (.iload 4, 2) := by decide +kernel
theorem dX3_holding_5 : decode cX3_holding 5 = .ok (.aload_n 0, 1) := by decide +kernel
theorem dX3_holding_6 : decode cX3_holding 6 = .ok (.getfield 28, 3) := by decide +kernel
theorem dX3_holding_9 : decode cX3_holding 9 = .ok (.if_icmp .ge 45, 3) := by decide +kernel
theorem dX3_holding_12 : decode cX3_holding 12 = .ok (.aload_n 0, 1) := by decide +kernel
theorem dX3_holding_13 : decode cX3_holding 13 = .ok (.getfield 9, 3) := by decide +kernel
theorem dX3_holding_16 : decode cX3_holding 16 = .ok (.iload 4, 2) := by decide +kernel
theorem dX3_holding_18 : decode cX3_holding 18 = .ok (.iaload, 1) := by decide +kernel
theorem dX3_holding_19 : decode cX3_holding 19 = .ok (.iload_n 1, 1) := by decide +kernel
theorem dX3_holding_20 : decode cX3_holding 20 = .ok (.if_icmp .ne 28, 3) := by decide +kernel
theorem dX3_holding_23 : decode cX3_holding 23 = .ok (.aload_n 3, 1) := by decide +kernel
theorem dX3_holding_24 : decode cX3_holding 24 = .ok (.aload_n 0, 1) := by decide +kernel
theorem dX3_holding_25 : decode cX3_holding 25 = .ok (.getfield 18, 3) := by decide +kernel
theorem dX3_holding_28 : decode cX3_holding 28 = .ok (.iload 4, 2) := by decide +kernel
theorem dX3_holding_30 : decode cX3_holding 30 = .ok (.iaload, 1) := by decide +kernel
theorem dX3_holding_31 : decode cX3_holding 31 = .ok (.aload_n 0, 1) := by decide +kernel
theorem dX3_holding_32 : decode cX3_holding 32 = .ok (.getfield 21, 3) := by decide +kernel
theorem dX3_holding_35 : decode cX3_holding 35 = .ok (.iload 4, 2) := by decide +kernel
theorem dX3_holding_37 : decode cX3_holding 37 = .ok (.iaload, 1) := by decide +kernel
theorem dX3_holding_38 : decode cX3_holding 38 = .ok (.iload_n 2, 1) := by decide +kernel
theorem dX3_holding_39 : decode cX3_holding 39 = .ok (.invokevirtual 42, 3) := by decide +kernel
theorem dX3_holding_42 : decode cX3_holding 42 = .ok (.ifCond .eq 6, 3) := by decide +kernel
theorem dX3_holding_45 : decode cX3_holding 45 = .ok (.iload 4, 2) := by decide +kernel
theorem dX3_holding_47 : decode cX3_holding 47 = .ok (.ireturn, 1) := by decide +kernel
theorem dX3_holding_0 : decode cX3_holding 0 = .ok (.iconst 0, 1) := by decide +kernel
theorem dX3_holding_1 : decode cX3_holding 1 = .ok (.istore 4, 2) := by decide +kernel
theorem dX0_putWord_58 : decode cX0_putWord 58 = .ok (.return_, 1) := by decide +kernel
theorem dX0_putWord_47 : decode cX0_putWord 47 = .ok (.lload 5, 2) := by decide +kernel
theorem dX0_putWord_49 : decode cX0_putWord 49 = .ok (.ldc2_w 44, 3) := by decide +kernel
theorem dX0_putWord_52 : decode cX0_putWord 52 = .ok (.ldiv, 1) := by decide +kernel
theorem dX0_putWord_53 : decode cX0_putWord 53 = .ok (.lstore 5, 2) := by decide +kernel
theorem dX0_putWord_55 : decode cX0_putWord 55 = .ok (.goto (-48), 3) := by decide +kernel
theorem dX0_putWord_7 : decode cX0_putWord 7 = .ok (.lload 5, 2) := by decide +kernel
theorem dX0_putWord_9 : decode cX0_putWord 9 = .ok (.lconst 0, 1) := by decide +kernel
theorem dX0_putWord_10 : decode cX0_putWord 10 = .ok (.lcmp, 1) := by decide +kernel
theorem dX0_putWord_11 : decode cX0_putWord 11 = .ok (.ifCond .le 47, 3) := by decide +kernel
theorem dX0_putWord_14 : decode cX0_putWord 14 = .ok (.lload_n 3, 1) := by decide +kernel
theorem dX0_putWord_15 : decode cX0_putWord 15 = .ok (.lload 5, 2) := by decide +kernel
theorem dX0_putWord_17 : decode cX0_putWord 17 = .ok (.ldiv, 1) := by decide +kernel
theorem dX0_putWord_18 : decode cX0_putWord 18 = .ok (.lstore 7, 2) := by decide +kernel
theorem dX0_putWord_20 : decode cX0_putWord 20 = .ok (.lload_n 3, 1) := by decide +kernel
theorem dX0_putWord_21 : decode cX0_putWord 21 = .ok (.lload 7, 2) := by decide +kernel
theorem dX0_putWord_23 : decode cX0_putWord 23 = .ok (.lload 5, 2) := by decide +kernel
theorem dX0_putWord_25 : decode cX0_putWord 25 = .ok (.lmul, 1) := by decide +kernel
theorem dX0_putWord_26 : decode cX0_putWord 26 = .ok (.lsub, 1) := by decide +kernel
theorem dX0_putWord_27 : decode cX0_putWord 27 = .ok (.lstore_n 3, 1) := by decide +kernel
theorem dX0_putWord_28 : decode cX0_putWord 28 = .ok (.lload 7, 2) := by decide +kernel
theorem dX0_putWord_30 : decode cX0_putWord 30 = .ok (.lconst 0, 1) := by decide +kernel
theorem dX0_putWord_31 : decode cX0_putWord 31 = .ok (.lcmp, 1) := by decide +kernel
theorem dX0_putWord_32 : decode cX0_putWord 32 = .ok (.ifCond .le 15, 3) := by decide +kernel
theorem dX0_putWord_35 : decode cX0_putWord 35 = .ok (.aload_n 0, 1) := by decide +kernel
theorem dX0_putWord_36 : decode cX0_putWord 36 = .ok (.bipush 97, 2) := by decide +kernel
theorem dX0_putWord_38 : decode cX0_putWord 38 = .ok (.lload 7, 2) := by decide +kernel
theorem dX0_putWord_40 : decode cX0_putWord 40 = .ok (.l2i, 1) := by decide +kernel
theorem dX0_putWord_41 : decode cX0_putWord 41 = .ok (.iadd, 1) := by decide +kernel
theorem dX0_putWord_42 : decode cX0_putWord 42 = .ok (.iconst 1, 1) := by decide +kernel
theorem dX0_putWord_43 : decode cX0_putWord 43 = .ok (.isub, 1) := by decide +kernel
theorem dX0_putWord_44 : decode cX0_putWord 44 = .ok (.invokevirtual 25, 3) := by decide +kernel
theorem dX0_putWord_0 : decode cX0_putWord 0 = .ok (.lload_n 1, 1) := by decide +kernel
theorem dX0_putWord_1 : decode cX0_putWord 1 = .ok (.lstore_n 3, 1) := by decide +kernel
theorem dX0_putWord_2 : decode cX0_putWord 2 = .ok (.ldc2_w 42, 3) := by decide +kernel
theorem dX0_putWord_5 : decode cX0_putWord 5 = .ok (.lstore 5, 2) := by decide +kernel
theorem dX0_putName_51 : decode cX0_putName 51 = .ok (.return_, 1) := by decide +kernel
theorem dX0_putName_38 : decode cX0_putName 38 = .ok (.aload_n 0, 1) := by decide +kernel
theorem dX0_putName_39 : decode cX0_putName 39 = .ok (.aload_n 1, 1) := by decide +kernel
theorem dX0_putName_40 : decode cX0_putName 40 = .ok (.iload_n 3, 1) := by decide +kernel
theorem dX0_putName_41 : decode cX0_putName 41 = .ok (.laload, 1) := by decide +kernel
theorem dX0_putName_42 : decode cX0_putName 42 = .ok (.invokevirtual 46, 3) := by decide +kernel
theorem dX0_putName_45 : decode cX0_putName 45 = .ok (.iinc 3 1, 3) := by decide +kernel
theorem dX0_putName_48 : decode cX0_putName 48 = .ok (.goto (-46), 3) := by decide +kernel
theorem dX0_putName_2 : decode cX0_putName 2 = .ok (.iload_n 3, 1) := by decide +kernel
theorem dX0_putName_3 : decode cX0_putName 3 = .ok (.ifCond .lt 48, 3) := by decide +kernel
theorem dX0_putName_6 : decode cX0_putName 6 = .ok (.iload_n 3, 1) := by decide +kernel
theorem dX0_putName_7 : decode cX0_putName 7 = .ok (.iload_n 2, 1) := by decide +kernel
theorem dX0_putName_8 : decode cX0_putName 8 = .ok (.iconst 3, 1) := by decide +kernel
theorem dX0_putName_9 : decode cX0_putName 9 = .ok (.iadd, 1) := by decide +kernel
theorem dX0_putName_10 : decode cX0_putName 10 = .ok (.if_icmp .ge 41, 3) := by decide +kernel
theorem dX0_putName_13 : decode cX0_putName 13 = .ok (.iload_n 3, 1) := by decide +kernel
theorem dX0_putName_14 : decode cX0_putName 14 = .ok (.aload_n 1, 1) := by decide +kernel
theorem dX0_putName_15 : decode cX0_putName 15 = .ok (.arraylength, 1) := by decide +kernel
theorem dX0_putName_16 : decode cX0_putName 16 = .ok (.if_icmp .ge 35, 3) := by decide +kernel
theorem dX0_putName_19 : decode cX0_putName 19 = .ok (.aload_n 1, 1) := by decide +kernel
theorem dX0_putName_20 : decode cX0_putName 20 = .ok (.iload_n 3, 1) := by decide +kernel
theorem dX0_putName_21 : decode cX0_putName 21 = .ok (.laload, 1) := by decide +kernel
theorem dX0_putName_22 : decode cX0_putName 22 = .ok (.lconst 0, 1) := by decide +kernel
theorem dX0_putName_23 : decode cX0_putName 23 = .ok (.lcmp, 1) := by decide +kernel
theorem dX0_putName_24 : decode cX0_putName 24 = .ok (.ifCond .eq 14, 3) := by decide +kernel
theorem dX0_putName_27 : decode cX0_putName 27 = .ok (.iload_n 3, 1) := by decide +kernel
theorem dX0_putName_28 : decode cX0_putName 28 = .ok (.iload_n 2, 1) := by decide +kernel
theorem dX0_putName_29 : decode cX0_putName 29 = .ok (.if_icmp .le 9, 3) := by decide +kernel
theorem dX0_putName_32 : decode cX0_putName 32 = .ok (.aload_n 0, 1) := by decide +kernel
theorem dX0_putName_33 : decode cX0_putName 33 = .ok (.bipush 32, 2) := by decide +kernel
theorem dX0_putName_35 : decode cX0_putName 35 = .ok (.invokevirtual 25, 3) := by decide +kernel
theorem dX0_putName_0 : decode cX0_putName 0 = .ok (.iload_n 2, 1) := by decide +kernel
theorem dX0_putName_1 : decode cX0_putName 1 = .ok (.istore_n 3, 1) := by decide +kernel
theorem dX0_putDecimal_34 : decode cX0_putDecimal 34 = .ok (.return_, 1) := by decide +kernel
theorem dX0_putDecimal_26 : decode cX0_putDecimal 26 = .ok (.iload_n 2, 1) := by decide +kernel
theorem dX0_putDecimal_27 : decode cX0_putDecimal 27 = .ok (.bipush 10, 2) := by decide +kernel
theorem dX0_putDecimal_29 : decode cX0_putDecimal 29 = .ok (.idiv, 1) := by decide +kernel
theorem dX0_putDecimal_30 : decode cX0_putDecimal 30 = .ok (.istore_n 2, 1) := by decide +kernel
theorem dX0_putDecimal_31 : decode cX0_putDecimal 31 = .ok (.goto (-27), 3) := by decide +kernel
theorem dX0_putDecimal_4 : decode cX0_putDecimal 4 = .ok (.iload_n 2, 1) := by decide +kernel
theorem dX0_putDecimal_5 : decode cX0_putDecimal 5 = .ok (.ifCond .le 29, 3) := by decide +kernel
theorem dX0_putDecimal_8 : decode cX0_putDecimal 8 = .ok (.iload_n 1, 1) := by decide +kernel
theorem dX0_putDecimal_9 : decode cX0_putDecimal 9 = .ok (.iload_n 2, 1) := by decide +kernel
theorem dX0_putDecimal_10 : decode cX0_putDecimal 10 = .ok (.if_icmp .lt 16, 3) := by decide +kernel
theorem dX0_putDecimal_13 : decode cX0_putDecimal 13 = .ok (.aload_n 0, 1) := by decide +kernel
theorem dX0_putDecimal_14 : decode cX0_putDecimal 14 = .ok (.bipush 48, 2) := by decide +kernel
theorem dX0_putDecimal_16 : decode cX0_putDecimal 16 = .ok (.iload_n 1, 1) := by decide +kernel
theorem dX0_putDecimal_17 : decode cX0_putDecimal 17 = .ok (.iload_n 2, 1) := by decide +kernel
theorem dX0_putDecimal_18 : decode cX0_putDecimal 18 = .ok (.idiv, 1) := by decide +kernel
theorem dX0_putDecimal_19 : decode cX0_putDecimal 19 = .ok (.bipush 10, 2) := by decide +kernel
theorem dX0_putDecimal_21 : decode cX0_putDecimal 21 = .ok (.irem, 1) := by decide +kernel
theorem dX0_putDecimal_22 : decode cX0_putDecimal 22 = .ok (.iadd, 1) := by decide +kernel
theorem dX0_putDecimal_23 : decode cX0_putDecimal 23 = .ok (.invokevirtual 25, 3) := by decide +kernel
theorem dX0_putDecimal_0 : decode cX0_putDecimal 0 = .ok (.sipush 1000, 3) := by decide +kernel
theorem dX0_putDecimal_3 : decode cX0_putDecimal 3 = .ok (.istore_n 2, 1) := by decide +kernel
theorem dX0_putWhole_42 : decode cX0_putWhole 42 = .ok (.return_, 1) := by decide +kernel
theorem dX0_putWhole_28 : decode cX0_putWhole 28 = .ok (.iload_n 2, 1) := by decide +kernel
theorem dX0_putWhole_29 : decode cX0_putWhole 29 = .ok (.ifCond .le 13, 3) := by decide +kernel
theorem dX0_putWhole_32 : decode cX0_putWhole 32 = .ok (.aload_n 0, 1) := by decide +kernel
theorem dX0_putWhole_33 : decode cX0_putWhole 33 = .ok (.bipush 97, 2) := by decide +kernel
theorem dX0_putWhole_35 : decode cX0_putWhole 35 = .ok (.iload_n 2, 1) := by decide +kernel
theorem dX0_putWhole_36 : decode cX0_putWhole 36 = .ok (.iadd, 1) := by decide +kernel
theorem dX0_putWhole_37 : decode cX0_putWhole 37 = .ok (.iconst 1, 1) := by decide +kernel
theorem dX0_putWhole_38 : decode cX0_putWhole 38 = .ok (.isub, 1) := by decide +kernel
theorem dX0_putWhole_39 : decode cX0_putWhole 39 = .ok (.invokevirtual 25, 3) := by decide +kernel
theorem dX0_putWhole_0 : decode cX0_putWhole 0 = .ok (.aload_n 0, 1) := by decide +kernel
theorem dX0_putWhole_1 : decode cX0_putWhole 1 = .ok (.iload_n 1, 1) := by decide +kernel
theorem dX0_putWhole_2 : decode cX0_putWhole 2 = .ok (.bipush 16, 2) := by decide +kernel
theorem dX0_putWhole_4 : decode cX0_putWhole 4 = .ok (.idiv, 1) := by decide +kernel
theorem dX0_putWhole_5 : decode cX0_putWhole 5 = .ok (.invokevirtual 39, 3) := by decide +kernel
theorem dX0_putWhole_8 : decode cX0_putWhole 8 = .ok (.iload_n 1, 1) := by decide +kernel
theorem dX0_putWhole_9 : decode cX0_putWhole 9 = .ok (.bipush 16, 2) := by decide +kernel
theorem dX0_putWhole_11 : decode cX0_putWhole 11 = .ok (.irem, 1) := by decide +kernel
theorem dX0_putWhole_12 : decode cX0_putWhole 12 = .ok (.istore_n 2, 1) := by decide +kernel
theorem dX0_putWhole_13 : decode cX0_putWhole 13 = .ok (.iload_n 2, 1) := by decide +kernel
theorem dX0_putWhole_14 : decode cX0_putWhole 14 = .ok (.bipush 9, 2) := by decide +kernel
theorem dX0_putWhole_16 : decode cX0_putWhole 16 = .ok (.if_icmp .ne 12, 3) := by decide +kernel
theorem dX0_putWhole_19 : decode cX0_putWhole 19 = .ok (.aload_n 0, 1) := by decide +kernel
theorem dX0_putWhole_20 : decode cX0_putWhole 20 = .ok (.bipush 43, 2) := by decide +kernel
theorem dX0_putWhole_22 : decode cX0_putWhole 22 = .ok (.invokevirtual 25, 3) := by decide +kernel
theorem dX0_putWhole_25 : decode cX0_putWhole 25 = .ok (.goto 17, 3) := by decide +kernel
theorem dJ0_coder_7d493_14 : decode cJ0_coder_7d493 14 = .ok (.ireturn, 1) := by decide +kernel
theorem dJ0_coder_7d493_13 : decode cJ0_coder_7d493 13 = .ok (.iconst 1, 1) := by decide +kernel
theorem dJ0_coder_7d493_0 : decode cJ0_coder_7d493 0 = .ok (.getstatic 38, 3) := by decide +kernel
theorem dJ0_coder_7d493_3 : decode cJ0_coder_7d493 3 = .ok (.ifCond .eq 10, 3) := by decide +kernel
theorem dJ0_coder_7d493_6 : decode cJ0_coder_7d493 6 = .ok (.aload_n 0, 1) := by decide +kernel
theorem dJ0_coder_7d493_7 : decode cJ0_coder_7d493 7 = .ok (.getfield 15, 3) := by decide +kernel
theorem dJ0_coder_7d493_10 : decode cJ0_coder_7d493 10 = .ok (.goto 4, 3) := by decide +kernel
theorem dJ0_length_8abf5_0 : decode cJ0_length_8abf5 0 = .ok (.aload_n 0, 1) := by decide +kernel
theorem dJ0_length_8abf5_1 : decode cJ0_length_8abf5 1 = .ok (.getfield 9, 3) := by decide +kernel
theorem dJ0_length_8abf5_4 : decode cJ0_length_8abf5 4 = .ok (.arraylength, 1) := by decide +kernel
theorem dJ0_length_8abf5_5 : decode cJ0_length_8abf5 5 = .ok (.aload_n 0, 1) := by decide +kernel
theorem dJ0_length_8abf5_6 : decode cJ0_length_8abf5 6 = .ok (.invokevirtual 335, 3) := by decide +kernel
theorem dJ0_length_8abf5_9 : decode cJ0_length_8abf5 9 = .ok (.ishr, 1) := by decide +kernel
theorem dJ0_length_8abf5_10 : decode cJ0_length_8abf5 10 = .ok (.ireturn, 1) := by decide +kernel
theorem dJ0_isLatin1_aae02_18 : decode cJ0_isLatin1_aae02 18 = .ok (.ireturn, 1) := by decide +kernel
theorem dJ0_isLatin1_aae02_17 : decode cJ0_isLatin1_aae02 17 = .ok (.iconst 0, 1) := by decide +kernel
theorem dJ0_isLatin1_aae02_0 : decode cJ0_isLatin1_aae02 0 = .ok (.getstatic 38, 3) := by decide +kernel
theorem dJ0_isLatin1_aae02_3 : decode cJ0_isLatin1_aae02 3 = .ok (.ifCond .eq 14, 3) := by decide +kernel
theorem dJ0_isLatin1_aae02_6 : decode cJ0_isLatin1_aae02 6 = .ok (.aload_n 0, 1) := by decide +kernel
theorem dJ0_isLatin1_aae02_7 : decode cJ0_isLatin1_aae02 7 = .ok (.getfield 15, 3) := by decide +kernel
theorem dJ0_isLatin1_aae02_10 : decode cJ0_isLatin1_aae02 10 = .ok (.ifCond .ne 7, 3) := by decide +kernel
theorem dJ0_isLatin1_aae02_13 : decode cJ0_isLatin1_aae02 13 = .ok (.iconst 1, 1) := by decide +kernel
theorem dJ0_isLatin1_aae02_14 : decode cJ0_isLatin1_aae02 14 = .ok (.goto 4, 3) := by decide +kernel
theorem dJ3_checkIndex_8e157_16 : decode cJ3_checkIndex_8e157 16 = .ok (.iload_n 0, 1) := by decide +kernel
theorem dJ3_checkIndex_8e157_17 : decode cJ3_checkIndex_8e157 17 = .ok (.ireturn, 1) := by decide +kernel
theorem dJ3_checkIndex_8e157_0 : decode cJ3_checkIndex_8e157 0 = .ok (.iload_n 0, 1) := by decide +kernel
theorem dJ3_checkIndex_8e157_1 : decode cJ3_checkIndex_8e157 1 = .ok (.ifCond .lt 8, 3) := by decide +kernel
theorem dJ3_checkIndex_8e157_4 : decode cJ3_checkIndex_8e157 4 = .ok (.iload_n 0, 1) := by decide +kernel
theorem dJ3_checkIndex_8e157_5 : decode cJ3_checkIndex_8e157 5 = .ok (.iload_n 1, 1) := by decide +kernel
theorem dJ3_checkIndex_8e157_6 : decode cJ3_checkIndex_8e157 6 = .ok (.if_icmp .lt 10, 3) := by decide +kernel
theorem dJ0_checkIndex_df160_0 : decode cJ0_checkIndex_df160 0 = .ok (.iload_n 0, 1) := by decide +kernel
theorem dJ0_checkIndex_df160_1 : decode cJ0_checkIndex_df160 1 = .ok (.iload_n 1, 1) := by decide +kernel
theorem dJ0_checkIndex_df160_2 : decode cJ0_checkIndex_df160 2 = .ok (.getstatic 1053, 3) := by decide +kernel
theorem dJ0_checkIndex_df160_5 : decode cJ0_checkIndex_df160 5 = .ok (.invokestatic 1059, 3) := by decide +kernel
theorem dJ0_checkIndex_df160_8 : decode cJ0_checkIndex_df160 8 = .ok (.pop, 1) := by decide +kernel
theorem dJ0_checkIndex_df160_9 : decode cJ0_checkIndex_df160 9 = .ok (.return_, 1) := by decide +kernel
theorem dJ1_charAt_3b067_0 : decode cJ1_charAt_3b067 0 = .ok (.iload_n 1, 1) := by decide +kernel
theorem dJ1_charAt_3b067_1 : decode cJ1_charAt_3b067 1 = .ok (.aload_n 0, 1) := by decide +kernel
theorem dJ1_charAt_3b067_2 : decode cJ1_charAt_3b067 2 = .ok (.arraylength, 1) := by decide +kernel
theorem dJ1_charAt_3b067_3 : decode cJ1_charAt_3b067 3 = .ok (.invokestatic 9, 3) := by decide +kernel
theorem dJ1_charAt_3b067_6 : decode cJ1_charAt_3b067 6 = .ok (.aload_n 0, 1) := by decide +kernel
theorem dJ1_charAt_3b067_7 : decode cJ1_charAt_3b067 7 = .ok (.iload_n 1, 1) := by decide +kernel
theorem dJ1_charAt_3b067_8 : decode cJ1_charAt_3b067 8 = .ok (.baload, 1) := by decide +kernel
theorem dJ1_charAt_3b067_9 : decode cJ1_charAt_3b067 9 = .ok (.sipush 255, 3) := by decide +kernel
theorem dJ1_charAt_3b067_12 : decode cJ1_charAt_3b067 12 = .ok (.iand, 1) := by decide +kernel
theorem dJ1_charAt_3b067_13 : decode cJ1_charAt_3b067 13 = .ok (.i2c, 1) := by decide +kernel
theorem dJ1_charAt_3b067_14 : decode cJ1_charAt_3b067 14 = .ok (.ireturn, 1) := by decide +kernel
theorem dJ0_charAt_5068e_0 : decode cJ0_charAt_5068e 0 = .ok (.aload_n 0, 1) := by decide +kernel
theorem dJ0_charAt_5068e_1 : decode cJ0_charAt_5068e 1 = .ok (.invokevirtual 492, 3) := by decide +kernel
theorem dJ0_charAt_5068e_4 : decode cJ0_charAt_5068e 4 = .ok (.ifCond .eq 12, 3) := by decide +kernel
theorem dJ0_charAt_5068e_7 : decode cJ0_charAt_5068e 7 = .ok (.aload_n 0, 1) := by decide +kernel
theorem dJ0_charAt_5068e_8 : decode cJ0_charAt_5068e 8 = .ok (.getfield 9, 3) := by decide +kernel
theorem dJ0_charAt_5068e_11 : decode cJ0_charAt_5068e 11 = .ok (.iload_n 1, 1) := by decide +kernel
theorem dJ0_charAt_5068e_12 : decode cJ0_charAt_5068e 12 = .ok (.invokestatic 495, 3) := by decide +kernel
theorem dJ0_charAt_5068e_15 : decode cJ0_charAt_5068e 15 = .ok (.ireturn, 1) := by decide +kernel
theorem dX0_putText_25 : decode cX0_putText 25 = .ok (.return_, 1) := by decide +kernel
theorem dX0_putText_2 : decode cX0_putText 2 = .ok (.iload_n 2, 1) := by decide +kernel
theorem dX0_putText_3 : decode cX0_putText 3 = .ok (.aload_n 1, 1) := by decide +kernel
theorem dX0_putText_4 : decode cX0_putText 4 = .ok (.invokevirtual 29, 3) := by decide +kernel
theorem dX0_putText_7 : decode cX0_putText 7 = .ok (.if_icmp .ge 18, 3) := by decide +kernel
theorem dX0_putText_10 : decode cX0_putText 10 = .ok (.aload_n 0, 1) := by decide +kernel
theorem dX0_putText_11 : decode cX0_putText 11 = .ok (.aload_n 1, 1) := by decide +kernel
theorem dX0_putText_12 : decode cX0_putText 12 = .ok (.iload_n 2, 1) := by decide +kernel
theorem dX0_putText_13 : decode cX0_putText 13 = .ok (.invokevirtual 35, 3) := by decide +kernel
theorem dX0_putText_16 : decode cX0_putText 16 = .ok (.invokevirtual 25, 3) := by decide +kernel
theorem dX0_putText_19 : decode cX0_putText 19 = .ok (.iinc 2 1, 3) := by decide +kernel
theorem dX0_putText_22 : decode cX0_putText 22 = .ok (.goto (-20), 3) := by decide +kernel
theorem dX0_putText_0 : decode cX0_putText 0 = .ok (.iconst 0, 1) := by decide +kernel
theorem dX0_putText_1 : decode cX0_putText 1 = .ok (.istore_n 2, 1) := by decide +kernel
theorem dX11_putExtra_113 : decode cX11_putExtra 113 = .ok (.return_, 1) := by decide +kernel
theorem dX11_putExtra_81 : decode cX11_putExtra 81 = .ok (.aload_n 0, 1) := by decide +kernel
theorem dX11_putExtra_82 : decode cX11_putExtra 82 = .ok (.getfield 16, 3) := by decide +kernel
theorem dX11_putExtra_85 : decode cX11_putExtra 85 = .ok (.ldc_w 576, 3) := by decide +kernel
theorem dX11_putExtra_88 : decode cX11_putExtra 88 = .ok (.invokevirtual 567, 3) := by decide +kernel
theorem dX11_putExtra_91 : decode cX11_putExtra 91 = .ok (.aload_n 0, 1) := by decide +kernel
theorem dX11_putExtra_92 : decode cX11_putExtra 92 = .ok (.getfield 16, 3) := by decide +kernel
theorem dX11_putExtra_95 : decode cX11_putExtra 95 = .ok (.aload_n 0, 1) := by decide +kernel
theorem dX11_putExtra_96 : decode cX11_putExtra 96 = .ok (.getfield 22, 3) := by decide +kernel
theorem dX11_putExtra_99 : decode cX11_putExtra 99 = .ok (.getfield 185, 3) := by decide +kernel
theorem dX11_putExtra_102 : decode cX11_putExtra 102 = .ok (.getfield 342, 3) := by decide +kernel
theorem dX11_putExtra_105 : decode cX11_putExtra 105 = .ok (.iload_n 1, 1) := by decide +kernel
theorem dX11_putExtra_106 : decode cX11_putExtra 106 = .ok (.iaload, 1) := by decide +kernel
theorem dX11_putExtra_107 : decode cX11_putExtra 107 = .ok (.invokevirtual 573, 3) := by decide +kernel
theorem dX11_putExtra_110 : decode cX11_putExtra 110 = .ok (.goto 3, 3) := by decide +kernel
theorem dX11_putExtra_49 : decode cX11_putExtra 49 = .ok (.aload_n 0, 1) := by decide +kernel
theorem dX11_putExtra_50 : decode cX11_putExtra 50 = .ok (.getfield 16, 3) := by decide +kernel
theorem dX11_putExtra_53 : decode cX11_putExtra 53 = .ok (.ldc_w 571, 3) := by decide +kernel
theorem dX11_putExtra_56 : decode cX11_putExtra 56 = .ok (.invokevirtual 567, 3) := by decide +kernel
theorem dX11_putExtra_59 : decode cX11_putExtra 59 = .ok (.aload_n 0, 1) := by decide +kernel
theorem dX11_putExtra_60 : decode cX11_putExtra 60 = .ok (.getfield 16, 3) := by decide +kernel
theorem dX11_putExtra_63 : decode cX11_putExtra 63 = .ok (.aload_n 0, 1) := by decide +kernel
theorem dX11_putExtra_64 : decode cX11_putExtra 64 = .ok (.getfield 22, 3) := by decide +kernel
theorem dX11_putExtra_67 : decode cX11_putExtra 67 = .ok (.getfield 185, 3) := by decide +kernel
theorem dX11_putExtra_70 : decode cX11_putExtra 70 = .ok (.getfield 342, 3) := by decide +kernel
theorem dX11_putExtra_73 : decode cX11_putExtra 73 = .ok (.iload_n 1, 1) := by decide +kernel
theorem dX11_putExtra_74 : decode cX11_putExtra 74 = .ok (.iaload, 1) := by decide +kernel
theorem dX11_putExtra_75 : decode cX11_putExtra 75 = .ok (.invokevirtual 573, 3) := by decide +kernel
theorem dX11_putExtra_78 : decode cX11_putExtra 78 = .ok (.goto 35, 3) := by decide +kernel
theorem dX11_putExtra_36 : decode cX11_putExtra 36 = .ok (.aload_n 0, 1) := by decide +kernel
theorem dX11_putExtra_37 : decode cX11_putExtra 37 = .ok (.getfield 16, 3) := by decide +kernel
theorem dX11_putExtra_40 : decode cX11_putExtra 40 = .ok (.ldc_w 565, 3) := by decide +kernel
theorem dX11_putExtra_43 : decode cX11_putExtra 43 = .ok (.invokevirtual 567, 3) := by decide +kernel
theorem dX11_putExtra_46 : decode cX11_putExtra 46 = .ok (.goto 67, 3) := by decide +kernel
theorem dX11_putExtra_0 : decode cX11_putExtra 0 = .ok (.aload_n 0, 1) := by decide +kernel
theorem dX11_putExtra_1 : decode cX11_putExtra 1 = .ok (.getfield 22, 3) := by decide +kernel
theorem dX11_putExtra_4 : decode cX11_putExtra 4 = .ok (.getfield 185, 3) := by decide +kernel
theorem dX11_putExtra_7 : decode cX11_putExtra 7 = .ok (.iload_n 1, 1) := by decide +kernel
theorem dX11_putExtra_8 : decode cX11_putExtra 8 = .ok (.invokevirtual 214, 3) := by decide +kernel
theorem dX11_putExtra_11 : decode cX11_putExtra 11 = .ok (.tableswitch 102 2 4 #[25, 38, 70], 25) := by decide +kernel
theorem dX11_write_124 : decode cX11_write 124 = .ok (.aload_n 0, 1) := by decide +kernel
theorem dX11_write_125 : decode cX11_write 125 = .ok (.getfield 16, 3) := by decide +kernel
theorem dX11_write_128 : decode cX11_write 128 = .ok (.iconst 0, 1) := by decide +kernel
theorem dX11_write_129 : decode cX11_write 129 = .ok (.putfield 58, 3) := by decide +kernel
theorem dX11_write_132 : decode cX11_write 132 = .ok (.aload_n 0, 1) := by decide +kernel
theorem dX11_write_133 : decode cX11_write 133 = .ok (.getfield 16, 3) := by decide +kernel
theorem dX11_write_136 : decode cX11_write 136 = .ok (.aload_n 0, 1) := by decide +kernel
theorem dX11_write_137 : decode cX11_write 137 = .ok (.getfield 22, 3) := by decide +kernel
theorem dX11_write_140 : decode cX11_write 140 = .ok (.getfield 117, 3) := by decide +kernel
theorem dX11_write_143 : decode cX11_write 143 = .ok (.getfield 374, 3) := by decide +kernel
theorem dX11_write_146 : decode cX11_write 146 = .ok (.iconst 3, 1) := by decide +kernel
theorem dX11_write_147 : decode cX11_write 147 = .ok (.iload 6, 2) := by decide +kernel
theorem dX11_write_149 : decode cX11_write 149 = .ok (.imul, 1) := by decide +kernel
theorem dX11_write_150 : decode cX11_write 150 = .ok (.invokevirtual 377, 3) := by decide +kernel
theorem dX11_write_153 : decode cX11_write 153 = .ok (.aload_n 0, 1) := by decide +kernel
theorem dX11_write_154 : decode cX11_write 154 = .ok (.getfield 16, 3) := by decide +kernel
theorem dX11_write_157 : decode cX11_write 157 = .ok (.bipush 32, 2) := by decide +kernel
theorem dX11_write_159 : decode cX11_write 159 = .ok (.invokevirtual 381, 3) := by decide +kernel
theorem dX11_write_162 : decode cX11_write 162 = .ok (.aload_n 0, 1) := by decide +kernel
theorem dX11_write_163 : decode cX11_write 163 = .ok (.getfield 16, 3) := by decide +kernel
theorem dX11_write_166 : decode cX11_write 166 = .ok (.aload_n 0, 1) := by decide +kernel
theorem dX11_write_167 : decode cX11_write 167 = .ok (.getfield 22, 3) := by decide +kernel
theorem dX11_write_170 : decode cX11_write 170 = .ok (.getfield 202, 3) := by decide +kernel
theorem dX11_write_173 : decode cX11_write 173 = .ok (.getfield 356, 3) := by decide +kernel
theorem dX11_write_176 : decode cX11_write 176 = .ok (.iload 5, 2) := by decide +kernel
theorem dX11_write_178 : decode cX11_write 178 = .ok (.iaload, 1) := by decide +kernel
theorem dX11_write_179 : decode cX11_write 179 = .ok (.invokevirtual 384, 3) := by decide +kernel
theorem dX11_write_182 : decode cX11_write 182 = .ok (.aload_n 0, 1) := by decide +kernel
theorem dX11_write_183 : decode cX11_write 183 = .ok (.iload_n 1, 1) := by decide +kernel
theorem dX11_write_184 : decode cX11_write 184 = .ok (.invokevirtual 387, 3) := by decide +kernel
theorem dX11_write_187 : decode cX11_write 187 = .ok (.aload_n 0, 1) := by decide +kernel
theorem dX11_write_188 : decode cX11_write 188 = .ok (.getfield 16, 3) := by decide +kernel
theorem dX11_write_191 : decode cX11_write 191 = .ok (.bipush 44, 2) := by decide +kernel
theorem dX11_write_193 : decode cX11_write 193 = .ok (.invokevirtual 381, 3) := by decide +kernel
theorem dX11_write_196 : decode cX11_write 196 = .ok (.aload_n 0, 1) := by decide +kernel
theorem dX11_write_197 : decode cX11_write 197 = .ok (.getfield 16, 3) := by decide +kernel
theorem dX11_write_200 : decode cX11_write 200 = .ok (.bipush 32, 2) := by decide +kernel
theorem dX11_write_202 : decode cX11_write 202 = .ok (.invokevirtual 381, 3) := by decide +kernel
theorem dX11_write_205 : decode cX11_write 205 = .ok (.aload_n 0, 1) := by decide +kernel
theorem dX11_write_206 : decode cX11_write 206 = .ok (.getfield 16, 3) := by decide +kernel
theorem dX11_write_209 : decode cX11_write 209 = .ok (.aload_n 0, 1) := by decide +kernel
theorem dX11_write_210 : decode cX11_write 210 = .ok (.getfield 22, 3) := by decide +kernel
theorem dX11_write_213 : decode cX11_write 213 = .ok (.getfield 89, 3) := by decide +kernel
theorem dX11_write_216 : decode cX11_write 216 = .ok (.getfield 390, 3) := by decide +kernel
theorem dX11_write_219 : decode cX11_write 219 = .ok (.iconst 3, 1) := by decide +kernel
theorem dX11_write_220 : decode cX11_write 220 = .ok (.aload_n 0, 1) := by decide +kernel
theorem dX11_write_221 : decode cX11_write 221 = .ok (.getfield 22, 3) := by decide +kernel
theorem dX11_write_224 : decode cX11_write 224 = .ok (.getfield 117, 3) := by decide +kernel
theorem dX11_write_227 : decode cX11_write 227 = .ok (.getfield 285, 3) := by decide +kernel
theorem dX11_write_230 : decode cX11_write 230 = .ok (.iload 6, 2) := by decide +kernel
theorem dX11_write_232 : decode cX11_write 232 = .ok (.iaload, 1) := by decide +kernel
theorem dX11_write_233 : decode cX11_write 233 = .ok (.imul, 1) := by decide +kernel
theorem dX11_write_234 : decode cX11_write 234 = .ok (.invokevirtual 377, 3) := by decide +kernel
theorem dX11_write_237 : decode cX11_write 237 = .ok (.aload_n 0, 1) := by decide +kernel
theorem dX11_write_238 : decode cX11_write 238 = .ok (.getfield 16, 3) := by decide +kernel
theorem dX11_write_241 : decode cX11_write 241 = .ok (.getfield 58, 3) := by decide +kernel
theorem dX11_write_244 : decode cX11_write 244 = .ok (.ireturn, 1) := by decide +kernel
theorem dX11_write_84 : decode cX11_write 84 = .ok (.aload_n 0, 1) := by decide +kernel
theorem dX11_write_85 : decode cX11_write 85 = .ok (.getfield 22, 3) := by decide +kernel
theorem dX11_write_88 : decode cX11_write 88 = .ok (.getfield 117, 3) := by decide +kernel
theorem dX11_write_91 : decode cX11_write 91 = .ok (.aload_n 0, 1) := by decide +kernel
theorem dX11_write_92 : decode cX11_write 92 = .ok (.getfield 22, 3) := by decide +kernel
theorem dX11_write_95 : decode cX11_write 95 = .ok (.getfield 185, 3) := by decide +kernel
theorem dX11_write_98 : decode cX11_write 98 = .ok (.iload 4, 2) := by decide +kernel
theorem dX11_write_100 : decode cX11_write 100 = .ok (.invokevirtual 217, 3) := by decide +kernel
theorem dX11_write_103 : decode cX11_write 103 = .ok (.iload_n 3, 1) := by decide +kernel
theorem dX11_write_104 : decode cX11_write 104 = .ok (.aload_n 0, 1) := by decide +kernel
theorem dX11_write_105 : decode cX11_write 105 = .ok (.getfield 22, 3) := by decide +kernel
theorem dX11_write_108 : decode cX11_write 108 = .ok (.getfield 73, 3) := by decide +kernel
theorem dX11_write_111 : decode cX11_write 111 = .ok (.invokevirtual 373, 3) := by decide +kernel
theorem dX11_write_114 : decode cX11_write 114 = .ok (.istore 6, 2) := by decide +kernel
theorem dX11_write_116 : decode cX11_write 116 = .ok (.iload 6, 2) := by decide +kernel
theorem dX11_write_118 : decode cX11_write 118 = .ok (.iconst (-1), 1) := by decide +kernel
theorem dX11_write_119 : decode cX11_write 119 = .ok (.if_icmp .ne 5, 3) := by decide +kernel
theorem dX11_write_122 : decode cX11_write 122 = .ok (.iconst (-1), 1) := by decide +kernel
theorem dX11_write_123 : decode cX11_write 123 = .ok (.ireturn, 1) := by decide +kernel
theorem dX11_write_82 : decode cX11_write 82 = .ok (.iconst (-1), 1) := by decide +kernel
theorem dX11_write_83 : decode cX11_write 83 = .ok (.ireturn, 1) := by decide +kernel
theorem dX11_write_20 : decode cX11_write 20 = .ok (.iconst 2, 1) := by decide +kernel
theorem dX11_write_21 : decode cX11_write 21 = .ok (.aload_n 0, 1) := by decide +kernel
theorem dX11_write_22 : decode cX11_write 22 = .ok (.getfield 22, 3) := by decide +kernel
theorem dX11_write_25 : decode cX11_write 25 = .ok (.getfield 185, 3) := by decide +kernel
theorem dX11_write_28 : decode cX11_write 28 = .ok (.getfield 330, 3) := by decide +kernel
theorem dX11_write_31 : decode cX11_write 31 = .ok (.iload_n 1, 1) := by decide +kernel
theorem dX11_write_32 : decode cX11_write 32 = .ok (.iaload, 1) := by decide +kernel
theorem dX11_write_33 : decode cX11_write 33 = .ok (.imul, 1) := by decide +kernel
theorem dX11_write_34 : decode cX11_write 34 = .ok (.iload_n 2, 1) := by decide +kernel
theorem dX11_write_35 : decode cX11_write 35 = .ok (.iadd, 1) := by decide +kernel
theorem dX11_write_36 : decode cX11_write 36 = .ok (.istore 4, 2) := by decide +kernel
theorem dX11_write_38 : decode cX11_write 38 = .ok (.aload_n 0, 1) := by decide +kernel
theorem dX11_write_39 : decode cX11_write 39 = .ok (.getfield 22, 3) := by decide +kernel
theorem dX11_write_42 : decode cX11_write 42 = .ok (.getfield 202, 3) := by decide +kernel
theorem dX11_write_45 : decode cX11_write 45 = .ok (.iload 4, 2) := by decide +kernel
theorem dX11_write_47 : decode cX11_write 47 = .ok (.iload_n 3, 1) := by decide +kernel
theorem dX11_write_48 : decode cX11_write 48 = .ok (.aload_n 0, 1) := by decide +kernel
theorem dX11_write_49 : decode cX11_write 49 = .ok (.getfield 22, 3) := by decide +kernel
theorem dX11_write_52 : decode cX11_write 52 = .ok (.getfield 73, 3) := by decide +kernel
theorem dX11_write_55 : decode cX11_write 55 = .ok (.invokevirtual 352, 3) := by decide +kernel
theorem dX11_write_58 : decode cX11_write 58 = .ok (.istore 5, 2) := by decide +kernel
theorem dX11_write_60 : decode cX11_write 60 = .ok (.iload 5, 2) := by decide +kernel
theorem dX11_write_62 : decode cX11_write 62 = .ok (.iconst (-1), 1) := by decide +kernel
theorem dX11_write_63 : decode cX11_write 63 = .ok (.if_icmp .eq 19, 3) := by decide +kernel
theorem dX11_write_66 : decode cX11_write 66 = .ok (.aload_n 0, 1) := by decide +kernel
theorem dX11_write_67 : decode cX11_write 67 = .ok (.getfield 22, 3) := by decide +kernel
theorem dX11_write_70 : decode cX11_write 70 = .ok (.getfield 202, 3) := by decide +kernel
theorem dX11_write_73 : decode cX11_write 73 = .ok (.getfield 356, 3) := by decide +kernel
theorem dX11_write_76 : decode cX11_write 76 = .ok (.iload 5, 2) := by decide +kernel
theorem dX11_write_78 : decode cX11_write 78 = .ok (.iaload, 1) := by decide +kernel
theorem dX11_write_79 : decode cX11_write 79 = .ok (.ifCond .ne 5, 3) := by decide +kernel
theorem dX11_write_18 : decode cX11_write 18 = .ok (.iconst (-1), 1) := by decide +kernel
theorem dX11_write_19 : decode cX11_write 19 = .ok (.ireturn, 1) := by decide +kernel
theorem dX11_write_0 : decode cX11_write 0 = .ok (.iload_n 2, 1) := by decide +kernel
theorem dX11_write_1 : decode cX11_write 1 = .ok (.ifCond .lt 17, 3) := by decide +kernel
theorem dX11_write_4 : decode cX11_write 4 = .ok (.iload_n 2, 1) := by decide +kernel
theorem dX11_write_5 : decode cX11_write 5 = .ok (.iconst 1, 1) := by decide +kernel
theorem dX11_write_6 : decode cX11_write 6 = .ok (.if_icmp .gt 12, 3) := by decide +kernel
theorem dX11_write_9 : decode cX11_write 9 = .ok (.aload_n 0, 1) := by decide +kernel
theorem dX11_write_10 : decode cX11_write 10 = .ok (.iload_n 1, 1) := by decide +kernel
theorem dX11_write_11 : decode cX11_write 11 = .ok (.iload_n 3, 1) := by decide +kernel
theorem dX11_write_12 : decode cX11_write 12 = .ok (.invokevirtual 370, 3) := by decide +kernel
theorem dX11_write_15 : decode cX11_write 15 = .ok (.ifCond .ne 5, 3) := by decide +kernel
theorem dX7_readStreet_66 : decode cX7_readStreet 66 = .ok (.iconst 0, 1) := by decide +kernel
theorem dX7_readStreet_67 : decode cX7_readStreet 67 = .ok (.ireturn, 1) := by decide +kernel
theorem dX7_readStreet_60 : decode cX7_readStreet 60 = .ok (.iinc 1 1, 3) := by decide +kernel
theorem dX7_readStreet_63 : decode cX7_readStreet 63 = .ok (.goto (-53), 3) := by decide +kernel
theorem dX7_readStreet_47 : decode cX7_readStreet 47 = .ok (.aload_n 0, 1) := by decide +kernel
theorem dX7_readStreet_48 : decode cX7_readStreet 48 = .ok (.bipush 49, 2) := by decide +kernel
theorem dX7_readStreet_50 : decode cX7_readStreet 50 = .ok (.bipush 57, 2) := by decide +kernel
theorem dX7_readStreet_52 : decode cX7_readStreet 52 = .ok (.invokevirtual 74, 3) := by decide +kernel
theorem dX7_readStreet_55 : decode cX7_readStreet 55 = .ok (.ifCond .eq 5, 3) := by decide +kernel
theorem dX7_readStreet_58 : decode cX7_readStreet 58 = .ok (.iconst 1, 1) := by decide +kernel
theorem dX7_readStreet_59 : decode cX7_readStreet 59 = .ok (.ireturn, 1) := by decide +kernel
theorem dX7_readStreet_45 : decode cX7_readStreet 45 = .ok (.iconst 0, 1) := by decide +kernel
theorem dX7_readStreet_46 : decode cX7_readStreet 46 = .ok (.ireturn, 1) := by decide +kernel
theorem dX7_readStreet_10 : decode cX7_readStreet 10 = .ok (.iload_n 1, 1) := by decide +kernel
theorem dX7_readStreet_11 : decode cX7_readStreet 11 = .ok (.iconst 3, 1) := by decide +kernel
theorem dX7_readStreet_12 : decode cX7_readStreet 12 = .ok (.if_icmp .ge 54, 3) := by decide +kernel
theorem dX7_readStreet_15 : decode cX7_readStreet 15 = .ok (.aload_n 0, 1) := by decide +kernel
theorem dX7_readStreet_16 : decode cX7_readStreet 16 = .ok (.getfield 9, 3) := by decide +kernel
theorem dX7_readStreet_19 : decode cX7_readStreet 19 = .ok (.iload_n 1, 1) := by decide +kernel
theorem dX7_readStreet_20 : decode cX7_readStreet 20 = .ok (.aload_n 0, 1) := by decide +kernel
theorem dX7_readStreet_21 : decode cX7_readStreet 21 = .ok (.invokevirtual 34, 3) := by decide +kernel
theorem dX7_readStreet_24 : decode cX7_readStreet 24 = .ok (.lastore, 1) := by decide +kernel
theorem dX7_readStreet_25 : decode cX7_readStreet 25 = .ok (.aload_n 0, 1) := by decide +kernel
theorem dX7_readStreet_26 : decode cX7_readStreet 26 = .ok (.getfield 9, 3) := by decide +kernel
theorem dX7_readStreet_29 : decode cX7_readStreet 29 = .ok (.iload_n 1, 1) := by decide +kernel
theorem dX7_readStreet_30 : decode cX7_readStreet 30 = .ok (.laload, 1) := by decide +kernel
theorem dX7_readStreet_31 : decode cX7_readStreet 31 = .ok (.lconst 0, 1) := by decide +kernel
theorem dX7_readStreet_32 : decode cX7_readStreet 32 = .ok (.lcmp, 1) := by decide +kernel
theorem dX7_readStreet_33 : decode cX7_readStreet 33 = .ok (.ifCond .eq 12, 3) := by decide +kernel
theorem dX7_readStreet_36 : decode cX7_readStreet 36 = .ok (.aload_n 0, 1) := by decide +kernel
theorem dX7_readStreet_37 : decode cX7_readStreet 37 = .ok (.bipush 32, 2) := by decide +kernel
theorem dX7_readStreet_39 : decode cX7_readStreet 39 = .ok (.invokevirtual 38, 3) := by decide +kernel
theorem dX7_readStreet_42 : decode cX7_readStreet 42 = .ok (.ifCond .ne 5, 3) := by decide +kernel
theorem dX7_readStreet_0 : decode cX7_readStreet 0 = .ok (.aload_n 0, 1) := by decide +kernel
theorem dX7_readStreet_1 : decode cX7_readStreet 1 = .ok (.getfield 9, 3) := by decide +kernel
theorem dX7_readStreet_4 : decode cX7_readStreet 4 = .ok (.lconst 0, 1) := by decide +kernel
theorem dX7_readStreet_5 : decode cX7_readStreet 5 = .ok (.invokestatic 80, 3) := by decide +kernel
theorem dX7_readStreet_8 : decode cX7_readStreet 8 = .ok (.iconst 0, 1) := by decide +kernel
theorem dX7_readStreet_9 : decode cX7_readStreet 9 = .ok (.istore_n 1, 1) := by decide +kernel

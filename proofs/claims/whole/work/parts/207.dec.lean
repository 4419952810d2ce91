theorem dX11_seekOldIn_256 : decode cX11_seekOldIn 256 = .ok (.return_, 1) := by decide +kernel
theorem dX11_seekOldIn_250 : decode cX11_seekOldIn 250 = .ok (.iinc 5 1, 3) := by decide +kernel
theorem dX11_seekOldIn_253 : decode cX11_seekOldIn 253 = .ok (.goto (-199), 3) := by decide +kernel
theorem dX11_seekOldIn_161 : decode cX11_seekOldIn 161 = .ok (.istore 6, 2) := by decide +kernel
theorem dX11_seekOldIn_163 : decode cX11_seekOldIn 163 = .ok (.iload 6, 2) := by decide +kernel
theorem dX11_seekOldIn_165 : decode cX11_seekOldIn 165 = .ok (.ifCond .eq 85, 3) := by decide +kernel
theorem dX11_seekOldIn_168 : decode cX11_seekOldIn 168 = .ok (.iload_n 3, 1) := by decide +kernel
theorem dX11_seekOldIn_169 : decode cX11_seekOldIn 169 = .ok (.aload_n 0, 1) := by decide +kernel
theorem dX11_seekOldIn_170 : decode cX11_seekOldIn 170 = .ok (.getfield 22, 3) := by decide +kernel
theorem dX11_seekOldIn_173 : decode cX11_seekOldIn 173 = .ok (.getfield 73, 3) := by decide +kernel
theorem dX11_seekOldIn_176 : decode cX11_seekOldIn 176 = .ok (.aload_n 0, 1) := by decide +kernel
theorem dX11_seekOldIn_177 : decode cX11_seekOldIn 177 = .ok (.getfield 22, 3) := by decide +kernel
theorem dX11_seekOldIn_180 : decode cX11_seekOldIn 180 = .ok (.getfield 202, 3) := by decide +kernel
theorem dX11_seekOldIn_183 : decode cX11_seekOldIn 183 = .ok (.getfield 359, 3) := by decide +kernel
theorem dX11_seekOldIn_186 : decode cX11_seekOldIn 186 = .ok (.iload 5, 2) := by decide +kernel
theorem dX11_seekOldIn_188 : decode cX11_seekOldIn 188 = .ok (.iaload, 1) := by decide +kernel
theorem dX11_seekOldIn_189 : decode cX11_seekOldIn 189 = .ok (.invokevirtual 362, 3) := by decide +kernel
theorem dX11_seekOldIn_192 : decode cX11_seekOldIn 192 = .ok (.invokestatic 220, 3) := by decide +kernel
theorem dX11_seekOldIn_195 : decode cX11_seekOldIn 195 = .ok (.istore 7, 2) := by decide +kernel
theorem dX11_seekOldIn_197 : decode cX11_seekOldIn 197 = .ok (.iload 4, 2) := by decide +kernel
theorem dX11_seekOldIn_199 : decode cX11_seekOldIn 199 = .ok (.aload_n 0, 1) := by decide +kernel
theorem dX11_seekOldIn_200 : decode cX11_seekOldIn 200 = .ok (.getfield 22, 3) := by decide +kernel
theorem dX11_seekOldIn_203 : decode cX11_seekOldIn 203 = .ok (.getfield 73, 3) := by decide +kernel
theorem dX11_seekOldIn_206 : decode cX11_seekOldIn 206 = .ok (.aload_n 0, 1) := by decide +kernel
theorem dX11_seekOldIn_207 : decode cX11_seekOldIn 207 = .ok (.getfield 22, 3) := by decide +kernel
theorem dX11_seekOldIn_210 : decode cX11_seekOldIn 210 = .ok (.getfield 202, 3) := by decide +kernel
theorem dX11_seekOldIn_213 : decode cX11_seekOldIn 213 = .ok (.getfield 365, 3) := by decide +kernel
theorem dX11_seekOldIn_216 : decode cX11_seekOldIn 216 = .ok (.iload 5, 2) := by decide +kernel
theorem dX11_seekOldIn_218 : decode cX11_seekOldIn 218 = .ok (.iaload, 1) := by decide +kernel
theorem dX11_seekOldIn_219 : decode cX11_seekOldIn 219 = .ok (.invokevirtual 366, 3) := by decide +kernel
theorem dX11_seekOldIn_222 : decode cX11_seekOldIn 222 = .ok (.invokestatic 315, 3) := by decide +kernel
theorem dX11_seekOldIn_225 : decode cX11_seekOldIn 225 = .ok (.istore 8, 2) := by decide +kernel
theorem dX11_seekOldIn_227 : decode cX11_seekOldIn 227 = .ok (.aload_n 0, 1) := by decide +kernel
theorem dX11_seekOldIn_228 : decode cX11_seekOldIn 228 = .ok (.aload_n 0, 1) := by decide +kernel
theorem dX11_seekOldIn_229 : decode cX11_seekOldIn 229 = .ok (.getfield 22, 3) := by decide +kernel
theorem dX11_seekOldIn_232 : decode cX11_seekOldIn 232 = .ok (.getfield 202, 3) := by decide +kernel
theorem dX11_seekOldIn_235 : decode cX11_seekOldIn 235 = .ok (.getfield 617, 3) := by decide +kernel
theorem dX11_seekOldIn_238 : decode cX11_seekOldIn 238 = .ok (.iload 5, 2) := by decide +kernel
theorem dX11_seekOldIn_240 : decode cX11_seekOldIn 240 = .ok (.iaload, 1) := by decide +kernel
theorem dX11_seekOldIn_241 : decode cX11_seekOldIn 241 = .ok (.iconst 2, 1) := by decide +kernel
theorem dX11_seekOldIn_242 : decode cX11_seekOldIn 242 = .ok (.idiv, 1) := by decide +kernel
theorem dX11_seekOldIn_243 : decode cX11_seekOldIn 243 = .ok (.iload 7, 2) := by decide +kernel
theorem dX11_seekOldIn_245 : decode cX11_seekOldIn 245 = .ok (.iload 8, 2) := by decide +kernel
theorem dX11_seekOldIn_247 : decode cX11_seekOldIn 247 = .ok (.invokevirtual 619, 3) := by decide +kernel
theorem dX11_seekOldIn_160 : decode cX11_seekOldIn 160 = .ok (.iconst 0, 1) := by decide +kernel
theorem dX11_seekOldIn_54 : decode cX11_seekOldIn 54 = .ok (.iload 5, 2) := by decide +kernel
theorem dX11_seekOldIn_56 : decode cX11_seekOldIn 56 = .ok (.aload_n 0, 1) := by decide +kernel
theorem dX11_seekOldIn_57 : decode cX11_seekOldIn 57 = .ok (.getfield 22, 3) := by decide +kernel
theorem dX11_seekOldIn_60 : decode cX11_seekOldIn 60 = .ok (.getfield 202, 3) := by decide +kernel
theorem dX11_seekOldIn_63 : decode cX11_seekOldIn 63 = .ok (.getfield 513, 3) := by decide +kernel
theorem dX11_seekOldIn_66 : decode cX11_seekOldIn 66 = .ok (.if_icmp .ge 190, 3) := by decide +kernel
theorem dX11_seekOldIn_69 : decode cX11_seekOldIn 69 = .ok (.aload_n 0, 1) := by decide +kernel
theorem dX11_seekOldIn_70 : decode cX11_seekOldIn 70 = .ok (.getfield 22, 3) := by decide +kernel
theorem dX11_seekOldIn_73 : decode cX11_seekOldIn 73 = .ok (.getfield 202, 3) := by decide +kernel
theorem dX11_seekOldIn_76 : decode cX11_seekOldIn 76 = .ok (.getfield 356, 3) := by decide +kernel
theorem dX11_seekOldIn_79 : decode cX11_seekOldIn 79 = .ok (.iload 5, 2) := by decide +kernel
theorem dX11_seekOldIn_81 : decode cX11_seekOldIn 81 = .ok (.iaload, 1) := by decide +kernel
theorem dX11_seekOldIn_82 : decode cX11_seekOldIn 82 = .ok (.aload_n 0, 1) := by decide +kernel
theorem dX11_seekOldIn_83 : decode cX11_seekOldIn 83 = .ok (.getfield 33, 3) := by decide +kernel
theorem dX11_seekOldIn_86 : decode cX11_seekOldIn 86 = .ok (.getfield 408, 3) := by decide +kernel
theorem dX11_seekOldIn_89 : decode cX11_seekOldIn 89 = .ok (.if_icmp .ne 71, 3) := by decide +kernel
theorem dX11_seekOldIn_92 : decode cX11_seekOldIn 92 = .ok (.aload_n 0, 1) := by decide +kernel
theorem dX11_seekOldIn_93 : decode cX11_seekOldIn 93 = .ok (.getfield 22, 3) := by decide +kernel
theorem dX11_seekOldIn_96 : decode cX11_seekOldIn 96 = .ok (.getfield 185, 3) := by decide +kernel
theorem dX11_seekOldIn_99 : decode cX11_seekOldIn 99 = .ok (.aload_n 0, 1) := by decide +kernel
theorem dX11_seekOldIn_100 : decode cX11_seekOldIn 100 = .ok (.getfield 22, 3) := by decide +kernel
theorem dX11_seekOldIn_103 : decode cX11_seekOldIn 103 = .ok (.getfield 202, 3) := by decide +kernel
theorem dX11_seekOldIn_106 : decode cX11_seekOldIn 106 = .ok (.getfield 617, 3) := by decide +kernel
theorem dX11_seekOldIn_109 : decode cX11_seekOldIn 109 = .ok (.iload 5, 2) := by decide +kernel
theorem dX11_seekOldIn_111 : decode cX11_seekOldIn 111 = .ok (.iaload, 1) := by decide +kernel
theorem dX11_seekOldIn_112 : decode cX11_seekOldIn 112 = .ok (.invokevirtual 217, 3) := by decide +kernel
theorem dX11_seekOldIn_115 : decode cX11_seekOldIn 115 = .ok (.aload_n 0, 1) := by decide +kernel
theorem dX11_seekOldIn_116 : decode cX11_seekOldIn 116 = .ok (.getfield 22, 3) := by decide +kernel
theorem dX11_seekOldIn_119 : decode cX11_seekOldIn 119 = .ok (.getfield 117, 3) := by decide +kernel
theorem dX11_seekOldIn_122 : decode cX11_seekOldIn 122 = .ok (.getfield 618, 3) := by decide +kernel
theorem dX11_seekOldIn_125 : decode cX11_seekOldIn 125 = .ok (.iload_n 1, 1) := by decide +kernel
theorem dX11_seekOldIn_126 : decode cX11_seekOldIn 126 = .ok (.iaload, 1) := by decide +kernel
theorem dX11_seekOldIn_127 : decode cX11_seekOldIn 127 = .ok (.if_icmp .ne 33, 3) := by decide +kernel
theorem dX11_seekOldIn_130 : decode cX11_seekOldIn 130 = .ok (.aload_n 0, 1) := by decide +kernel
theorem dX11_seekOldIn_131 : decode cX11_seekOldIn 131 = .ok (.getfield 22, 3) := by decide +kernel
theorem dX11_seekOldIn_134 : decode cX11_seekOldIn 134 = .ok (.getfield 73, 3) := by decide +kernel
theorem dX11_seekOldIn_137 : decode cX11_seekOldIn 137 = .ok (.aload_n 0, 1) := by decide +kernel
theorem dX11_seekOldIn_138 : decode cX11_seekOldIn 138 = .ok (.getfield 22, 3) := by decide +kernel
theorem dX11_seekOldIn_141 : decode cX11_seekOldIn 141 = .ok (.getfield 202, 3) := by decide +kernel
theorem dX11_seekOldIn_144 : decode cX11_seekOldIn 144 = .ok (.getfield 359, 3) := by decide +kernel
theorem dX11_seekOldIn_147 : decode cX11_seekOldIn 147 = .ok (.iload 5, 2) := by decide +kernel
theorem dX11_seekOldIn_149 : decode cX11_seekOldIn 149 = .ok (.iaload, 1) := by decide +kernel
theorem dX11_seekOldIn_150 : decode cX11_seekOldIn 150 = .ok (.invokevirtual 611, 3) := by decide +kernel
theorem dX11_seekOldIn_153 : decode cX11_seekOldIn 153 = .ok (.ifCond .eq 7, 3) := by decide +kernel
theorem dX11_seekOldIn_156 : decode cX11_seekOldIn 156 = .ok (.iconst 1, 1) := by decide +kernel
theorem dX11_seekOldIn_157 : decode cX11_seekOldIn 157 = .ok (.goto 4, 3) := by decide +kernel
theorem dX11_seekOldIn_0 : decode cX11_seekOldIn 0 = .ok (.aload_n 0, 1) := by decide +kernel
theorem dX11_seekOldIn_1 : decode cX11_seekOldIn 1 = .ok (.getfield 22, 3) := by decide +kernel
theorem dX11_seekOldIn_4 : decode cX11_seekOldIn 4 = .ok (.getfield 73, 3) := by decide +kernel
theorem dX11_seekOldIn_7 : decode cX11_seekOldIn 7 = .ok (.aload_n 0, 1) := by decide +kernel
theorem dX11_seekOldIn_8 : decode cX11_seekOldIn 8 = .ok (.getfield 22, 3) := by decide +kernel
theorem dX11_seekOldIn_11 : decode cX11_seekOldIn 11 = .ok (.getfield 117, 3) := by decide +kernel
theorem dX11_seekOldIn_14 : decode cX11_seekOldIn 14 = .ok (.getfield 610, 3) := by decide +kernel
theorem dX11_seekOldIn_17 : decode cX11_seekOldIn 17 = .ok (.iload_n 1, 1) := by decide +kernel
theorem dX11_seekOldIn_18 : decode cX11_seekOldIn 18 = .ok (.iaload, 1) := by decide +kernel
theorem dX11_seekOldIn_19 : decode cX11_seekOldIn 19 = .ok (.invokevirtual 362, 3) := by decide +kernel
theorem dX11_seekOldIn_22 : decode cX11_seekOldIn 22 = .ok (.istore_n 3, 1) := by decide +kernel
theorem dX11_seekOldIn_23 : decode cX11_seekOldIn 23 = .ok (.iload_n 2, 1) := by decide +kernel
theorem dX11_seekOldIn_24 : decode cX11_seekOldIn 24 = .ok (.aload_n 0, 1) := by decide +kernel
theorem dX11_seekOldIn_25 : decode cX11_seekOldIn 25 = .ok (.getfield 22, 3) := by decide +kernel
theorem dX11_seekOldIn_28 : decode cX11_seekOldIn 28 = .ok (.getfield 73, 3) := by decide +kernel
theorem dX11_seekOldIn_31 : decode cX11_seekOldIn 31 = .ok (.aload_n 0, 1) := by decide +kernel
theorem dX11_seekOldIn_32 : decode cX11_seekOldIn 32 = .ok (.getfield 22, 3) := by decide +kernel
theorem dX11_seekOldIn_35 : decode cX11_seekOldIn 35 = .ok (.getfield 117, 3) := by decide +kernel
theorem dX11_seekOldIn_38 : decode cX11_seekOldIn 38 = .ok (.getfield 288, 3) := by decide +kernel
theorem dX11_seekOldIn_41 : decode cX11_seekOldIn 41 = .ok (.iload_n 1, 1) := by decide +kernel
theorem dX11_seekOldIn_42 : decode cX11_seekOldIn 42 = .ok (.iaload, 1) := by decide +kernel
theorem dX11_seekOldIn_43 : decode cX11_seekOldIn 43 = .ok (.invokevirtual 366, 3) := by decide +kernel
theorem dX11_seekOldIn_46 : decode cX11_seekOldIn 46 = .ok (.invokestatic 315, 3) := by decide +kernel
theorem dX11_seekOldIn_49 : decode cX11_seekOldIn 49 = .ok (.istore 4, 2) := by decide +kernel
theorem dX11_seekOldIn_51 : decode cX11_seekOldIn 51 = .ok (.iconst 0, 1) := by decide +kernel
theorem dX11_seekOldIn_52 : decode cX11_seekOldIn 52 = .ok (.istore 5, 2) := by decide +kernel
theorem dX11_seekOld_103 : decode cX11_seekOld 103 = .ok (.return_, 1) := by decide +kernel
theorem dX11_seekOld_97 : decode cX11_seekOld 97 = .ok (.iinc 3 1, 3) := by decide +kernel
theorem dX11_seekOld_100 : decode cX11_seekOld 100 = .ok (.goto (-70), 3) := by decide +kernel
theorem dX11_seekOld_30 : decode cX11_seekOld 30 = .ok (.iload_n 3, 1) := by decide +kernel
theorem dX11_seekOld_31 : decode cX11_seekOld 31 = .ok (.aload_n 0, 1) := by decide +kernel
theorem dX11_seekOld_32 : decode cX11_seekOld 32 = .ok (.getfield 22, 3) := by decide +kernel
theorem dX11_seekOld_35 : decode cX11_seekOld 35 = .ok (.getfield 117, 3) := by decide +kernel
theorem dX11_seekOld_38 : decode cX11_seekOld 38 = .ok (.getfield 605, 3) := by decide +kernel
theorem dX11_seekOld_41 : decode cX11_seekOld 41 = .ok (.if_icmp .ge 62, 3) := by decide +kernel
theorem dX11_seekOld_44 : decode cX11_seekOld 44 = .ok (.aload_n 0, 1) := by decide +kernel
theorem dX11_seekOld_45 : decode cX11_seekOld 45 = .ok (.getfield 22, 3) := by decide +kernel
theorem dX11_seekOld_48 : decode cX11_seekOld 48 = .ok (.getfield 117, 3) := by decide +kernel
theorem dX11_seekOld_51 : decode cX11_seekOld 51 = .ok (.iload_n 3, 1) := by decide +kernel
theorem dX11_seekOld_52 : decode cX11_seekOld 52 = .ok (.aload_n 0, 1) := by decide +kernel
theorem dX11_seekOld_53 : decode cX11_seekOld 53 = .ok (.getfield 33, 3) := by decide +kernel
theorem dX11_seekOld_56 : decode cX11_seekOld 56 = .ok (.getfield 93, 3) := by decide +kernel
theorem dX11_seekOld_59 : decode cX11_seekOld 59 = .ok (.iload_n 2, 1) := by decide +kernel
theorem dX11_seekOld_60 : decode cX11_seekOld 60 = .ok (.invokevirtual 606, 3) := by decide +kernel
theorem dX11_seekOld_63 : decode cX11_seekOld 63 = .ok (.ifCond .eq 34, 3) := by decide +kernel
theorem dX11_seekOld_66 : decode cX11_seekOld 66 = .ok (.aload_n 0, 1) := by decide +kernel
theorem dX11_seekOld_67 : decode cX11_seekOld 67 = .ok (.getfield 22, 3) := by decide +kernel
theorem dX11_seekOld_70 : decode cX11_seekOld 70 = .ok (.getfield 73, 3) := by decide +kernel
theorem dX11_seekOld_73 : decode cX11_seekOld 73 = .ok (.aload_n 0, 1) := by decide +kernel
theorem dX11_seekOld_74 : decode cX11_seekOld 74 = .ok (.getfield 22, 3) := by decide +kernel
theorem dX11_seekOld_77 : decode cX11_seekOld 77 = .ok (.getfield 117, 3) := by decide +kernel
theorem dX11_seekOld_80 : decode cX11_seekOld 80 = .ok (.getfield 610, 3) := by decide +kernel
theorem dX11_seekOld_83 : decode cX11_seekOld 83 = .ok (.iload_n 3, 1) := by decide +kernel
theorem dX11_seekOld_84 : decode cX11_seekOld 84 = .ok (.iaload, 1) := by decide +kernel
theorem dX11_seekOld_85 : decode cX11_seekOld 85 = .ok (.invokevirtual 611, 3) := by decide +kernel
theorem dX11_seekOld_88 : decode cX11_seekOld 88 = .ok (.ifCond .eq 9, 3) := by decide +kernel
theorem dX11_seekOld_91 : decode cX11_seekOld 91 = .ok (.aload_n 0, 1) := by decide +kernel
theorem dX11_seekOld_92 : decode cX11_seekOld 92 = .ok (.iload_n 3, 1) := by decide +kernel
theorem dX11_seekOld_93 : decode cX11_seekOld 93 = .ok (.iload_n 1, 1) := by decide +kernel
theorem dX11_seekOld_94 : decode cX11_seekOld 94 = .ok (.invokevirtual 614, 3) := by decide +kernel
theorem dX11_seekOld_0 : decode cX11_seekOld 0 = .ok (.aload_n 0, 1) := by decide +kernel
theorem dX11_seekOld_1 : decode cX11_seekOld 1 = .ok (.iconst (-1), 1) := by decide +kernel
theorem dX11_seekOld_2 : decode cX11_seekOld 2 = .ok (.putfield 51, 3) := by decide +kernel
theorem dX11_seekOld_5 : decode cX11_seekOld 5 = .ok (.aload_n 0, 1) := by decide +kernel
theorem dX11_seekOld_6 : decode cX11_seekOld 6 = .ok (.iconst (-1), 1) := by decide +kernel
theorem dX11_seekOld_7 : decode cX11_seekOld 7 = .ok (.putfield 55, 3) := by decide +kernel
theorem dX11_seekOld_10 : decode cX11_seekOld 10 = .ok (.aload_n 0, 1) := by decide +kernel
theorem dX11_seekOld_11 : decode cX11_seekOld 11 = .ok (.getfield 22, 3) := by decide +kernel
theorem dX11_seekOld_14 : decode cX11_seekOld 14 = .ok (.getfield 89, 3) := by decide +kernel
theorem dX11_seekOld_17 : decode cX11_seekOld 17 = .ok (.aload_n 0, 1) := by decide +kernel
theorem dX11_seekOld_18 : decode cX11_seekOld 18 = .ok (.getfield 33, 3) := by decide +kernel
theorem dX11_seekOld_21 : decode cX11_seekOld 21 = .ok (.getfield 578, 3) := by decide +kernel
theorem dX11_seekOld_24 : decode cX11_seekOld 24 = .ok (.invokevirtual 97, 3) := by decide +kernel
theorem dX11_seekOld_27 : decode cX11_seekOld 27 = .ok (.istore_n 2, 1) := by decide +kernel
theorem dX11_seekOld_28 : decode cX11_seekOld 28 = .ok (.iconst 0, 1) := by decide +kernel
theorem dX11_seekOld_29 : decode cX11_seekOld 29 = .ok (.istore_n 3, 1) := by decide +kernel
theorem dX11_call_45 : decode cX11_call 45 = .ok (.aload_n 0, 1) := by decide +kernel
theorem dX11_call_46 : decode cX11_call 46 = .ok (.getfield 22, 3) := by decide +kernel
theorem dX11_call_49 : decode cX11_call 49 = .ok (.getfield 396, 3) := by decide +kernel
theorem dX11_call_52 : decode cX11_call 52 = .ok (.aload_n 0, 1) := by decide +kernel
theorem dX11_call_53 : decode cX11_call 53 = .ok (.getfield 51, 3) := by decide +kernel
theorem dX11_call_56 : decode cX11_call 56 = .ok (.iconst 1, 1) := by decide +kernel
theorem dX11_call_57 : decode cX11_call 57 = .ok (.iadd, 1) := by decide +kernel
theorem dX11_call_58 : decode cX11_call 58 = .ok (.putfield 437, 3) := by decide +kernel
theorem dX11_call_61 : decode cX11_call 61 = .ok (.bipush (-100), 2) := by decide +kernel
theorem dX11_call_63 : decode cX11_call 63 = .ok (.aload_n 0, 1) := by decide +kernel
theorem dX11_call_64 : decode cX11_call 64 = .ok (.getfield 55, 3) := by decide +kernel
theorem dX11_call_67 : decode cX11_call 67 = .ok (.isub, 1) := by decide +kernel
theorem dX11_call_68 : decode cX11_call 68 = .ok (.ireturn, 1) := by decide +kernel
theorem dX11_call_30 : decode cX11_call 30 = .ok (.aload_n 0, 1) := by decide +kernel
theorem dX11_call_31 : decode cX11_call 31 = .ok (.iload_n 1, 1) := by decide +kernel
theorem dX11_call_32 : decode cX11_call 32 = .ok (.invokevirtual 434, 3) := by decide +kernel
theorem dX11_call_35 : decode cX11_call 35 = .ok (.aload_n 0, 1) := by decide +kernel
theorem dX11_call_36 : decode cX11_call 36 = .ok (.getfield 55, 3) := by decide +kernel
theorem dX11_call_39 : decode cX11_call 39 = .ok (.iconst (-1), 1) := by decide +kernel
theorem dX11_call_40 : decode cX11_call 40 = .ok (.if_icmp .ne 5, 3) := by decide +kernel
theorem dX11_call_43 : decode cX11_call 43 = .ok (.iconst (-1), 1) := by decide +kernel
theorem dX11_call_44 : decode cX11_call 44 = .ok (.ireturn, 1) := by decide +kernel
theorem dX11_call_17 : decode cX11_call 17 = .ok (.aload_n 0, 1) := by decide +kernel
theorem dX11_call_18 : decode cX11_call 18 = .ok (.iload_n 1, 1) := by decide +kernel
theorem dX11_call_19 : decode cX11_call 19 = .ok (.invokevirtual 431, 3) := by decide +kernel
theorem dX11_call_22 : decode cX11_call 22 = .ok (.istore_n 2, 1) := by decide +kernel
theorem dX11_call_23 : decode cX11_call 23 = .ok (.iload_n 2, 1) := by decide +kernel
theorem dX11_call_24 : decode cX11_call 24 = .ok (.iconst (-1), 1) := by decide +kernel
theorem dX11_call_25 : decode cX11_call 25 = .ok (.if_icmp .eq 5, 3) := by decide +kernel
theorem dX11_call_28 : decode cX11_call 28 = .ok (.iload_n 2, 1) := by decide +kernel
theorem dX11_call_29 : decode cX11_call 29 = .ok (.ireturn, 1) := by decide +kernel
theorem dX11_call_14 : decode cX11_call 14 = .ok (.bipush (-2), 2) := by decide +kernel
theorem dX11_call_16 : decode cX11_call 16 = .ok (.ireturn, 1) := by decide +kernel
theorem dX11_call_0 : decode cX11_call 0 = .ok (.aload_n 0, 1) := by decide +kernel
theorem dX11_call_1 : decode cX11_call 1 = .ok (.invokevirtual 393, 3) := by decide +kernel
theorem dX11_call_4 : decode cX11_call 4 = .ok (.ifCond .eq 10, 3) := by decide +kernel
theorem dX11_call_7 : decode cX11_call 7 = .ok (.iload_n 1, 1) := by decide +kernel
theorem dX11_call_8 : decode cX11_call 8 = .ok (.invokestatic 69, 3) := by decide +kernel
theorem dX11_call_11 : decode cX11_call 11 = .ok (.ifCond .ne 6, 3) := by decide +kernel
theorem dX11_ended_0 : decode cX11_ended 0 = .ok (.aload_n 0, 1) := by decide +kernel
theorem dX11_ended_1 : decode cX11_ended 1 = .ok (.getfield 22, 3) := by decide +kernel
theorem dX11_ended_4 : decode cX11_ended 4 = .ok (.getfield 396, 3) := by decide +kernel
theorem dX11_ended_7 : decode cX11_ended 7 = .ok (.getfield 437, 3) := by decide +kernel
theorem dX11_ended_10 : decode cX11_ended 10 = .ok (.ireturn, 1) := by decide +kernel
theorem dX5_isOpenKnownNumberIn_50 : decode cX5_isOpenKnownNumberIn 50 = .ok (.ireturn, 1) := by decide +kernel
theorem dX5_isOpenKnownNumberIn_49 : decode cX5_isOpenKnownNumberIn 49 = .ok (.iconst 0, 1) := by decide +kernel
theorem dX5_isOpenKnownNumberIn_0 : decode cX5_isOpenKnownNumberIn 0 = .ok (.aload_n 0, 1) := by decide +kernel
theorem dX5_isOpenKnownNumberIn_1 : decode cX5_isOpenKnownNumberIn 1 = .ok (.getfield 21, 3) := by decide +kernel
theorem dX5_isOpenKnownNumberIn_4 : decode cX5_isOpenKnownNumberIn 4 = .ok (.getfield 125, 3) := by decide +kernel
theorem dX5_isOpenKnownNumberIn_7 : decode cX5_isOpenKnownNumberIn 7 = .ok (.iload_n 1, 1) := by decide +kernel
theorem dX5_isOpenKnownNumberIn_8 : decode cX5_isOpenKnownNumberIn 8 = .ok (.iaload, 1) := by decide +kernel
theorem dX5_isOpenKnownNumberIn_9 : decode cX5_isOpenKnownNumberIn 9 = .ok (.iconst (-1), 1) := by decide +kernel
theorem dX5_isOpenKnownNumberIn_10 : decode cX5_isOpenKnownNumberIn 10 = .ok (.if_icmp .ne 39, 3) := by decide +kernel
theorem dX5_isOpenKnownNumberIn_13 : decode cX5_isOpenKnownNumberIn 13 = .ok (.aload_n 0, 1) := by decide +kernel
theorem dX5_isOpenKnownNumberIn_14 : decode cX5_isOpenKnownNumberIn 14 = .ok (.getfield 21, 3) := by decide +kernel
theorem dX5_isOpenKnownNumberIn_17 : decode cX5_isOpenKnownNumberIn 17 = .ok (.getfield 128, 3) := by decide +kernel
theorem dX5_isOpenKnownNumberIn_20 : decode cX5_isOpenKnownNumberIn 20 = .ok (.iload_n 1, 1) := by decide +kernel
theorem dX5_isOpenKnownNumberIn_21 : decode cX5_isOpenKnownNumberIn 21 = .ok (.iaload, 1) := by decide +kernel
theorem dX5_isOpenKnownNumberIn_22 : decode cX5_isOpenKnownNumberIn 22 = .ok (.ifCond .eq 27, 3) := by decide +kernel
theorem dX5_isOpenKnownNumberIn_25 : decode cX5_isOpenKnownNumberIn 25 = .ok (.aload_n 0, 1) := by decide +kernel
theorem dX5_isOpenKnownNumberIn_26 : decode cX5_isOpenKnownNumberIn 26 = .ok (.getfield 42, 3) := by decide +kernel
theorem dX5_isOpenKnownNumberIn_29 : decode cX5_isOpenKnownNumberIn 29 = .ok (.aload_n 0, 1) := by decide +kernel
theorem dX5_isOpenKnownNumberIn_30 : decode cX5_isOpenKnownNumberIn 30 = .ok (.getfield 21, 3) := by decide +kernel
theorem dX5_isOpenKnownNumberIn_33 : decode cX5_isOpenKnownNumberIn 33 = .ok (.getfield 131, 3) := by decide +kernel
theorem dX5_isOpenKnownNumberIn_36 : decode cX5_isOpenKnownNumberIn 36 = .ok (.iload_n 1, 1) := by decide +kernel
theorem dX5_isOpenKnownNumberIn_37 : decode cX5_isOpenKnownNumberIn 37 = .ok (.iaload, 1) := by decide +kernel
theorem dX5_isOpenKnownNumberIn_38 : decode cX5_isOpenKnownNumberIn 38 = .ok (.invokevirtual 107, 3) := by decide +kernel
theorem dX5_isOpenKnownNumberIn_41 : decode cX5_isOpenKnownNumberIn 41 = .ok (.iload_n 2, 1) := by decide +kernel
theorem dX5_isOpenKnownNumberIn_42 : decode cX5_isOpenKnownNumberIn 42 = .ok (.if_icmp .ne 7, 3) := by decide +kernel
theorem dX5_isOpenKnownNumberIn_45 : decode cX5_isOpenKnownNumberIn 45 = .ok (.iconst 1, 1) := by decide +kernel
theorem dX5_isOpenKnownNumberIn_46 : decode cX5_isOpenKnownNumberIn 46 = .ok (.goto 4, 3) := by decide +kernel
theorem dX1_addPair_96 : decode cX1_addPair 96 = .ok (.aload_n 0, 1) := by decide +kernel
theorem dX1_addPair_97 : decode cX1_addPair 97 = .ok (.getfield 28, 3) := by decide +kernel
theorem dX1_addPair_100 : decode cX1_addPair 100 = .ok (.iload 5, 2) := by decide +kernel
theorem dX1_addPair_102 : decode cX1_addPair 102 = .ok (.iload_n 1, 1) := by decide +kernel
theorem dX1_addPair_103 : decode cX1_addPair 103 = .ok (.iastore, 1) := by decide +kernel
theorem dX1_addPair_104 : decode cX1_addPair 104 = .ok (.aload_n 0, 1) := by decide +kernel
theorem dX1_addPair_105 : decode cX1_addPair 105 = .ok (.getfield 31, 3) := by decide +kernel
theorem dX1_addPair_108 : decode cX1_addPair 108 = .ok (.iload 5, 2) := by decide +kernel
theorem dX1_addPair_110 : decode cX1_addPair 110 = .ok (.iload_n 2, 1) := by decide +kernel
theorem dX1_addPair_111 : decode cX1_addPair 111 = .ok (.iastore, 1) := by decide +kernel
theorem dX1_addPair_112 : decode cX1_addPair 112 = .ok (.aload_n 0, 1) := by decide +kernel
theorem dX1_addPair_113 : decode cX1_addPair 113 = .ok (.getfield 34, 3) := by decide +kernel
theorem dX1_addPair_116 : decode cX1_addPair 116 = .ok (.iload 5, 2) := by decide +kernel
theorem dX1_addPair_118 : decode cX1_addPair 118 = .ok (.iload_n 3, 1) := by decide +kernel
theorem dX1_addPair_119 : decode cX1_addPair 119 = .ok (.iastore, 1) := by decide +kernel
theorem dX1_addPair_120 : decode cX1_addPair 120 = .ok (.aload_n 0, 1) := by decide +kernel
theorem dX1_addPair_121 : decode cX1_addPair 121 = .ok (.dup, 1) := by decide +kernel
theorem dX1_addPair_122 : decode cX1_addPair 122 = .ok (.getfield 58, 3) := by decide +kernel
theorem dX1_addPair_125 : decode cX1_addPair 125 = .ok (.iconst 1, 1) := by decide +kernel
theorem dX1_addPair_126 : decode cX1_addPair 126 = .ok (.iadd, 1) := by decide +kernel
theorem dX1_addPair_127 : decode cX1_addPair 127 = .ok (.putfield 58, 3) := by decide +kernel
theorem dX1_addPair_130 : decode cX1_addPair 130 = .ok (.return_, 1) := by decide +kernel
theorem dX1_addPair_17 : decode cX1_addPair 17 = .ok (.iload 5, 2) := by decide +kernel
theorem dX1_addPair_19 : decode cX1_addPair 19 = .ok (.iload 4, 2) := by decide +kernel
theorem dX1_addPair_21 : decode cX1_addPair 21 = .ok (.if_icmp .le 75, 3) := by decide +kernel
theorem dX1_addPair_24 : decode cX1_addPair 24 = .ok (.iload 5, 2) := by decide +kernel
theorem dX1_addPair_26 : decode cX1_addPair 26 = .ok (.ifCond .le 70, 3) := by decide +kernel
theorem dX1_addPair_29 : decode cX1_addPair 29 = .ok (.aload_n 0, 1) := by decide +kernel
theorem dX1_addPair_30 : decode cX1_addPair 30 = .ok (.getfield 34, 3) := by decide +kernel
theorem dX1_addPair_33 : decode cX1_addPair 33 = .ok (.iload 5, 2) := by decide +kernel
theorem dX1_addPair_35 : decode cX1_addPair 35 = .ok (.iconst 1, 1) := by decide +kernel
theorem dX1_addPair_36 : decode cX1_addPair 36 = .ok (.isub, 1) := by decide +kernel
theorem dX1_addPair_37 : decode cX1_addPair 37 = .ok (.iaload, 1) := by decide +kernel
theorem dX1_addPair_38 : decode cX1_addPair 38 = .ok (.iload_n 3, 1) := by decide +kernel
theorem dX1_addPair_39 : decode cX1_addPair 39 = .ok (.if_icmp .le 57, 3) := by decide +kernel
theorem dX1_addPair_42 : decode cX1_addPair 42 = .ok (.aload_n 0, 1) := by decide +kernel
theorem dX1_addPair_43 : decode cX1_addPair 43 = .ok (.getfield 28, 3) := by decide +kernel
theorem dX1_addPair_46 : decode cX1_addPair 46 = .ok (.iload 5, 2) := by decide +kernel
theorem dX1_addPair_48 : decode cX1_addPair 48 = .ok (.aload_n 0, 1) := by decide +kernel
theorem dX1_addPair_49 : decode cX1_addPair 49 = .ok (.getfield 28, 3) := by decide +kernel
theorem dX1_addPair_52 : decode cX1_addPair 52 = .ok (.iload 5, 2) := by decide +kernel
theorem dX1_addPair_54 : decode cX1_addPair 54 = .ok (.iconst 1, 1) := by decide +kernel
theorem dX1_addPair_55 : decode cX1_addPair 55 = .ok (.isub, 1) := by decide +kernel
theorem dX1_addPair_56 : decode cX1_addPair 56 = .ok (.iaload, 1) := by decide +kernel
theorem dX1_addPair_57 : decode cX1_addPair 57 = .ok (.iastore, 1) := by decide +kernel
theorem dX1_addPair_58 : decode cX1_addPair 58 = .ok (.aload_n 0, 1) := by decide +kernel
theorem dX1_addPair_59 : decode cX1_addPair 59 = .ok (.getfield 31, 3) := by decide +kernel
theorem dX1_addPair_62 : decode cX1_addPair 62 = .ok (.iload 5, 2) := by decide +kernel
theorem dX1_addPair_64 : decode cX1_addPair 64 = .ok (.aload_n 0, 1) := by decide +kernel
theorem dX1_addPair_65 : decode cX1_addPair 65 = .ok (.getfield 31, 3) := by decide +kernel
theorem dX1_addPair_68 : decode cX1_addPair 68 = .ok (.iload 5, 2) := by decide +kernel
theorem dX1_addPair_70 : decode cX1_addPair 70 = .ok (.iconst 1, 1) := by decide +kernel
theorem dX1_addPair_71 : decode cX1_addPair 71 = .ok (.isub, 1) := by decide +kernel
theorem dX1_addPair_72 : decode cX1_addPair 72 = .ok (.iaload, 1) := by decide +kernel
theorem dX1_addPair_73 : decode cX1_addPair 73 = .ok (.iastore, 1) := by decide +kernel
theorem dX1_addPair_74 : decode cX1_addPair 74 = .ok (.aload_n 0, 1) := by decide +kernel
theorem dX1_addPair_75 : decode cX1_addPair 75 = .ok (.getfield 34, 3) := by decide +kernel
theorem dX1_addPair_78 : decode cX1_addPair 78 = .ok (.iload 5, 2) := by decide +kernel
theorem dX1_addPair_80 : decode cX1_addPair 80 = .ok (.aload_n 0, 1) := by decide +kernel
theorem dX1_addPair_81 : decode cX1_addPair 81 = .ok (.getfield 34, 3) := by decide +kernel
theorem dX1_addPair_84 : decode cX1_addPair 84 = .ok (.iload 5, 2) := by decide +kernel
theorem dX1_addPair_86 : decode cX1_addPair 86 = .ok (.iconst 1, 1) := by decide +kernel
theorem dX1_addPair_87 : decode cX1_addPair 87 = .ok (.isub, 1) := by decide +kernel
theorem dX1_addPair_88 : decode cX1_addPair 88 = .ok (.iaload, 1) := by decide +kernel
theorem dX1_addPair_89 : decode cX1_addPair 89 = .ok (.iastore, 1) := by decide +kernel
theorem dX1_addPair_90 : decode cX1_addPair 90 = .ok (.iinc 5 (-1), 3) := by decide +kernel
theorem dX1_addPair_93 : decode cX1_addPair 93 = .ok (.goto (-76), 3) := by decide +kernel
theorem dX1_addPair_11 : decode cX1_addPair 11 = .ok (.aload_n 0, 1) := by decide +kernel
theorem dX1_addPair_12 : decode cX1_addPair 12 = .ok (.getfield 58, 3) := by decide +kernel
theorem dX1_addPair_15 : decode cX1_addPair 15 = .ok (.istore 5, 2) := by decide +kernel
theorem dX1_addPair_0 : decode cX1_addPair 0 = .ok (.aload_n 0, 1) := by decide +kernel
theorem dX1_addPair_1 : decode cX1_addPair 1 = .ok (.getfield 58, 3) := by decide +kernel
theorem dX1_addPair_4 : decode cX1_addPair 4 = .ok (.sipush 200, 3) := by decide +kernel
theorem dX1_addPair_7 : decode cX1_addPair 7 = .ok (.if_icmp .lt 4, 3) := by decide +kernel
theorem dX1_addPair_10 : decode cX1_addPair 10 = .ok (.return_, 1) := by decide +kernel
theorem dX11_pairStreets_172 : decode cX11_pairStreets 172 = .ok (.return_, 1) := by decide +kernel
theorem dX11_pairStreets_166 : decode cX11_pairStreets 166 = .ok (.iinc 4 1, 3) := by decide +kernel
theorem dX11_pairStreets_169 : decode cX11_pairStreets 169 = .ok (.goto (-155), 3) := by decide +kernel
theorem dX11_pairStreets_160 : decode cX11_pairStreets 160 = .ok (.iinc 5 1, 3) := by decide +kernel
theorem dX11_pairStreets_163 : decode cX11_pairStreets 163 = .ok (.goto (-118), 3) := by decide +kernel
theorem dX11_pairStreets_45 : decode cX11_pairStreets 45 = .ok (.iload 5, 2) := by decide +kernel
theorem dX11_pairStreets_47 : decode cX11_pairStreets 47 = .ok (.aload_n 0, 1) := by decide +kernel
theorem dX11_pairStreets_48 : decode cX11_pairStreets 48 = .ok (.getfield 22, 3) := by decide +kernel
theorem dX11_pairStreets_51 : decode cX11_pairStreets 51 = .ok (.getfield 202, 3) := by decide +kernel
theorem dX11_pairStreets_54 : decode cX11_pairStreets 54 = .ok (.getfield 513, 3) := by decide +kernel
theorem dX11_pairStreets_57 : decode cX11_pairStreets 57 = .ok (.if_icmp .ge 109, 3) := by decide +kernel
theorem dX11_pairStreets_60 : decode cX11_pairStreets 60 = .ok (.aload_n 0, 1) := by decide +kernel
theorem dX11_pairStreets_61 : decode cX11_pairStreets 61 = .ok (.getfield 22, 3) := by decide +kernel
theorem dX11_pairStreets_64 : decode cX11_pairStreets 64 = .ok (.getfield 202, 3) := by decide +kernel
theorem dX11_pairStreets_67 : decode cX11_pairStreets 67 = .ok (.getfield 356, 3) := by decide +kernel
theorem dX11_pairStreets_70 : decode cX11_pairStreets 70 = .ok (.iload 5, 2) := by decide +kernel
theorem dX11_pairStreets_72 : decode cX11_pairStreets 72 = .ok (.iaload, 1) := by decide +kernel
theorem dX11_pairStreets_73 : decode cX11_pairStreets 73 = .ok (.aload_n 0, 1) := by decide +kernel
theorem dX11_pairStreets_74 : decode cX11_pairStreets 74 = .ok (.getfield 22, 3) := by decide +kernel
theorem dX11_pairStreets_77 : decode cX11_pairStreets 77 = .ok (.getfield 202, 3) := by decide +kernel
theorem dX11_pairStreets_80 : decode cX11_pairStreets 80 = .ok (.getfield 356, 3) := by decide +kernel
theorem dX11_pairStreets_83 : decode cX11_pairStreets 83 = .ok (.iload 4, 2) := by decide +kernel
theorem dX11_pairStreets_85 : decode cX11_pairStreets 85 = .ok (.iaload, 1) := by decide +kernel
theorem dX11_pairStreets_86 : decode cX11_pairStreets 86 = .ok (.if_icmp .ne 74, 3) := by decide +kernel
theorem dX11_pairStreets_89 : decode cX11_pairStreets 89 = .ok (.aload_n 0, 1) := by decide +kernel
theorem dX11_pairStreets_90 : decode cX11_pairStreets 90 = .ok (.getfield 22, 3) := by decide +kernel
theorem dX11_pairStreets_93 : decode cX11_pairStreets 93 = .ok (.iload 5, 2) := by decide +kernel
theorem dX11_pairStreets_95 : decode cX11_pairStreets 95 = .ok (.iload_n 2, 1) := by decide +kernel
theorem dX11_pairStreets_96 : decode cX11_pairStreets 96 = .ok (.invokevirtual 630, 3) := by decide +kernel
theorem dX11_pairStreets_99 : decode cX11_pairStreets 99 = .ok (.ifCond .eq 61, 3) := by decide +kernel
theorem dX11_pairStreets_102 : decode cX11_pairStreets 102 = .ok (.aload_n 0, 1) := by decide +kernel
theorem dX11_pairStreets_103 : decode cX11_pairStreets 103 = .ok (.getfield 22, 3) := by decide +kernel
theorem dX11_pairStreets_106 : decode cX11_pairStreets 106 = .ok (.getfield 202, 3) := by decide +kernel
theorem dX11_pairStreets_109 : decode cX11_pairStreets 109 = .ok (.getfield 356, 3) := by decide +kernel
theorem dX11_pairStreets_112 : decode cX11_pairStreets 112 = .ok (.iload 4, 2) := by decide +kernel
theorem dX11_pairStreets_114 : decode cX11_pairStreets 114 = .ok (.iaload, 1) := by decide +kernel
theorem dX11_pairStreets_115 : decode cX11_pairStreets 115 = .ok (.istore 6, 2) := by decide +kernel
theorem dX11_pairStreets_117 : decode cX11_pairStreets 117 = .ok (.aload_n 0, 1) := by decide +kernel
theorem dX11_pairStreets_118 : decode cX11_pairStreets 118 = .ok (.getfield 22, 3) := by decide +kernel
theorem dX11_pairStreets_121 : decode cX11_pairStreets 121 = .ok (.getfield 396, 3) := by decide +kernel
theorem dX11_pairStreets_124 : decode cX11_pairStreets 124 = .ok (.aload_n 0, 1) := by decide +kernel
theorem dX11_pairStreets_125 : decode cX11_pairStreets 125 = .ok (.getfield 22, 3) := by decide +kernel
theorem dX11_pairStreets_128 : decode cX11_pairStreets 128 = .ok (.getfield 202, 3) := by decide +kernel
theorem dX11_pairStreets_131 : decode cX11_pairStreets 131 = .ok (.getfield 617, 3) := by decide +kernel
theorem dX11_pairStreets_134 : decode cX11_pairStreets 134 = .ok (.iload 4, 2) := by decide +kernel
theorem dX11_pairStreets_136 : decode cX11_pairStreets 136 = .ok (.iaload, 1) := by decide +kernel
theorem dX11_pairStreets_137 : decode cX11_pairStreets 137 = .ok (.iconst 2, 1) := by decide +kernel
theorem dX11_pairStreets_138 : decode cX11_pairStreets 138 = .ok (.idiv, 1) := by decide +kernel
theorem dX11_pairStreets_139 : decode cX11_pairStreets 139 = .ok (.aload_n 0, 1) := by decide +kernel
theorem dX11_pairStreets_140 : decode cX11_pairStreets 140 = .ok (.getfield 22, 3) := by decide +kernel
theorem dX11_pairStreets_143 : decode cX11_pairStreets 143 = .ok (.getfield 202, 3) := by decide +kernel
theorem dX11_pairStreets_146 : decode cX11_pairStreets 146 = .ok (.getfield 617, 3) := by decide +kernel
theorem dX11_pairStreets_149 : decode cX11_pairStreets 149 = .ok (.iload 5, 2) := by decide +kernel
theorem dX11_pairStreets_151 : decode cX11_pairStreets 151 = .ok (.iaload, 1) := by decide +kernel
theorem dX11_pairStreets_152 : decode cX11_pairStreets 152 = .ok (.iconst 2, 1) := by decide +kernel
theorem dX11_pairStreets_153 : decode cX11_pairStreets 153 = .ok (.idiv, 1) := by decide +kernel
theorem dX11_pairStreets_154 : decode cX11_pairStreets 154 = .ok (.iload 6, 2) := by decide +kernel
theorem dX11_pairStreets_156 : decode cX11_pairStreets 156 = .ok (.iload_n 3, 1) := by decide +kernel
theorem dX11_pairStreets_157 : decode cX11_pairStreets 157 = .ok (.invokevirtual 633, 3) := by decide +kernel
theorem dX11_pairStreets_14 : decode cX11_pairStreets 14 = .ok (.iload 4, 2) := by decide +kernel
theorem dX11_pairStreets_16 : decode cX11_pairStreets 16 = .ok (.aload_n 0, 1) := by decide +kernel
theorem dX11_pairStreets_17 : decode cX11_pairStreets 17 = .ok (.getfield 22, 3) := by decide +kernel
theorem dX11_pairStreets_20 : decode cX11_pairStreets 20 = .ok (.getfield 202, 3) := by decide +kernel
theorem dX11_pairStreets_23 : decode cX11_pairStreets 23 = .ok (.getfield 513, 3) := by decide +kernel
theorem dX11_pairStreets_26 : decode cX11_pairStreets 26 = .ok (.if_icmp .ge 146, 3) := by decide +kernel
theorem dX11_pairStreets_29 : decode cX11_pairStreets 29 = .ok (.aload_n 0, 1) := by decide +kernel
theorem dX11_pairStreets_30 : decode cX11_pairStreets 30 = .ok (.getfield 22, 3) := by decide +kernel
theorem dX11_pairStreets_33 : decode cX11_pairStreets 33 = .ok (.iload 4, 2) := by decide +kernel
theorem dX11_pairStreets_35 : decode cX11_pairStreets 35 = .ok (.iload_n 1, 1) := by decide +kernel
theorem dX11_pairStreets_36 : decode cX11_pairStreets 36 = .ok (.invokevirtual 630, 3) := by decide +kernel
theorem dX11_pairStreets_39 : decode cX11_pairStreets 39 = .ok (.ifCond .eq 127, 3) := by decide +kernel
theorem dX11_pairStreets_42 : decode cX11_pairStreets 42 = .ok (.iconst 0, 1) := by decide +kernel
theorem dX11_pairStreets_43 : decode cX11_pairStreets 43 = .ok (.istore 5, 2) := by decide +kernel
theorem dX11_pairStreets_0 : decode cX11_pairStreets 0 = .ok (.aload_n 0, 1) := by decide +kernel
theorem dX11_pairStreets_1 : decode cX11_pairStreets 1 = .ok (.getfield 22, 3) := by decide +kernel
theorem dX11_pairStreets_4 : decode cX11_pairStreets 4 = .ok (.getfield 396, 3) := by decide +kernel
theorem dX11_pairStreets_7 : decode cX11_pairStreets 7 = .ok (.getfield 440, 3) := by decide +kernel
theorem dX11_pairStreets_10 : decode cX11_pairStreets 10 = .ok (.istore_n 3, 1) := by decide +kernel
theorem dX11_pairStreets_11 : decode cX11_pairStreets 11 = .ok (.iconst 0, 1) := by decide +kernel
theorem dX11_pairStreets_12 : decode cX11_pairStreets 12 = .ok (.istore 4, 2) := by decide +kernel
theorem dX11_pairTowns_64 : decode cX11_pairTowns 64 = .ok (.return_, 1) := by decide +kernel
theorem dX11_pairTowns_58 : decode cX11_pairTowns 58 = .ok (.iinc 3 1, 3) := by decide +kernel
theorem dX11_pairTowns_61 : decode cX11_pairTowns 61 = .ok (.goto (-59), 3) := by decide +kernel
theorem dX11_pairTowns_2 : decode cX11_pairTowns 2 = .ok (.iload_n 3, 1) := by decide +kernel
theorem dX11_pairTowns_3 : decode cX11_pairTowns 3 = .ok (.aload_n 0, 1) := by decide +kernel
theorem dX11_pairTowns_4 : decode cX11_pairTowns 4 = .ok (.getfield 22, 3) := by decide +kernel
theorem dX11_pairTowns_7 : decode cX11_pairTowns 7 = .ok (.getfield 89, 3) := by decide +kernel
theorem dX11_pairTowns_10 : decode cX11_pairTowns 10 = .ok (.getfield 151, 3) := by decide +kernel
theorem dX11_pairTowns_13 : decode cX11_pairTowns 13 = .ok (.if_icmp .ge 51, 3) := by decide +kernel
theorem dX11_pairTowns_16 : decode cX11_pairTowns 16 = .ok (.aload_n 0, 1) := by decide +kernel
theorem dX11_pairTowns_17 : decode cX11_pairTowns 17 = .ok (.getfield 22, 3) := by decide +kernel
theorem dX11_pairTowns_20 : decode cX11_pairTowns 20 = .ok (.getfield 117, 3) := by decide +kernel
theorem dX11_pairTowns_23 : decode cX11_pairTowns 23 = .ok (.iload_n 3, 1) := by decide +kernel
theorem dX11_pairTowns_24 : decode cX11_pairTowns 24 = .ok (.invokevirtual 624, 3) := by decide +kernel
theorem dX11_pairTowns_27 : decode cX11_pairTowns 27 = .ok (.iload_n 1, 1) := by decide +kernel
theorem dX11_pairTowns_28 : decode cX11_pairTowns 28 = .ok (.if_icmp .ne 30, 3) := by decide +kernel
theorem dX11_pairTowns_31 : decode cX11_pairTowns 31 = .ok (.aload_n 0, 1) := by decide +kernel
theorem dX11_pairTowns_32 : decode cX11_pairTowns 32 = .ok (.getfield 22, 3) := by decide +kernel
theorem dX11_pairTowns_35 : decode cX11_pairTowns 35 = .ok (.getfield 117, 3) := by decide +kernel
theorem dX11_pairTowns_38 : decode cX11_pairTowns 38 = .ok (.iload_n 3, 1) := by decide +kernel
theorem dX11_pairTowns_39 : decode cX11_pairTowns 39 = .ok (.iload_n 2, 1) := by decide +kernel
theorem dX11_pairTowns_40 : decode cX11_pairTowns 40 = .ok (.invokevirtual 627, 3) := by decide +kernel
theorem dX11_pairTowns_43 : decode cX11_pairTowns 43 = .ok (.istore 4, 2) := by decide +kernel
theorem dX11_pairTowns_45 : decode cX11_pairTowns 45 = .ok (.iload 4, 2) := by decide +kernel
theorem dX11_pairTowns_47 : decode cX11_pairTowns 47 = .ok (.iconst (-1), 1) := by decide +kernel
theorem dX11_pairTowns_48 : decode cX11_pairTowns 48 = .ok (.if_icmp .eq 10, 3) := by decide +kernel
theorem dX11_pairTowns_51 : decode cX11_pairTowns 51 = .ok (.aload_n 0, 1) := by decide +kernel
theorem dX11_pairTowns_52 : decode cX11_pairTowns 52 = .ok (.iload_n 3, 1) := by decide +kernel
theorem dX11_pairTowns_53 : decode cX11_pairTowns 53 = .ok (.iload 4, 2) := by decide +kernel
theorem dX11_pairTowns_55 : decode cX11_pairTowns 55 = .ok (.invokevirtual 443, 3) := by decide +kernel
theorem dX11_pairTowns_0 : decode cX11_pairTowns 0 = .ok (.iconst 0, 1) := by decide +kernel
theorem dX11_pairTowns_1 : decode cX11_pairTowns 1 = .ok (.istore_n 3, 1) := by decide +kernel
theorem dX11_twice_101 : decode cX11_twice 101 = .ok (.aload_n 0, 1) := by decide +kernel
theorem dX11_twice_102 : decode cX11_twice 102 = .ok (.getfield 22, 3) := by decide +kernel
theorem dX11_twice_105 : decode cX11_twice 105 = .ok (.getfield 396, 3) := by decide +kernel
theorem dX11_twice_108 : decode cX11_twice 108 = .ok (.getfield 440, 3) := by decide +kernel
theorem dX11_twice_111 : decode cX11_twice 111 = .ok (.ireturn, 1) := by decide +kernel
theorem dX11_twice_95 : decode cX11_twice 95 = .ok (.aload_n 0, 1) := by decide +kernel
theorem dX11_twice_96 : decode cX11_twice 96 = .ok (.iload_n 2, 1) := by decide +kernel
theorem dX11_twice_97 : decode cX11_twice 97 = .ok (.iload_n 3, 1) := by decide +kernel
theorem dX11_twice_98 : decode cX11_twice 98 = .ok (.invokevirtual 446, 3) := by decide +kernel
theorem dX11_twice_71 : decode cX11_twice 71 = .ok (.aload_n 0, 1) := by decide +kernel
theorem dX11_twice_72 : decode cX11_twice 72 = .ok (.getfield 22, 3) := by decide +kernel
theorem dX11_twice_75 : decode cX11_twice 75 = .ok (.getfield 396, 3) := by decide +kernel
theorem dX11_twice_78 : decode cX11_twice 78 = .ok (.iconst 0, 1) := by decide +kernel
theorem dX11_twice_79 : decode cX11_twice 79 = .ok (.putfield 440, 3) := by decide +kernel
theorem dX11_twice_82 : decode cX11_twice 82 = .ok (.iload_n 1, 1) := by decide +kernel
theorem dX11_twice_83 : decode cX11_twice 83 = .ok (.ifCond .ne 12, 3) := by decide +kernel
theorem dX11_twice_86 : decode cX11_twice 86 = .ok (.aload_n 0, 1) := by decide +kernel
theorem dX11_twice_87 : decode cX11_twice 87 = .ok (.iload_n 2, 1) := by decide +kernel
theorem dX11_twice_88 : decode cX11_twice 88 = .ok (.iload_n 3, 1) := by decide +kernel
theorem dX11_twice_89 : decode cX11_twice 89 = .ok (.invokevirtual 443, 3) := by decide +kernel
theorem dX11_twice_92 : decode cX11_twice 92 = .ok (.goto 9, 3) := by decide +kernel
theorem dX11_twice_63 : decode cX11_twice 63 = .ok (.iload_n 2, 1) := by decide +kernel
theorem dX11_twice_64 : decode cX11_twice 64 = .ok (.iload_n 3, 1) := by decide +kernel
theorem dX11_twice_65 : decode cX11_twice 65 = .ok (.if_icmp .ne 6, 3) := by decide +kernel
theorem dX11_twice_68 : decode cX11_twice 68 = .ok (.bipush (-2), 2) := by decide +kernel
theorem dX11_twice_70 : decode cX11_twice 70 = .ok (.ireturn, 1) := by decide +kernel
theorem dX11_twice_61 : decode cX11_twice 61 = .ok (.iconst (-1), 1) := by decide +kernel
theorem dX11_twice_62 : decode cX11_twice 62 = .ok (.ireturn, 1) := by decide +kernel
theorem dX11_twice_39 : decode cX11_twice 39 = .ok (.istore 4, 2) := by decide +kernel
theorem dX11_twice_41 : decode cX11_twice 41 = .ok (.iload_n 2, 1) := by decide +kernel
theorem dX11_twice_42 : decode cX11_twice 42 = .ok (.ifCond .lt 19, 3) := by decide +kernel
theorem dX11_twice_45 : decode cX11_twice 45 = .ok (.iload_n 3, 1) := by decide +kernel
theorem dX11_twice_46 : decode cX11_twice 46 = .ok (.ifCond .lt 15, 3) := by decide +kernel
theorem dX11_twice_49 : decode cX11_twice 49 = .ok (.iload_n 2, 1) := by decide +kernel
theorem dX11_twice_50 : decode cX11_twice 50 = .ok (.iload 4, 2) := by decide +kernel
theorem dX11_twice_52 : decode cX11_twice 52 = .ok (.if_icmp .ge 9, 3) := by decide +kernel
theorem dX11_twice_55 : decode cX11_twice 55 = .ok (.iload_n 3, 1) := by decide +kernel
theorem dX11_twice_56 : decode cX11_twice 56 = .ok (.iload 4, 2) := by decide +kernel
theorem dX11_twice_58 : decode cX11_twice 58 = .ok (.if_icmp .lt 5, 3) := by decide +kernel
theorem dX11_twice_29 : decode cX11_twice 29 = .ok (.aload_n 0, 1) := by decide +kernel
theorem dX11_twice_30 : decode cX11_twice 30 = .ok (.getfield 22, 3) := by decide +kernel
theorem dX11_twice_33 : decode cX11_twice 33 = .ok (.getfield 89, 3) := by decide +kernel
theorem dX11_twice_36 : decode cX11_twice 36 = .ok (.getfield 103, 3) := by decide +kernel
theorem dX11_twice_12 : decode cX11_twice 12 = .ok (.iload_n 1, 1) := by decide +kernel
theorem dX11_twice_13 : decode cX11_twice 13 = .ok (.ifCond .ne 16, 3) := by decide +kernel
theorem dX11_twice_16 : decode cX11_twice 16 = .ok (.aload_n 0, 1) := by decide +kernel
theorem dX11_twice_17 : decode cX11_twice 17 = .ok (.getfield 22, 3) := by decide +kernel
theorem dX11_twice_20 : decode cX11_twice 20 = .ok (.getfield 89, 3) := by decide +kernel
theorem dX11_twice_23 : decode cX11_twice 23 = .ok (.getfield 151, 3) := by decide +kernel
theorem dX11_twice_26 : decode cX11_twice 26 = .ok (.goto 13, 3) := by decide +kernel
theorem dX11_twice_0 : decode cX11_twice 0 = .ok (.iload_n 1, 1) := by decide +kernel
theorem dX11_twice_1 : decode cX11_twice 1 = .ok (.ifCond .eq 11, 3) := by decide +kernel
theorem dX11_twice_4 : decode cX11_twice 4 = .ok (.iload_n 1, 1) := by decide +kernel
theorem dX11_twice_5 : decode cX11_twice 5 = .ok (.iconst 1, 1) := by decide +kernel
theorem dX11_twice_6 : decode cX11_twice 6 = .ok (.if_icmp .eq 6, 3) := by decide +kernel
theorem dX11_twice_9 : decode cX11_twice 9 = .ok (.bipush (-2), 2) := by decide +kernel
theorem dX11_twice_11 : decode cX11_twice 11 = .ok (.ireturn, 1) := by decide +kernel
theorem dX11_pair_58 : decode cX11_pair 58 = .ok (.ireturn, 1) := by decide +kernel
theorem dX11_pair_57 : decode cX11_pair 57 = .ok (.iconst (-1), 1) := by decide +kernel
theorem dX11_pair_37 : decode cX11_pair 37 = .ok (.iload_n 2, 1) := by decide +kernel
theorem dX11_pair_38 : decode cX11_pair 38 = .ok (.iconst 1, 1) := by decide +kernel
theorem dX11_pair_39 : decode cX11_pair 39 = .ok (.if_icmp .ne 18, 3) := by decide +kernel
theorem dX11_pair_42 : decode cX11_pair 42 = .ok (.aload_n 0, 1) := by decide +kernel
theorem dX11_pair_43 : decode cX11_pair 43 = .ok (.getfield 22, 3) := by decide +kernel
theorem dX11_pair_46 : decode cX11_pair 46 = .ok (.getfield 396, 3) := by decide +kernel
theorem dX11_pair_49 : decode cX11_pair 49 = .ok (.getfield 452, 3) := by decide +kernel
theorem dX11_pair_52 : decode cX11_pair 52 = .ok (.iload_n 1, 1) := by decide +kernel
theorem dX11_pair_53 : decode cX11_pair 53 = .ok (.iaload, 1) := by decide +kernel
theorem dX11_pair_54 : decode cX11_pair 54 = .ok (.goto 4, 3) := by decide +kernel
theorem dX11_pair_20 : decode cX11_pair 20 = .ok (.iload_n 2, 1) := by decide +kernel
theorem dX11_pair_21 : decode cX11_pair 21 = .ok (.ifCond .ne 16, 3) := by decide +kernel
theorem dX11_pair_24 : decode cX11_pair 24 = .ok (.aload_n 0, 1) := by decide +kernel
theorem dX11_pair_25 : decode cX11_pair 25 = .ok (.getfield 22, 3) := by decide +kernel
theorem dX11_pair_28 : decode cX11_pair 28 = .ok (.getfield 396, 3) := by decide +kernel
theorem dX11_pair_31 : decode cX11_pair 31 = .ok (.getfield 449, 3) := by decide +kernel
theorem dX11_pair_34 : decode cX11_pair 34 = .ok (.iload_n 1, 1) := by decide +kernel
theorem dX11_pair_35 : decode cX11_pair 35 = .ok (.iaload, 1) := by decide +kernel
theorem dX11_pair_36 : decode cX11_pair 36 = .ok (.ireturn, 1) := by decide +kernel
theorem dX11_pair_18 : decode cX11_pair 18 = .ok (.iconst (-1), 1) := by decide +kernel
theorem dX11_pair_19 : decode cX11_pair 19 = .ok (.ireturn, 1) := by decide +kernel
theorem dX11_pair_0 : decode cX11_pair 0 = .ok (.iload_n 1, 1) := by decide +kernel
theorem dX11_pair_1 : decode cX11_pair 1 = .ok (.ifCond .lt 17, 3) := by decide +kernel
theorem dX11_pair_4 : decode cX11_pair 4 = .ok (.iload_n 1, 1) := by decide +kernel
theorem dX11_pair_5 : decode cX11_pair 5 = .ok (.aload_n 0, 1) := by decide +kernel
theorem dX11_pair_6 : decode cX11_pair 6 = .ok (.getfield 22, 3) := by decide +kernel
theorem dX11_pair_9 : decode cX11_pair 9 = .ok (.getfield 396, 3) := by decide +kernel
theorem dX11_pair_12 : decode cX11_pair 12 = .ok (.getfield 440, 3) := by decide +kernel
theorem dX11_pair_15 : decode cX11_pair 15 = .ok (.if_icmp .lt 5, 3) := by decide +kernel
theorem dX11_free_27 : decode cX11_free 27 = .ok (.aload_n 0, 1) := by decide +kernel
theorem dX11_free_28 : decode cX11_free 28 = .ok (.iload_n 1, 1) := by decide +kernel
theorem dX11_free_29 : decode cX11_free 29 = .ok (.iload_n 2, 1) := by decide +kernel
theorem dX11_free_30 : decode cX11_free 30 = .ok (.iload_n 3, 1) := by decide +kernel
theorem dX11_free_31 : decode cX11_free 31 = .ok (.iconst 0, 1) := by decide +kernel
theorem dX11_free_32 : decode cX11_free 32 = .ok (.invokevirtual 181, 3) := by decide +kernel
theorem dX11_free_35 : decode cX11_free 35 = .ok (.ireturn, 1) := by decide +kernel
theorem dX11_free_16 : decode cX11_free 16 = .ok (.iload_n 2, 1) := by decide +kernel
theorem dX11_free_17 : decode cX11_free 17 = .ok (.iload_n 3, 1) := by decide +kernel
theorem dX11_free_18 : decode cX11_free 18 = .ok (.invokestatic 170, 3) := by decide +kernel
theorem dX11_free_21 : decode cX11_free 21 = .ok (.ifCond .ne 6, 3) := by decide +kernel
theorem dX11_free_24 : decode cX11_free 24 = .ok (.bipush (-2), 2) := by decide +kernel
theorem dX11_free_26 : decode cX11_free 26 = .ok (.ireturn, 1) := by decide +kernel
theorem dX11_free_0 : decode cX11_free 0 = .ok (.aload_n 0, 1) := by decide +kernel
theorem dX11_free_1 : decode cX11_free 1 = .ok (.getfield 22, 3) := by decide +kernel
theorem dX11_free_4 : decode cX11_free 4 = .ok (.getfield 89, 3) := by decide +kernel
theorem dX11_free_7 : decode cX11_free 7 = .ok (.iload_n 1, 1) := by decide +kernel
theorem dX11_free_8 : decode cX11_free 8 = .ok (.invokevirtual 167, 3) := by decide +kernel
theorem dX11_free_11 : decode cX11_free 11 = .ok (.ifCond .ne 5, 3) := by decide +kernel
theorem dX11_free_14 : decode cX11_free 14 = .ok (.iconst (-1), 1) := by decide +kernel
theorem dX11_free_15 : decode cX11_free 15 = .ok (.ireturn, 1) := by decide +kernel
theorem dX11_isNearer_85 : decode cX11_isNearer 85 = .ok (.ireturn, 1) := by decide +kernel
theorem dX11_isNearer_84 : decode cX11_isNearer 84 = .ok (.iconst 0, 1) := by decide +kernel
theorem dX11_isNearer_54 : decode cX11_isNearer 54 = .ok (.aload_n 0, 1) := by decide +kernel
theorem dX11_isNearer_55 : decode cX11_isNearer 55 = .ok (.getfield 40, 3) := by decide +kernel
theorem dX11_isNearer_58 : decode cX11_isNearer 58 = .ok (.getfield 541, 3) := by decide +kernel
theorem dX11_isNearer_61 : decode cX11_isNearer 61 = .ok (.iload_n 1, 1) := by decide +kernel
theorem dX11_isNearer_62 : decode cX11_isNearer 62 = .ok (.iaload, 1) := by decide +kernel
theorem dX11_isNearer_63 : decode cX11_isNearer 63 = .ok (.iload_n 3, 1) := by decide +kernel
theorem dX11_isNearer_64 : decode cX11_isNearer 64 = .ok (.if_icmp .ne 20, 3) := by decide +kernel
theorem dX11_isNearer_67 : decode cX11_isNearer 67 = .ok (.aload_n 0, 1) := by decide +kernel
theorem dX11_isNearer_68 : decode cX11_isNearer 68 = .ok (.getfield 40, 3) := by decide +kernel
theorem dX11_isNearer_71 : decode cX11_isNearer 71 = .ok (.getfield 541, 3) := by decide +kernel
theorem dX11_isNearer_74 : decode cX11_isNearer 74 = .ok (.iload_n 2, 1) := by decide +kernel
theorem dX11_isNearer_75 : decode cX11_isNearer 75 = .ok (.iaload, 1) := by decide +kernel
theorem dX11_isNearer_76 : decode cX11_isNearer 76 = .ok (.iload_n 3, 1) := by decide +kernel
theorem dX11_isNearer_77 : decode cX11_isNearer 77 = .ok (.if_icmp .eq 7, 3) := by decide +kernel
theorem dX11_isNearer_80 : decode cX11_isNearer 80 = .ok (.iconst 1, 1) := by decide +kernel
theorem dX11_isNearer_81 : decode cX11_isNearer 81 = .ok (.goto 4, 3) := by decide +kernel
theorem dX11_isNearer_53 : decode cX11_isNearer 53 = .ok (.ireturn, 1) := by decide +kernel
theorem dX11_isNearer_52 : decode cX11_isNearer 52 = .ok (.iconst 0, 1) := by decide +kernel
theorem dX11_isNearer_0 : decode cX11_isNearer 0 = .ok (.aload_n 0, 1) := by decide +kernel
theorem dX11_isNearer_1 : decode cX11_isNearer 1 = .ok (.getfield 40, 3) := by decide +kernel
theorem dX11_isNearer_4 : decode cX11_isNearer 4 = .ok (.getfield 542, 3) := by decide +kernel
theorem dX11_isNearer_7 : decode cX11_isNearer 7 = .ok (.iload_n 1, 1) := by decide +kernel
theorem dX11_isNearer_8 : decode cX11_isNearer 8 = .ok (.iaload, 1) := by decide +kernel
theorem dX11_isNearer_9 : decode cX11_isNearer 9 = .ok (.iload 4, 2) := by decide +kernel
theorem dX11_isNearer_11 : decode cX11_isNearer 11 = .ok (.isub, 1) := by decide +kernel
theorem dX11_isNearer_12 : decode cX11_isNearer 12 = .ok (.invokestatic 562, 3) := by decide +kernel
theorem dX11_isNearer_15 : decode cX11_isNearer 15 = .ok (.istore 5, 2) := by decide +kernel
theorem dX11_isNearer_17 : decode cX11_isNearer 17 = .ok (.aload_n 0, 1) := by decide +kernel
theorem dX11_isNearer_18 : decode cX11_isNearer 18 = .ok (.getfield 40, 3) := by decide +kernel
theorem dX11_isNearer_21 : decode cX11_isNearer 21 = .ok (.getfield 542, 3) := by decide +kernel
theorem dX11_isNearer_24 : decode cX11_isNearer 24 = .ok (.iload_n 2, 1) := by decide +kernel
theorem dX11_isNearer_25 : decode cX11_isNearer 25 = .ok (.iaload, 1) := by decide +kernel
theorem dX11_isNearer_26 : decode cX11_isNearer 26 = .ok (.iload 4, 2) := by decide +kernel
theorem dX11_isNearer_28 : decode cX11_isNearer 28 = .ok (.isub, 1) := by decide +kernel
theorem dX11_isNearer_29 : decode cX11_isNearer 29 = .ok (.invokestatic 562, 3) := by decide +kernel
theorem dX11_isNearer_32 : decode cX11_isNearer 32 = .ok (.istore 6, 2) := by decide +kernel
theorem dX11_isNearer_34 : decode cX11_isNearer 34 = .ok (.iload 5, 2) := by decide +kernel
theorem dX11_isNearer_36 : decode cX11_isNearer 36 = .ok (.iload 6, 2) := by decide +kernel
theorem dX11_isNearer_38 : decode cX11_isNearer 38 = .ok (.if_icmp .eq 16, 3) := by decide +kernel
theorem dX11_isNearer_41 : decode cX11_isNearer 41 = .ok (.iload 5, 2) := by decide +kernel
theorem dX11_isNearer_43 : decode cX11_isNearer 43 = .ok (.iload 6, 2) := by decide +kernel
theorem dX11_isNearer_45 : decode cX11_isNearer 45 = .ok (.if_icmp .ge 7, 3) := by decide +kernel
theorem dX11_isNearer_48 : decode cX11_isNearer 48 = .ok (.iconst 1, 1) := by decide +kernel
theorem dX11_isNearer_49 : decode cX11_isNearer 49 = .ok (.goto 4, 3) := by decide +kernel
theorem dX11_near_116 : decode cX11_near 116 = .ok (.ireturn, 1) := by decide +kernel
theorem dX11_near_104 : decode cX11_near 104 = .ok (.aload_n 0, 1) := by decide +kernel
theorem dX11_near_105 : decode cX11_near 105 = .ok (.getfield 40, 3) := by decide +kernel
theorem dX11_near_108 : decode cX11_near 108 = .ok (.getfield 416, 3) := by decide +kernel
theorem dX11_near_111 : decode cX11_near 111 = .ok (.iload 5, 2) := by decide +kernel
theorem dX11_near_113 : decode cX11_near 113 = .ok (.iaload, 1) := by decide +kernel
theorem dX11_near_114 : decode cX11_near 114 = .ok (.iconst 2, 1) := by decide +kernel
theorem dX11_near_115 : decode cX11_near 115 = .ok (.idiv, 1) := by decide +kernel
theorem dX11_near_94 : decode cX11_near 94 = .ok (.iload 5, 2) := by decide +kernel
theorem dX11_near_96 : decode cX11_near 96 = .ok (.iconst (-1), 1) := by decide +kernel
theorem dX11_near_97 : decode cX11_near 97 = .ok (.if_icmp .ne 7, 3) := by decide +kernel
theorem dX11_near_100 : decode cX11_near 100 = .ok (.iconst (-1), 1) := by decide +kernel
theorem dX11_near_101 : decode cX11_near 101 = .ok (.goto 15, 3) := by decide +kernel
theorem dX11_near_88 : decode cX11_near 88 = .ok (.iinc 6 1, 3) := by decide +kernel
theorem dX11_near_91 : decode cX11_near 91 = .ok (.goto (-38), 3) := by decide +kernel
theorem dX11_near_84 : decode cX11_near 84 = .ok (.iload 6, 2) := by decide +kernel
theorem dX11_near_86 : decode cX11_near 86 = .ok (.istore 5, 2) := by decide +kernel
theorem dX11_near_53 : decode cX11_near 53 = .ok (.iload 6, 2) := by decide +kernel
theorem dX11_near_55 : decode cX11_near 55 = .ok (.aload_n 0, 1) := by decide +kernel
theorem dX11_near_56 : decode cX11_near 56 = .ok (.getfield 40, 3) := by decide +kernel
theorem dX11_near_59 : decode cX11_near 59 = .ok (.getfield 455, 3) := by decide +kernel
theorem dX11_near_62 : decode cX11_near 62 = .ok (.if_icmp .ge 32, 3) := by decide +kernel
theorem dX11_near_65 : decode cX11_near 65 = .ok (.iload 5, 2) := by decide +kernel
theorem dX11_near_67 : decode cX11_near 67 = .ok (.iconst (-1), 1) := by decide +kernel
theorem dX11_near_68 : decode cX11_near 68 = .ok (.if_icmp .eq 16, 3) := by decide +kernel
theorem dX11_near_71 : decode cX11_near 71 = .ok (.aload_n 0, 1) := by decide +kernel
theorem dX11_near_72 : decode cX11_near 72 = .ok (.iload 6, 2) := by decide +kernel
theorem dX11_near_74 : decode cX11_near 74 = .ok (.iload 5, 2) := by decide +kernel
theorem dX11_near_76 : decode cX11_near 76 = .ok (.iload_n 2, 1) := by decide +kernel
theorem dX11_near_77 : decode cX11_near 77 = .ok (.iload_n 3, 1) := by decide +kernel
theorem dX11_near_78 : decode cX11_near 78 = .ok (.invokevirtual 456, 3) := by decide +kernel
theorem dX11_near_81 : decode cX11_near 81 = .ok (.ifCond .eq 7, 3) := by decide +kernel
theorem dX11_near_32 : decode cX11_near 32 = .ok (.aload_n 0, 1) := by decide +kernel
theorem dX11_near_33 : decode cX11_near 33 = .ok (.getfield 40, 3) := by decide +kernel
theorem dX11_near_36 : decode cX11_near 36 = .ok (.aload_n 0, 1) := by decide +kernel
theorem dX11_near_37 : decode cX11_near 37 = .ok (.getfield 22, 3) := by decide +kernel
theorem dX11_near_40 : decode cX11_near 40 = .ok (.iload_n 1, 1) := by decide +kernel
theorem dX11_near_41 : decode cX11_near 41 = .ok (.iload 4, 2) := by decide +kernel
theorem dX11_near_43 : decode cX11_near 43 = .ok (.iconst 1, 1) := by decide +kernel
theorem dX11_near_44 : decode cX11_near 44 = .ok (.invokevirtual 256, 3) := by decide +kernel
theorem dX11_near_47 : decode cX11_near 47 = .ok (.iconst (-1), 1) := by decide +kernel
theorem dX11_near_48 : decode cX11_near 48 = .ok (.istore 5, 2) := by decide +kernel
theorem dX11_near_50 : decode cX11_near 50 = .ok (.iconst 0, 1) := by decide +kernel
theorem dX11_near_51 : decode cX11_near 51 = .ok (.istore 6, 2) := by decide +kernel
theorem dX11_near_30 : decode cX11_near 30 = .ok (.iconst (-1), 1) := by decide +kernel
theorem dX11_near_31 : decode cX11_near 31 = .ok (.ireturn, 1) := by decide +kernel
theorem dX11_near_0 : decode cX11_near 0 = .ok (.aload_n 0, 1) := by decide +kernel
theorem dX11_near_1 : decode cX11_near 1 = .ok (.getfield 22, 3) := by decide +kernel
theorem dX11_near_4 : decode cX11_near 4 = .ok (.getfield 89, 3) := by decide +kernel
theorem dX11_near_7 : decode cX11_near 7 = .ok (.iload_n 1, 1) := by decide +kernel
theorem dX11_near_8 : decode cX11_near 8 = .ok (.invokevirtual 167, 3) := by decide +kernel
theorem dX11_near_11 : decode cX11_near 11 = .ok (.ifCond .eq 19, 3) := by decide +kernel
theorem dX11_near_14 : decode cX11_near 14 = .ok (.iload_n 2, 1) := by decide +kernel
theorem dX11_near_15 : decode cX11_near 15 = .ok (.iload_n 3, 1) := by decide +kernel
theorem dX11_near_16 : decode cX11_near 16 = .ok (.invokestatic 170, 3) := by decide +kernel
theorem dX11_near_19 : decode cX11_near 19 = .ok (.ifCond .eq 11, 3) := by decide +kernel
theorem dX11_near_22 : decode cX11_near 22 = .ok (.iload 4, 2) := by decide +kernel
theorem dX11_near_24 : decode cX11_near 24 = .ok (.invokestatic 69, 3) := by decide +kernel
theorem dX11_near_27 : decode cX11_near 27 = .ok (.ifCond .ne 5, 3) := by decide +kernel
theorem dX1_addStop_39 : decode cX1_addStop 39 = .ok (.aload_n 0, 1) := by decide +kernel
theorem dX1_addStop_40 : decode cX1_addStop 40 = .ok (.getfield 61, 3) := by decide +kernel
theorem dX1_addStop_43 : decode cX1_addStop 43 = .ok (.ireturn, 1) := by decide +kernel
theorem dX1_addStop_0 : decode cX1_addStop 0 = .ok (.aload_n 0, 1) := by decide +kernel
theorem dX1_addStop_1 : decode cX1_addStop 1 = .ok (.getfield 61, 3) := by decide +kernel
theorem dX1_addStop_4 : decode cX1_addStop 4 = .ok (.bipush 24, 2) := by decide +kernel
theorem dX1_addStop_6 : decode cX1_addStop 6 = .ok (.if_icmp .ge 33, 3) := by decide +kernel
theorem dX1_addStop_9 : decode cX1_addStop 9 = .ok (.aload_n 0, 1) := by decide +kernel
theorem dX1_addStop_10 : decode cX1_addStop 10 = .ok (.getfield 37, 3) := by decide +kernel
theorem dX1_addStop_13 : decode cX1_addStop 13 = .ok (.aload_n 0, 1) := by decide +kernel
theorem dX1_addStop_14 : decode cX1_addStop 14 = .ok (.getfield 61, 3) := by decide +kernel
theorem dX1_addStop_17 : decode cX1_addStop 17 = .ok (.iload_n 1, 1) := by decide +kernel
theorem dX1_addStop_18 : decode cX1_addStop 18 = .ok (.iastore, 1) := by decide +kernel
theorem dX1_addStop_19 : decode cX1_addStop 19 = .ok (.aload_n 0, 1) := by decide +kernel
theorem dX1_addStop_20 : decode cX1_addStop 20 = .ok (.getfield 40, 3) := by decide +kernel
theorem dX1_addStop_23 : decode cX1_addStop 23 = .ok (.aload_n 0, 1) := by decide +kernel
theorem dX1_addStop_24 : decode cX1_addStop 24 = .ok (.getfield 61, 3) := by decide +kernel
theorem dX1_addStop_27 : decode cX1_addStop 27 = .ok (.iload_n 2, 1) := by decide +kernel
theorem dX1_addStop_28 : decode cX1_addStop 28 = .ok (.iastore, 1) := by decide +kernel
theorem dX1_addStop_29 : decode cX1_addStop 29 = .ok (.aload_n 0, 1) := by decide +kernel
theorem dX1_addStop_30 : decode cX1_addStop 30 = .ok (.dup, 1) := by decide +kernel
theorem dX1_addStop_31 : decode cX1_addStop 31 = .ok (.getfield 61, 3) := by decide +kernel
theorem dX1_addStop_34 : decode cX1_addStop 34 = .ok (.iconst 1, 1) := by decide +kernel
theorem dX1_addStop_35 : decode cX1_addStop 35 = .ok (.iadd, 1) := by decide +kernel
theorem dX1_addStop_36 : decode cX1_addStop 36 = .ok (.putfield 61, 3) := by decide +kernel
theorem dX11_stop_64 : decode cX11_stop 64 = .ok (.aload_n 0, 1) := by decide +kernel
theorem dX11_stop_65 : decode cX11_stop 65 = .ok (.getfield 22, 3) := by decide +kernel
theorem dX11_stop_68 : decode cX11_stop 68 = .ok (.getfield 396, 3) := by decide +kernel
theorem dX11_stop_71 : decode cX11_stop 71 = .ok (.iload_n 1, 1) := by decide +kernel
theorem dX11_stop_72 : decode cX11_stop 72 = .ok (.iload_n 2, 1) := by decide +kernel
theorem dX11_stop_73 : decode cX11_stop 73 = .ok (.invokevirtual 463, 3) := by decide +kernel
theorem dX11_stop_76 : decode cX11_stop 76 = .ok (.ireturn, 1) := by decide +kernel
theorem dX11_stop_46 : decode cX11_stop 46 = .ok (.aload_n 0, 1) := by decide +kernel
theorem dX11_stop_47 : decode cX11_stop 47 = .ok (.getfield 22, 3) := by decide +kernel
theorem dX11_stop_50 : decode cX11_stop 50 = .ok (.getfield 396, 3) := by decide +kernel
theorem dX11_stop_53 : decode cX11_stop 53 = .ok (.getfield 460, 3) := by decide +kernel
theorem dX11_stop_56 : decode cX11_stop 56 = .ok (.bipush 24, 2) := by decide +kernel
theorem dX11_stop_58 : decode cX11_stop 58 = .ok (.if_icmp .lt 6, 3) := by decide +kernel
theorem dX11_stop_61 : decode cX11_stop 61 = .ok (.bipush (-6), 2) := by decide +kernel
theorem dX11_stop_63 : decode cX11_stop 63 = .ok (.ireturn, 1) := by decide +kernel
theorem dX11_stop_43 : decode cX11_stop 43 = .ok (.bipush (-2), 2) := by decide +kernel
theorem dX11_stop_45 : decode cX11_stop 45 = .ok (.ireturn, 1) := by decide +kernel
theorem dX11_stop_34 : decode cX11_stop 34 = .ok (.iload_n 2, 1) := by decide +kernel
theorem dX11_stop_35 : decode cX11_stop 35 = .ok (.ifCond .lt 8, 3) := by decide +kernel
theorem dX11_stop_38 : decode cX11_stop 38 = .ok (.iload_n 2, 1) := by decide +kernel
theorem dX11_stop_39 : decode cX11_stop 39 = .ok (.iconst 2, 1) := by decide +kernel
theorem dX11_stop_40 : decode cX11_stop 40 = .ok (.if_icmp .le 6, 3) := by decide +kernel
theorem dX11_stop_16 : decode cX11_stop 16 = .ok (.iload_n 2, 1) := by decide +kernel
theorem dX11_stop_17 : decode cX11_stop 17 = .ok (.iconst (-1), 1) := by decide +kernel
theorem dX11_stop_18 : decode cX11_stop 18 = .ok (.if_icmp .ne 16, 3) := by decide +kernel
theorem dX11_stop_21 : decode cX11_stop 21 = .ok (.aload_n 0, 1) := by decide +kernel
theorem dX11_stop_22 : decode cX11_stop 22 = .ok (.getfield 22, 3) := by decide +kernel
theorem dX11_stop_25 : decode cX11_stop 25 = .ok (.getfield 396, 3) := by decide +kernel
theorem dX11_stop_28 : decode cX11_stop 28 = .ok (.iconst 0, 1) := by decide +kernel
theorem dX11_stop_29 : decode cX11_stop 29 = .ok (.putfield 460, 3) := by decide +kernel
theorem dX11_stop_32 : decode cX11_stop 32 = .ok (.iconst 0, 1) := by decide +kernel
theorem dX11_stop_33 : decode cX11_stop 33 = .ok (.ireturn, 1) := by decide +kernel
theorem dX11_stop_0 : decode cX11_stop 0 = .ok (.aload_n 0, 1) := by decide +kernel
theorem dX11_stop_1 : decode cX11_stop 1 = .ok (.getfield 22, 3) := by decide +kernel
theorem dX11_stop_4 : decode cX11_stop 4 = .ok (.getfield 89, 3) := by decide +kernel
theorem dX11_stop_7 : decode cX11_stop 7 = .ok (.iload_n 1, 1) := by decide +kernel
theorem dX11_stop_8 : decode cX11_stop 8 = .ok (.invokevirtual 167, 3) := by decide +kernel
theorem dX11_stop_11 : decode cX11_stop 11 = .ok (.ifCond .ne 5, 3) := by decide +kernel
theorem dX11_stop_14 : decode cX11_stop 14 = .ok (.iconst (-1), 1) := by decide +kernel
theorem dX11_stop_15 : decode cX11_stop 15 = .ok (.ireturn, 1) := by decide +kernel
theorem dX1_whenWalked_28 : decode cX1_whenWalked 28 = .ok (.iconst (-1), 1) := by decide +kernel
theorem dX1_whenWalked_29 : decode cX1_whenWalked 29 = .ok (.ireturn, 1) := by decide +kernel
theorem dX1_whenWalked_22 : decode cX1_whenWalked 22 = .ok (.iinc 2 1, 3) := by decide +kernel
theorem dX1_whenWalked_25 : decode cX1_whenWalked 25 = .ok (.goto (-23), 3) := by decide +kernel
theorem dX1_whenWalked_2 : decode cX1_whenWalked 2 = .ok (.iload_n 2, 1) := by decide +kernel
theorem dX1_whenWalked_3 : decode cX1_whenWalked 3 = .ok (.aload_n 0, 1) := by decide +kernel
theorem dX1_whenWalked_4 : decode cX1_whenWalked 4 = .ok (.getfield 64, 3) := by decide +kernel
theorem dX1_whenWalked_7 : decode cX1_whenWalked 7 = .ok (.if_icmp .ge 21, 3) := by decide +kernel
theorem dX1_whenWalked_10 : decode cX1_whenWalked 10 = .ok (.aload_n 0, 1) := by decide +kernel
theorem dX1_whenWalked_11 : decode cX1_whenWalked 11 = .ok (.getfield 43, 3) := by decide +kernel
theorem dX1_whenWalked_14 : decode cX1_whenWalked 14 = .ok (.iload_n 2, 1) := by decide +kernel
theorem dX1_whenWalked_15 : decode cX1_whenWalked 15 = .ok (.iaload, 1) := by decide +kernel
theorem dX1_whenWalked_16 : decode cX1_whenWalked 16 = .ok (.iload_n 1, 1) := by decide +kernel
theorem dX1_whenWalked_17 : decode cX1_whenWalked 17 = .ok (.if_icmp .ne 5, 3) := by decide +kernel
theorem dX1_whenWalked_20 : decode cX1_whenWalked 20 = .ok (.iload_n 2, 1) := by decide +kernel
theorem dX1_whenWalked_21 : decode cX1_whenWalked 21 = .ok (.ireturn, 1) := by decide +kernel
theorem dX1_whenWalked_0 : decode cX1_whenWalked 0 = .ok (.iconst 0, 1) := by decide +kernel
theorem dX1_whenWalked_1 : decode cX1_whenWalked 1 = .ok (.istore_n 2, 1) := by decide +kernel
theorem dX1_addWalked_29 : decode cX1_addWalked 29 = .ok (.return_, 1) := by decide +kernel
theorem dX1_addWalked_0 : decode cX1_addWalked 0 = .ok (.aload_n 0, 1) := by decide +kernel
theorem dX1_addWalked_1 : decode cX1_addWalked 1 = .ok (.getfield 64, 3) := by decide +kernel
theorem dX1_addWalked_4 : decode cX1_addWalked 4 = .ok (.bipush 100, 2) := by decide +kernel
theorem dX1_addWalked_6 : decode cX1_addWalked 6 = .ok (.if_icmp .ge 23, 3) := by decide +kernel
theorem dX1_addWalked_9 : decode cX1_addWalked 9 = .ok (.aload_n 0, 1) := by decide +kernel
theorem dX1_addWalked_10 : decode cX1_addWalked 10 = .ok (.getfield 43, 3) := by decide +kernel
theorem dX1_addWalked_13 : decode cX1_addWalked 13 = .ok (.aload_n 0, 1) := by decide +kernel
theorem dX1_addWalked_14 : decode cX1_addWalked 14 = .ok (.getfield 64, 3) := by decide +kernel
theorem dX1_addWalked_17 : decode cX1_addWalked 17 = .ok (.iload_n 1, 1) := by decide +kernel
theorem dX1_addWalked_18 : decode cX1_addWalked 18 = .ok (.iastore, 1) := by decide +kernel
theorem dX1_addWalked_19 : decode cX1_addWalked 19 = .ok (.aload_n 0, 1) := by decide +kernel
theorem dX1_addWalked_20 : decode cX1_addWalked 20 = .ok (.dup, 1) := by decide +kernel
theorem dX1_addWalked_21 : decode cX1_addWalked 21 = .ok (.getfield 64, 3) := by decide +kernel
theorem dX1_addWalked_24 : decode cX1_addWalked 24 = .ok (.iconst 1, 1) := by decide +kernel
theorem dX1_addWalked_25 : decode cX1_addWalked 25 = .ok (.iadd, 1) := by decide +kernel
theorem dX1_addWalked_26 : decode cX1_addWalked 26 = .ok (.putfield 64, 3) := by decide +kernel
theorem dX5_rankUnder_37 : decode cX5_rankUnder 37 = .ok (.ireturn, 1) := by decide +kernel
theorem dX5_rankUnder_36 : decode cX5_rankUnder 36 = .ok (.iconst 0, 1) := by decide +kernel
theorem dX5_rankUnder_0 : decode cX5_rankUnder 0 = .ok (.aload_n 0, 1) := by decide +kernel
theorem dX5_rankUnder_1 : decode cX5_rankUnder 1 = .ok (.getfield 42, 3) := by decide +kernel
theorem dX5_rankUnder_4 : decode cX5_rankUnder 4 = .ok (.iload_n 1, 1) := by decide +kernel
theorem dX5_rankUnder_5 : decode cX5_rankUnder 5 = .ok (.invokevirtual 117, 3) := by decide +kernel
theorem dX5_rankUnder_8 : decode cX5_rankUnder 8 = .ok (.ifCond .eq 28, 3) := by decide +kernel
theorem dX5_rankUnder_11 : decode cX5_rankUnder 11 = .ok (.aload_n 0, 1) := by decide +kernel
theorem dX5_rankUnder_12 : decode cX5_rankUnder 12 = .ok (.getfield 42, 3) := by decide +kernel
theorem dX5_rankUnder_15 : decode cX5_rankUnder 15 = .ok (.getfield 156, 3) := by decide +kernel
theorem dX5_rankUnder_18 : decode cX5_rankUnder 18 = .ok (.iload_n 1, 1) := by decide +kernel
theorem dX5_rankUnder_19 : decode cX5_rankUnder 19 = .ok (.iaload, 1) := by decide +kernel
theorem dX5_rankUnder_20 : decode cX5_rankUnder 20 = .ok (.bipush 100, 2) := by decide +kernel
theorem dX5_rankUnder_22 : decode cX5_rankUnder 22 = .ok (.imul, 1) := by decide +kernel
theorem dX5_rankUnder_23 : decode cX5_rankUnder 23 = .ok (.aload_n 0, 1) := by decide +kernel
theorem dX5_rankUnder_24 : decode cX5_rankUnder 24 = .ok (.getfield 42, 3) := by decide +kernel
theorem dX5_rankUnder_27 : decode cX5_rankUnder 27 = .ok (.getfield 159, 3) := by decide +kernel
theorem dX5_rankUnder_30 : decode cX5_rankUnder 30 = .ok (.iload_n 1, 1) := by decide +kernel
theorem dX5_rankUnder_31 : decode cX5_rankUnder 31 = .ok (.iaload, 1) := by decide +kernel
theorem dX5_rankUnder_32 : decode cX5_rankUnder 32 = .ok (.iadd, 1) := by decide +kernel
theorem dX5_rankUnder_33 : decode cX5_rankUnder 33 = .ok (.goto 4, 3) := by decide +kernel
theorem dX5_sinkWalked_98 : decode cX5_sinkWalked 98 = .ok (.return_, 1) := by decide +kernel
theorem dX5_sinkWalked_10 : decode cX5_sinkWalked 10 = .ok (.iload_n 2, 1) := by decide +kernel
theorem dX5_sinkWalked_11 : decode cX5_sinkWalked 11 = .ok (.iload_n 1, 1) := by decide +kernel
theorem dX5_sinkWalked_12 : decode cX5_sinkWalked 12 = .ok (.if_icmp .le 86, 3) := by decide +kernel
theorem dX5_sinkWalked_15 : decode cX5_sinkWalked 15 = .ok (.iload_n 2, 1) := by decide +kernel
theorem dX5_sinkWalked_16 : decode cX5_sinkWalked 16 = .ok (.ifCond .le 82, 3) := by decide +kernel
theorem dX5_sinkWalked_19 : decode cX5_sinkWalked 19 = .ok (.aload_n 0, 1) := by decide +kernel
theorem dX5_sinkWalked_20 : decode cX5_sinkWalked 20 = .ok (.aload_n 0, 1) := by decide +kernel
theorem dX5_sinkWalked_21 : decode cX5_sinkWalked 21 = .ok (.getfield 56, 3) := by decide +kernel
theorem dX5_sinkWalked_24 : decode cX5_sinkWalked 24 = .ok (.getfield 150, 3) := by decide +kernel
theorem dX5_sinkWalked_27 : decode cX5_sinkWalked 27 = .ok (.iload_n 2, 1) := by decide +kernel
theorem dX5_sinkWalked_28 : decode cX5_sinkWalked 28 = .ok (.iconst 1, 1) := by decide +kernel
theorem dX5_sinkWalked_29 : decode cX5_sinkWalked 29 = .ok (.isub, 1) := by decide +kernel
theorem dX5_sinkWalked_30 : decode cX5_sinkWalked 30 = .ok (.iaload, 1) := by decide +kernel
theorem dX5_sinkWalked_31 : decode cX5_sinkWalked 31 = .ok (.invokevirtual 153, 3) := by decide +kernel
theorem dX5_sinkWalked_34 : decode cX5_sinkWalked 34 = .ok (.aload_n 0, 1) := by decide +kernel
theorem dX5_sinkWalked_35 : decode cX5_sinkWalked 35 = .ok (.aload_n 0, 1) := by decide +kernel
theorem dX5_sinkWalked_36 : decode cX5_sinkWalked 36 = .ok (.getfield 56, 3) := by decide +kernel
theorem dX5_sinkWalked_39 : decode cX5_sinkWalked 39 = .ok (.getfield 150, 3) := by decide +kernel
theorem dX5_sinkWalked_42 : decode cX5_sinkWalked 42 = .ok (.iload_n 2, 1) := by decide +kernel
theorem dX5_sinkWalked_43 : decode cX5_sinkWalked 43 = .ok (.iaload, 1) := by decide +kernel
theorem dX5_sinkWalked_44 : decode cX5_sinkWalked 44 = .ok (.invokevirtual 153, 3) := by decide +kernel
theorem dX5_sinkWalked_47 : decode cX5_sinkWalked 47 = .ok (.if_icmp .le 51, 3) := by decide +kernel
theorem dX5_sinkWalked_50 : decode cX5_sinkWalked 50 = .ok (.aload_n 0, 1) := by decide +kernel
theorem dX5_sinkWalked_51 : decode cX5_sinkWalked 51 = .ok (.getfield 56, 3) := by decide +kernel
theorem dX5_sinkWalked_54 : decode cX5_sinkWalked 54 = .ok (.getfield 150, 3) := by decide +kernel
theorem dX5_sinkWalked_57 : decode cX5_sinkWalked 57 = .ok (.iload_n 2, 1) := by decide +kernel
theorem dX5_sinkWalked_58 : decode cX5_sinkWalked 58 = .ok (.iaload, 1) := by decide +kernel
theorem dX5_sinkWalked_59 : decode cX5_sinkWalked 59 = .ok (.istore_n 3, 1) := by decide +kernel
theorem dX5_sinkWalked_60 : decode cX5_sinkWalked 60 = .ok (.aload_n 0, 1) := by decide +kernel
theorem dX5_sinkWalked_61 : decode cX5_sinkWalked 61 = .ok (.getfield 56, 3) := by decide +kernel
theorem dX5_sinkWalked_64 : decode cX5_sinkWalked 64 = .ok (.getfield 150, 3) := by decide +kernel
theorem dX5_sinkWalked_67 : decode cX5_sinkWalked 67 = .ok (.iload_n 2, 1) := by decide +kernel
theorem dX5_sinkWalked_68 : decode cX5_sinkWalked 68 = .ok (.aload_n 0, 1) := by decide +kernel
theorem dX5_sinkWalked_69 : decode cX5_sinkWalked 69 = .ok (.getfield 56, 3) := by decide +kernel
theorem dX5_sinkWalked_72 : decode cX5_sinkWalked 72 = .ok (.getfield 150, 3) := by decide +kernel
theorem dX5_sinkWalked_75 : decode cX5_sinkWalked 75 = .ok (.iload_n 2, 1) := by decide +kernel
theorem dX5_sinkWalked_76 : decode cX5_sinkWalked 76 = .ok (.iconst 1, 1) := by decide +kernel
theorem dX5_sinkWalked_77 : decode cX5_sinkWalked 77 = .ok (.isub, 1) := by decide +kernel
theorem dX5_sinkWalked_78 : decode cX5_sinkWalked 78 = .ok (.iaload, 1) := by decide +kernel
theorem dX5_sinkWalked_79 : decode cX5_sinkWalked 79 = .ok (.iastore, 1) := by decide +kernel
theorem dX5_sinkWalked_80 : decode cX5_sinkWalked 80 = .ok (.aload_n 0, 1) := by decide +kernel
theorem dX5_sinkWalked_81 : decode cX5_sinkWalked 81 = .ok (.getfield 56, 3) := by decide +kernel
theorem dX5_sinkWalked_84 : decode cX5_sinkWalked 84 = .ok (.getfield 150, 3) := by decide +kernel
theorem dX5_sinkWalked_87 : decode cX5_sinkWalked 87 = .ok (.iload_n 2, 1) := by decide +kernel
theorem dX5_sinkWalked_88 : decode cX5_sinkWalked 88 = .ok (.iconst 1, 1) := by decide +kernel
theorem dX5_sinkWalked_89 : decode cX5_sinkWalked 89 = .ok (.isub, 1) := by decide +kernel
theorem dX5_sinkWalked_90 : decode cX5_sinkWalked 90 = .ok (.iload_n 3, 1) := by decide +kernel
theorem dX5_sinkWalked_91 : decode cX5_sinkWalked 91 = .ok (.iastore, 1) := by decide +kernel
theorem dX5_sinkWalked_92 : decode cX5_sinkWalked 92 = .ok (.iinc 2 (-1), 3) := by decide +kernel
theorem dX5_sinkWalked_95 : decode cX5_sinkWalked 95 = .ok (.goto (-85), 3) := by decide +kernel
theorem dX5_sinkWalked_0 : decode cX5_sinkWalked 0 = .ok (.aload_n 0, 1) := by decide +kernel
theorem dX5_sinkWalked_1 : decode cX5_sinkWalked 1 = .ok (.getfield 56, 3) := by decide +kernel
theorem dX5_sinkWalked_4 : decode cX5_sinkWalked 4 = .ok (.getfield 147, 3) := by decide +kernel
theorem dX5_sinkWalked_7 : decode cX5_sinkWalked 7 = .ok (.iconst 1, 1) := by decide +kernel
theorem dX5_sinkWalked_8 : decode cX5_sinkWalked 8 = .ok (.isub, 1) := by decide +kernel
theorem dX5_sinkWalked_9 : decode cX5_sinkWalked 9 = .ok (.istore_n 2, 1) := by decide +kernel
theorem dX11_walkUnder_113 : decode cX11_walkUnder 113 = .ok (.return_, 1) := by decide +kernel
theorem dX11_walkUnder_107 : decode cX11_walkUnder 107 = .ok (.iinc 4 1, 3) := by decide +kernel
theorem dX11_walkUnder_110 : decode cX11_walkUnder 110 = .ok (.goto (-96), 3) := by decide +kernel
theorem dX11_walkUnder_57 : decode cX11_walkUnder 57 = .ok (.istore 5, 2) := by decide +kernel
theorem dX11_walkUnder_59 : decode cX11_walkUnder 59 = .ok (.iload 5, 2) := by decide +kernel
theorem dX11_walkUnder_61 : decode cX11_walkUnder 61 = .ok (.ifCond .eq 46, 3) := by decide +kernel
theorem dX11_walkUnder_64 : decode cX11_walkUnder 64 = .ok (.aload_n 0, 1) := by decide +kernel
theorem dX11_walkUnder_65 : decode cX11_walkUnder 65 = .ok (.getfield 22, 3) := by decide +kernel
theorem dX11_walkUnder_68 : decode cX11_walkUnder 68 = .ok (.getfield 185, 3) := by decide +kernel
theorem dX11_walkUnder_71 : decode cX11_walkUnder 71 = .ok (.iload 4, 2) := by decide +kernel
theorem dX11_walkUnder_73 : decode cX11_walkUnder 73 = .ok (.iload_n 2, 1) := by decide +kernel
theorem dX11_walkUnder_74 : decode cX11_walkUnder 74 = .ok (.aload_n 0, 1) := by decide +kernel
theorem dX11_walkUnder_75 : decode cX11_walkUnder 75 = .ok (.getfield 22, 3) := by decide +kernel
theorem dX11_walkUnder_78 : decode cX11_walkUnder 78 = .ok (.getfield 73, 3) := by decide +kernel
theorem dX11_walkUnder_81 : decode cX11_walkUnder 81 = .ok (.invokevirtual 348, 3) := by decide +kernel
theorem dX11_walkUnder_84 : decode cX11_walkUnder 84 = .ok (.ifCond .eq 23, 3) := by decide +kernel
theorem dX11_walkUnder_87 : decode cX11_walkUnder 87 = .ok (.aload_n 0, 1) := by decide +kernel
theorem dX11_walkUnder_88 : decode cX11_walkUnder 88 = .ok (.getfield 22, 3) := by decide +kernel
theorem dX11_walkUnder_91 : decode cX11_walkUnder 91 = .ok (.getfield 396, 3) := by decide +kernel
theorem dX11_walkUnder_94 : decode cX11_walkUnder 94 = .ok (.iload 4, 2) := by decide +kernel
theorem dX11_walkUnder_96 : decode cX11_walkUnder 96 = .ok (.invokevirtual 639, 3) := by decide +kernel
theorem dX11_walkUnder_99 : decode cX11_walkUnder 99 = .ok (.aload_n 0, 1) := by decide +kernel
theorem dX11_walkUnder_100 : decode cX11_walkUnder 100 = .ok (.getfield 22, 3) := by decide +kernel
theorem dX11_walkUnder_103 : decode cX11_walkUnder 103 = .ok (.iload_n 3, 1) := by decide +kernel
theorem dX11_walkUnder_104 : decode cX11_walkUnder 104 = .ok (.invokevirtual 645, 3) := by decide +kernel
theorem dX11_walkUnder_56 : decode cX11_walkUnder 56 = .ok (.iconst 0, 1) := by decide +kernel
theorem dX11_walkUnder_14 : decode cX11_walkUnder 14 = .ok (.iload 4, 2) := by decide +kernel
theorem dX11_walkUnder_16 : decode cX11_walkUnder 16 = .ok (.aload_n 0, 1) := by decide +kernel
theorem dX11_walkUnder_17 : decode cX11_walkUnder 17 = .ok (.getfield 22, 3) := by decide +kernel
theorem dX11_walkUnder_20 : decode cX11_walkUnder 20 = .ok (.getfield 185, 3) := by decide +kernel
theorem dX11_walkUnder_23 : decode cX11_walkUnder 23 = .ok (.getfield 189, 3) := by decide +kernel
theorem dX11_walkUnder_26 : decode cX11_walkUnder 26 = .ok (.if_icmp .ge 87, 3) := by decide +kernel
theorem dX11_walkUnder_29 : decode cX11_walkUnder 29 = .ok (.iload 4, 2) := by decide +kernel
theorem dX11_walkUnder_31 : decode cX11_walkUnder 31 = .ok (.iload_n 1, 1) := by decide +kernel
theorem dX11_walkUnder_32 : decode cX11_walkUnder 32 = .ok (.if_icmp .eq 24, 3) := by decide +kernel
theorem dX11_walkUnder_35 : decode cX11_walkUnder 35 = .ok (.aload_n 0, 1) := by decide +kernel
theorem dX11_walkUnder_36 : decode cX11_walkUnder 36 = .ok (.getfield 22, 3) := by decide +kernel
theorem dX11_walkUnder_39 : decode cX11_walkUnder 39 = .ok (.getfield 185, 3) := by decide +kernel
theorem dX11_walkUnder_42 : decode cX11_walkUnder 42 = .ok (.getfield 330, 3) := by decide +kernel
theorem dX11_walkUnder_45 : decode cX11_walkUnder 45 = .ok (.iload 4, 2) := by decide +kernel
theorem dX11_walkUnder_47 : decode cX11_walkUnder 47 = .ok (.iaload, 1) := by decide +kernel
theorem dX11_walkUnder_48 : decode cX11_walkUnder 48 = .ok (.iload_n 1, 1) := by decide +kernel
theorem dX11_walkUnder_49 : decode cX11_walkUnder 49 = .ok (.if_icmp .ne 7, 3) := by decide +kernel
theorem dX11_walkUnder_52 : decode cX11_walkUnder 52 = .ok (.iconst 1, 1) := by decide +kernel
theorem dX11_walkUnder_53 : decode cX11_walkUnder 53 = .ok (.goto 4, 3) := by decide +kernel
theorem dX11_walkUnder_0 : decode cX11_walkUnder 0 = .ok (.aload_n 0, 1) := by decide +kernel
theorem dX11_walkUnder_1 : decode cX11_walkUnder 1 = .ok (.getfield 22, 3) := by decide +kernel
theorem dX11_walkUnder_4 : decode cX11_walkUnder 4 = .ok (.getfield 396, 3) := by decide +kernel
theorem dX11_walkUnder_7 : decode cX11_walkUnder 7 = .ok (.getfield 466, 3) := by decide +kernel
theorem dX11_walkUnder_10 : decode cX11_walkUnder 10 = .ok (.istore_n 3, 1) := by decide +kernel
theorem dX11_walkUnder_11 : decode cX11_walkUnder 11 = .ok (.iconst 0, 1) := by decide +kernel
theorem dX11_walkUnder_12 : decode cX11_walkUnder 12 = .ok (.istore 4, 2) := by decide +kernel

theorem dX12_letter_45 : decode cX12_letter 45 = .ok (.aload_n 0, 1) := by decide +kernel
theorem dX12_letter_46 : decode cX12_letter 46 = .ok (.getfield 10, 3) := by decide +kernel
theorem dX12_letter_49 : decode cX12_letter 49 = .ok (.ldc_w 337, 3) := by decide +kernel
theorem dX12_letter_52 : decode cX12_letter 52 = .ok (.aload_n 0, 1) := by decide +kernel
theorem dX12_letter_53 : decode cX12_letter 53 = .ok (.getfield 10, 3) := by decide +kernel
theorem dX12_letter_56 : decode cX12_letter 56 = .ok (.bipush 10, 2) := by decide +kernel
theorem dX12_letter_58 : decode cX12_letter 58 = .ok (.iaload, 1) := by decide +kernel
theorem dX12_letter_59 : decode cX12_letter 59 = .ok (.iadd, 1) := by decide +kernel
theorem dX12_letter_60 : decode cX12_letter 60 = .ok (.iload_n 2, 1) := by decide +kernel
theorem dX12_letter_61 : decode cX12_letter 61 = .ok (.iastore, 1) := by decide +kernel
theorem dX12_letter_62 : decode cX12_letter 62 = .ok (.aload_n 0, 1) := by decide +kernel
theorem dX12_letter_63 : decode cX12_letter 63 = .ok (.getfield 10, 3) := by decide +kernel
theorem dX12_letter_66 : decode cX12_letter 66 = .ok (.bipush 10, 2) := by decide +kernel
theorem dX12_letter_68 : decode cX12_letter 68 = .ok (.dup2, 1) := by decide +kernel
theorem dX12_letter_69 : decode cX12_letter 69 = .ok (.iaload, 1) := by decide +kernel
theorem dX12_letter_70 : decode cX12_letter 70 = .ok (.iconst 1, 1) := by decide +kernel
theorem dX12_letter_71 : decode cX12_letter 71 = .ok (.iadd, 1) := by decide +kernel
theorem dX12_letter_72 : decode cX12_letter 72 = .ok (.iastore, 1) := by decide +kernel
theorem dX12_letter_73 : decode cX12_letter 73 = .ok (.aload_n 0, 1) := by decide +kernel
theorem dX12_letter_74 : decode cX12_letter 74 = .ok (.getfield 10, 3) := by decide +kernel
theorem dX12_letter_77 : decode cX12_letter 77 = .ok (.bipush 10, 2) := by decide +kernel
theorem dX12_letter_79 : decode cX12_letter 79 = .ok (.iaload, 1) := by decide +kernel
theorem dX12_letter_80 : decode cX12_letter 80 = .ok (.ireturn, 1) := by decide +kernel
theorem dX12_letter_30 : decode cX12_letter 30 = .ok (.aload_n 0, 1) := by decide +kernel
theorem dX12_letter_31 : decode cX12_letter 31 = .ok (.getfield 10, 3) := by decide +kernel
theorem dX12_letter_34 : decode cX12_letter 34 = .ok (.bipush 10, 2) := by decide +kernel
theorem dX12_letter_36 : decode cX12_letter 36 = .ok (.iaload, 1) := by decide +kernel
theorem dX12_letter_37 : decode cX12_letter 37 = .ok (.bipush 60, 2) := by decide +kernel
theorem dX12_letter_39 : decode cX12_letter 39 = .ok (.if_icmp .ne 6, 3) := by decide +kernel
theorem dX12_letter_42 : decode cX12_letter 42 = .ok (.bipush (-6), 2) := by decide +kernel
theorem dX12_letter_44 : decode cX12_letter 44 = .ok (.ireturn, 1) := by decide +kernel
theorem dX12_letter_17 : decode cX12_letter 17 = .ok (.aload_n 0, 1) := by decide +kernel
theorem dX12_letter_18 : decode cX12_letter 18 = .ok (.iload_n 1, 1) := by decide +kernel
theorem dX12_letter_19 : decode cX12_letter 19 = .ok (.invokevirtual 329, 3) := by decide +kernel
theorem dX12_letter_22 : decode cX12_letter 22 = .ok (.istore_n 2, 1) := by decide +kernel
theorem dX12_letter_23 : decode cX12_letter 23 = .ok (.iload_n 2, 1) := by decide +kernel
theorem dX12_letter_24 : decode cX12_letter 24 = .ok (.iconst (-1), 1) := by decide +kernel
theorem dX12_letter_25 : decode cX12_letter 25 = .ok (.if_icmp .ne 5, 3) := by decide +kernel
theorem dX12_letter_28 : decode cX12_letter 28 = .ok (.iconst (-1), 1) := by decide +kernel
theorem dX12_letter_29 : decode cX12_letter 29 = .ok (.ireturn, 1) := by decide +kernel
theorem dX12_letter_14 : decode cX12_letter 14 = .ok (.bipush (-2), 2) := by decide +kernel
theorem dX12_letter_16 : decode cX12_letter 16 = .ok (.ireturn, 1) := by decide +kernel
theorem dX12_letter_0 : decode cX12_letter 0 = .ok (.aload_n 0, 1) := by decide +kernel
theorem dX12_letter_1 : decode cX12_letter 1 = .ok (.invokevirtual 326, 3) := by decide +kernel
theorem dX12_letter_4 : decode cX12_letter 4 = .ok (.ifCond .eq 10, 3) := by decide +kernel
theorem dX12_letter_7 : decode cX12_letter 7 = .ok (.iload_n 1, 1) := by decide +kernel
theorem dX12_letter_8 : decode cX12_letter 8 = .ok (.invokestatic 95, 3) := by decide +kernel
theorem dX12_letter_11 : decode cX12_letter 11 = .ok (.ifCond .ne 6, 3) := by decide +kernel
theorem dX12_about_143 : decode cX12_about 143 = .ok (.iconst (-1), 1) := by decide +kernel
theorem dX12_about_144 : decode cX12_about 144 = .ok (.ireturn, 1) := by decide +kernel
theorem dX12_about_135 : decode cX12_about 135 = .ok (.aload_n 0, 1) := by decide +kernel
theorem dX12_about_136 : decode cX12_about 136 = .ok (.iload_n 1, 1) := by decide +kernel
theorem dX12_about_137 : decode cX12_about 137 = .ok (.bipush 8, 2) := by decide +kernel
theorem dX12_about_139 : decode cX12_about 139 = .ok (.invokevirtual 174, 3) := by decide +kernel
theorem dX12_about_142 : decode cX12_about 142 = .ok (.ireturn, 1) := by decide +kernel
theorem dX12_about_127 : decode cX12_about 127 = .ok (.aload_n 0, 1) := by decide +kernel
theorem dX12_about_128 : decode cX12_about 128 = .ok (.iload_n 1, 1) := by decide +kernel
theorem dX12_about_129 : decode cX12_about 129 = .ok (.bipush 7, 2) := by decide +kernel
theorem dX12_about_131 : decode cX12_about 131 = .ok (.invokevirtual 174, 3) := by decide +kernel
theorem dX12_about_134 : decode cX12_about 134 = .ok (.ireturn, 1) := by decide +kernel
theorem dX12_about_126 : decode cX12_about 126 = .ok (.ireturn, 1) := by decide +kernel
theorem dX12_about_125 : decode cX12_about 125 = .ok (.iconst (-1), 1) := by decide +kernel
theorem dX12_about_110 : decode cX12_about 110 = .ok (.iload_n 3, 1) := by decide +kernel
theorem dX12_about_111 : decode cX12_about 111 = .ok (.ifCond .eq 14, 3) := by decide +kernel
theorem dX12_about_114 : decode cX12_about 114 = .ok (.aload_n 0, 1) := by decide +kernel
theorem dX12_about_115 : decode cX12_about 115 = .ok (.iload_n 1, 1) := by decide +kernel
theorem dX12_about_116 : decode cX12_about 116 = .ok (.iload_n 2, 1) := by decide +kernel
theorem dX12_about_117 : decode cX12_about 117 = .ok (.iconst 1, 1) := by decide +kernel
theorem dX12_about_118 : decode cX12_about 118 = .ok (.isub, 1) := by decide +kernel
theorem dX12_about_119 : decode cX12_about 119 = .ok (.invokevirtual 174, 3) := by decide +kernel
theorem dX12_about_122 : decode cX12_about 122 = .ok (.goto 4, 3) := by decide +kernel
theorem dX12_about_109 : decode cX12_about 109 = .ok (.ireturn, 1) := by decide +kernel
theorem dX12_about_108 : decode cX12_about 108 = .ok (.iconst (-1), 1) := by decide +kernel
theorem dX12_about_93 : decode cX12_about 93 = .ok (.iload_n 3, 1) := by decide +kernel
theorem dX12_about_94 : decode cX12_about 94 = .ok (.ifCond .eq 14, 3) := by decide +kernel
theorem dX12_about_97 : decode cX12_about 97 = .ok (.aload_n 0, 1) := by decide +kernel
theorem dX12_about_98 : decode cX12_about 98 = .ok (.iload_n 1, 1) := by decide +kernel
theorem dX12_about_99 : decode cX12_about 99 = .ok (.iload_n 2, 1) := by decide +kernel
theorem dX12_about_100 : decode cX12_about 100 = .ok (.iconst 1, 1) := by decide +kernel
theorem dX12_about_101 : decode cX12_about 101 = .ok (.isub, 1) := by decide +kernel
theorem dX12_about_102 : decode cX12_about 102 = .ok (.invokevirtual 174, 3) := by decide +kernel
theorem dX12_about_105 : decode cX12_about 105 = .ok (.goto 4, 3) := by decide +kernel
theorem dX12_about_87 : decode cX12_about 87 = .ok (.aload_n 0, 1) := by decide +kernel
theorem dX12_about_88 : decode cX12_about 88 = .ok (.iload_n 1, 1) := by decide +kernel
theorem dX12_about_89 : decode cX12_about 89 = .ok (.invokevirtual 244, 3) := by decide +kernel
theorem dX12_about_92 : decode cX12_about 92 = .ok (.ireturn, 1) := by decide +kernel
theorem dX12_about_80 : decode cX12_about 80 = .ok (.aload_n 0, 1) := by decide +kernel
theorem dX12_about_81 : decode cX12_about 81 = .ok (.iload_n 1, 1) := by decide +kernel
theorem dX12_about_82 : decode cX12_about 82 = .ok (.iconst 0, 1) := by decide +kernel
theorem dX12_about_83 : decode cX12_about 83 = .ok (.invokevirtual 174, 3) := by decide +kernel
theorem dX12_about_86 : decode cX12_about 86 = .ok (.ireturn, 1) := by decide +kernel
theorem dX12_about_25 : decode cX12_about 25 = .ok (.istore_n 3, 1) := by decide +kernel
theorem dX12_about_26 : decode cX12_about 26 = .ok (.iload_n 2, 1) := by decide +kernel
theorem dX12_about_27 : decode cX12_about 27 = .ok (.tableswitch 116 0 9 #[53, 60, 66, 66, 66, 83, 83, 83, 100, 108], 53) := by decide +kernel
theorem dX12_about_24 : decode cX12_about 24 = .ok (.iconst 0, 1) := by decide +kernel
theorem dX12_about_10 : decode cX12_about 10 = .ok (.aload_n 0, 1) := by decide +kernel
theorem dX12_about_11 : decode cX12_about 11 = .ok (.iload_n 1, 1) := by decide +kernel
theorem dX12_about_12 : decode cX12_about 12 = .ok (.iconst 0, 1) := by decide +kernel
theorem dX12_about_13 : decode cX12_about 13 = .ok (.invokevirtual 174, 3) := by decide +kernel
theorem dX12_about_16 : decode cX12_about 16 = .ok (.iconst 2, 1) := by decide +kernel
theorem dX12_about_17 : decode cX12_about 17 = .ok (.if_icmp .ge 7, 3) := by decide +kernel
theorem dX12_about_20 : decode cX12_about 20 = .ok (.iconst 1, 1) := by decide +kernel
theorem dX12_about_21 : decode cX12_about 21 = .ok (.goto 4, 3) := by decide +kernel
theorem dX12_about_0 : decode cX12_about 0 = .ok (.aload_n 0, 1) := by decide +kernel
theorem dX12_about_1 : decode cX12_about 1 = .ok (.iload_n 1, 1) := by decide +kernel
theorem dX12_about_2 : decode cX12_about 2 = .ok (.invokevirtual 171, 3) := by decide +kernel
theorem dX12_about_5 : decode cX12_about 5 = .ok (.ifCond .ne 5, 3) := by decide +kernel
theorem dX12_about_8 : decode cX12_about 8 = .ok (.iconst (-1), 1) := by decide +kernel
theorem dX12_about_9 : decode cX12_about 9 = .ok (.ireturn, 1) := by decide +kernel
theorem dX12_stands_29 : decode cX12_stands 29 = .ok (.ireturn, 1) := by decide +kernel
theorem dX12_stands_28 : decode cX12_stands 28 = .ok (.iconst 0, 1) := by decide +kernel
theorem dX12_stands_0 : decode cX12_stands 0 = .ok (.aload_n 0, 1) := by decide +kernel
theorem dX12_stands_1 : decode cX12_stands 1 = .ok (.iload_n 1, 1) := by decide +kernel
theorem dX12_stands_2 : decode cX12_stands 2 = .ok (.invokevirtual 171, 3) := by decide +kernel
theorem dX12_stands_5 : decode cX12_stands 5 = .ok (.ifCond .eq 23, 3) := by decide +kernel
theorem dX12_stands_8 : decode cX12_stands 8 = .ok (.iload_n 2, 1) := by decide +kernel
theorem dX12_stands_9 : decode cX12_stands 9 = .ok (.invokestatic 95, 3) := by decide +kernel
theorem dX12_stands_12 : decode cX12_stands 12 = .ok (.ifCond .eq 16, 3) := by decide +kernel
theorem dX12_stands_15 : decode cX12_stands 15 = .ok (.aload_n 0, 1) := by decide +kernel
theorem dX12_stands_16 : decode cX12_stands 16 = .ok (.iload_n 1, 1) := by decide +kernel
theorem dX12_stands_17 : decode cX12_stands 17 = .ok (.iload_n 2, 1) := by decide +kernel
theorem dX12_stands_18 : decode cX12_stands 18 = .ok (.invokevirtual 305, 3) := by decide +kernel
theorem dX12_stands_21 : decode cX12_stands 21 = .ok (.ifCond .eq 7, 3) := by decide +kernel
theorem dX12_stands_24 : decode cX12_stands 24 = .ok (.iconst 1, 1) := by decide +kernel
theorem dX12_stands_25 : decode cX12_stands 25 = .ok (.goto 4, 3) := by decide +kernel
theorem dX12_spanOn_110 : decode cX12_spanOn 110 = .ok (.iconst (-1), 1) := by decide +kernel
theorem dX12_spanOn_111 : decode cX12_spanOn 111 = .ok (.ireturn, 1) := by decide +kernel
theorem dX12_spanOn_104 : decode cX12_spanOn 104 = .ok (.iinc 5 1, 3) := by decide +kernel
theorem dX12_spanOn_107 : decode cX12_spanOn 107 = .ok (.goto (-80), 3) := by decide +kernel
theorem dX12_spanOn_27 : decode cX12_spanOn 27 = .ok (.iload 5, 2) := by decide +kernel
theorem dX12_spanOn_29 : decode cX12_spanOn 29 = .ok (.aload_n 0, 1) := by decide +kernel
theorem dX12_spanOn_30 : decode cX12_spanOn 30 = .ok (.getfield 10, 3) := by decide +kernel
theorem dX12_spanOn_33 : decode cX12_spanOn 33 = .ok (.bipush 6, 2) := by decide +kernel
theorem dX12_spanOn_35 : decode cX12_spanOn 35 = .ok (.iaload, 1) := by decide +kernel
theorem dX12_spanOn_36 : decode cX12_spanOn 36 = .ok (.if_icmp .ge 74, 3) := by decide +kernel
theorem dX12_spanOn_39 : decode cX12_spanOn 39 = .ok (.sipush 10752, 3) := by decide +kernel
theorem dX12_spanOn_42 : decode cX12_spanOn 42 = .ok (.bipush 6, 2) := by decide +kernel
theorem dX12_spanOn_44 : decode cX12_spanOn 44 = .ok (.iload 5, 2) := by decide +kernel
theorem dX12_spanOn_46 : decode cX12_spanOn 46 = .ok (.imul, 1) := by decide +kernel
theorem dX12_spanOn_47 : decode cX12_spanOn 47 = .ok (.iadd, 1) := by decide +kernel
theorem dX12_spanOn_48 : decode cX12_spanOn 48 = .ok (.istore 6, 2) := by decide +kernel
theorem dX12_spanOn_50 : decode cX12_spanOn 50 = .ok (.aload_n 0, 1) := by decide +kernel
theorem dX12_spanOn_51 : decode cX12_spanOn 51 = .ok (.getfield 10, 3) := by decide +kernel
theorem dX12_spanOn_54 : decode cX12_spanOn 54 = .ok (.iload 6, 2) := by decide +kernel
theorem dX12_spanOn_56 : decode cX12_spanOn 56 = .ok (.iaload, 1) := by decide +kernel
theorem dX12_spanOn_57 : decode cX12_spanOn 57 = .ok (.iload 4, 2) := by decide +kernel
theorem dX12_spanOn_59 : decode cX12_spanOn 59 = .ok (.if_icmp .ne 45, 3) := by decide +kernel
theorem dX12_spanOn_62 : decode cX12_spanOn 62 = .ok (.aload_n 0, 1) := by decide +kernel
theorem dX12_spanOn_63 : decode cX12_spanOn 63 = .ok (.getfield 10, 3) := by decide +kernel
theorem dX12_spanOn_66 : decode cX12_spanOn 66 = .ok (.iload 6, 2) := by decide +kernel
theorem dX12_spanOn_68 : decode cX12_spanOn 68 = .ok (.iconst 1, 1) := by decide +kernel
theorem dX12_spanOn_69 : decode cX12_spanOn 69 = .ok (.iadd, 1) := by decide +kernel
theorem dX12_spanOn_70 : decode cX12_spanOn 70 = .ok (.iaload, 1) := by decide +kernel
theorem dX12_spanOn_71 : decode cX12_spanOn 71 = .ok (.iload_n 2, 1) := by decide +kernel
theorem dX12_spanOn_72 : decode cX12_spanOn 72 = .ok (.if_icmp .ne 32, 3) := by decide +kernel
theorem dX12_spanOn_75 : decode cX12_spanOn 75 = .ok (.aload_n 0, 1) := by decide +kernel
theorem dX12_spanOn_76 : decode cX12_spanOn 76 = .ok (.aload_n 0, 1) := by decide +kernel
theorem dX12_spanOn_77 : decode cX12_spanOn 77 = .ok (.getfield 10, 3) := by decide +kernel
theorem dX12_spanOn_80 : decode cX12_spanOn 80 = .ok (.iload 6, 2) := by decide +kernel
theorem dX12_spanOn_82 : decode cX12_spanOn 82 = .ok (.iconst 4, 1) := by decide +kernel
theorem dX12_spanOn_83 : decode cX12_spanOn 83 = .ok (.iadd, 1) := by decide +kernel
theorem dX12_spanOn_84 : decode cX12_spanOn 84 = .ok (.iaload, 1) := by decide +kernel
theorem dX12_spanOn_85 : decode cX12_spanOn 85 = .ok (.aload_n 0, 1) := by decide +kernel
theorem dX12_spanOn_86 : decode cX12_spanOn 86 = .ok (.getfield 10, 3) := by decide +kernel
theorem dX12_spanOn_89 : decode cX12_spanOn 89 = .ok (.iload 6, 2) := by decide +kernel
theorem dX12_spanOn_91 : decode cX12_spanOn 91 = .ok (.iconst 5, 1) := by decide +kernel
theorem dX12_spanOn_92 : decode cX12_spanOn 92 = .ok (.iadd, 1) := by decide +kernel
theorem dX12_spanOn_93 : decode cX12_spanOn 93 = .ok (.iaload, 1) := by decide +kernel
theorem dX12_spanOn_94 : decode cX12_spanOn 94 = .ok (.iload_n 3, 1) := by decide +kernel
theorem dX12_spanOn_95 : decode cX12_spanOn 95 = .ok (.invokevirtual 302, 3) := by decide +kernel
theorem dX12_spanOn_98 : decode cX12_spanOn 98 = .ok (.ifCond .eq 6, 3) := by decide +kernel
theorem dX12_spanOn_101 : decode cX12_spanOn 101 = .ok (.iload 5, 2) := by decide +kernel
theorem dX12_spanOn_103 : decode cX12_spanOn 103 = .ok (.ireturn, 1) := by decide +kernel
theorem dX12_spanOn_17 : decode cX12_spanOn 17 = .ok (.aload_n 0, 1) := by decide +kernel
theorem dX12_spanOn_18 : decode cX12_spanOn 18 = .ok (.iload_n 1, 1) := by decide +kernel
theorem dX12_spanOn_19 : decode cX12_spanOn 19 = .ok (.invokevirtual 244, 3) := by decide +kernel
theorem dX12_spanOn_22 : decode cX12_spanOn 22 = .ok (.istore 4, 2) := by decide +kernel
theorem dX12_spanOn_24 : decode cX12_spanOn 24 = .ok (.iconst 0, 1) := by decide +kernel
theorem dX12_spanOn_25 : decode cX12_spanOn 25 = .ok (.istore 5, 2) := by decide +kernel
theorem dX12_spanOn_15 : decode cX12_spanOn 15 = .ok (.iconst (-1), 1) := by decide +kernel
theorem dX12_spanOn_16 : decode cX12_spanOn 16 = .ok (.ireturn, 1) := by decide +kernel
theorem dX12_spanOn_0 : decode cX12_spanOn 0 = .ok (.aload_n 0, 1) := by decide +kernel
theorem dX12_spanOn_1 : decode cX12_spanOn 1 = .ok (.iload_n 1, 1) := by decide +kernel
theorem dX12_spanOn_2 : decode cX12_spanOn 2 = .ok (.invokevirtual 171, 3) := by decide +kernel
theorem dX12_spanOn_5 : decode cX12_spanOn 5 = .ok (.ifCond .eq 10, 3) := by decide +kernel
theorem dX12_spanOn_8 : decode cX12_spanOn 8 = .ok (.iload_n 3, 1) := by decide +kernel
theorem dX12_spanOn_9 : decode cX12_spanOn 9 = .ok (.invokestatic 95, 3) := by decide +kernel
theorem dX12_spanOn_12 : decode cX12_spanOn 12 = .ok (.ifCond .ne 5, 3) := by decide +kernel
theorem dX12_number_127 : decode cX12_number 127 = .ok (.ireturn, 1) := by decide +kernel
theorem dX12_number_126 : decode cX12_number 126 = .ok (.iconst (-1), 1) := by decide +kernel
theorem dX12_number_97 : decode cX12_number 97 = .ok (.istore 7, 2) := by decide +kernel
theorem dX12_number_99 : decode cX12_number 99 = .ok (.iload 4, 2) := by decide +kernel
theorem dX12_number_101 : decode cX12_number 101 = .ok (.iconst 2, 1) := by decide +kernel
theorem dX12_number_102 : decode cX12_number 102 = .ok (.if_icmp .ne 24, 3) := by decide +kernel
theorem dX12_number_105 : decode cX12_number 105 = .ok (.iload 7, 2) := by decide +kernel
theorem dX12_number_107 : decode cX12_number 107 = .ok (.ifCond .ne 19, 3) := by decide +kernel
theorem dX12_number_110 : decode cX12_number 110 = .ok (.aload_n 0, 1) := by decide +kernel
theorem dX12_number_111 : decode cX12_number 111 = .ok (.aload_n 0, 1) := by decide +kernel
theorem dX12_number_112 : decode cX12_number 112 = .ok (.getfield 10, 3) := by decide +kernel
theorem dX12_number_115 : decode cX12_number 115 = .ok (.iload 6, 2) := by decide +kernel
theorem dX12_number_117 : decode cX12_number 117 = .ok (.iconst 5, 1) := by decide +kernel
theorem dX12_number_118 : decode cX12_number 118 = .ok (.iadd, 1) := by decide +kernel
theorem dX12_number_119 : decode cX12_number 119 = .ok (.iaload, 1) := by decide +kernel
theorem dX12_number_120 : decode cX12_number 120 = .ok (.invokevirtual 102, 3) := by decide +kernel
theorem dX12_number_123 : decode cX12_number 123 = .ok (.goto 4, 3) := by decide +kernel
theorem dX12_number_96 : decode cX12_number 96 = .ok (.iconst 0, 1) := by decide +kernel
theorem dX12_number_92 : decode cX12_number 92 = .ok (.iconst 1, 1) := by decide +kernel
theorem dX12_number_93 : decode cX12_number 93 = .ok (.goto 4, 3) := by decide +kernel
theorem dX12_number_63 : decode cX12_number 63 = .ok (.aload_n 0, 1) := by decide +kernel
theorem dX12_number_64 : decode cX12_number 64 = .ok (.getfield 10, 3) := by decide +kernel
theorem dX12_number_67 : decode cX12_number 67 = .ok (.iload 6, 2) := by decide +kernel
theorem dX12_number_69 : decode cX12_number 69 = .ok (.iconst 5, 1) := by decide +kernel
theorem dX12_number_70 : decode cX12_number 70 = .ok (.iadd, 1) := by decide +kernel
theorem dX12_number_71 : decode cX12_number 71 = .ok (.iaload, 1) := by decide +kernel
theorem dX12_number_72 : decode cX12_number 72 = .ok (.iconst (-1), 1) := by decide +kernel
theorem dX12_number_73 : decode cX12_number 73 = .ok (.if_icmp .eq 19, 3) := by decide +kernel
theorem dX12_number_76 : decode cX12_number 76 = .ok (.aload_n 0, 1) := by decide +kernel
theorem dX12_number_77 : decode cX12_number 77 = .ok (.aload_n 0, 1) := by decide +kernel
theorem dX12_number_78 : decode cX12_number 78 = .ok (.getfield 10, 3) := by decide +kernel
theorem dX12_number_81 : decode cX12_number 81 = .ok (.iload 6, 2) := by decide +kernel
theorem dX12_number_83 : decode cX12_number 83 = .ok (.iconst 5, 1) := by decide +kernel
theorem dX12_number_84 : decode cX12_number 84 = .ok (.iadd, 1) := by decide +kernel
theorem dX12_number_85 : decode cX12_number 85 = .ok (.iaload, 1) := by decide +kernel
theorem dX12_number_86 : decode cX12_number 86 = .ok (.invokevirtual 99, 3) := by decide +kernel
theorem dX12_number_89 : decode cX12_number 89 = .ok (.ifCond .ne 7, 3) := by decide +kernel
theorem dX12_number_43 : decode cX12_number 43 = .ok (.iload 4, 2) := by decide +kernel
theorem dX12_number_45 : decode cX12_number 45 = .ok (.iconst 1, 1) := by decide +kernel
theorem dX12_number_46 : decode cX12_number 46 = .ok (.if_icmp .ne 17, 3) := by decide +kernel
theorem dX12_number_49 : decode cX12_number 49 = .ok (.aload_n 0, 1) := by decide +kernel
theorem dX12_number_50 : decode cX12_number 50 = .ok (.aload_n 0, 1) := by decide +kernel
theorem dX12_number_51 : decode cX12_number 51 = .ok (.getfield 10, 3) := by decide +kernel
theorem dX12_number_54 : decode cX12_number 54 = .ok (.iload 6, 2) := by decide +kernel
theorem dX12_number_56 : decode cX12_number 56 = .ok (.iconst 4, 1) := by decide +kernel
theorem dX12_number_57 : decode cX12_number 57 = .ok (.iadd, 1) := by decide +kernel
theorem dX12_number_58 : decode cX12_number 58 = .ok (.iaload, 1) := by decide +kernel
theorem dX12_number_59 : decode cX12_number 59 = .ok (.invokevirtual 102, 3) := by decide +kernel
theorem dX12_number_62 : decode cX12_number 62 = .ok (.ireturn, 1) := by decide +kernel
theorem dX12_number_17 : decode cX12_number 17 = .ok (.sipush 10752, 3) := by decide +kernel
theorem dX12_number_20 : decode cX12_number 20 = .ok (.bipush 6, 2) := by decide +kernel
theorem dX12_number_22 : decode cX12_number 22 = .ok (.iload 5, 2) := by decide +kernel
theorem dX12_number_24 : decode cX12_number 24 = .ok (.imul, 1) := by decide +kernel
theorem dX12_number_25 : decode cX12_number 25 = .ok (.iadd, 1) := by decide +kernel
theorem dX12_number_26 : decode cX12_number 26 = .ok (.istore 6, 2) := by decide +kernel
theorem dX12_number_28 : decode cX12_number 28 = .ok (.iload 4, 2) := by decide +kernel
theorem dX12_number_30 : decode cX12_number 30 = .ok (.ifCond .ne 13, 3) := by decide +kernel
theorem dX12_number_33 : decode cX12_number 33 = .ok (.aload_n 0, 1) := by decide +kernel
theorem dX12_number_34 : decode cX12_number 34 = .ok (.getfield 10, 3) := by decide +kernel
theorem dX12_number_37 : decode cX12_number 37 = .ok (.iload 6, 2) := by decide +kernel
theorem dX12_number_39 : decode cX12_number 39 = .ok (.iconst 3, 1) := by decide +kernel
theorem dX12_number_40 : decode cX12_number 40 = .ok (.iadd, 1) := by decide +kernel
theorem dX12_number_41 : decode cX12_number 41 = .ok (.iaload, 1) := by decide +kernel
theorem dX12_number_42 : decode cX12_number 42 = .ok (.ireturn, 1) := by decide +kernel
theorem dX12_number_0 : decode cX12_number 0 = .ok (.aload_n 0, 1) := by decide +kernel
theorem dX12_number_1 : decode cX12_number 1 = .ok (.iload_n 1, 1) := by decide +kernel
theorem dX12_number_2 : decode cX12_number 2 = .ok (.iload_n 2, 1) := by decide +kernel
theorem dX12_number_3 : decode cX12_number 3 = .ok (.iload_n 3, 1) := by decide +kernel
theorem dX12_number_4 : decode cX12_number 4 = .ok (.invokevirtual 338, 3) := by decide +kernel
theorem dX12_number_7 : decode cX12_number 7 = .ok (.istore 5, 2) := by decide +kernel
theorem dX12_number_9 : decode cX12_number 9 = .ok (.iload 5, 2) := by decide +kernel
theorem dX12_number_11 : decode cX12_number 11 = .ok (.iconst (-1), 1) := by decide +kernel
theorem dX12_number_12 : decode cX12_number 12 = .ok (.if_icmp .ne 5, 3) := by decide +kernel
theorem dX12_number_15 : decode cX12_number 15 = .ok (.iconst (-1), 1) := by decide +kernel
theorem dX12_number_16 : decode cX12_number 16 = .ok (.ireturn, 1) := by decide +kernel
theorem dX12_put_0 : decode cX12_put 0 = .ok (.aload_n 0, 1) := by decide +kernel
theorem dX12_put_1 : decode cX12_put 1 = .ok (.getfield 36, 3) := by decide +kernel
theorem dX12_put_4 : decode cX12_put 4 = .ok (.aload_n 0, 1) := by decide +kernel
theorem dX12_put_5 : decode cX12_put 5 = .ok (.getfield 39, 3) := by decide +kernel
theorem dX12_put_8 : decode cX12_put 8 = .ok (.iload_n 1, 1) := by decide +kernel
theorem dX12_put_9 : decode cX12_put 9 = .ok (.i2b, 1) := by decide +kernel
theorem dX12_put_10 : decode cX12_put 10 = .ok (.bastore, 1) := by decide +kernel
theorem dX12_put_11 : decode cX12_put 11 = .ok (.aload_n 0, 1) := by decide +kernel
theorem dX12_put_12 : decode cX12_put 12 = .ok (.dup, 1) := by decide +kernel
theorem dX12_put_13 : decode cX12_put 13 = .ok (.getfield 39, 3) := by decide +kernel
theorem dX12_put_16 : decode cX12_put 16 = .ok (.iconst 1, 1) := by decide +kernel
theorem dX12_put_17 : decode cX12_put 17 = .ok (.iadd, 1) := by decide +kernel
theorem dX12_put_18 : decode cX12_put 18 = .ok (.putfield 39, 3) := by decide +kernel
theorem dX12_put_21 : decode cX12_put 21 = .ok (.return_, 1) := by decide +kernel
theorem dX12_putName_89 : decode cX12_putName 89 = .ok (.return_, 1) := by decide +kernel
theorem dX12_putName_83 : decode cX12_putName 83 = .ok (.iinc 2 1, 3) := by decide +kernel
theorem dX12_putName_86 : decode cX12_putName 86 = .ok (.goto (-84), 3) := by decide +kernel
theorem dX12_putName_45 : decode cX12_putName 45 = .ok (.iload 4, 2) := by decide +kernel
theorem dX12_putName_47 : decode cX12_putName 47 = .ok (.bipush 12, 2) := by decide +kernel
theorem dX12_putName_49 : decode cX12_putName 49 = .ok (.if_icmp .ge 34, 3) := by decide +kernel
theorem dX12_putName_52 : decode cX12_putName 52 = .ok (.aload_n 0, 1) := by decide +kernel
theorem dX12_putName_53 : decode cX12_putName 53 = .ok (.getfield 10, 3) := by decide +kernel
theorem dX12_putName_56 : decode cX12_putName 56 = .ok (.iload_n 3, 1) := by decide +kernel
theorem dX12_putName_57 : decode cX12_putName 57 = .ok (.iload 4, 2) := by decide +kernel
theorem dX12_putName_59 : decode cX12_putName 59 = .ok (.iadd, 1) := by decide +kernel
theorem dX12_putName_60 : decode cX12_putName 60 = .ok (.iaload, 1) := by decide +kernel
theorem dX12_putName_61 : decode cX12_putName 61 = .ok (.ifCond .eq 22, 3) := by decide +kernel
theorem dX12_putName_64 : decode cX12_putName 64 = .ok (.aload_n 0, 1) := by decide +kernel
theorem dX12_putName_65 : decode cX12_putName 65 = .ok (.aload_n 0, 1) := by decide +kernel
theorem dX12_putName_66 : decode cX12_putName 66 = .ok (.getfield 10, 3) := by decide +kernel
theorem dX12_putName_69 : decode cX12_putName 69 = .ok (.iload_n 3, 1) := by decide +kernel
theorem dX12_putName_70 : decode cX12_putName 70 = .ok (.iload 4, 2) := by decide +kernel
theorem dX12_putName_72 : decode cX12_putName 72 = .ok (.iadd, 1) := by decide +kernel
theorem dX12_putName_73 : decode cX12_putName 73 = .ok (.iaload, 1) := by decide +kernel
theorem dX12_putName_74 : decode cX12_putName 74 = .ok (.invokevirtual 341, 3) := by decide +kernel
theorem dX12_putName_77 : decode cX12_putName 77 = .ok (.iinc 4 1, 3) := by decide +kernel
theorem dX12_putName_80 : decode cX12_putName 80 = .ok (.goto (-35), 3) := by decide +kernel
theorem dX12_putName_42 : decode cX12_putName 42 = .ok (.iconst 0, 1) := by decide +kernel
theorem dX12_putName_43 : decode cX12_putName 43 = .ok (.istore 4, 2) := by decide +kernel
theorem dX12_putName_32 : decode cX12_putName 32 = .ok (.iload_n 2, 1) := by decide +kernel
theorem dX12_putName_33 : decode cX12_putName 33 = .ok (.ifCond .le 9, 3) := by decide +kernel
theorem dX12_putName_36 : decode cX12_putName 36 = .ok (.aload_n 0, 1) := by decide +kernel
theorem dX12_putName_37 : decode cX12_putName 37 = .ok (.bipush 32, 2) := by decide +kernel
theorem dX12_putName_39 : decode cX12_putName 39 = .ok (.invokevirtual 341, 3) := by decide +kernel
theorem dX12_putName_2 : decode cX12_putName 2 = .ok (.iload_n 2, 1) := by decide +kernel
theorem dX12_putName_3 : decode cX12_putName 3 = .ok (.iconst 3, 1) := by decide +kernel
theorem dX12_putName_4 : decode cX12_putName 4 = .ok (.if_icmp .ge 85, 3) := by decide +kernel
theorem dX12_putName_7 : decode cX12_putName 7 = .ok (.bipush 32, 2) := by decide +kernel
theorem dX12_putName_9 : decode cX12_putName 9 = .ok (.bipush 36, 2) := by decide +kernel
theorem dX12_putName_11 : decode cX12_putName 11 = .ok (.iload_n 1, 1) := by decide +kernel
theorem dX12_putName_12 : decode cX12_putName 12 = .ok (.imul, 1) := by decide +kernel
theorem dX12_putName_13 : decode cX12_putName 13 = .ok (.iadd, 1) := by decide +kernel
theorem dX12_putName_14 : decode cX12_putName 14 = .ok (.bipush 12, 2) := by decide +kernel
theorem dX12_putName_16 : decode cX12_putName 16 = .ok (.iload_n 2, 1) := by decide +kernel
theorem dX12_putName_17 : decode cX12_putName 17 = .ok (.imul, 1) := by decide +kernel
theorem dX12_putName_18 : decode cX12_putName 18 = .ok (.iadd, 1) := by decide +kernel
theorem dX12_putName_19 : decode cX12_putName 19 = .ok (.istore_n 3, 1) := by decide +kernel
theorem dX12_putName_20 : decode cX12_putName 20 = .ok (.aload_n 0, 1) := by decide +kernel
theorem dX12_putName_21 : decode cX12_putName 21 = .ok (.getfield 10, 3) := by decide +kernel
theorem dX12_putName_24 : decode cX12_putName 24 = .ok (.iload_n 3, 1) := by decide +kernel
theorem dX12_putName_25 : decode cX12_putName 25 = .ok (.iaload, 1) := by decide +kernel
theorem dX12_putName_26 : decode cX12_putName 26 = .ok (.ifCond .ne 6, 3) := by decide +kernel
theorem dX12_putName_29 : decode cX12_putName 29 = .ok (.goto 54, 3) := by decide +kernel
theorem dX12_putName_0 : decode cX12_putName 0 = .ok (.iconst 0, 1) := by decide +kernel
theorem dX12_putName_1 : decode cX12_putName 1 = .ok (.istore_n 2, 1) := by decide +kernel
theorem dX12_putNumber_47 : decode cX12_putNumber 47 = .ok (.return_, 1) := by decide +kernel
theorem dX12_putNumber_22 : decode cX12_putNumber 22 = .ok (.iload_n 2, 1) := by decide +kernel
theorem dX12_putNumber_23 : decode cX12_putNumber 23 = .ok (.ifCond .le 24, 3) := by decide +kernel
theorem dX12_putNumber_26 : decode cX12_putNumber 26 = .ok (.aload_n 0, 1) := by decide +kernel
theorem dX12_putNumber_27 : decode cX12_putNumber 27 = .ok (.bipush 48, 2) := by decide +kernel
theorem dX12_putNumber_29 : decode cX12_putNumber 29 = .ok (.iload_n 1, 1) := by decide +kernel
theorem dX12_putNumber_30 : decode cX12_putNumber 30 = .ok (.iload_n 2, 1) := by decide +kernel
theorem dX12_putNumber_31 : decode cX12_putNumber 31 = .ok (.idiv, 1) := by decide +kernel
theorem dX12_putNumber_32 : decode cX12_putNumber 32 = .ok (.bipush 10, 2) := by decide +kernel
theorem dX12_putNumber_34 : decode cX12_putNumber 34 = .ok (.irem, 1) := by decide +kernel
theorem dX12_putNumber_35 : decode cX12_putNumber 35 = .ok (.iadd, 1) := by decide +kernel
theorem dX12_putNumber_36 : decode cX12_putNumber 36 = .ok (.invokevirtual 341, 3) := by decide +kernel
theorem dX12_putNumber_39 : decode cX12_putNumber 39 = .ok (.iload_n 2, 1) := by decide +kernel
theorem dX12_putNumber_40 : decode cX12_putNumber 40 = .ok (.bipush 10, 2) := by decide +kernel
theorem dX12_putNumber_42 : decode cX12_putNumber 42 = .ok (.idiv, 1) := by decide +kernel
theorem dX12_putNumber_43 : decode cX12_putNumber 43 = .ok (.istore_n 2, 1) := by decide +kernel
theorem dX12_putNumber_44 : decode cX12_putNumber 44 = .ok (.goto (-22), 3) := by decide +kernel
theorem dX12_putNumber_4 : decode cX12_putNumber 4 = .ok (.iload_n 2, 1) := by decide +kernel
theorem dX12_putNumber_5 : decode cX12_putNumber 5 = .ok (.iconst 1, 1) := by decide +kernel
theorem dX12_putNumber_6 : decode cX12_putNumber 6 = .ok (.if_icmp .le 16, 3) := by decide +kernel
theorem dX12_putNumber_9 : decode cX12_putNumber 9 = .ok (.iload_n 1, 1) := by decide +kernel
theorem dX12_putNumber_10 : decode cX12_putNumber 10 = .ok (.iload_n 2, 1) := by decide +kernel
theorem dX12_putNumber_11 : decode cX12_putNumber 11 = .ok (.if_icmp .ge 11, 3) := by decide +kernel
theorem dX12_putNumber_14 : decode cX12_putNumber 14 = .ok (.iload_n 2, 1) := by decide +kernel
theorem dX12_putNumber_15 : decode cX12_putNumber 15 = .ok (.bipush 10, 2) := by decide +kernel
theorem dX12_putNumber_17 : decode cX12_putNumber 17 = .ok (.idiv, 1) := by decide +kernel
theorem dX12_putNumber_18 : decode cX12_putNumber 18 = .ok (.istore_n 2, 1) := by decide +kernel
theorem dX12_putNumber_19 : decode cX12_putNumber 19 = .ok (.goto (-15), 3) := by decide +kernel
theorem dX12_putNumber_0 : decode cX12_putNumber 0 = .ok (.sipush 1000, 3) := by decide +kernel
theorem dX12_putNumber_3 : decode cX12_putNumber 3 = .ok (.istore_n 2, 1) := by decide +kernel
theorem dX12_putWords_129 : decode cX12_putWords 129 = .ok (.invokevirtual 341, 3) := by decide +kernel
theorem dX12_putWords_132 : decode cX12_putWords 132 = .ok (.aload_n 0, 1) := by decide +kernel
theorem dX12_putWords_133 : decode cX12_putWords 133 = .ok (.bipush 32, 2) := by decide +kernel
theorem dX12_putWords_135 : decode cX12_putWords 135 = .ok (.invokevirtual 341, 3) := by decide +kernel
theorem dX12_putWords_138 : decode cX12_putWords 138 = .ok (.return_, 1) := by decide +kernel
theorem dX12_putWords_127 : decode cX12_putWords 127 = .ok (.bipush 114, 2) := by decide +kernel
theorem dX12_putWords_116 : decode cX12_putWords 116 = .ok (.aload_n 0, 1) := by decide +kernel
theorem dX12_putWords_117 : decode cX12_putWords 117 = .ok (.iload_n 1, 1) := by decide +kernel
theorem dX12_putWords_118 : decode cX12_putWords 118 = .ok (.iconst 3, 1) := by decide +kernel
theorem dX12_putWords_119 : decode cX12_putWords 119 = .ok (.if_icmp .ne 8, 3) := by decide +kernel
theorem dX12_putWords_122 : decode cX12_putWords 122 = .ok (.bipush 116, 2) := by decide +kernel
theorem dX12_putWords_124 : decode cX12_putWords 124 = .ok (.goto 5, 3) := by decide +kernel
theorem dX12_putWords_107 : decode cX12_putWords 107 = .ok (.invokevirtual 341, 3) := by decide +kernel
theorem dX12_putWords_110 : decode cX12_putWords 110 = .ok (.iload_n 1, 1) := by decide +kernel
theorem dX12_putWords_111 : decode cX12_putWords 111 = .ok (.iconst 2, 1) := by decide +kernel
theorem dX12_putWords_112 : decode cX12_putWords 112 = .ok (.if_icmp .ne 4, 3) := by decide +kernel
theorem dX12_putWords_115 : decode cX12_putWords 115 = .ok (.return_, 1) := by decide +kernel
theorem dX12_putWords_105 : decode cX12_putWords 105 = .ok (.bipush 111, 2) := by decide +kernel
theorem dX12_putWords_95 : decode cX12_putWords 95 = .ok (.iload_n 1, 1) := by decide +kernel
theorem dX12_putWords_96 : decode cX12_putWords 96 = .ok (.iconst 3, 1) := by decide +kernel
theorem dX12_putWords_97 : decode cX12_putWords 97 = .ok (.if_icmp .ne 8, 3) := by decide +kernel
theorem dX12_putWords_100 : decode cX12_putWords 100 = .ok (.bipush 114, 2) := by decide +kernel
theorem dX12_putWords_102 : decode cX12_putWords 102 = .ok (.goto 5, 3) := by decide +kernel
theorem dX12_putWords_81 : decode cX12_putWords 81 = .ok (.invokevirtual 341, 3) := by decide +kernel
theorem dX12_putWords_84 : decode cX12_putWords 84 = .ok (.aload_n 0, 1) := by decide +kernel
theorem dX12_putWords_85 : decode cX12_putWords 85 = .ok (.iload_n 1, 1) := by decide +kernel
theorem dX12_putWords_86 : decode cX12_putWords 86 = .ok (.iconst 2, 1) := by decide +kernel
theorem dX12_putWords_87 : decode cX12_putWords 87 = .ok (.if_icmp .ne 8, 3) := by decide +kernel
theorem dX12_putWords_90 : decode cX12_putWords 90 = .ok (.bipush 107, 2) := by decide +kernel
theorem dX12_putWords_92 : decode cX12_putWords 92 = .ok (.goto 15, 3) := by decide +kernel
theorem dX12_putWords_79 : decode cX12_putWords 79 = .ok (.bipush 111, 2) := by decide +kernel
theorem dX12_putWords_69 : decode cX12_putWords 69 = .ok (.iload_n 1, 1) := by decide +kernel
theorem dX12_putWords_70 : decode cX12_putWords 70 = .ok (.iconst 3, 1) := by decide +kernel
theorem dX12_putWords_71 : decode cX12_putWords 71 = .ok (.if_icmp .ne 8, 3) := by decide +kernel
theorem dX12_putWords_74 : decode cX12_putWords 74 = .ok (.bipush 117, 2) := by decide +kernel
theorem dX12_putWords_76 : decode cX12_putWords 76 = .ok (.goto 5, 3) := by decide +kernel
theorem dX12_putWords_55 : decode cX12_putWords 55 = .ok (.invokevirtual 341, 3) := by decide +kernel
theorem dX12_putWords_58 : decode cX12_putWords 58 = .ok (.aload_n 0, 1) := by decide +kernel
theorem dX12_putWords_59 : decode cX12_putWords 59 = .ok (.iload_n 1, 1) := by decide +kernel
theorem dX12_putWords_60 : decode cX12_putWords 60 = .ok (.iconst 2, 1) := by decide +kernel
theorem dX12_putWords_61 : decode cX12_putWords 61 = .ok (.if_icmp .ne 8, 3) := by decide +kernel
theorem dX12_putWords_64 : decode cX12_putWords 64 = .ok (.bipush 99, 2) := by decide +kernel
theorem dX12_putWords_66 : decode cX12_putWords 66 = .ok (.goto 15, 3) := by decide +kernel
theorem dX12_putWords_53 : decode cX12_putWords 53 = .ok (.bipush 108, 2) := by decide +kernel
theorem dX12_putWords_43 : decode cX12_putWords 43 = .ok (.iload_n 1, 1) := by decide +kernel
theorem dX12_putWords_44 : decode cX12_putWords 44 = .ok (.iconst 3, 1) := by decide +kernel
theorem dX12_putWords_45 : decode cX12_putWords 45 = .ok (.if_icmp .ne 8, 3) := by decide +kernel
theorem dX12_putWords_48 : decode cX12_putWords 48 = .ok (.bipush 111, 2) := by decide +kernel
theorem dX12_putWords_50 : decode cX12_putWords 50 = .ok (.goto 5, 3) := by decide +kernel
theorem dX12_putWords_29 : decode cX12_putWords 29 = .ok (.invokevirtual 341, 3) := by decide +kernel
theorem dX12_putWords_32 : decode cX12_putWords 32 = .ok (.aload_n 0, 1) := by decide +kernel
theorem dX12_putWords_33 : decode cX12_putWords 33 = .ok (.iload_n 1, 1) := by decide +kernel
theorem dX12_putWords_34 : decode cX12_putWords 34 = .ok (.iconst 2, 1) := by decide +kernel
theorem dX12_putWords_35 : decode cX12_putWords 35 = .ok (.if_icmp .ne 8, 3) := by decide +kernel
theorem dX12_putWords_38 : decode cX12_putWords 38 = .ok (.bipush 97, 2) := by decide +kernel
theorem dX12_putWords_40 : decode cX12_putWords 40 = .ok (.goto 15, 3) := by decide +kernel
theorem dX12_putWords_27 : decode cX12_putWords 27 = .ok (.bipush 102, 2) := by decide +kernel
theorem dX12_putWords_17 : decode cX12_putWords 17 = .ok (.iload_n 1, 1) := by decide +kernel
theorem dX12_putWords_18 : decode cX12_putWords 18 = .ok (.iconst 3, 1) := by decide +kernel
theorem dX12_putWords_19 : decode cX12_putWords 19 = .ok (.if_icmp .ne 8, 3) := by decide +kernel
theorem dX12_putWords_22 : decode cX12_putWords 22 = .ok (.bipush 99, 2) := by decide +kernel
theorem dX12_putWords_24 : decode cX12_putWords 24 = .ok (.goto 5, 3) := by decide +kernel
theorem dX12_putWords_0 : decode cX12_putWords 0 = .ok (.aload_n 0, 1) := by decide +kernel
theorem dX12_putWords_1 : decode cX12_putWords 1 = .ok (.bipush 32, 2) := by decide +kernel
theorem dX12_putWords_3 : decode cX12_putWords 3 = .ok (.invokevirtual 341, 3) := by decide +kernel
theorem dX12_putWords_6 : decode cX12_putWords 6 = .ok (.aload_n 0, 1) := by decide +kernel
theorem dX12_putWords_7 : decode cX12_putWords 7 = .ok (.iload_n 1, 1) := by decide +kernel
theorem dX12_putWords_8 : decode cX12_putWords 8 = .ok (.iconst 2, 1) := by decide +kernel
theorem dX12_putWords_9 : decode cX12_putWords 9 = .ok (.if_icmp .ne 8, 3) := by decide +kernel
theorem dX12_putWords_12 : decode cX12_putWords 12 = .ok (.bipush 98, 2) := by decide +kernel
theorem dX12_putWords_14 : decode cX12_putWords 14 = .ok (.goto 15, 3) := by decide +kernel
theorem dX12_write_278 : decode cX12_write 278 = .ok (.aload_n 0, 1) := by decide +kernel
theorem dX12_write_279 : decode cX12_write 279 = .ok (.bipush 44, 2) := by decide +kernel
theorem dX12_write_281 : decode cX12_write 281 = .ok (.invokevirtual 341, 3) := by decide +kernel
theorem dX12_write_284 : decode cX12_write 284 = .ok (.aload_n 0, 1) := by decide +kernel
theorem dX12_write_285 : decode cX12_write 285 = .ok (.bipush 32, 2) := by decide +kernel
theorem dX12_write_287 : decode cX12_write 287 = .ok (.invokevirtual 341, 3) := by decide +kernel
theorem dX12_write_290 : decode cX12_write 290 = .ok (.aload_n 0, 1) := by decide +kernel
theorem dX12_write_291 : decode cX12_write 291 = .ok (.aload_n 0, 1) := by decide +kernel
theorem dX12_write_292 : decode cX12_write 292 = .ok (.getfield 10, 3) := by decide +kernel
theorem dX12_write_295 : decode cX12_write 295 = .ok (.sipush 7552, 3) := by decide +kernel
theorem dX12_write_298 : decode cX12_write 298 = .ok (.iconst 5, 1) := by decide +kernel
theorem dX12_write_299 : decode cX12_write 299 = .ok (.iload 6, 2) := by decide +kernel
theorem dX12_write_301 : decode cX12_write 301 = .ok (.imul, 1) := by decide +kernel
theorem dX12_write_302 : decode cX12_write 302 = .ok (.iadd, 1) := by decide +kernel
theorem dX12_write_303 : decode cX12_write 303 = .ok (.iconst 1, 1) := by decide +kernel
theorem dX12_write_304 : decode cX12_write 304 = .ok (.iadd, 1) := by decide +kernel
theorem dX12_write_305 : decode cX12_write 305 = .ok (.iaload, 1) := by decide +kernel
theorem dX12_write_306 : decode cX12_write 306 = .ok (.invokevirtual 344, 3) := by decide +kernel
theorem dX12_write_309 : decode cX12_write 309 = .ok (.aload_n 0, 1) := by decide +kernel
theorem dX12_write_310 : decode cX12_write 310 = .ok (.getfield 39, 3) := by decide +kernel
theorem dX12_write_313 : decode cX12_write 313 = .ok (.ireturn, 1) := by decide +kernel
theorem dX12_write_261 : decode cX12_write 261 = .ok (.iload 8, 2) := by decide +kernel
theorem dX12_write_263 : decode cX12_write 263 = .ok (.iconst 3, 1) := by decide +kernel
theorem dX12_write_264 : decode cX12_write 264 = .ok (.if_icmp .lt 14, 3) := by decide +kernel
theorem dX12_write_267 : decode cX12_write 267 = .ok (.aload_n 0, 1) := by decide +kernel
theorem dX12_write_268 : decode cX12_write 268 = .ok (.aload_n 0, 1) := by decide +kernel
theorem dX12_write_269 : decode cX12_write 269 = .ok (.iload_n 1, 1) := by decide +kernel
theorem dX12_write_270 : decode cX12_write 270 = .ok (.bipush 7, 2) := by decide +kernel
theorem dX12_write_272 : decode cX12_write 272 = .ok (.invokevirtual 174, 3) := by decide +kernel
theorem dX12_write_275 : decode cX12_write 275 = .ok (.invokevirtual 347, 3) := by decide +kernel
theorem dX12_write_241 : decode cX12_write 241 = .ok (.aload_n 0, 1) := by decide +kernel
theorem dX12_write_242 : decode cX12_write 242 = .ok (.iload_n 1, 1) := by decide +kernel
theorem dX12_write_243 : decode cX12_write 243 = .ok (.iconst 0, 1) := by decide +kernel
theorem dX12_write_244 : decode cX12_write 244 = .ok (.invokevirtual 174, 3) := by decide +kernel
theorem dX12_write_247 : decode cX12_write 247 = .ok (.istore 8, 2) := by decide +kernel
theorem dX12_write_249 : decode cX12_write 249 = .ok (.iload 8, 2) := by decide +kernel
theorem dX12_write_251 : decode cX12_write 251 = .ok (.iconst 2, 1) := by decide +kernel
theorem dX12_write_252 : decode cX12_write 252 = .ok (.if_icmp .lt 9, 3) := by decide +kernel
theorem dX12_write_255 : decode cX12_write 255 = .ok (.aload_n 0, 1) := by decide +kernel
theorem dX12_write_256 : decode cX12_write 256 = .ok (.iload 8, 2) := by decide +kernel
theorem dX12_write_258 : decode cX12_write 258 = .ok (.invokevirtual 350, 3) := by decide +kernel
theorem dX12_write_238 : decode cX12_write 238 = .ok (.invokevirtual 341, 3) := by decide +kernel
theorem dX12_write_228 : decode cX12_write 228 = .ok (.bipush 97, 2) := by decide +kernel
theorem dX12_write_230 : decode cX12_write 230 = .ok (.iload 7, 2) := by decide +kernel
theorem dX12_write_232 : decode cX12_write 232 = .ok (.bipush 16, 2) := by decide +kernel
theorem dX12_write_234 : decode cX12_write 234 = .ok (.irem, 1) := by decide +kernel
theorem dX12_write_235 : decode cX12_write 235 = .ok (.iadd, 1) := by decide +kernel
theorem dX12_write_236 : decode cX12_write 236 = .ok (.iconst 1, 1) := by decide +kernel
theorem dX12_write_237 : decode cX12_write 237 = .ok (.isub, 1) := by decide +kernel
theorem dX12_write_147 : decode cX12_write 147 = .ok (.aload_n 0, 1) := by decide +kernel
theorem dX12_write_148 : decode cX12_write 148 = .ok (.iconst 0, 1) := by decide +kernel
theorem dX12_write_149 : decode cX12_write 149 = .ok (.putfield 39, 3) := by decide +kernel
theorem dX12_write_152 : decode cX12_write 152 = .ok (.aload_n 0, 1) := by decide +kernel
theorem dX12_write_153 : decode cX12_write 153 = .ok (.aload_n 0, 1) := by decide +kernel
theorem dX12_write_154 : decode cX12_write 154 = .ok (.getfield 10, 3) := by decide +kernel
theorem dX12_write_157 : decode cX12_write 157 = .ok (.sipush 7552, 3) := by decide +kernel
theorem dX12_write_160 : decode cX12_write 160 = .ok (.iconst 5, 1) := by decide +kernel
theorem dX12_write_161 : decode cX12_write 161 = .ok (.iload 6, 2) := by decide +kernel
theorem dX12_write_163 : decode cX12_write 163 = .ok (.imul, 1) := by decide +kernel
theorem dX12_write_164 : decode cX12_write 164 = .ok (.iadd, 1) := by decide +kernel
theorem dX12_write_165 : decode cX12_write 165 = .ok (.iconst 2, 1) := by decide +kernel
theorem dX12_write_166 : decode cX12_write 166 = .ok (.iadd, 1) := by decide +kernel
theorem dX12_write_167 : decode cX12_write 167 = .ok (.iaload, 1) := by decide +kernel
theorem dX12_write_168 : decode cX12_write 168 = .ok (.invokevirtual 344, 3) := by decide +kernel
theorem dX12_write_171 : decode cX12_write 171 = .ok (.aload_n 0, 1) := by decide +kernel
theorem dX12_write_172 : decode cX12_write 172 = .ok (.bipush 32, 2) := by decide +kernel
theorem dX12_write_174 : decode cX12_write 174 = .ok (.invokevirtual 341, 3) := by decide +kernel
theorem dX12_write_177 : decode cX12_write 177 = .ok (.aload_n 0, 1) := by decide +kernel
theorem dX12_write_178 : decode cX12_write 178 = .ok (.getfield 10, 3) := by decide +kernel
theorem dX12_write_181 : decode cX12_write 181 = .ok (.sipush 10752, 3) := by decide +kernel
theorem dX12_write_184 : decode cX12_write 184 = .ok (.bipush 6, 2) := by decide +kernel
theorem dX12_write_186 : decode cX12_write 186 = .ok (.iload 4, 2) := by decide +kernel
theorem dX12_write_188 : decode cX12_write 188 = .ok (.imul, 1) := by decide +kernel
theorem dX12_write_189 : decode cX12_write 189 = .ok (.iadd, 1) := by decide +kernel
theorem dX12_write_190 : decode cX12_write 190 = .ok (.iconst 3, 1) := by decide +kernel
theorem dX12_write_191 : decode cX12_write 191 = .ok (.iadd, 1) := by decide +kernel
theorem dX12_write_192 : decode cX12_write 192 = .ok (.iaload, 1) := by decide +kernel
theorem dX12_write_193 : decode cX12_write 193 = .ok (.istore 7, 2) := by decide +kernel
theorem dX12_write_195 : decode cX12_write 195 = .ok (.aload_n 0, 1) := by decide +kernel
theorem dX12_write_196 : decode cX12_write 196 = .ok (.iload 7, 2) := by decide +kernel
theorem dX12_write_198 : decode cX12_write 198 = .ok (.bipush 16, 2) := by decide +kernel
theorem dX12_write_200 : decode cX12_write 200 = .ok (.idiv, 1) := by decide +kernel
theorem dX12_write_201 : decode cX12_write 201 = .ok (.invokevirtual 347, 3) := by decide +kernel
theorem dX12_write_204 : decode cX12_write 204 = .ok (.iload 7, 2) := by decide +kernel
theorem dX12_write_206 : decode cX12_write 206 = .ok (.bipush 16, 2) := by decide +kernel
theorem dX12_write_208 : decode cX12_write 208 = .ok (.irem, 1) := by decide +kernel
theorem dX12_write_209 : decode cX12_write 209 = .ok (.ifCond .le 32, 3) := by decide +kernel
theorem dX12_write_212 : decode cX12_write 212 = .ok (.aload_n 0, 1) := by decide +kernel
theorem dX12_write_213 : decode cX12_write 213 = .ok (.iload 7, 2) := by decide +kernel
theorem dX12_write_215 : decode cX12_write 215 = .ok (.bipush 16, 2) := by decide +kernel
theorem dX12_write_217 : decode cX12_write 217 = .ok (.irem, 1) := by decide +kernel
theorem dX12_write_218 : decode cX12_write 218 = .ok (.bipush 9, 2) := by decide +kernel
theorem dX12_write_220 : decode cX12_write 220 = .ok (.if_icmp .ne 8, 3) := by decide +kernel
theorem dX12_write_223 : decode cX12_write 223 = .ok (.bipush 43, 2) := by decide +kernel
theorem dX12_write_225 : decode cX12_write 225 = .ok (.goto 13, 3) := by decide +kernel
theorem dX12_write_139 : decode cX12_write 139 = .ok (.iload 6, 2) := by decide +kernel
theorem dX12_write_141 : decode cX12_write 141 = .ok (.iconst (-1), 1) := by decide +kernel
theorem dX12_write_142 : decode cX12_write 142 = .ok (.if_icmp .ne 5, 3) := by decide +kernel
theorem dX12_write_145 : decode cX12_write 145 = .ok (.iconst (-1), 1) := by decide +kernel
theorem dX12_write_146 : decode cX12_write 146 = .ok (.ireturn, 1) := by decide +kernel
theorem dX12_write_133 : decode cX12_write 133 = .ok (.iinc 7 1, 3) := by decide +kernel
theorem dX12_write_136 : decode cX12_write 136 = .ok (.goto (-67), 3) := by decide +kernel
theorem dX12_write_69 : decode cX12_write 69 = .ok (.iload 7, 2) := by decide +kernel
theorem dX12_write_71 : decode cX12_write 71 = .ok (.aload_n 0, 1) := by decide +kernel
theorem dX12_write_72 : decode cX12_write 72 = .ok (.getfield 10, 3) := by decide +kernel
theorem dX12_write_75 : decode cX12_write 75 = .ok (.bipush 7, 2) := by decide +kernel
theorem dX12_write_77 : decode cX12_write 77 = .ok (.iaload, 1) := by decide +kernel
theorem dX12_write_78 : decode cX12_write 78 = .ok (.if_icmp .ge 61, 3) := by decide +kernel
theorem dX12_write_81 : decode cX12_write 81 = .ok (.sipush 7552, 3) := by decide +kernel
theorem dX12_write_84 : decode cX12_write 84 = .ok (.iconst 5, 1) := by decide +kernel
theorem dX12_write_85 : decode cX12_write 85 = .ok (.iload 7, 2) := by decide +kernel
theorem dX12_write_87 : decode cX12_write 87 = .ok (.imul, 1) := by decide +kernel
theorem dX12_write_88 : decode cX12_write 88 = .ok (.iadd, 1) := by decide +kernel
theorem dX12_write_89 : decode cX12_write 89 = .ok (.istore 8, 2) := by decide +kernel
theorem dX12_write_91 : decode cX12_write 91 = .ok (.aload_n 0, 1) := by decide +kernel
theorem dX12_write_92 : decode cX12_write 92 = .ok (.getfield 10, 3) := by decide +kernel
theorem dX12_write_95 : decode cX12_write 95 = .ok (.iload 8, 2) := by decide +kernel
theorem dX12_write_97 : decode cX12_write 97 = .ok (.iaload, 1) := by decide +kernel
theorem dX12_write_98 : decode cX12_write 98 = .ok (.iload 5, 2) := by decide +kernel
theorem dX12_write_100 : decode cX12_write 100 = .ok (.if_icmp .ne 33, 3) := by decide +kernel
theorem dX12_write_103 : decode cX12_write 103 = .ok (.aload_n 0, 1) := by decide +kernel
theorem dX12_write_104 : decode cX12_write 104 = .ok (.aload_n 0, 1) := by decide +kernel
theorem dX12_write_105 : decode cX12_write 105 = .ok (.getfield 10, 3) := by decide +kernel
theorem dX12_write_108 : decode cX12_write 108 = .ok (.iload 8, 2) := by decide +kernel
theorem dX12_write_110 : decode cX12_write 110 = .ok (.iconst 3, 1) := by decide +kernel
theorem dX12_write_111 : decode cX12_write 111 = .ok (.iadd, 1) := by decide +kernel
theorem dX12_write_112 : decode cX12_write 112 = .ok (.iaload, 1) := by decide +kernel
theorem dX12_write_113 : decode cX12_write 113 = .ok (.aload_n 0, 1) := by decide +kernel
theorem dX12_write_114 : decode cX12_write 114 = .ok (.getfield 10, 3) := by decide +kernel
theorem dX12_write_117 : decode cX12_write 117 = .ok (.iload 8, 2) := by decide +kernel
theorem dX12_write_119 : decode cX12_write 119 = .ok (.iconst 4, 1) := by decide +kernel
theorem dX12_write_120 : decode cX12_write 120 = .ok (.iadd, 1) := by decide +kernel
theorem dX12_write_121 : decode cX12_write 121 = .ok (.iaload, 1) := by decide +kernel
theorem dX12_write_122 : decode cX12_write 122 = .ok (.iload_n 3, 1) := by decide +kernel
theorem dX12_write_123 : decode cX12_write 123 = .ok (.invokevirtual 302, 3) := by decide +kernel
theorem dX12_write_126 : decode cX12_write 126 = .ok (.ifCond .eq 7, 3) := by decide +kernel
theorem dX12_write_129 : decode cX12_write 129 = .ok (.iload 7, 2) := by decide +kernel
theorem dX12_write_131 : decode cX12_write 131 = .ok (.istore 6, 2) := by decide +kernel
theorem dX12_write_45 : decode cX12_write 45 = .ok (.aload_n 0, 1) := by decide +kernel
theorem dX12_write_46 : decode cX12_write 46 = .ok (.getfield 10, 3) := by decide +kernel
theorem dX12_write_49 : decode cX12_write 49 = .ok (.sipush 10752, 3) := by decide +kernel
theorem dX12_write_52 : decode cX12_write 52 = .ok (.bipush 6, 2) := by decide +kernel
theorem dX12_write_54 : decode cX12_write 54 = .ok (.iload 4, 2) := by decide +kernel
theorem dX12_write_56 : decode cX12_write 56 = .ok (.imul, 1) := by decide +kernel
theorem dX12_write_57 : decode cX12_write 57 = .ok (.iadd, 1) := by decide +kernel
theorem dX12_write_58 : decode cX12_write 58 = .ok (.iconst 2, 1) := by decide +kernel
theorem dX12_write_59 : decode cX12_write 59 = .ok (.iadd, 1) := by decide +kernel
theorem dX12_write_60 : decode cX12_write 60 = .ok (.iaload, 1) := by decide +kernel
theorem dX12_write_61 : decode cX12_write 61 = .ok (.istore 5, 2) := by decide +kernel
theorem dX12_write_63 : decode cX12_write 63 = .ok (.iconst (-1), 1) := by decide +kernel
theorem dX12_write_64 : decode cX12_write 64 = .ok (.istore 6, 2) := by decide +kernel
theorem dX12_write_66 : decode cX12_write 66 = .ok (.iconst 0, 1) := by decide +kernel
theorem dX12_write_67 : decode cX12_write 67 = .ok (.istore 7, 2) := by decide +kernel
theorem dX12_write_43 : decode cX12_write 43 = .ok (.iconst (-1), 1) := by decide +kernel
theorem dX12_write_44 : decode cX12_write 44 = .ok (.ireturn, 1) := by decide +kernel
theorem dX12_write_0 : decode cX12_write 0 = .ok (.aload_n 0, 1) := by decide +kernel
theorem dX12_write_1 : decode cX12_write 1 = .ok (.iload_n 1, 1) := by decide +kernel
theorem dX12_write_2 : decode cX12_write 2 = .ok (.iload_n 2, 1) := by decide +kernel
theorem dX12_write_3 : decode cX12_write 3 = .ok (.iload_n 3, 1) := by decide +kernel
theorem dX12_write_4 : decode cX12_write 4 = .ok (.invokevirtual 338, 3) := by decide +kernel
theorem dX12_write_7 : decode cX12_write 7 = .ok (.istore 4, 2) := by decide +kernel
theorem dX12_write_9 : decode cX12_write 9 = .ok (.iload 4, 2) := by decide +kernel
theorem dX12_write_11 : decode cX12_write 11 = .ok (.iconst (-1), 1) := by decide +kernel
theorem dX12_write_12 : decode cX12_write 12 = .ok (.if_icmp .eq 31, 3) := by decide +kernel
theorem dX12_write_15 : decode cX12_write 15 = .ok (.aload_n 0, 1) := by decide +kernel
theorem dX12_write_16 : decode cX12_write 16 = .ok (.iload_n 1, 1) := by decide +kernel
theorem dX12_write_17 : decode cX12_write 17 = .ok (.iload_n 3, 1) := by decide +kernel
theorem dX12_write_18 : decode cX12_write 18 = .ok (.invokevirtual 305, 3) := by decide +kernel
theorem dX12_write_21 : decode cX12_write 21 = .ok (.ifCond .eq 22, 3) := by decide +kernel
theorem dX12_write_24 : decode cX12_write 24 = .ok (.aload_n 0, 1) := by decide +kernel
theorem dX12_write_25 : decode cX12_write 25 = .ok (.getfield 10, 3) := by decide +kernel
theorem dX12_write_28 : decode cX12_write 28 = .ok (.sipush 10752, 3) := by decide +kernel
theorem dX12_write_31 : decode cX12_write 31 = .ok (.bipush 6, 2) := by decide +kernel
theorem dX12_write_33 : decode cX12_write 33 = .ok (.iload 4, 2) := by decide +kernel
theorem dX12_write_35 : decode cX12_write 35 = .ok (.imul, 1) := by decide +kernel
theorem dX12_write_36 : decode cX12_write 36 = .ok (.iadd, 1) := by decide +kernel
theorem dX12_write_37 : decode cX12_write 37 = .ok (.iconst 3, 1) := by decide +kernel
theorem dX12_write_38 : decode cX12_write 38 = .ok (.iadd, 1) := by decide +kernel
theorem dX12_write_39 : decode cX12_write 39 = .ok (.iaload, 1) := by decide +kernel
theorem dX12_write_40 : decode cX12_write 40 = .ok (.ifCond .ne 5, 3) := by decide +kernel
theorem dX12_pairs_270 : decode cX12_pairs 270 = .ok (.return_, 1) := by decide +kernel
theorem dX12_pairs_267 : decode cX12_pairs 267 = .ok (.goto (-265), 3) := by decide +kernel
theorem dX12_pairs_261 : decode cX12_pairs 261 = .ok (.iinc 6 1, 3) := by decide +kernel
theorem dX12_pairs_264 : decode cX12_pairs 264 = .ok (.goto (-130), 3) := by decide +kernel
theorem dX12_pairs_255 : decode cX12_pairs 255 = .ok (.iinc 7 1, 3) := by decide +kernel
theorem dX12_pairs_258 : decode cX12_pairs 258 = .ok (.goto (-110), 3) := by decide +kernel
theorem dX12_pairs_202 : decode cX12_pairs 202 = .ok (.aload_n 0, 1) := by decide +kernel
theorem dX12_pairs_203 : decode cX12_pairs 203 = .ok (.getfield 10, 3) := by decide +kernel
theorem dX12_pairs_206 : decode cX12_pairs 206 = .ok (.ldc_w 353, 3) := by decide +kernel
theorem dX12_pairs_209 : decode cX12_pairs 209 = .ok (.iconst 2, 1) := by decide +kernel
theorem dX12_pairs_210 : decode cX12_pairs 210 = .ok (.aload_n 0, 1) := by decide +kernel
theorem dX12_pairs_211 : decode cX12_pairs 211 = .ok (.getfield 10, 3) := by decide +kernel
theorem dX12_pairs_214 : decode cX12_pairs 214 = .ok (.bipush 14, 2) := by decide +kernel
theorem dX12_pairs_216 : decode cX12_pairs 216 = .ok (.iaload, 1) := by decide +kernel
theorem dX12_pairs_217 : decode cX12_pairs 217 = .ok (.imul, 1) := by decide +kernel
theorem dX12_pairs_218 : decode cX12_pairs 218 = .ok (.iadd, 1) := by decide +kernel
theorem dX12_pairs_219 : decode cX12_pairs 219 = .ok (.iload 5, 2) := by decide +kernel
theorem dX12_pairs_221 : decode cX12_pairs 221 = .ok (.iastore, 1) := by decide +kernel
theorem dX12_pairs_222 : decode cX12_pairs 222 = .ok (.aload_n 0, 1) := by decide +kernel
theorem dX12_pairs_223 : decode cX12_pairs 223 = .ok (.getfield 10, 3) := by decide +kernel
theorem dX12_pairs_226 : decode cX12_pairs 226 = .ok (.ldc_w 353, 3) := by decide +kernel
theorem dX12_pairs_229 : decode cX12_pairs 229 = .ok (.iconst 2, 1) := by decide +kernel
theorem dX12_pairs_230 : decode cX12_pairs 230 = .ok (.aload_n 0, 1) := by decide +kernel
theorem dX12_pairs_231 : decode cX12_pairs 231 = .ok (.getfield 10, 3) := by decide +kernel
theorem dX12_pairs_234 : decode cX12_pairs 234 = .ok (.bipush 14, 2) := by decide +kernel
theorem dX12_pairs_236 : decode cX12_pairs 236 = .ok (.iaload, 1) := by decide +kernel
theorem dX12_pairs_237 : decode cX12_pairs 237 = .ok (.imul, 1) := by decide +kernel
theorem dX12_pairs_238 : decode cX12_pairs 238 = .ok (.iadd, 1) := by decide +kernel
theorem dX12_pairs_239 : decode cX12_pairs 239 = .ok (.iconst 1, 1) := by decide +kernel
theorem dX12_pairs_240 : decode cX12_pairs 240 = .ok (.iadd, 1) := by decide +kernel
theorem dX12_pairs_241 : decode cX12_pairs 241 = .ok (.iload 6, 2) := by decide +kernel
theorem dX12_pairs_243 : decode cX12_pairs 243 = .ok (.iastore, 1) := by decide +kernel
theorem dX12_pairs_244 : decode cX12_pairs 244 = .ok (.aload_n 0, 1) := by decide +kernel
theorem dX12_pairs_245 : decode cX12_pairs 245 = .ok (.getfield 10, 3) := by decide +kernel
theorem dX12_pairs_248 : decode cX12_pairs 248 = .ok (.bipush 14, 2) := by decide +kernel
theorem dX12_pairs_250 : decode cX12_pairs 250 = .ok (.dup2, 1) := by decide +kernel
theorem dX12_pairs_251 : decode cX12_pairs 251 = .ok (.iaload, 1) := by decide +kernel
theorem dX12_pairs_252 : decode cX12_pairs 252 = .ok (.iconst 1, 1) := by decide +kernel
theorem dX12_pairs_253 : decode cX12_pairs 253 = .ok (.iadd, 1) := by decide +kernel
theorem dX12_pairs_254 : decode cX12_pairs 254 = .ok (.iastore, 1) := by decide +kernel
theorem dX12_pairs_148 : decode cX12_pairs 148 = .ok (.iload 7, 2) := by decide +kernel
theorem dX12_pairs_150 : decode cX12_pairs 150 = .ok (.iconst 2, 1) := by decide +kernel
theorem dX12_pairs_151 : decode cX12_pairs 151 = .ok (.if_icmp .ge 110, 3) := by decide +kernel
theorem dX12_pairs_154 : decode cX12_pairs 154 = .ok (.aload_n 0, 1) := by decide +kernel
theorem dX12_pairs_155 : decode cX12_pairs 155 = .ok (.iload 6, 2) := by decide +kernel
theorem dX12_pairs_157 : decode cX12_pairs 157 = .ok (.invokevirtual 187, 3) := by decide +kernel
theorem dX12_pairs_160 : decode cX12_pairs 160 = .ok (.ifCond .eq 95, 3) := by decide +kernel
theorem dX12_pairs_163 : decode cX12_pairs 163 = .ok (.aload_n 0, 1) := by decide +kernel
theorem dX12_pairs_164 : decode cX12_pairs 164 = .ok (.iload 6, 2) := by decide +kernel
theorem dX12_pairs_166 : decode cX12_pairs 166 = .ok (.iload 7, 2) := by decide +kernel
theorem dX12_pairs_168 : decode cX12_pairs 168 = .ok (.invokevirtual 190, 3) := by decide +kernel
theorem dX12_pairs_171 : decode cX12_pairs 171 = .ok (.ifCond .eq 84, 3) := by decide +kernel
theorem dX12_pairs_174 : decode cX12_pairs 174 = .ok (.aload_n 0, 1) := by decide +kernel
theorem dX12_pairs_175 : decode cX12_pairs 175 = .ok (.iload 6, 2) := by decide +kernel
theorem dX12_pairs_177 : decode cX12_pairs 177 = .ok (.iload 7, 2) := by decide +kernel
theorem dX12_pairs_179 : decode cX12_pairs 179 = .ok (.invokevirtual 193, 3) := by decide +kernel
theorem dX12_pairs_182 : decode cX12_pairs 182 = .ok (.iload_n 2, 1) := by decide +kernel
theorem dX12_pairs_183 : decode cX12_pairs 183 = .ok (.if_icmp .ne 72, 3) := by decide +kernel
theorem dX12_pairs_186 : decode cX12_pairs 186 = .ok (.aload_n 0, 1) := by decide +kernel
theorem dX12_pairs_187 : decode cX12_pairs 187 = .ok (.iload 6, 2) := by decide +kernel
theorem dX12_pairs_189 : decode cX12_pairs 189 = .ok (.iload 7, 2) := by decide +kernel
theorem dX12_pairs_191 : decode cX12_pairs 191 = .ok (.invokevirtual 203, 3) := by decide +kernel
theorem dX12_pairs_194 : decode cX12_pairs 194 = .ok (.iload 4, 2) := by decide +kernel
theorem dX12_pairs_196 : decode cX12_pairs 196 = .ok (.if_icmp .eq 6, 3) := by decide +kernel
theorem dX12_pairs_199 : decode cX12_pairs 199 = .ok (.goto 56, 3) := by decide +kernel
theorem dX12_pairs_134 : decode cX12_pairs 134 = .ok (.iload 6, 2) := by decide +kernel
theorem dX12_pairs_136 : decode cX12_pairs 136 = .ok (.aload_n 0, 1) := by decide +kernel
theorem dX12_pairs_137 : decode cX12_pairs 137 = .ok (.getfield 10, 3) := by decide +kernel
theorem dX12_pairs_140 : decode cX12_pairs 140 = .ok (.iconst 4, 1) := by decide +kernel
theorem dX12_pairs_141 : decode cX12_pairs 141 = .ok (.iaload, 1) := by decide +kernel
theorem dX12_pairs_142 : decode cX12_pairs 142 = .ok (.if_icmp .ge 125, 3) := by decide +kernel
theorem dX12_pairs_145 : decode cX12_pairs 145 = .ok (.iconst 0, 1) := by decide +kernel
theorem dX12_pairs_146 : decode cX12_pairs 146 = .ok (.istore 7, 2) := by decide +kernel
theorem dX12_pairs_131 : decode cX12_pairs 131 = .ok (.iconst 0, 1) := by decide +kernel
theorem dX12_pairs_132 : decode cX12_pairs 132 = .ok (.istore 6, 2) := by decide +kernel
theorem dX12_pairs_119 : decode cX12_pairs 119 = .ok (.iload 4, 2) := by decide +kernel
theorem dX12_pairs_121 : decode cX12_pairs 121 = .ok (.istore_n 3, 1) := by decide +kernel
theorem dX12_pairs_122 : decode cX12_pairs 122 = .ok (.iload 5, 2) := by decide +kernel
theorem dX12_pairs_124 : decode cX12_pairs 124 = .ok (.iconst (-1), 1) := by decide +kernel
theorem dX12_pairs_125 : decode cX12_pairs 125 = .ok (.if_icmp .ne 6, 3) := by decide +kernel
theorem dX12_pairs_128 : decode cX12_pairs 128 = .ok (.goto (-126), 3) := by decide +kernel
theorem dX12_pairs_113 : decode cX12_pairs 113 = .ok (.iinc 6 1, 3) := by decide +kernel
theorem dX12_pairs_116 : decode cX12_pairs 116 = .ok (.goto (-98), 3) := by decide +kernel
theorem dX12_pairs_107 : decode cX12_pairs 107 = .ok (.iinc 7 1, 3) := by decide +kernel
theorem dX12_pairs_110 : decode cX12_pairs 110 = .ok (.goto (-78), 3) := by decide +kernel
theorem dX12_pairs_99 : decode cX12_pairs 99 = .ok (.iload 8, 2) := by decide +kernel
theorem dX12_pairs_101 : decode cX12_pairs 101 = .ok (.istore 4, 2) := by decide +kernel
theorem dX12_pairs_103 : decode cX12_pairs 103 = .ok (.iload 6, 2) := by decide +kernel
theorem dX12_pairs_105 : decode cX12_pairs 105 = .ok (.istore 5, 2) := by decide +kernel
theorem dX12_pairs_73 : decode cX12_pairs 73 = .ok (.aload_n 0, 1) := by decide +kernel
theorem dX12_pairs_74 : decode cX12_pairs 74 = .ok (.iload 6, 2) := by decide +kernel
theorem dX12_pairs_76 : decode cX12_pairs 76 = .ok (.iload 7, 2) := by decide +kernel
theorem dX12_pairs_78 : decode cX12_pairs 78 = .ok (.invokevirtual 203, 3) := by decide +kernel
theorem dX12_pairs_81 : decode cX12_pairs 81 = .ok (.istore 8, 2) := by decide +kernel
theorem dX12_pairs_83 : decode cX12_pairs 83 = .ok (.iload 8, 2) := by decide +kernel
theorem dX12_pairs_85 : decode cX12_pairs 85 = .ok (.iload_n 3, 1) := by decide +kernel
theorem dX12_pairs_86 : decode cX12_pairs 86 = .ok (.if_icmp .le 21, 3) := by decide +kernel
theorem dX12_pairs_89 : decode cX12_pairs 89 = .ok (.iload 8, 2) := by decide +kernel
theorem dX12_pairs_91 : decode cX12_pairs 91 = .ok (.iload 4, 2) := by decide +kernel
theorem dX12_pairs_93 : decode cX12_pairs 93 = .ok (.if_icmp .lt 6, 3) := by decide +kernel
theorem dX12_pairs_96 : decode cX12_pairs 96 = .ok (.goto 11, 3) := by decide +kernel
theorem dX12_pairs_32 : decode cX12_pairs 32 = .ok (.iload 7, 2) := by decide +kernel
theorem dX12_pairs_34 : decode cX12_pairs 34 = .ok (.iconst 2, 1) := by decide +kernel
theorem dX12_pairs_35 : decode cX12_pairs 35 = .ok (.if_icmp .ge 78, 3) := by decide +kernel
theorem dX12_pairs_38 : decode cX12_pairs 38 = .ok (.aload_n 0, 1) := by decide +kernel
theorem dX12_pairs_39 : decode cX12_pairs 39 = .ok (.iload 6, 2) := by decide +kernel
theorem dX12_pairs_41 : decode cX12_pairs 41 = .ok (.invokevirtual 187, 3) := by decide +kernel
theorem dX12_pairs_44 : decode cX12_pairs 44 = .ok (.ifCond .eq 63, 3) := by decide +kernel
theorem dX12_pairs_47 : decode cX12_pairs 47 = .ok (.aload_n 0, 1) := by decide +kernel
theorem dX12_pairs_48 : decode cX12_pairs 48 = .ok (.iload 6, 2) := by decide +kernel
theorem dX12_pairs_50 : decode cX12_pairs 50 = .ok (.iload 7, 2) := by decide +kernel
theorem dX12_pairs_52 : decode cX12_pairs 52 = .ok (.invokevirtual 190, 3) := by decide +kernel
theorem dX12_pairs_55 : decode cX12_pairs 55 = .ok (.ifCond .eq 52, 3) := by decide +kernel
theorem dX12_pairs_58 : decode cX12_pairs 58 = .ok (.aload_n 0, 1) := by decide +kernel
theorem dX12_pairs_59 : decode cX12_pairs 59 = .ok (.iload 6, 2) := by decide +kernel
theorem dX12_pairs_61 : decode cX12_pairs 61 = .ok (.iload 7, 2) := by decide +kernel
theorem dX12_pairs_63 : decode cX12_pairs 63 = .ok (.invokevirtual 193, 3) := by decide +kernel
theorem dX12_pairs_66 : decode cX12_pairs 66 = .ok (.iload_n 1, 1) := by decide +kernel
theorem dX12_pairs_67 : decode cX12_pairs 67 = .ok (.if_icmp .eq 6, 3) := by decide +kernel
theorem dX12_pairs_70 : decode cX12_pairs 70 = .ok (.goto 37, 3) := by decide +kernel
theorem dX12_pairs_18 : decode cX12_pairs 18 = .ok (.iload 6, 2) := by decide +kernel
theorem dX12_pairs_20 : decode cX12_pairs 20 = .ok (.aload_n 0, 1) := by decide +kernel
theorem dX12_pairs_21 : decode cX12_pairs 21 = .ok (.getfield 10, 3) := by decide +kernel
theorem dX12_pairs_24 : decode cX12_pairs 24 = .ok (.iconst 4, 1) := by decide +kernel
theorem dX12_pairs_25 : decode cX12_pairs 25 = .ok (.iaload, 1) := by decide +kernel
theorem dX12_pairs_26 : decode cX12_pairs 26 = .ok (.if_icmp .ge 93, 3) := by decide +kernel
theorem dX12_pairs_29 : decode cX12_pairs 29 = .ok (.iconst 0, 1) := by decide +kernel
theorem dX12_pairs_30 : decode cX12_pairs 30 = .ok (.istore 7, 2) := by decide +kernel
theorem dX12_pairs_2 : decode cX12_pairs 2 = .ok (.iload_n 3, 1) := by decide +kernel
theorem dX12_pairs_3 : decode cX12_pairs 3 = .ok (.ldc 186, 2) := by decide +kernel
theorem dX12_pairs_5 : decode cX12_pairs 5 = .ok (.if_icmp .ge 265, 3) := by decide +kernel
theorem dX12_pairs_8 : decode cX12_pairs 8 = .ok (.ldc 186, 2) := by decide +kernel
theorem dX12_pairs_10 : decode cX12_pairs 10 = .ok (.istore 4, 2) := by decide +kernel
theorem dX12_pairs_12 : decode cX12_pairs 12 = .ok (.iconst (-1), 1) := by decide +kernel
theorem dX12_pairs_13 : decode cX12_pairs 13 = .ok (.istore 5, 2) := by decide +kernel
theorem dX12_pairs_15 : decode cX12_pairs 15 = .ok (.iconst 0, 1) := by decide +kernel
theorem dX12_pairs_16 : decode cX12_pairs 16 = .ok (.istore 6, 2) := by decide +kernel
theorem dX12_pairs_0 : decode cX12_pairs 0 = .ok (.iconst 0, 1) := by decide +kernel
theorem dX12_pairs_1 : decode cX12_pairs 1 = .ok (.istore_n 3, 1) := by decide +kernel
theorem dX12_twice_200 : decode cX12_twice 200 = .ok (.aload_n 0, 1) := by decide +kernel
theorem dX12_twice_201 : decode cX12_twice 201 = .ok (.getfield 10, 3) := by decide +kernel
theorem dX12_twice_204 : decode cX12_twice 204 = .ok (.bipush 14, 2) := by decide +kernel
theorem dX12_twice_206 : decode cX12_twice 206 = .ok (.iaload, 1) := by decide +kernel
theorem dX12_twice_207 : decode cX12_twice 207 = .ok (.ireturn, 1) := by decide +kernel
theorem dX12_twice_194 : decode cX12_twice 194 = .ok (.iinc 4 1, 3) := by decide +kernel
theorem dX12_twice_197 : decode cX12_twice 197 = .ok (.goto (-107), 3) := by decide +kernel
theorem dX12_twice_188 : decode cX12_twice 188 = .ok (.iinc 5 1, 3) := by decide +kernel
theorem dX12_twice_191 : decode cX12_twice 191 = .ok (.goto (-87), 3) := by decide +kernel
theorem dX12_twice_104 : decode cX12_twice 104 = .ok (.iload 5, 2) := by decide +kernel
theorem dX12_twice_106 : decode cX12_twice 106 = .ok (.aload_n 0, 1) := by decide +kernel
theorem dX12_twice_107 : decode cX12_twice 107 = .ok (.getfield 10, 3) := by decide +kernel
theorem dX12_twice_110 : decode cX12_twice 110 = .ok (.iconst 3, 1) := by decide +kernel
theorem dX12_twice_111 : decode cX12_twice 111 = .ok (.iaload, 1) := by decide +kernel
theorem dX12_twice_112 : decode cX12_twice 112 = .ok (.if_icmp .ge 82, 3) := by decide +kernel
theorem dX12_twice_115 : decode cX12_twice 115 = .ok (.aload_n 0, 1) := by decide +kernel
theorem dX12_twice_116 : decode cX12_twice 116 = .ok (.iload 4, 2) := by decide +kernel
theorem dX12_twice_118 : decode cX12_twice 118 = .ok (.invokevirtual 141, 3) := by decide +kernel
theorem dX12_twice_121 : decode cX12_twice 121 = .ok (.iload_n 2, 1) := by decide +kernel
theorem dX12_twice_122 : decode cX12_twice 122 = .ok (.if_icmp .ne 66, 3) := by decide +kernel
theorem dX12_twice_125 : decode cX12_twice 125 = .ok (.aload_n 0, 1) := by decide +kernel
theorem dX12_twice_126 : decode cX12_twice 126 = .ok (.iload 5, 2) := by decide +kernel
theorem dX12_twice_128 : decode cX12_twice 128 = .ok (.invokevirtual 141, 3) := by decide +kernel
theorem dX12_twice_131 : decode cX12_twice 131 = .ok (.iload_n 3, 1) := by decide +kernel
theorem dX12_twice_132 : decode cX12_twice 132 = .ok (.if_icmp .ne 56, 3) := by decide +kernel
theorem dX12_twice_135 : decode cX12_twice 135 = .ok (.aload_n 0, 1) := by decide +kernel
theorem dX12_twice_136 : decode cX12_twice 136 = .ok (.aload_n 0, 1) := by decide +kernel
theorem dX12_twice_137 : decode cX12_twice 137 = .ok (.getfield 10, 3) := by decide +kernel
theorem dX12_twice_140 : decode cX12_twice 140 = .ok (.sipush 7552, 3) := by decide +kernel
theorem dX12_twice_143 : decode cX12_twice 143 = .ok (.iconst 5, 1) := by decide +kernel
theorem dX12_twice_144 : decode cX12_twice 144 = .ok (.aload_n 0, 1) := by decide +kernel
theorem dX12_twice_145 : decode cX12_twice 145 = .ok (.iload 4, 2) := by decide +kernel
theorem dX12_twice_147 : decode cX12_twice 147 = .ok (.invokevirtual 138, 3) := by decide +kernel
theorem dX12_twice_150 : decode cX12_twice 150 = .ok (.imul, 1) := by decide +kernel
theorem dX12_twice_151 : decode cX12_twice 151 = .ok (.iadd, 1) := by decide +kernel
theorem dX12_twice_152 : decode cX12_twice 152 = .ok (.iconst 2, 1) := by decide +kernel
theorem dX12_twice_153 : decode cX12_twice 153 = .ok (.iadd, 1) := by decide +kernel
theorem dX12_twice_154 : decode cX12_twice 154 = .ok (.iaload, 1) := by decide +kernel
theorem dX12_twice_155 : decode cX12_twice 155 = .ok (.aload_n 0, 1) := by decide +kernel
theorem dX12_twice_156 : decode cX12_twice 156 = .ok (.getfield 10, 3) := by decide +kernel
theorem dX12_twice_159 : decode cX12_twice 159 = .ok (.sipush 7552, 3) := by decide +kernel
theorem dX12_twice_162 : decode cX12_twice 162 = .ok (.iconst 5, 1) := by decide +kernel
theorem dX12_twice_163 : decode cX12_twice 163 = .ok (.aload_n 0, 1) := by decide +kernel
theorem dX12_twice_164 : decode cX12_twice 164 = .ok (.iload 5, 2) := by decide +kernel
theorem dX12_twice_166 : decode cX12_twice 166 = .ok (.invokevirtual 138, 3) := by decide +kernel
theorem dX12_twice_169 : decode cX12_twice 169 = .ok (.imul, 1) := by decide +kernel
theorem dX12_twice_170 : decode cX12_twice 170 = .ok (.iadd, 1) := by decide +kernel
theorem dX12_twice_171 : decode cX12_twice 171 = .ok (.iconst 2, 1) := by decide +kernel
theorem dX12_twice_172 : decode cX12_twice 172 = .ok (.iadd, 1) := by decide +kernel
theorem dX12_twice_173 : decode cX12_twice 173 = .ok (.iaload, 1) := by decide +kernel
theorem dX12_twice_174 : decode cX12_twice 174 = .ok (.invokevirtual 167, 3) := by decide +kernel
theorem dX12_twice_177 : decode cX12_twice 177 = .ok (.ifCond .eq 11, 3) := by decide +kernel
theorem dX12_twice_180 : decode cX12_twice 180 = .ok (.aload_n 0, 1) := by decide +kernel
theorem dX12_twice_181 : decode cX12_twice 181 = .ok (.iload 4, 2) := by decide +kernel
theorem dX12_twice_183 : decode cX12_twice 183 = .ok (.iload 5, 2) := by decide +kernel
theorem dX12_twice_185 : decode cX12_twice 185 = .ok (.invokevirtual 354, 3) := by decide +kernel
theorem dX12_twice_90 : decode cX12_twice 90 = .ok (.iload 4, 2) := by decide +kernel
theorem dX12_twice_92 : decode cX12_twice 92 = .ok (.aload_n 0, 1) := by decide +kernel
theorem dX12_twice_93 : decode cX12_twice 93 = .ok (.getfield 10, 3) := by decide +kernel
theorem dX12_twice_96 : decode cX12_twice 96 = .ok (.iconst 3, 1) := by decide +kernel
theorem dX12_twice_97 : decode cX12_twice 97 = .ok (.iaload, 1) := by decide +kernel
theorem dX12_twice_98 : decode cX12_twice 98 = .ok (.if_icmp .ge 102, 3) := by decide +kernel
theorem dX12_twice_101 : decode cX12_twice 101 = .ok (.iconst 0, 1) := by decide +kernel
theorem dX12_twice_102 : decode cX12_twice 102 = .ok (.istore 5, 2) := by decide +kernel
theorem dX12_twice_87 : decode cX12_twice 87 = .ok (.iconst 0, 1) := by decide +kernel
theorem dX12_twice_88 : decode cX12_twice 88 = .ok (.istore 4, 2) := by decide +kernel
theorem dX12_twice_61 : decode cX12_twice 61 = .ok (.aload_n 0, 1) := by decide +kernel
theorem dX12_twice_62 : decode cX12_twice 62 = .ok (.getfield 10, 3) := by decide +kernel
theorem dX12_twice_65 : decode cX12_twice 65 = .ok (.bipush 14, 2) := by decide +kernel
theorem dX12_twice_67 : decode cX12_twice 67 = .ok (.iconst 0, 1) := by decide +kernel
theorem dX12_twice_68 : decode cX12_twice 68 = .ok (.iastore, 1) := by decide +kernel
theorem dX12_twice_69 : decode cX12_twice 69 = .ok (.iload_n 1, 1) := by decide +kernel
theorem dX12_twice_70 : decode cX12_twice 70 = .ok (.ifCond .ne 17, 3) := by decide +kernel
theorem dX12_twice_73 : decode cX12_twice 73 = .ok (.aload_n 0, 1) := by decide +kernel
theorem dX12_twice_74 : decode cX12_twice 74 = .ok (.iload_n 2, 1) := by decide +kernel
theorem dX12_twice_75 : decode cX12_twice 75 = .ok (.iload_n 3, 1) := by decide +kernel
theorem dX12_twice_76 : decode cX12_twice 76 = .ok (.invokevirtual 354, 3) := by decide +kernel
theorem dX12_twice_79 : decode cX12_twice 79 = .ok (.aload_n 0, 1) := by decide +kernel
theorem dX12_twice_80 : decode cX12_twice 80 = .ok (.getfield 10, 3) := by decide +kernel
theorem dX12_twice_83 : decode cX12_twice 83 = .ok (.bipush 14, 2) := by decide +kernel
theorem dX12_twice_85 : decode cX12_twice 85 = .ok (.iaload, 1) := by decide +kernel
theorem dX12_twice_86 : decode cX12_twice 86 = .ok (.ireturn, 1) := by decide +kernel
theorem dX12_twice_53 : decode cX12_twice 53 = .ok (.iload_n 2, 1) := by decide +kernel
theorem dX12_twice_54 : decode cX12_twice 54 = .ok (.iload_n 3, 1) := by decide +kernel
theorem dX12_twice_55 : decode cX12_twice 55 = .ok (.if_icmp .ne 6, 3) := by decide +kernel
theorem dX12_twice_58 : decode cX12_twice 58 = .ok (.bipush (-2), 2) := by decide +kernel
theorem dX12_twice_60 : decode cX12_twice 60 = .ok (.ireturn, 1) := by decide +kernel
theorem dX12_twice_51 : decode cX12_twice 51 = .ok (.iconst (-1), 1) := by decide +kernel
theorem dX12_twice_52 : decode cX12_twice 52 = .ok (.ireturn, 1) := by decide +kernel
theorem dX12_twice_35 : decode cX12_twice 35 = .ok (.aload_n 0, 1) := by decide +kernel
theorem dX12_twice_36 : decode cX12_twice 36 = .ok (.iload_n 2, 1) := by decide +kernel
theorem dX12_twice_37 : decode cX12_twice 37 = .ok (.invokevirtual 148, 3) := by decide +kernel
theorem dX12_twice_40 : decode cX12_twice 40 = .ok (.ifCond .eq 11, 3) := by decide +kernel
theorem dX12_twice_43 : decode cX12_twice 43 = .ok (.aload_n 0, 1) := by decide +kernel
theorem dX12_twice_44 : decode cX12_twice 44 = .ok (.iload_n 3, 1) := by decide +kernel
theorem dX12_twice_45 : decode cX12_twice 45 = .ok (.invokevirtual 148, 3) := by decide +kernel
theorem dX12_twice_48 : decode cX12_twice 48 = .ok (.ifCond .ne 5, 3) := by decide +kernel
theorem dX12_twice_12 : decode cX12_twice 12 = .ok (.iload_n 1, 1) := by decide +kernel
theorem dX12_twice_13 : decode cX12_twice 13 = .ok (.ifCond .ne 22, 3) := by decide +kernel
theorem dX12_twice_16 : decode cX12_twice 16 = .ok (.aload_n 0, 1) := by decide +kernel
theorem dX12_twice_17 : decode cX12_twice 17 = .ok (.iload_n 2, 1) := by decide +kernel
theorem dX12_twice_18 : decode cX12_twice 18 = .ok (.invokevirtual 161, 3) := by decide +kernel
theorem dX12_twice_21 : decode cX12_twice 21 = .ok (.ifCond .eq 30, 3) := by decide +kernel
theorem dX12_twice_24 : decode cX12_twice 24 = .ok (.aload_n 0, 1) := by decide +kernel
theorem dX12_twice_25 : decode cX12_twice 25 = .ok (.iload_n 3, 1) := by decide +kernel
theorem dX12_twice_26 : decode cX12_twice 26 = .ok (.invokevirtual 161, 3) := by decide +kernel
theorem dX12_twice_29 : decode cX12_twice 29 = .ok (.ifCond .ne 24, 3) := by decide +kernel
theorem dX12_twice_32 : decode cX12_twice 32 = .ok (.goto 19, 3) := by decide +kernel
theorem dX12_twice_9 : decode cX12_twice 9 = .ok (.bipush (-2), 2) := by decide +kernel
theorem dX12_twice_11 : decode cX12_twice 11 = .ok (.ireturn, 1) := by decide +kernel
theorem dX12_twice_0 : decode cX12_twice 0 = .ok (.iload_n 1, 1) := by decide +kernel
theorem dX12_twice_1 : decode cX12_twice 1 = .ok (.ifCond .lt 8, 3) := by decide +kernel
theorem dX12_twice_4 : decode cX12_twice 4 = .ok (.iload_n 1, 1) := by decide +kernel
theorem dX12_twice_5 : decode cX12_twice 5 = .ok (.iconst 1, 1) := by decide +kernel
theorem dX12_twice_6 : decode cX12_twice 6 = .ok (.if_icmp .le 6, 3) := by decide +kernel
theorem dX12_pair_42 : decode cX12_pair 42 = .ok (.ireturn, 1) := by decide +kernel
theorem dX12_pair_28 : decode cX12_pair 28 = .ok (.aload_n 0, 1) := by decide +kernel
theorem dX12_pair_29 : decode cX12_pair 29 = .ok (.getfield 10, 3) := by decide +kernel
theorem dX12_pair_32 : decode cX12_pair 32 = .ok (.ldc_w 353, 3) := by decide +kernel
theorem dX12_pair_35 : decode cX12_pair 35 = .ok (.iconst 2, 1) := by decide +kernel
theorem dX12_pair_36 : decode cX12_pair 36 = .ok (.iload_n 1, 1) := by decide +kernel
theorem dX12_pair_37 : decode cX12_pair 37 = .ok (.imul, 1) := by decide +kernel
theorem dX12_pair_38 : decode cX12_pair 38 = .ok (.iadd, 1) := by decide +kernel
theorem dX12_pair_39 : decode cX12_pair 39 = .ok (.iload_n 2, 1) := by decide +kernel
theorem dX12_pair_40 : decode cX12_pair 40 = .ok (.iadd, 1) := by decide +kernel
theorem dX12_pair_41 : decode cX12_pair 41 = .ok (.iaload, 1) := by decide +kernel
theorem dX12_pair_24 : decode cX12_pair 24 = .ok (.iconst (-1), 1) := by decide +kernel
theorem dX12_pair_25 : decode cX12_pair 25 = .ok (.goto 17, 3) := by decide +kernel
theorem dX12_pair_0 : decode cX12_pair 0 = .ok (.iload_n 1, 1) := by decide +kernel
theorem dX12_pair_1 : decode cX12_pair 1 = .ok (.ifCond .lt 23, 3) := by decide +kernel
theorem dX12_pair_4 : decode cX12_pair 4 = .ok (.iload_n 1, 1) := by decide +kernel
theorem dX12_pair_5 : decode cX12_pair 5 = .ok (.aload_n 0, 1) := by decide +kernel
theorem dX12_pair_6 : decode cX12_pair 6 = .ok (.getfield 10, 3) := by decide +kernel
theorem dX12_pair_9 : decode cX12_pair 9 = .ok (.bipush 14, 2) := by decide +kernel
theorem dX12_pair_11 : decode cX12_pair 11 = .ok (.iaload, 1) := by decide +kernel
theorem dX12_pair_12 : decode cX12_pair 12 = .ok (.if_icmp .ge 12, 3) := by decide +kernel
theorem dX12_pair_15 : decode cX12_pair 15 = .ok (.iload_n 2, 1) := by decide +kernel
theorem dX12_pair_16 : decode cX12_pair 16 = .ok (.ifCond .lt 8, 3) := by decide +kernel
theorem dX12_pair_19 : decode cX12_pair 19 = .ok (.iload_n 2, 1) := by decide +kernel
theorem dX12_pair_20 : decode cX12_pair 20 = .ok (.iconst 1, 1) := by decide +kernel
theorem dX12_pair_21 : decode cX12_pair 21 = .ok (.if_icmp .le 7, 3) := by decide +kernel

theorem dX12_readsAddress_148 : decode cX12_readsAddress 148 = .ok (.iconst 1, 1) := by decide +kernel
theorem dX12_readsAddress_149 : decode cX12_readsAddress 149 = .ok (.ireturn, 1) := by decide +kernel
theorem dX12_readsAddress_142 : decode cX12_readsAddress 142 = .ok (.iinc 1 1, 3) := by decide +kernel
theorem dX12_readsAddress_145 : decode cX12_readsAddress 145 = .ok (.goto (-50), 3) := by decide +kernel
theorem dX12_readsAddress_121 : decode cX12_readsAddress 121 = .ok (.aload_n 0, 1) := by decide +kernel
theorem dX12_readsAddress_122 : decode cX12_readsAddress 122 = .ok (.getfield 63, 3) := by decide +kernel
theorem dX12_readsAddress_125 : decode cX12_readsAddress 125 = .ok (.bipush 12, 2) := by decide +kernel
theorem dX12_readsAddress_127 : decode cX12_readsAddress 127 = .ok (.iload_n 1, 1) := by decide +kernel
theorem dX12_readsAddress_128 : decode cX12_readsAddress 128 = .ok (.imul, 1) := by decide +kernel
theorem dX12_readsAddress_129 : decode cX12_readsAddress 129 = .ok (.iaload, 1) := by decide +kernel
theorem dX12_readsAddress_130 : decode cX12_readsAddress 130 = .ok (.ifCond .eq 12, 3) := by decide +kernel
theorem dX12_readsAddress_133 : decode cX12_readsAddress 133 = .ok (.aload_n 0, 1) := by decide +kernel
theorem dX12_readsAddress_134 : decode cX12_readsAddress 134 = .ok (.aload_n 0, 1) := by decide +kernel
theorem dX12_readsAddress_135 : decode cX12_readsAddress 135 = .ok (.getfield 63, 3) := by decide +kernel
theorem dX12_readsAddress_138 : decode cX12_readsAddress 138 = .ok (.iload_n 1, 1) := by decide +kernel
theorem dX12_readsAddress_139 : decode cX12_readsAddress 139 = .ok (.invokevirtual 119, 3) := by decide +kernel
theorem dX12_readsAddress_95 : decode cX12_readsAddress 95 = .ok (.iload_n 1, 1) := by decide +kernel
theorem dX12_readsAddress_96 : decode cX12_readsAddress 96 = .ok (.iconst 3, 1) := by decide +kernel
theorem dX12_readsAddress_97 : decode cX12_readsAddress 97 = .ok (.if_icmp .ge 51, 3) := by decide +kernel
theorem dX12_readsAddress_100 : decode cX12_readsAddress 100 = .ok (.aload_n 0, 1) := by decide +kernel
theorem dX12_readsAddress_101 : decode cX12_readsAddress 101 = .ok (.getfield 42, 3) := by decide +kernel
theorem dX12_readsAddress_104 : decode cX12_readsAddress 104 = .ok (.bipush 12, 2) := by decide +kernel
theorem dX12_readsAddress_106 : decode cX12_readsAddress 106 = .ok (.iload_n 1, 1) := by decide +kernel
theorem dX12_readsAddress_107 : decode cX12_readsAddress 107 = .ok (.imul, 1) := by decide +kernel
theorem dX12_readsAddress_108 : decode cX12_readsAddress 108 = .ok (.iaload, 1) := by decide +kernel
theorem dX12_readsAddress_109 : decode cX12_readsAddress 109 = .ok (.ifCond .eq 12, 3) := by decide +kernel
theorem dX12_readsAddress_112 : decode cX12_readsAddress 112 = .ok (.aload_n 0, 1) := by decide +kernel
theorem dX12_readsAddress_113 : decode cX12_readsAddress 113 = .ok (.aload_n 0, 1) := by decide +kernel
theorem dX12_readsAddress_114 : decode cX12_readsAddress 114 = .ok (.getfield 42, 3) := by decide +kernel
theorem dX12_readsAddress_117 : decode cX12_readsAddress 117 = .ok (.iload_n 1, 1) := by decide +kernel
theorem dX12_readsAddress_118 : decode cX12_readsAddress 118 = .ok (.invokevirtual 119, 3) := by decide +kernel
theorem dX12_readsAddress_93 : decode cX12_readsAddress 93 = .ok (.iconst 0, 1) := by decide +kernel
theorem dX12_readsAddress_94 : decode cX12_readsAddress 94 = .ok (.istore_n 1, 1) := by decide +kernel
theorem dX12_readsAddress_91 : decode cX12_readsAddress 91 = .ok (.iconst 0, 1) := by decide +kernel
theorem dX12_readsAddress_92 : decode cX12_readsAddress 92 = .ok (.ireturn, 1) := by decide +kernel
theorem dX12_readsAddress_45 : decode cX12_readsAddress 45 = .ok (.aload_n 0, 1) := by decide +kernel
theorem dX12_readsAddress_46 : decode cX12_readsAddress 46 = .ok (.invokevirtual 290, 3) := by decide +kernel
theorem dX12_readsAddress_49 : decode cX12_readsAddress 49 = .ok (.ifCond .eq 42, 3) := by decide +kernel
theorem dX12_readsAddress_52 : decode cX12_readsAddress 52 = .ok (.aload_n 0, 1) := by decide +kernel
theorem dX12_readsAddress_53 : decode cX12_readsAddress 53 = .ok (.invokevirtual 293, 3) := by decide +kernel
theorem dX12_readsAddress_56 : decode cX12_readsAddress 56 = .ok (.ifCond .eq 35, 3) := by decide +kernel
theorem dX12_readsAddress_59 : decode cX12_readsAddress 59 = .ok (.aload_n 0, 1) := by decide +kernel
theorem dX12_readsAddress_60 : decode cX12_readsAddress 60 = .ok (.invokevirtual 296, 3) := by decide +kernel
theorem dX12_readsAddress_63 : decode cX12_readsAddress 63 = .ok (.ifCond .eq 28, 3) := by decide +kernel
theorem dX12_readsAddress_66 : decode cX12_readsAddress 66 = .ok (.aload_n 0, 1) := by decide +kernel
theorem dX12_readsAddress_67 : decode cX12_readsAddress 67 = .ok (.bipush 44, 2) := by decide +kernel
theorem dX12_readsAddress_69 : decode cX12_readsAddress 69 = .ok (.invokevirtual 278, 3) := by decide +kernel
theorem dX12_readsAddress_72 : decode cX12_readsAddress 72 = .ok (.ifCond .eq 19, 3) := by decide +kernel
theorem dX12_readsAddress_75 : decode cX12_readsAddress 75 = .ok (.aload_n 0, 1) := by decide +kernel
theorem dX12_readsAddress_76 : decode cX12_readsAddress 76 = .ok (.bipush 32, 2) := by decide +kernel
theorem dX12_readsAddress_78 : decode cX12_readsAddress 78 = .ok (.invokevirtual 278, 3) := by decide +kernel
theorem dX12_readsAddress_81 : decode cX12_readsAddress 81 = .ok (.ifCond .eq 10, 3) := by decide +kernel
theorem dX12_readsAddress_84 : decode cX12_readsAddress 84 = .ok (.aload_n 0, 1) := by decide +kernel
theorem dX12_readsAddress_85 : decode cX12_readsAddress 85 = .ok (.invokevirtual 299, 3) := by decide +kernel
theorem dX12_readsAddress_88 : decode cX12_readsAddress 88 = .ok (.ifCond .ne 5, 3) := by decide +kernel
theorem dX12_readsAddress_19 : decode cX12_readsAddress 19 = .ok (.iload_n 1, 1) := by decide +kernel
theorem dX12_readsAddress_20 : decode cX12_readsAddress 20 = .ok (.bipush 36, 2) := by decide +kernel
theorem dX12_readsAddress_22 : decode cX12_readsAddress 22 = .ok (.if_icmp .ge 23, 3) := by decide +kernel
theorem dX12_readsAddress_25 : decode cX12_readsAddress 25 = .ok (.aload_n 0, 1) := by decide +kernel
theorem dX12_readsAddress_26 : decode cX12_readsAddress 26 = .ok (.getfield 42, 3) := by decide +kernel
theorem dX12_readsAddress_29 : decode cX12_readsAddress 29 = .ok (.iload_n 1, 1) := by decide +kernel
theorem dX12_readsAddress_30 : decode cX12_readsAddress 30 = .ok (.iconst 0, 1) := by decide +kernel
theorem dX12_readsAddress_31 : decode cX12_readsAddress 31 = .ok (.iastore, 1) := by decide +kernel
theorem dX12_readsAddress_32 : decode cX12_readsAddress 32 = .ok (.aload_n 0, 1) := by decide +kernel
theorem dX12_readsAddress_33 : decode cX12_readsAddress 33 = .ok (.getfield 63, 3) := by decide +kernel
theorem dX12_readsAddress_36 : decode cX12_readsAddress 36 = .ok (.iload_n 1, 1) := by decide +kernel
theorem dX12_readsAddress_37 : decode cX12_readsAddress 37 = .ok (.iconst 0, 1) := by decide +kernel
theorem dX12_readsAddress_38 : decode cX12_readsAddress 38 = .ok (.iastore, 1) := by decide +kernel
theorem dX12_readsAddress_39 : decode cX12_readsAddress 39 = .ok (.iinc 1 1, 3) := by decide +kernel
theorem dX12_readsAddress_42 : decode cX12_readsAddress 42 = .ok (.goto (-23), 3) := by decide +kernel
theorem dX12_readsAddress_0 : decode cX12_readsAddress 0 = .ok (.aload_n 0, 1) := by decide +kernel
theorem dX12_readsAddress_1 : decode cX12_readsAddress 1 = .ok (.invokevirtual 112, 3) := by decide +kernel
theorem dX12_readsAddress_4 : decode cX12_readsAddress 4 = .ok (.aload_n 0, 1) := by decide +kernel
theorem dX12_readsAddress_5 : decode cX12_readsAddress 5 = .ok (.getfield 10, 3) := by decide +kernel
theorem dX12_readsAddress_8 : decode cX12_readsAddress 8 = .ok (.bipush 15, 2) := by decide +kernel
theorem dX12_readsAddress_10 : decode cX12_readsAddress 10 = .ok (.iconst (-1), 1) := by decide +kernel
theorem dX12_readsAddress_11 : decode cX12_readsAddress 11 = .ok (.iastore, 1) := by decide +kernel
theorem dX12_readsAddress_12 : decode cX12_readsAddress 12 = .ok (.aload_n 0, 1) := by decide +kernel
theorem dX12_readsAddress_13 : decode cX12_readsAddress 13 = .ok (.iconst 0, 1) := by decide +kernel
theorem dX12_readsAddress_14 : decode cX12_readsAddress 14 = .ok (.putfield 75, 3) := by decide +kernel
theorem dX12_readsAddress_17 : decode cX12_readsAddress 17 = .ok (.iconst 0, 1) := by decide +kernel
theorem dX12_readsAddress_18 : decode cX12_readsAddress 18 = .ok (.istore_n 1, 1) := by decide +kernel
theorem dX12_standsOn_0 : decode cX12_standsOn 0 = .ok (.aload_n 0, 1) := by decide +kernel
theorem dX12_standsOn_1 : decode cX12_standsOn 1 = .ok (.aload_n 0, 1) := by decide +kernel
theorem dX12_standsOn_2 : decode cX12_standsOn 2 = .ok (.iload_n 1, 1) := by decide +kernel
theorem dX12_standsOn_3 : decode cX12_standsOn 3 = .ok (.bipush 9, 2) := by decide +kernel
theorem dX12_standsOn_5 : decode cX12_standsOn 5 = .ok (.invokevirtual 174, 3) := by decide +kernel
theorem dX12_standsOn_8 : decode cX12_standsOn 8 = .ok (.aload_n 0, 1) := by decide +kernel
theorem dX12_standsOn_9 : decode cX12_standsOn 9 = .ok (.iload_n 1, 1) := by decide +kernel
theorem dX12_standsOn_10 : decode cX12_standsOn 10 = .ok (.bipush 10, 2) := by decide +kernel
theorem dX12_standsOn_12 : decode cX12_standsOn 12 = .ok (.invokevirtual 174, 3) := by decide +kernel
theorem dX12_standsOn_15 : decode cX12_standsOn 15 = .ok (.iload_n 2, 1) := by decide +kernel
theorem dX12_standsOn_16 : decode cX12_standsOn 16 = .ok (.invokevirtual 302, 3) := by decide +kernel
theorem dX12_standsOn_19 : decode cX12_standsOn 19 = .ok (.ireturn, 1) := by decide +kernel
theorem dX12_streetOn_96 : decode cX12_streetOn 96 = .ok (.iconst (-1), 1) := by decide +kernel
theorem dX12_streetOn_97 : decode cX12_streetOn 97 = .ok (.ireturn, 1) := by decide +kernel
theorem dX12_streetOn_90 : decode cX12_streetOn 90 = .ok (.iinc 2 1, 3) := by decide +kernel
theorem dX12_streetOn_93 : decode cX12_streetOn 93 = .ok (.goto (-91), 3) := by decide +kernel
theorem dX12_streetOn_2 : decode cX12_streetOn 2 = .ok (.iload_n 2, 1) := by decide +kernel
theorem dX12_streetOn_3 : decode cX12_streetOn 3 = .ok (.aload_n 0, 1) := by decide +kernel
theorem dX12_streetOn_4 : decode cX12_streetOn 4 = .ok (.getfield 10, 3) := by decide +kernel
theorem dX12_streetOn_7 : decode cX12_streetOn 7 = .ok (.bipush 7, 2) := by decide +kernel
theorem dX12_streetOn_9 : decode cX12_streetOn 9 = .ok (.iaload, 1) := by decide +kernel
theorem dX12_streetOn_10 : decode cX12_streetOn 10 = .ok (.if_icmp .ge 86, 3) := by decide +kernel
theorem dX12_streetOn_13 : decode cX12_streetOn 13 = .ok (.sipush 7552, 3) := by decide +kernel
theorem dX12_streetOn_16 : decode cX12_streetOn 16 = .ok (.iconst 5, 1) := by decide +kernel
theorem dX12_streetOn_17 : decode cX12_streetOn 17 = .ok (.iload_n 2, 1) := by decide +kernel
theorem dX12_streetOn_18 : decode cX12_streetOn 18 = .ok (.imul, 1) := by decide +kernel
theorem dX12_streetOn_19 : decode cX12_streetOn 19 = .ok (.iadd, 1) := by decide +kernel
theorem dX12_streetOn_20 : decode cX12_streetOn 20 = .ok (.istore_n 3, 1) := by decide +kernel
theorem dX12_streetOn_21 : decode cX12_streetOn 21 = .ok (.aload_n 0, 1) := by decide +kernel
theorem dX12_streetOn_22 : decode cX12_streetOn 22 = .ok (.aload_n 0, 1) := by decide +kernel
theorem dX12_streetOn_23 : decode cX12_streetOn 23 = .ok (.getfield 10, 3) := by decide +kernel
theorem dX12_streetOn_26 : decode cX12_streetOn 26 = .ok (.iload_n 3, 1) := by decide +kernel
theorem dX12_streetOn_27 : decode cX12_streetOn 27 = .ok (.iconst 3, 1) := by decide +kernel
theorem dX12_streetOn_28 : decode cX12_streetOn 28 = .ok (.iadd, 1) := by decide +kernel
theorem dX12_streetOn_29 : decode cX12_streetOn 29 = .ok (.iaload, 1) := by decide +kernel
theorem dX12_streetOn_30 : decode cX12_streetOn 30 = .ok (.aload_n 0, 1) := by decide +kernel
theorem dX12_streetOn_31 : decode cX12_streetOn 31 = .ok (.getfield 10, 3) := by decide +kernel
theorem dX12_streetOn_34 : decode cX12_streetOn 34 = .ok (.iload_n 3, 1) := by decide +kernel
theorem dX12_streetOn_35 : decode cX12_streetOn 35 = .ok (.iconst 4, 1) := by decide +kernel
theorem dX12_streetOn_36 : decode cX12_streetOn 36 = .ok (.iadd, 1) := by decide +kernel
theorem dX12_streetOn_37 : decode cX12_streetOn 37 = .ok (.iaload, 1) := by decide +kernel
theorem dX12_streetOn_38 : decode cX12_streetOn 38 = .ok (.iload_n 1, 1) := by decide +kernel
theorem dX12_streetOn_39 : decode cX12_streetOn 39 = .ok (.invokevirtual 302, 3) := by decide +kernel
theorem dX12_streetOn_42 : decode cX12_streetOn 42 = .ok (.ifCond .eq 48, 3) := by decide +kernel
theorem dX12_streetOn_45 : decode cX12_streetOn 45 = .ok (.aload_n 0, 1) := by decide +kernel
theorem dX12_streetOn_46 : decode cX12_streetOn 46 = .ok (.aload_n 0, 1) := by decide +kernel
theorem dX12_streetOn_47 : decode cX12_streetOn 47 = .ok (.getfield 42, 3) := by decide +kernel
theorem dX12_streetOn_50 : decode cX12_streetOn 50 = .ok (.aload_n 0, 1) := by decide +kernel
theorem dX12_streetOn_51 : decode cX12_streetOn 51 = .ok (.getfield 10, 3) := by decide +kernel
theorem dX12_streetOn_54 : decode cX12_streetOn 54 = .ok (.iload_n 3, 1) := by decide +kernel
theorem dX12_streetOn_55 : decode cX12_streetOn 55 = .ok (.iconst 2, 1) := by decide +kernel
theorem dX12_streetOn_56 : decode cX12_streetOn 56 = .ok (.iadd, 1) := by decide +kernel
theorem dX12_streetOn_57 : decode cX12_streetOn 57 = .ok (.iaload, 1) := by decide +kernel
theorem dX12_streetOn_58 : decode cX12_streetOn 58 = .ok (.invokevirtual 127, 3) := by decide +kernel
theorem dX12_streetOn_61 : decode cX12_streetOn 61 = .ok (.ifCond .eq 29, 3) := by decide +kernel
theorem dX12_streetOn_64 : decode cX12_streetOn 64 = .ok (.aload_n 0, 1) := by decide +kernel
theorem dX12_streetOn_65 : decode cX12_streetOn 65 = .ok (.aload_n 0, 1) := by decide +kernel
theorem dX12_streetOn_66 : decode cX12_streetOn 66 = .ok (.getfield 63, 3) := by decide +kernel
theorem dX12_streetOn_69 : decode cX12_streetOn 69 = .ok (.aload_n 0, 1) := by decide +kernel
theorem dX12_streetOn_70 : decode cX12_streetOn 70 = .ok (.getfield 10, 3) := by decide +kernel
theorem dX12_streetOn_73 : decode cX12_streetOn 73 = .ok (.iload_n 3, 1) := by decide +kernel
theorem dX12_streetOn_74 : decode cX12_streetOn 74 = .ok (.iconst 1, 1) := by decide +kernel
theorem dX12_streetOn_75 : decode cX12_streetOn 75 = .ok (.iadd, 1) := by decide +kernel
theorem dX12_streetOn_76 : decode cX12_streetOn 76 = .ok (.iaload, 1) := by decide +kernel
theorem dX12_streetOn_77 : decode cX12_streetOn 77 = .ok (.invokevirtual 127, 3) := by decide +kernel
theorem dX12_streetOn_80 : decode cX12_streetOn 80 = .ok (.ifCond .eq 10, 3) := by decide +kernel
theorem dX12_streetOn_83 : decode cX12_streetOn 83 = .ok (.aload_n 0, 1) := by decide +kernel
theorem dX12_streetOn_84 : decode cX12_streetOn 84 = .ok (.getfield 10, 3) := by decide +kernel
theorem dX12_streetOn_87 : decode cX12_streetOn 87 = .ok (.iload_n 3, 1) := by decide +kernel
theorem dX12_streetOn_88 : decode cX12_streetOn 88 = .ok (.iaload, 1) := by decide +kernel
theorem dX12_streetOn_89 : decode cX12_streetOn 89 = .ok (.ireturn, 1) := by decide +kernel
theorem dX12_streetOn_0 : decode cX12_streetOn 0 = .ok (.iconst 0, 1) := by decide +kernel
theorem dX12_streetOn_1 : decode cX12_streetOn 1 = .ok (.istore_n 2, 1) := by decide +kernel
theorem dX12_isOn_69 : decode cX12_isOn 69 = .ok (.ireturn, 1) := by decide +kernel
theorem dX12_isOn_68 : decode cX12_isOn 68 = .ok (.iconst 0, 1) := by decide +kernel
theorem dX12_isOn_0 : decode cX12_isOn 0 = .ok (.sipush 10752, 3) := by decide +kernel
theorem dX12_isOn_3 : decode cX12_isOn 3 = .ok (.bipush 6, 2) := by decide +kernel
theorem dX12_isOn_5 : decode cX12_isOn 5 = .ok (.iload_n 1, 1) := by decide +kernel
theorem dX12_isOn_6 : decode cX12_isOn 6 = .ok (.imul, 1) := by decide +kernel
theorem dX12_isOn_7 : decode cX12_isOn 7 = .ok (.iadd, 1) := by decide +kernel
theorem dX12_isOn_8 : decode cX12_isOn 8 = .ok (.istore 4, 2) := by decide +kernel
theorem dX12_isOn_10 : decode cX12_isOn 10 = .ok (.aload_n 0, 1) := by decide +kernel
theorem dX12_isOn_11 : decode cX12_isOn 11 = .ok (.getfield 10, 3) := by decide +kernel
theorem dX12_isOn_14 : decode cX12_isOn 14 = .ok (.iload 4, 2) := by decide +kernel
theorem dX12_isOn_16 : decode cX12_isOn 16 = .ok (.iconst 2, 1) := by decide +kernel
theorem dX12_isOn_17 : decode cX12_isOn 17 = .ok (.iadd, 1) := by decide +kernel
theorem dX12_isOn_18 : decode cX12_isOn 18 = .ok (.iaload, 1) := by decide +kernel
theorem dX12_isOn_19 : decode cX12_isOn 19 = .ok (.iload_n 2, 1) := by decide +kernel
theorem dX12_isOn_20 : decode cX12_isOn 20 = .ok (.if_icmp .ne 48, 3) := by decide +kernel
theorem dX12_isOn_23 : decode cX12_isOn 23 = .ok (.aload_n 0, 1) := by decide +kernel
theorem dX12_isOn_24 : decode cX12_isOn 24 = .ok (.aload_n 0, 1) := by decide +kernel
theorem dX12_isOn_25 : decode cX12_isOn 25 = .ok (.getfield 10, 3) := by decide +kernel
theorem dX12_isOn_28 : decode cX12_isOn 28 = .ok (.iload 4, 2) := by decide +kernel
theorem dX12_isOn_30 : decode cX12_isOn 30 = .ok (.iconst 4, 1) := by decide +kernel
theorem dX12_isOn_31 : decode cX12_isOn 31 = .ok (.iadd, 1) := by decide +kernel
theorem dX12_isOn_32 : decode cX12_isOn 32 = .ok (.iaload, 1) := by decide +kernel
theorem dX12_isOn_33 : decode cX12_isOn 33 = .ok (.aload_n 0, 1) := by decide +kernel
theorem dX12_isOn_34 : decode cX12_isOn 34 = .ok (.getfield 10, 3) := by decide +kernel
theorem dX12_isOn_37 : decode cX12_isOn 37 = .ok (.iload 4, 2) := by decide +kernel
theorem dX12_isOn_39 : decode cX12_isOn 39 = .ok (.iconst 5, 1) := by decide +kernel
theorem dX12_isOn_40 : decode cX12_isOn 40 = .ok (.iadd, 1) := by decide +kernel
theorem dX12_isOn_41 : decode cX12_isOn 41 = .ok (.iaload, 1) := by decide +kernel
theorem dX12_isOn_42 : decode cX12_isOn 42 = .ok (.iload_n 3, 1) := by decide +kernel
theorem dX12_isOn_43 : decode cX12_isOn 43 = .ok (.invokevirtual 302, 3) := by decide +kernel
theorem dX12_isOn_46 : decode cX12_isOn 46 = .ok (.ifCond .eq 22, 3) := by decide +kernel
theorem dX12_isOn_49 : decode cX12_isOn 49 = .ok (.aload_n 0, 1) := by decide +kernel
theorem dX12_isOn_50 : decode cX12_isOn 50 = .ok (.aload_n 0, 1) := by decide +kernel
theorem dX12_isOn_51 : decode cX12_isOn 51 = .ok (.getfield 10, 3) := by decide +kernel
theorem dX12_isOn_54 : decode cX12_isOn 54 = .ok (.iload 4, 2) := by decide +kernel
theorem dX12_isOn_56 : decode cX12_isOn 56 = .ok (.iaload, 1) := by decide +kernel
theorem dX12_isOn_57 : decode cX12_isOn 57 = .ok (.iload_n 3, 1) := by decide +kernel
theorem dX12_isOn_58 : decode cX12_isOn 58 = .ok (.invokevirtual 305, 3) := by decide +kernel
theorem dX12_isOn_61 : decode cX12_isOn 61 = .ok (.ifCond .eq 7, 3) := by decide +kernel
theorem dX12_isOn_64 : decode cX12_isOn 64 = .ok (.iconst 1, 1) := by decide +kernel
theorem dX12_isOn_65 : decode cX12_isOn 65 = .ok (.goto 4, 3) := by decide +kernel
theorem dX12_withExtra_74 : decode cX12_withExtra 74 = .ok (.iconst (-1), 1) := by decide +kernel
theorem dX12_withExtra_75 : decode cX12_withExtra 75 = .ok (.ireturn, 1) := by decide +kernel
theorem dX12_withExtra_68 : decode cX12_withExtra 68 = .ok (.iinc 3 1, 3) := by decide +kernel
theorem dX12_withExtra_71 : decode cX12_withExtra 71 = .ok (.goto (-60), 3) := by decide +kernel
theorem dX12_withExtra_11 : decode cX12_withExtra 11 = .ok (.iload_n 3, 1) := by decide +kernel
theorem dX12_withExtra_12 : decode cX12_withExtra 12 = .ok (.aload_n 0, 1) := by decide +kernel
theorem dX12_withExtra_13 : decode cX12_withExtra 13 = .ok (.getfield 10, 3) := by decide +kernel
theorem dX12_withExtra_16 : decode cX12_withExtra 16 = .ok (.iconst 4, 1) := by decide +kernel
theorem dX12_withExtra_17 : decode cX12_withExtra 17 = .ok (.iaload, 1) := by decide +kernel
theorem dX12_withExtra_18 : decode cX12_withExtra 18 = .ok (.if_icmp .ge 56, 3) := by decide +kernel
theorem dX12_withExtra_21 : decode cX12_withExtra 21 = .ok (.aload_n 0, 1) := by decide +kernel
theorem dX12_withExtra_22 : decode cX12_withExtra 22 = .ok (.iload_n 3, 1) := by decide +kernel
theorem dX12_withExtra_23 : decode cX12_withExtra 23 = .ok (.iconst 0, 1) := by decide +kernel
theorem dX12_withExtra_24 : decode cX12_withExtra 24 = .ok (.invokevirtual 174, 3) := by decide +kernel
theorem dX12_withExtra_27 : decode cX12_withExtra 27 = .ok (.aload_n 0, 1) := by decide +kernel
theorem dX12_withExtra_28 : decode cX12_withExtra 28 = .ok (.getfield 69, 3) := by decide +kernel
theorem dX12_withExtra_31 : decode cX12_withExtra 31 = .ok (.if_icmp .ne 37, 3) := by decide +kernel
theorem dX12_withExtra_34 : decode cX12_withExtra 34 = .ok (.aload_n 0, 1) := by decide +kernel
theorem dX12_withExtra_35 : decode cX12_withExtra 35 = .ok (.iload_n 3, 1) := by decide +kernel
theorem dX12_withExtra_36 : decode cX12_withExtra 36 = .ok (.bipush 7, 2) := by decide +kernel
theorem dX12_withExtra_38 : decode cX12_withExtra 38 = .ok (.invokevirtual 174, 3) := by decide +kernel
theorem dX12_withExtra_41 : decode cX12_withExtra 41 = .ok (.aload_n 0, 1) := by decide +kernel
theorem dX12_withExtra_42 : decode cX12_withExtra 42 = .ok (.getfield 72, 3) := by decide +kernel
theorem dX12_withExtra_45 : decode cX12_withExtra 45 = .ok (.if_icmp .ne 23, 3) := by decide +kernel
theorem dX12_withExtra_48 : decode cX12_withExtra 48 = .ok (.aload_n 0, 1) := by decide +kernel
theorem dX12_withExtra_49 : decode cX12_withExtra 49 = .ok (.iload_n 3, 1) := by decide +kernel
theorem dX12_withExtra_50 : decode cX12_withExtra 50 = .ok (.invokevirtual 244, 3) := by decide +kernel
theorem dX12_withExtra_53 : decode cX12_withExtra 53 = .ok (.iload_n 1, 1) := by decide +kernel
theorem dX12_withExtra_54 : decode cX12_withExtra 54 = .ok (.if_icmp .ne 14, 3) := by decide +kernel
theorem dX12_withExtra_57 : decode cX12_withExtra 57 = .ok (.aload_n 0, 1) := by decide +kernel
theorem dX12_withExtra_58 : decode cX12_withExtra 58 = .ok (.iload_n 3, 1) := by decide +kernel
theorem dX12_withExtra_59 : decode cX12_withExtra 59 = .ok (.iload_n 2, 1) := by decide +kernel
theorem dX12_withExtra_60 : decode cX12_withExtra 60 = .ok (.invokevirtual 305, 3) := by decide +kernel
theorem dX12_withExtra_63 : decode cX12_withExtra 63 = .ok (.ifCond .eq 5, 3) := by decide +kernel
theorem dX12_withExtra_66 : decode cX12_withExtra 66 = .ok (.iload_n 3, 1) := by decide +kernel
theorem dX12_withExtra_67 : decode cX12_withExtra 67 = .ok (.ireturn, 1) := by decide +kernel
theorem dX12_withExtra_9 : decode cX12_withExtra 9 = .ok (.iconst 0, 1) := by decide +kernel
theorem dX12_withExtra_10 : decode cX12_withExtra 10 = .ok (.istore_n 3, 1) := by decide +kernel
theorem dX12_withExtra_0 : decode cX12_withExtra 0 = .ok (.aload_n 0, 1) := by decide +kernel
theorem dX12_withExtra_1 : decode cX12_withExtra 1 = .ok (.getfield 69, 3) := by decide +kernel
theorem dX12_withExtra_4 : decode cX12_withExtra 4 = .ok (.ifCond .ne 5, 3) := by decide +kernel
theorem dX12_withExtra_7 : decode cX12_withExtra 7 = .ok (.iload_n 1, 1) := by decide +kernel
theorem dX12_withExtra_8 : decode cX12_withExtra 8 = .ok (.ireturn, 1) := by decide +kernel
theorem dX12_sure_96 : decode cX12_sure 96 = .ok (.iconst (-1), 1) := by decide +kernel
theorem dX12_sure_97 : decode cX12_sure 97 = .ok (.ireturn, 1) := by decide +kernel
theorem dX12_sure_90 : decode cX12_sure 90 = .ok (.iinc 3 1, 3) := by decide +kernel
theorem dX12_sure_93 : decode cX12_sure 93 = .ok (.goto (-73), 3) := by decide +kernel
theorem dX12_sure_66 : decode cX12_sure 66 = .ok (.aload_n 0, 1) := by decide +kernel
theorem dX12_sure_67 : decode cX12_sure 67 = .ok (.iconst 1, 1) := by decide +kernel
theorem dX12_sure_68 : decode cX12_sure 68 = .ok (.putfield 78, 3) := by decide +kernel
theorem dX12_sure_71 : decode cX12_sure 71 = .ok (.aload_n 0, 1) := by decide +kernel
theorem dX12_sure_72 : decode cX12_sure 72 = .ok (.aload_n 0, 1) := by decide +kernel
theorem dX12_sure_73 : decode cX12_sure 73 = .ok (.getfield 10, 3) := by decide +kernel
theorem dX12_sure_76 : decode cX12_sure 76 = .ok (.sipush 10752, 3) := by decide +kernel
theorem dX12_sure_79 : decode cX12_sure 79 = .ok (.bipush 6, 2) := by decide +kernel
theorem dX12_sure_81 : decode cX12_sure 81 = .ok (.iload_n 3, 1) := by decide +kernel
theorem dX12_sure_82 : decode cX12_sure 82 = .ok (.imul, 1) := by decide +kernel
theorem dX12_sure_83 : decode cX12_sure 83 = .ok (.iadd, 1) := by decide +kernel
theorem dX12_sure_84 : decode cX12_sure 84 = .ok (.iaload, 1) := by decide +kernel
theorem dX12_sure_85 : decode cX12_sure 85 = .ok (.iload_n 1, 1) := by decide +kernel
theorem dX12_sure_86 : decode cX12_sure 86 = .ok (.invokevirtual 314, 3) := by decide +kernel
theorem dX12_sure_89 : decode cX12_sure 89 = .ok (.ireturn, 1) := by decide +kernel
theorem dX12_sure_20 : decode cX12_sure 20 = .ok (.iload_n 3, 1) := by decide +kernel
theorem dX12_sure_21 : decode cX12_sure 21 = .ok (.aload_n 0, 1) := by decide +kernel
theorem dX12_sure_22 : decode cX12_sure 22 = .ok (.getfield 10, 3) := by decide +kernel
theorem dX12_sure_25 : decode cX12_sure 25 = .ok (.bipush 6, 2) := by decide +kernel
theorem dX12_sure_27 : decode cX12_sure 27 = .ok (.iaload, 1) := by decide +kernel
theorem dX12_sure_28 : decode cX12_sure 28 = .ok (.if_icmp .ge 68, 3) := by decide +kernel
theorem dX12_sure_31 : decode cX12_sure 31 = .ok (.aload_n 0, 1) := by decide +kernel
theorem dX12_sure_32 : decode cX12_sure 32 = .ok (.getfield 10, 3) := by decide +kernel
theorem dX12_sure_35 : decode cX12_sure 35 = .ok (.sipush 10752, 3) := by decide +kernel
theorem dX12_sure_38 : decode cX12_sure 38 = .ok (.bipush 6, 2) := by decide +kernel
theorem dX12_sure_40 : decode cX12_sure 40 = .ok (.iload_n 3, 1) := by decide +kernel
theorem dX12_sure_41 : decode cX12_sure 41 = .ok (.imul, 1) := by decide +kernel
theorem dX12_sure_42 : decode cX12_sure 42 = .ok (.iadd, 1) := by decide +kernel
theorem dX12_sure_43 : decode cX12_sure 43 = .ok (.iconst 3, 1) := by decide +kernel
theorem dX12_sure_44 : decode cX12_sure 44 = .ok (.iadd, 1) := by decide +kernel
theorem dX12_sure_45 : decode cX12_sure 45 = .ok (.iaload, 1) := by decide +kernel
theorem dX12_sure_46 : decode cX12_sure 46 = .ok (.aload_n 0, 1) := by decide +kernel
theorem dX12_sure_47 : decode cX12_sure 47 = .ok (.getfield 66, 3) := by decide +kernel
theorem dX12_sure_50 : decode cX12_sure 50 = .ok (.if_icmp .ne 40, 3) := by decide +kernel
theorem dX12_sure_53 : decode cX12_sure 53 = .ok (.aload_n 0, 1) := by decide +kernel
theorem dX12_sure_54 : decode cX12_sure 54 = .ok (.iload_n 3, 1) := by decide +kernel
theorem dX12_sure_55 : decode cX12_sure 55 = .ok (.iload_n 2, 1) := by decide +kernel
theorem dX12_sure_56 : decode cX12_sure 56 = .ok (.iload_n 1, 1) := by decide +kernel
theorem dX12_sure_57 : decode cX12_sure 57 = .ok (.invokevirtual 311, 3) := by decide +kernel
theorem dX12_sure_60 : decode cX12_sure 60 = .ok (.ifCond .ne 6, 3) := by decide +kernel
theorem dX12_sure_63 : decode cX12_sure 63 = .ok (.goto 27, 3) := by decide +kernel
theorem dX12_sure_18 : decode cX12_sure 18 = .ok (.iconst 0, 1) := by decide +kernel
theorem dX12_sure_19 : decode cX12_sure 19 = .ok (.istore_n 3, 1) := by decide +kernel
theorem dX12_sure_0 : decode cX12_sure 0 = .ok (.aload_n 0, 1) := by decide +kernel
theorem dX12_sure_1 : decode cX12_sure 1 = .ok (.iconst 0, 1) := by decide +kernel
theorem dX12_sure_2 : decode cX12_sure 2 = .ok (.putfield 78, 3) := by decide +kernel
theorem dX12_sure_5 : decode cX12_sure 5 = .ok (.aload_n 0, 1) := by decide +kernel
theorem dX12_sure_6 : decode cX12_sure 6 = .ok (.iload_n 1, 1) := by decide +kernel
theorem dX12_sure_7 : decode cX12_sure 7 = .ok (.invokevirtual 308, 3) := by decide +kernel
theorem dX12_sure_10 : decode cX12_sure 10 = .ok (.istore_n 2, 1) := by decide +kernel
theorem dX12_sure_11 : decode cX12_sure 11 = .ok (.iload_n 2, 1) := by decide +kernel
theorem dX12_sure_12 : decode cX12_sure 12 = .ok (.iconst (-1), 1) := by decide +kernel
theorem dX12_sure_13 : decode cX12_sure 13 = .ok (.if_icmp .ne 5, 3) := by decide +kernel
theorem dX12_sure_16 : decode cX12_sure 16 = .ok (.iconst (-1), 1) := by decide +kernel
theorem dX12_sure_17 : decode cX12_sure 17 = .ok (.ireturn, 1) := by decide +kernel
theorem dX12_sideOf_0 : decode cX12_sideOf 0 = .ok (.aload_n 0, 1) := by decide +kernel
theorem dX12_sideOf_1 : decode cX12_sideOf 1 = .ok (.aload_n 0, 1) := by decide +kernel
theorem dX12_sideOf_2 : decode cX12_sideOf 2 = .ok (.getfield 10, 3) := by decide +kernel
theorem dX12_sideOf_5 : decode cX12_sideOf 5 = .ok (.sipush 10752, 3) := by decide +kernel
theorem dX12_sideOf_8 : decode cX12_sideOf 8 = .ok (.bipush 6, 2) := by decide +kernel
theorem dX12_sideOf_10 : decode cX12_sideOf 10 = .ok (.iload_n 1, 1) := by decide +kernel
theorem dX12_sideOf_11 : decode cX12_sideOf 11 = .ok (.imul, 1) := by decide +kernel
theorem dX12_sideOf_12 : decode cX12_sideOf 12 = .ok (.iadd, 1) := by decide +kernel
theorem dX12_sideOf_13 : decode cX12_sideOf 13 = .ok (.iaload, 1) := by decide +kernel
theorem dX12_sideOf_14 : decode cX12_sideOf 14 = .ok (.aload_n 0, 1) := by decide +kernel
theorem dX12_sideOf_15 : decode cX12_sideOf 15 = .ok (.getfield 10, 3) := by decide +kernel
theorem dX12_sideOf_18 : decode cX12_sideOf 18 = .ok (.sipush 10752, 3) := by decide +kernel
theorem dX12_sideOf_21 : decode cX12_sideOf 21 = .ok (.bipush 6, 2) := by decide +kernel
theorem dX12_sideOf_23 : decode cX12_sideOf 23 = .ok (.iload_n 1, 1) := by decide +kernel
theorem dX12_sideOf_24 : decode cX12_sideOf 24 = .ok (.imul, 1) := by decide +kernel
theorem dX12_sideOf_25 : decode cX12_sideOf 25 = .ok (.iadd, 1) := by decide +kernel
theorem dX12_sideOf_26 : decode cX12_sideOf 26 = .ok (.iconst 1, 1) := by decide +kernel
theorem dX12_sideOf_27 : decode cX12_sideOf 27 = .ok (.iadd, 1) := by decide +kernel
theorem dX12_sideOf_28 : decode cX12_sideOf 28 = .ok (.iaload, 1) := by decide +kernel
theorem dX12_sideOf_29 : decode cX12_sideOf 29 = .ok (.invokevirtual 196, 3) := by decide +kernel
theorem dX12_sideOf_32 : decode cX12_sideOf 32 = .ok (.ireturn, 1) := by decide +kernel
theorem dX12_pacesOf_0 : decode cX12_pacesOf 0 = .ok (.aload_n 0, 1) := by decide +kernel
theorem dX12_pacesOf_1 : decode cX12_pacesOf 1 = .ok (.aload_n 0, 1) := by decide +kernel
theorem dX12_pacesOf_2 : decode cX12_pacesOf 2 = .ok (.getfield 10, 3) := by decide +kernel
theorem dX12_pacesOf_5 : decode cX12_pacesOf 5 = .ok (.sipush 10752, 3) := by decide +kernel
theorem dX12_pacesOf_8 : decode cX12_pacesOf 8 = .ok (.bipush 6, 2) := by decide +kernel
theorem dX12_pacesOf_10 : decode cX12_pacesOf 10 = .ok (.iload_n 1, 1) := by decide +kernel
theorem dX12_pacesOf_11 : decode cX12_pacesOf 11 = .ok (.imul, 1) := by decide +kernel
theorem dX12_pacesOf_12 : decode cX12_pacesOf 12 = .ok (.iadd, 1) := by decide +kernel
theorem dX12_pacesOf_13 : decode cX12_pacesOf 13 = .ok (.iaload, 1) := by decide +kernel
theorem dX12_pacesOf_14 : decode cX12_pacesOf 14 = .ok (.aload_n 0, 1) := by decide +kernel
theorem dX12_pacesOf_15 : decode cX12_pacesOf 15 = .ok (.getfield 10, 3) := by decide +kernel
theorem dX12_pacesOf_18 : decode cX12_pacesOf 18 = .ok (.sipush 10752, 3) := by decide +kernel
theorem dX12_pacesOf_21 : decode cX12_pacesOf 21 = .ok (.bipush 6, 2) := by decide +kernel
theorem dX12_pacesOf_23 : decode cX12_pacesOf 23 = .ok (.iload_n 1, 1) := by decide +kernel
theorem dX12_pacesOf_24 : decode cX12_pacesOf 24 = .ok (.imul, 1) := by decide +kernel
theorem dX12_pacesOf_25 : decode cX12_pacesOf 25 = .ok (.iadd, 1) := by decide +kernel
theorem dX12_pacesOf_26 : decode cX12_pacesOf 26 = .ok (.iconst 1, 1) := by decide +kernel
theorem dX12_pacesOf_27 : decode cX12_pacesOf 27 = .ok (.iadd, 1) := by decide +kernel
theorem dX12_pacesOf_28 : decode cX12_pacesOf 28 = .ok (.iaload, 1) := by decide +kernel
theorem dX12_pacesOf_29 : decode cX12_pacesOf 29 = .ok (.invokevirtual 206, 3) := by decide +kernel
theorem dX12_pacesOf_32 : decode cX12_pacesOf 32 = .ok (.ireturn, 1) := by decide +kernel
theorem dX12_mayHave_348 : decode cX12_mayHave 348 = .ok (.ireturn, 1) := by decide +kernel
theorem dX12_mayHave_347 : decode cX12_mayHave 347 = .ok (.iconst 0, 1) := by decide +kernel
theorem dX12_mayHave_325 : decode cX12_mayHave 325 = .ok (.aload_n 0, 1) := by decide +kernel
theorem dX12_mayHave_326 : decode cX12_mayHave 326 = .ok (.getfield 66, 3) := by decide +kernel
theorem dX12_mayHave_329 : decode cX12_mayHave 329 = .ok (.iload 9, 2) := by decide +kernel
theorem dX12_mayHave_331 : decode cX12_mayHave 331 = .ok (.if_icmp .le 16, 3) := by decide +kernel
theorem dX12_mayHave_334 : decode cX12_mayHave 334 = .ok (.aload_n 0, 1) := by decide +kernel
theorem dX12_mayHave_335 : decode cX12_mayHave 335 = .ok (.getfield 66, 3) := by decide +kernel
theorem dX12_mayHave_338 : decode cX12_mayHave 338 = .ok (.iload 10, 2) := by decide +kernel
theorem dX12_mayHave_340 : decode cX12_mayHave 340 = .ok (.if_icmp .ge 7, 3) := by decide +kernel
theorem dX12_mayHave_343 : decode cX12_mayHave 343 = .ok (.iconst 1, 1) := by decide +kernel
theorem dX12_mayHave_344 : decode cX12_mayHave 344 = .ok (.goto 4, 3) := by decide +kernel
theorem dX12_mayHave_319 : decode cX12_mayHave 319 = .ok (.iinc 11 1, 3) := by decide +kernel
theorem dX12_mayHave_322 : decode cX12_mayHave 322 = .ok (.goto (-107), 3) := by decide +kernel
theorem dX12_mayHave_276 : decode cX12_mayHave 276 = .ok (.iload 4, 2) := by decide +kernel
theorem dX12_mayHave_278 : decode cX12_mayHave 278 = .ok (.aload_n 0, 1) := by decide +kernel
theorem dX12_mayHave_279 : decode cX12_mayHave 279 = .ok (.iload 11, 2) := by decide +kernel
theorem dX12_mayHave_281 : decode cX12_mayHave 281 = .ok (.invokevirtual 317, 3) := by decide +kernel
theorem dX12_mayHave_284 : decode cX12_mayHave 284 = .ok (.aload_n 0, 1) := by decide +kernel
theorem dX12_mayHave_285 : decode cX12_mayHave 285 = .ok (.iload 11, 2) := by decide +kernel
theorem dX12_mayHave_287 : decode cX12_mayHave 287 = .ok (.invokevirtual 320, 3) := by decide +kernel
theorem dX12_mayHave_290 : decode cX12_mayHave 290 = .ok (.invokestatic 181, 3) := by decide +kernel
theorem dX12_mayHave_293 : decode cX12_mayHave 293 = .ok (.istore 12, 2) := by decide +kernel
theorem dX12_mayHave_295 : decode cX12_mayHave 295 = .ok (.iload 12, 2) := by decide +kernel
theorem dX12_mayHave_297 : decode cX12_mayHave 297 = .ok (.iload 7, 2) := by decide +kernel
theorem dX12_mayHave_299 : decode cX12_mayHave 299 = .ok (.if_icmp .le 20, 3) := by decide +kernel
theorem dX12_mayHave_302 : decode cX12_mayHave 302 = .ok (.iload 12, 2) := by decide +kernel
theorem dX12_mayHave_304 : decode cX12_mayHave 304 = .ok (.iload 8, 2) := by decide +kernel
theorem dX12_mayHave_306 : decode cX12_mayHave 306 = .ok (.if_icmp .ge 13, 3) := by decide +kernel
theorem dX12_mayHave_309 : decode cX12_mayHave 309 = .ok (.aload_n 0, 1) := by decide +kernel
theorem dX12_mayHave_310 : decode cX12_mayHave 310 = .ok (.dup, 1) := by decide +kernel
theorem dX12_mayHave_311 : decode cX12_mayHave 311 = .ok (.getfield 82, 3) := by decide +kernel
theorem dX12_mayHave_314 : decode cX12_mayHave 314 = .ok (.iconst 1, 1) := by decide +kernel
theorem dX12_mayHave_315 : decode cX12_mayHave 315 = .ok (.iadd, 1) := by decide +kernel
theorem dX12_mayHave_316 : decode cX12_mayHave 316 = .ok (.putfield 82, 3) := by decide +kernel
theorem dX12_mayHave_215 : decode cX12_mayHave 215 = .ok (.iload 11, 2) := by decide +kernel
theorem dX12_mayHave_217 : decode cX12_mayHave 217 = .ok (.aload_n 0, 1) := by decide +kernel
theorem dX12_mayHave_218 : decode cX12_mayHave 218 = .ok (.getfield 10, 3) := by decide +kernel
theorem dX12_mayHave_221 : decode cX12_mayHave 221 = .ok (.bipush 6, 2) := by decide +kernel
theorem dX12_mayHave_223 : decode cX12_mayHave 223 = .ok (.iaload, 1) := by decide +kernel
theorem dX12_mayHave_224 : decode cX12_mayHave 224 = .ok (.if_icmp .ge 101, 3) := by decide +kernel
theorem dX12_mayHave_227 : decode cX12_mayHave 227 = .ok (.aload_n 0, 1) := by decide +kernel
theorem dX12_mayHave_228 : decode cX12_mayHave 228 = .ok (.getfield 10, 3) := by decide +kernel
theorem dX12_mayHave_231 : decode cX12_mayHave 231 = .ok (.sipush 10752, 3) := by decide +kernel
theorem dX12_mayHave_234 : decode cX12_mayHave 234 = .ok (.bipush 6, 2) := by decide +kernel
theorem dX12_mayHave_236 : decode cX12_mayHave 236 = .ok (.iload 11, 2) := by decide +kernel
theorem dX12_mayHave_238 : decode cX12_mayHave 238 = .ok (.imul, 1) := by decide +kernel
theorem dX12_mayHave_239 : decode cX12_mayHave 239 = .ok (.iadd, 1) := by decide +kernel
theorem dX12_mayHave_240 : decode cX12_mayHave 240 = .ok (.iconst 3, 1) := by decide +kernel
theorem dX12_mayHave_241 : decode cX12_mayHave 241 = .ok (.iadd, 1) := by decide +kernel
theorem dX12_mayHave_242 : decode cX12_mayHave 242 = .ok (.iaload, 1) := by decide +kernel
theorem dX12_mayHave_243 : decode cX12_mayHave 243 = .ok (.ifCond .ne 76, 3) := by decide +kernel
theorem dX12_mayHave_246 : decode cX12_mayHave 246 = .ok (.aload_n 0, 1) := by decide +kernel
theorem dX12_mayHave_247 : decode cX12_mayHave 247 = .ok (.iload 11, 2) := by decide +kernel
theorem dX12_mayHave_249 : decode cX12_mayHave 249 = .ok (.iload_n 2, 1) := by decide +kernel
theorem dX12_mayHave_250 : decode cX12_mayHave 250 = .ok (.iload_n 3, 1) := by decide +kernel
theorem dX12_mayHave_251 : decode cX12_mayHave 251 = .ok (.invokevirtual 311, 3) := by decide +kernel
theorem dX12_mayHave_254 : decode cX12_mayHave 254 = .ok (.ifCond .eq 65, 3) := by decide +kernel
theorem dX12_mayHave_257 : decode cX12_mayHave 257 = .ok (.iload 4, 2) := by decide +kernel
theorem dX12_mayHave_259 : decode cX12_mayHave 259 = .ok (.iload 5, 2) := by decide +kernel
theorem dX12_mayHave_261 : decode cX12_mayHave 261 = .ok (.aload_n 0, 1) := by decide +kernel
theorem dX12_mayHave_262 : decode cX12_mayHave 262 = .ok (.iload 11, 2) := by decide +kernel
theorem dX12_mayHave_264 : decode cX12_mayHave 264 = .ok (.invokevirtual 317, 3) := by decide +kernel
theorem dX12_mayHave_267 : decode cX12_mayHave 267 = .ok (.invokestatic 199, 3) := by decide +kernel
theorem dX12_mayHave_270 : decode cX12_mayHave 270 = .ok (.ifCond .ne 6, 3) := by decide +kernel
theorem dX12_mayHave_273 : decode cX12_mayHave 273 = .ok (.goto 46, 3) := by decide +kernel
theorem dX12_mayHave_207 : decode cX12_mayHave 207 = .ok (.aload_n 0, 1) := by decide +kernel
theorem dX12_mayHave_208 : decode cX12_mayHave 208 = .ok (.iconst 0, 1) := by decide +kernel
theorem dX12_mayHave_209 : decode cX12_mayHave 209 = .ok (.putfield 82, 3) := by decide +kernel
theorem dX12_mayHave_212 : decode cX12_mayHave 212 = .ok (.iconst 0, 1) := by decide +kernel
theorem dX12_mayHave_213 : decode cX12_mayHave 213 = .ok (.istore 11, 2) := by decide +kernel
theorem dX12_mayHave_201 : decode cX12_mayHave 201 = .ok (.iinc 11 1, 3) := by decide +kernel
theorem dX12_mayHave_204 : decode cX12_mayHave 204 = .ok (.goto (-131), 3) := by decide +kernel
theorem dX12_mayHave_179 : decode cX12_mayHave 179 = .ok (.iload 13, 2) := by decide +kernel
theorem dX12_mayHave_181 : decode cX12_mayHave 181 = .ok (.iload 6, 2) := by decide +kernel
theorem dX12_mayHave_183 : decode cX12_mayHave 183 = .ok (.if_icmp .le 18, 3) := by decide +kernel
theorem dX12_mayHave_186 : decode cX12_mayHave 186 = .ok (.iload 13, 2) := by decide +kernel
theorem dX12_mayHave_188 : decode cX12_mayHave 188 = .ok (.iload 8, 2) := by decide +kernel
theorem dX12_mayHave_190 : decode cX12_mayHave 190 = .ok (.if_icmp .ge 11, 3) := by decide +kernel
theorem dX12_mayHave_193 : decode cX12_mayHave 193 = .ok (.iload 13, 2) := by decide +kernel
theorem dX12_mayHave_195 : decode cX12_mayHave 195 = .ok (.istore 8, 2) := by decide +kernel
theorem dX12_mayHave_197 : decode cX12_mayHave 197 = .ok (.iload 12, 2) := by decide +kernel
theorem dX12_mayHave_199 : decode cX12_mayHave 199 = .ok (.istore 10, 2) := by decide +kernel
theorem dX12_mayHave_138 : decode cX12_mayHave 138 = .ok (.iload 4, 2) := by decide +kernel
theorem dX12_mayHave_140 : decode cX12_mayHave 140 = .ok (.aload_n 0, 1) := by decide +kernel
theorem dX12_mayHave_141 : decode cX12_mayHave 141 = .ok (.iload 11, 2) := by decide +kernel
theorem dX12_mayHave_143 : decode cX12_mayHave 143 = .ok (.invokevirtual 317, 3) := by decide +kernel
theorem dX12_mayHave_146 : decode cX12_mayHave 146 = .ok (.aload_n 0, 1) := by decide +kernel
theorem dX12_mayHave_147 : decode cX12_mayHave 147 = .ok (.iload 11, 2) := by decide +kernel
theorem dX12_mayHave_149 : decode cX12_mayHave 149 = .ok (.invokevirtual 320, 3) := by decide +kernel
theorem dX12_mayHave_152 : decode cX12_mayHave 152 = .ok (.invokestatic 181, 3) := by decide +kernel
theorem dX12_mayHave_155 : decode cX12_mayHave 155 = .ok (.istore 13, 2) := by decide +kernel
theorem dX12_mayHave_157 : decode cX12_mayHave 157 = .ok (.iload 13, 2) := by decide +kernel
theorem dX12_mayHave_159 : decode cX12_mayHave 159 = .ok (.iload 6, 2) := by decide +kernel
theorem dX12_mayHave_161 : decode cX12_mayHave 161 = .ok (.if_icmp .ge 18, 3) := by decide +kernel
theorem dX12_mayHave_164 : decode cX12_mayHave 164 = .ok (.iload 13, 2) := by decide +kernel
theorem dX12_mayHave_166 : decode cX12_mayHave 166 = .ok (.iload 7, 2) := by decide +kernel
theorem dX12_mayHave_168 : decode cX12_mayHave 168 = .ok (.if_icmp .le 11, 3) := by decide +kernel
theorem dX12_mayHave_171 : decode cX12_mayHave 171 = .ok (.iload 13, 2) := by decide +kernel
theorem dX12_mayHave_173 : decode cX12_mayHave 173 = .ok (.istore 7, 2) := by decide +kernel
theorem dX12_mayHave_175 : decode cX12_mayHave 175 = .ok (.iload 12, 2) := by decide +kernel
theorem dX12_mayHave_177 : decode cX12_mayHave 177 = .ok (.istore 9, 2) := by decide +kernel
theorem dX12_mayHave_73 : decode cX12_mayHave 73 = .ok (.iload 11, 2) := by decide +kernel
theorem dX12_mayHave_75 : decode cX12_mayHave 75 = .ok (.aload_n 0, 1) := by decide +kernel
theorem dX12_mayHave_76 : decode cX12_mayHave 76 = .ok (.getfield 10, 3) := by decide +kernel
theorem dX12_mayHave_79 : decode cX12_mayHave 79 = .ok (.bipush 6, 2) := by decide +kernel
theorem dX12_mayHave_81 : decode cX12_mayHave 81 = .ok (.iaload, 1) := by decide +kernel
theorem dX12_mayHave_82 : decode cX12_mayHave 82 = .ok (.if_icmp .ge 125, 3) := by decide +kernel
theorem dX12_mayHave_85 : decode cX12_mayHave 85 = .ok (.aload_n 0, 1) := by decide +kernel
theorem dX12_mayHave_86 : decode cX12_mayHave 86 = .ok (.getfield 10, 3) := by decide +kernel
theorem dX12_mayHave_89 : decode cX12_mayHave 89 = .ok (.sipush 10752, 3) := by decide +kernel
theorem dX12_mayHave_92 : decode cX12_mayHave 92 = .ok (.bipush 6, 2) := by decide +kernel
theorem dX12_mayHave_94 : decode cX12_mayHave 94 = .ok (.iload 11, 2) := by decide +kernel
theorem dX12_mayHave_96 : decode cX12_mayHave 96 = .ok (.imul, 1) := by decide +kernel
theorem dX12_mayHave_97 : decode cX12_mayHave 97 = .ok (.iadd, 1) := by decide +kernel
theorem dX12_mayHave_98 : decode cX12_mayHave 98 = .ok (.iconst 3, 1) := by decide +kernel
theorem dX12_mayHave_99 : decode cX12_mayHave 99 = .ok (.iadd, 1) := by decide +kernel
theorem dX12_mayHave_100 : decode cX12_mayHave 100 = .ok (.iaload, 1) := by decide +kernel
theorem dX12_mayHave_101 : decode cX12_mayHave 101 = .ok (.istore 12, 2) := by decide +kernel
theorem dX12_mayHave_103 : decode cX12_mayHave 103 = .ok (.iload 12, 2) := by decide +kernel
theorem dX12_mayHave_105 : decode cX12_mayHave 105 = .ok (.ifCond .eq 96, 3) := by decide +kernel
theorem dX12_mayHave_108 : decode cX12_mayHave 108 = .ok (.aload_n 0, 1) := by decide +kernel
theorem dX12_mayHave_109 : decode cX12_mayHave 109 = .ok (.iload 11, 2) := by decide +kernel
theorem dX12_mayHave_111 : decode cX12_mayHave 111 = .ok (.iload_n 2, 1) := by decide +kernel
theorem dX12_mayHave_112 : decode cX12_mayHave 112 = .ok (.iload_n 3, 1) := by decide +kernel
theorem dX12_mayHave_113 : decode cX12_mayHave 113 = .ok (.invokevirtual 311, 3) := by decide +kernel
theorem dX12_mayHave_116 : decode cX12_mayHave 116 = .ok (.ifCond .eq 85, 3) := by decide +kernel
theorem dX12_mayHave_119 : decode cX12_mayHave 119 = .ok (.iload 4, 2) := by decide +kernel
theorem dX12_mayHave_121 : decode cX12_mayHave 121 = .ok (.iload 5, 2) := by decide +kernel
theorem dX12_mayHave_123 : decode cX12_mayHave 123 = .ok (.aload_n 0, 1) := by decide +kernel
theorem dX12_mayHave_124 : decode cX12_mayHave 124 = .ok (.iload 11, 2) := by decide +kernel
theorem dX12_mayHave_126 : decode cX12_mayHave 126 = .ok (.invokevirtual 317, 3) := by decide +kernel
theorem dX12_mayHave_129 : decode cX12_mayHave 129 = .ok (.invokestatic 199, 3) := by decide +kernel
theorem dX12_mayHave_132 : decode cX12_mayHave 132 = .ok (.ifCond .ne 6, 3) := by decide +kernel
theorem dX12_mayHave_135 : decode cX12_mayHave 135 = .ok (.goto 66, 3) := by decide +kernel
theorem dX12_mayHave_42 : decode cX12_mayHave 42 = .ok (.iload 4, 2) := by decide +kernel
theorem dX12_mayHave_44 : decode cX12_mayHave 44 = .ok (.iload 5, 2) := by decide +kernel
theorem dX12_mayHave_46 : decode cX12_mayHave 46 = .ok (.aload_n 0, 1) := by decide +kernel
theorem dX12_mayHave_47 : decode cX12_mayHave 47 = .ok (.iload_n 1, 1) := by decide +kernel
theorem dX12_mayHave_48 : decode cX12_mayHave 48 = .ok (.invokevirtual 320, 3) := by decide +kernel
theorem dX12_mayHave_51 : decode cX12_mayHave 51 = .ok (.invokestatic 181, 3) := by decide +kernel
theorem dX12_mayHave_54 : decode cX12_mayHave 54 = .ok (.istore 6, 2) := by decide +kernel
theorem dX12_mayHave_56 : decode cX12_mayHave 56 = .ok (.iconst (-1), 1) := by decide +kernel
theorem dX12_mayHave_57 : decode cX12_mayHave 57 = .ok (.istore 7, 2) := by decide +kernel
theorem dX12_mayHave_59 : decode cX12_mayHave 59 = .ok (.ldc 185, 2) := by decide +kernel
theorem dX12_mayHave_61 : decode cX12_mayHave 61 = .ok (.istore 8, 2) := by decide +kernel
theorem dX12_mayHave_63 : decode cX12_mayHave 63 = .ok (.iconst 0, 1) := by decide +kernel
theorem dX12_mayHave_64 : decode cX12_mayHave 64 = .ok (.istore 9, 2) := by decide +kernel
theorem dX12_mayHave_66 : decode cX12_mayHave 66 = .ok (.ldc 186, 2) := by decide +kernel
theorem dX12_mayHave_68 : decode cX12_mayHave 68 = .ok (.istore 10, 2) := by decide +kernel
theorem dX12_mayHave_70 : decode cX12_mayHave 70 = .ok (.iconst 0, 1) := by decide +kernel
theorem dX12_mayHave_71 : decode cX12_mayHave 71 = .ok (.istore 11, 2) := by decide +kernel
theorem dX12_mayHave_0 : decode cX12_mayHave 0 = .ok (.aload_n 0, 1) := by decide +kernel
theorem dX12_mayHave_1 : decode cX12_mayHave 1 = .ok (.getfield 10, 3) := by decide +kernel
theorem dX12_mayHave_4 : decode cX12_mayHave 4 = .ok (.sipush 7528, 3) := by decide +kernel
theorem dX12_mayHave_7 : decode cX12_mayHave 7 = .ok (.iload_n 2, 1) := by decide +kernel
theorem dX12_mayHave_8 : decode cX12_mayHave 8 = .ok (.iadd, 1) := by decide +kernel
theorem dX12_mayHave_9 : decode cX12_mayHave 9 = .ok (.iaload, 1) := by decide +kernel
theorem dX12_mayHave_10 : decode cX12_mayHave 10 = .ok (.istore 4, 2) := by decide +kernel
theorem dX12_mayHave_12 : decode cX12_mayHave 12 = .ok (.aload_n 0, 1) := by decide +kernel
theorem dX12_mayHave_13 : decode cX12_mayHave 13 = .ok (.iload_n 1, 1) := by decide +kernel
theorem dX12_mayHave_14 : decode cX12_mayHave 14 = .ok (.invokevirtual 317, 3) := by decide +kernel
theorem dX12_mayHave_17 : decode cX12_mayHave 17 = .ok (.istore 5, 2) := by decide +kernel
theorem dX12_mayHave_19 : decode cX12_mayHave 19 = .ok (.iload 4, 2) := by decide +kernel
theorem dX12_mayHave_21 : decode cX12_mayHave 21 = .ok (.ifCond .ne 21, 3) := by decide +kernel
theorem dX12_mayHave_24 : decode cX12_mayHave 24 = .ok (.aload_n 0, 1) := by decide +kernel
theorem dX12_mayHave_25 : decode cX12_mayHave 25 = .ok (.getfield 66, 3) := by decide +kernel
theorem dX12_mayHave_28 : decode cX12_mayHave 28 = .ok (.bipush 16, 2) := by decide +kernel
theorem dX12_mayHave_30 : decode cX12_mayHave 30 = .ok (.idiv, 1) := by decide +kernel
theorem dX12_mayHave_31 : decode cX12_mayHave 31 = .ok (.iconst 2, 1) := by decide +kernel
theorem dX12_mayHave_32 : decode cX12_mayHave 32 = .ok (.irem, 1) := by decide +kernel
theorem dX12_mayHave_33 : decode cX12_mayHave 33 = .ok (.iconst 1, 1) := by decide +kernel
theorem dX12_mayHave_34 : decode cX12_mayHave 34 = .ok (.iload 5, 2) := by decide +kernel
theorem dX12_mayHave_36 : decode cX12_mayHave 36 = .ok (.isub, 1) := by decide +kernel
theorem dX12_mayHave_37 : decode cX12_mayHave 37 = .ok (.if_icmp .eq 5, 3) := by decide +kernel
theorem dX12_mayHave_40 : decode cX12_mayHave 40 = .ok (.iconst 0, 1) := by decide +kernel
theorem dX12_mayHave_41 : decode cX12_mayHave 41 = .ok (.ireturn, 1) := by decide +kernel
theorem dX12_likelyOn_221 : decode cX12_likelyOn 221 = .ok (.iload_n 3, 1) := by decide +kernel
theorem dX12_likelyOn_222 : decode cX12_likelyOn 222 = .ok (.ireturn, 1) := by decide +kernel
theorem dX12_likelyOn_215 : decode cX12_likelyOn 215 = .ok (.iinc 4 1, 3) := by decide +kernel
theorem dX12_likelyOn_218 : decode cX12_likelyOn 218 = .ok (.goto (-213), 3) := by decide +kernel
theorem dX12_likelyOn_192 : decode cX12_likelyOn 192 = .ok (.aload_n 0, 1) := by decide +kernel
theorem dX12_likelyOn_193 : decode cX12_likelyOn 193 = .ok (.getfield 85, 3) := by decide +kernel
theorem dX12_likelyOn_196 : decode cX12_likelyOn 196 = .ok (.iload 5, 2) := by decide +kernel
theorem dX12_likelyOn_198 : decode cX12_likelyOn 198 = .ok (.iload 4, 2) := by decide +kernel
theorem dX12_likelyOn_200 : decode cX12_likelyOn 200 = .ok (.iastore, 1) := by decide +kernel
theorem dX12_likelyOn_201 : decode cX12_likelyOn 201 = .ok (.aload_n 0, 1) := by decide +kernel
theorem dX12_likelyOn_202 : decode cX12_likelyOn 202 = .ok (.getfield 88, 3) := by decide +kernel
theorem dX12_likelyOn_205 : decode cX12_likelyOn 205 = .ok (.iload 5, 2) := by decide +kernel
theorem dX12_likelyOn_207 : decode cX12_likelyOn 207 = .ok (.aload_n 0, 1) := by decide +kernel
theorem dX12_likelyOn_208 : decode cX12_likelyOn 208 = .ok (.getfield 82, 3) := by decide +kernel
theorem dX12_likelyOn_211 : decode cX12_likelyOn 211 = .ok (.iastore, 1) := by decide +kernel
theorem dX12_likelyOn_212 : decode cX12_likelyOn 212 = .ok (.iinc 3 1, 3) := by decide +kernel
theorem dX12_likelyOn_154 : decode cX12_likelyOn 154 = .ok (.aload_n 0, 1) := by decide +kernel
theorem dX12_likelyOn_155 : decode cX12_likelyOn 155 = .ok (.getfield 85, 3) := by decide +kernel
theorem dX12_likelyOn_158 : decode cX12_likelyOn 158 = .ok (.iload 5, 2) := by decide +kernel
theorem dX12_likelyOn_160 : decode cX12_likelyOn 160 = .ok (.aload_n 0, 1) := by decide +kernel
theorem dX12_likelyOn_161 : decode cX12_likelyOn 161 = .ok (.getfield 85, 3) := by decide +kernel
theorem dX12_likelyOn_164 : decode cX12_likelyOn 164 = .ok (.iload 5, 2) := by decide +kernel
theorem dX12_likelyOn_166 : decode cX12_likelyOn 166 = .ok (.iconst 1, 1) := by decide +kernel
theorem dX12_likelyOn_167 : decode cX12_likelyOn 167 = .ok (.isub, 1) := by decide +kernel
theorem dX12_likelyOn_168 : decode cX12_likelyOn 168 = .ok (.iaload, 1) := by decide +kernel
theorem dX12_likelyOn_169 : decode cX12_likelyOn 169 = .ok (.iastore, 1) := by decide +kernel
theorem dX12_likelyOn_170 : decode cX12_likelyOn 170 = .ok (.aload_n 0, 1) := by decide +kernel
theorem dX12_likelyOn_171 : decode cX12_likelyOn 171 = .ok (.getfield 88, 3) := by decide +kernel
theorem dX12_likelyOn_174 : decode cX12_likelyOn 174 = .ok (.iload 5, 2) := by decide +kernel
theorem dX12_likelyOn_176 : decode cX12_likelyOn 176 = .ok (.aload_n 0, 1) := by decide +kernel
theorem dX12_likelyOn_177 : decode cX12_likelyOn 177 = .ok (.getfield 88, 3) := by decide +kernel
theorem dX12_likelyOn_180 : decode cX12_likelyOn 180 = .ok (.iload 5, 2) := by decide +kernel
theorem dX12_likelyOn_182 : decode cX12_likelyOn 182 = .ok (.iconst 1, 1) := by decide +kernel
theorem dX12_likelyOn_183 : decode cX12_likelyOn 183 = .ok (.isub, 1) := by decide +kernel
theorem dX12_likelyOn_184 : decode cX12_likelyOn 184 = .ok (.iaload, 1) := by decide +kernel
theorem dX12_likelyOn_185 : decode cX12_likelyOn 185 = .ok (.iastore, 1) := by decide +kernel
theorem dX12_likelyOn_186 : decode cX12_likelyOn 186 = .ok (.iinc 5 (-1), 3) := by decide +kernel
theorem dX12_likelyOn_189 : decode cX12_likelyOn 189 = .ok (.goto (-107), 3) := by decide +kernel
theorem dX12_likelyOn_82 : decode cX12_likelyOn 82 = .ok (.iload 5, 2) := by decide +kernel
theorem dX12_likelyOn_84 : decode cX12_likelyOn 84 = .ok (.ifCond .le 108, 3) := by decide +kernel
theorem dX12_likelyOn_87 : decode cX12_likelyOn 87 = .ok (.aload_n 0, 1) := by decide +kernel
theorem dX12_likelyOn_88 : decode cX12_likelyOn 88 = .ok (.getfield 88, 3) := by decide +kernel
theorem dX12_likelyOn_91 : decode cX12_likelyOn 91 = .ok (.iload 5, 2) := by decide +kernel
theorem dX12_likelyOn_93 : decode cX12_likelyOn 93 = .ok (.iconst 1, 1) := by decide +kernel
theorem dX12_likelyOn_94 : decode cX12_likelyOn 94 = .ok (.isub, 1) := by decide +kernel
theorem dX12_likelyOn_95 : decode cX12_likelyOn 95 = .ok (.iaload, 1) := by decide +kernel
theorem dX12_likelyOn_96 : decode cX12_likelyOn 96 = .ok (.aload_n 0, 1) := by decide +kernel
theorem dX12_likelyOn_97 : decode cX12_likelyOn 97 = .ok (.getfield 82, 3) := by decide +kernel
theorem dX12_likelyOn_100 : decode cX12_likelyOn 100 = .ok (.if_icmp .gt 54, 3) := by decide +kernel
theorem dX12_likelyOn_103 : decode cX12_likelyOn 103 = .ok (.aload_n 0, 1) := by decide +kernel
theorem dX12_likelyOn_104 : decode cX12_likelyOn 104 = .ok (.getfield 88, 3) := by decide +kernel
theorem dX12_likelyOn_107 : decode cX12_likelyOn 107 = .ok (.iload 5, 2) := by decide +kernel
theorem dX12_likelyOn_109 : decode cX12_likelyOn 109 = .ok (.iconst 1, 1) := by decide +kernel
theorem dX12_likelyOn_110 : decode cX12_likelyOn 110 = .ok (.isub, 1) := by decide +kernel
theorem dX12_likelyOn_111 : decode cX12_likelyOn 111 = .ok (.iaload, 1) := by decide +kernel
theorem dX12_likelyOn_112 : decode cX12_likelyOn 112 = .ok (.aload_n 0, 1) := by decide +kernel
theorem dX12_likelyOn_113 : decode cX12_likelyOn 113 = .ok (.getfield 82, 3) := by decide +kernel
theorem dX12_likelyOn_116 : decode cX12_likelyOn 116 = .ok (.if_icmp .ne 76, 3) := by decide +kernel
theorem dX12_likelyOn_119 : decode cX12_likelyOn 119 = .ok (.ldc 180, 2) := by decide +kernel
theorem dX12_likelyOn_121 : decode cX12_likelyOn 121 = .ok (.aload_n 0, 1) := by decide +kernel
theorem dX12_likelyOn_122 : decode cX12_likelyOn 122 = .ok (.aload_n 0, 1) := by decide +kernel
theorem dX12_likelyOn_123 : decode cX12_likelyOn 123 = .ok (.getfield 85, 3) := by decide +kernel
theorem dX12_likelyOn_126 : decode cX12_likelyOn 126 = .ok (.iload 5, 2) := by decide +kernel
theorem dX12_likelyOn_128 : decode cX12_likelyOn 128 = .ok (.iconst 1, 1) := by decide +kernel
theorem dX12_likelyOn_129 : decode cX12_likelyOn 129 = .ok (.isub, 1) := by decide +kernel
theorem dX12_likelyOn_130 : decode cX12_likelyOn 130 = .ok (.iaload, 1) := by decide +kernel
theorem dX12_likelyOn_131 : decode cX12_likelyOn 131 = .ok (.invokevirtual 317, 3) := by decide +kernel
theorem dX12_likelyOn_134 : decode cX12_likelyOn 134 = .ok (.imul, 1) := by decide +kernel
theorem dX12_likelyOn_135 : decode cX12_likelyOn 135 = .ok (.aload_n 0, 1) := by decide +kernel
theorem dX12_likelyOn_136 : decode cX12_likelyOn 136 = .ok (.aload_n 0, 1) := by decide +kernel
theorem dX12_likelyOn_137 : decode cX12_likelyOn 137 = .ok (.getfield 85, 3) := by decide +kernel
theorem dX12_likelyOn_140 : decode cX12_likelyOn 140 = .ok (.iload 5, 2) := by decide +kernel
theorem dX12_likelyOn_142 : decode cX12_likelyOn 142 = .ok (.iconst 1, 1) := by decide +kernel
theorem dX12_likelyOn_143 : decode cX12_likelyOn 143 = .ok (.isub, 1) := by decide +kernel
theorem dX12_likelyOn_144 : decode cX12_likelyOn 144 = .ok (.iaload, 1) := by decide +kernel
theorem dX12_likelyOn_145 : decode cX12_likelyOn 145 = .ok (.invokevirtual 320, 3) := by decide +kernel
theorem dX12_likelyOn_148 : decode cX12_likelyOn 148 = .ok (.iadd, 1) := by decide +kernel
theorem dX12_likelyOn_149 : decode cX12_likelyOn 149 = .ok (.iload 6, 2) := by decide +kernel
theorem dX12_likelyOn_151 : decode cX12_likelyOn 151 = .ok (.if_icmp .le 41, 3) := by decide +kernel
theorem dX12_likelyOn_61 : decode cX12_likelyOn 61 = .ok (.iload_n 3, 1) := by decide +kernel
theorem dX12_likelyOn_62 : decode cX12_likelyOn 62 = .ok (.istore 5, 2) := by decide +kernel
theorem dX12_likelyOn_64 : decode cX12_likelyOn 64 = .ok (.ldc 180, 2) := by decide +kernel
theorem dX12_likelyOn_66 : decode cX12_likelyOn 66 = .ok (.aload_n 0, 1) := by decide +kernel
theorem dX12_likelyOn_67 : decode cX12_likelyOn 67 = .ok (.iload 4, 2) := by decide +kernel
theorem dX12_likelyOn_69 : decode cX12_likelyOn 69 = .ok (.invokevirtual 317, 3) := by decide +kernel
theorem dX12_likelyOn_72 : decode cX12_likelyOn 72 = .ok (.imul, 1) := by decide +kernel
theorem dX12_likelyOn_73 : decode cX12_likelyOn 73 = .ok (.aload_n 0, 1) := by decide +kernel
theorem dX12_likelyOn_74 : decode cX12_likelyOn 74 = .ok (.iload 4, 2) := by decide +kernel
theorem dX12_likelyOn_76 : decode cX12_likelyOn 76 = .ok (.invokevirtual 320, 3) := by decide +kernel
theorem dX12_likelyOn_79 : decode cX12_likelyOn 79 = .ok (.iadd, 1) := by decide +kernel
theorem dX12_likelyOn_80 : decode cX12_likelyOn 80 = .ok (.istore 6, 2) := by decide +kernel
theorem dX12_likelyOn_5 : decode cX12_likelyOn 5 = .ok (.iload 4, 2) := by decide +kernel
theorem dX12_likelyOn_7 : decode cX12_likelyOn 7 = .ok (.aload_n 0, 1) := by decide +kernel
theorem dX12_likelyOn_8 : decode cX12_likelyOn 8 = .ok (.getfield 10, 3) := by decide +kernel
theorem dX12_likelyOn_11 : decode cX12_likelyOn 11 = .ok (.bipush 6, 2) := by decide +kernel
theorem dX12_likelyOn_13 : decode cX12_likelyOn 13 = .ok (.iaload, 1) := by decide +kernel
theorem dX12_likelyOn_14 : decode cX12_likelyOn 14 = .ok (.if_icmp .ge 207, 3) := by decide +kernel
theorem dX12_likelyOn_17 : decode cX12_likelyOn 17 = .ok (.aload_n 0, 1) := by decide +kernel
theorem dX12_likelyOn_18 : decode cX12_likelyOn 18 = .ok (.getfield 10, 3) := by decide +kernel
theorem dX12_likelyOn_21 : decode cX12_likelyOn 21 = .ok (.sipush 10752, 3) := by decide +kernel
theorem dX12_likelyOn_24 : decode cX12_likelyOn 24 = .ok (.bipush 6, 2) := by decide +kernel
theorem dX12_likelyOn_26 : decode cX12_likelyOn 26 = .ok (.iload 4, 2) := by decide +kernel
theorem dX12_likelyOn_28 : decode cX12_likelyOn 28 = .ok (.imul, 1) := by decide +kernel
theorem dX12_likelyOn_29 : decode cX12_likelyOn 29 = .ok (.iadd, 1) := by decide +kernel
theorem dX12_likelyOn_30 : decode cX12_likelyOn 30 = .ok (.iconst 3, 1) := by decide +kernel
theorem dX12_likelyOn_31 : decode cX12_likelyOn 31 = .ok (.iadd, 1) := by decide +kernel
theorem dX12_likelyOn_32 : decode cX12_likelyOn 32 = .ok (.iaload, 1) := by decide +kernel
theorem dX12_likelyOn_33 : decode cX12_likelyOn 33 = .ok (.ifCond .ne 182, 3) := by decide +kernel
theorem dX12_likelyOn_36 : decode cX12_likelyOn 36 = .ok (.aload_n 0, 1) := by decide +kernel
theorem dX12_likelyOn_37 : decode cX12_likelyOn 37 = .ok (.iload 4, 2) := by decide +kernel
theorem dX12_likelyOn_39 : decode cX12_likelyOn 39 = .ok (.iload_n 1, 1) := by decide +kernel
theorem dX12_likelyOn_40 : decode cX12_likelyOn 40 = .ok (.iload_n 2, 1) := by decide +kernel
theorem dX12_likelyOn_41 : decode cX12_likelyOn 41 = .ok (.invokevirtual 311, 3) := by decide +kernel
theorem dX12_likelyOn_44 : decode cX12_likelyOn 44 = .ok (.ifCond .eq 171, 3) := by decide +kernel
theorem dX12_likelyOn_47 : decode cX12_likelyOn 47 = .ok (.aload_n 0, 1) := by decide +kernel
theorem dX12_likelyOn_48 : decode cX12_likelyOn 48 = .ok (.iload 4, 2) := by decide +kernel
theorem dX12_likelyOn_50 : decode cX12_likelyOn 50 = .ok (.iload_n 1, 1) := by decide +kernel
theorem dX12_likelyOn_51 : decode cX12_likelyOn 51 = .ok (.iload_n 2, 1) := by decide +kernel
theorem dX12_likelyOn_52 : decode cX12_likelyOn 52 = .ok (.invokevirtual 323, 3) := by decide +kernel
theorem dX12_likelyOn_55 : decode cX12_likelyOn 55 = .ok (.ifCond .ne 6, 3) := by decide +kernel
theorem dX12_likelyOn_58 : decode cX12_likelyOn 58 = .ok (.goto 157, 3) := by decide +kernel
theorem dX12_likelyOn_0 : decode cX12_likelyOn 0 = .ok (.iconst 0, 1) := by decide +kernel
theorem dX12_likelyOn_1 : decode cX12_likelyOn 1 = .ok (.istore_n 3, 1) := by decide +kernel
theorem dX12_likelyOn_2 : decode cX12_likelyOn 2 = .ok (.iconst 0, 1) := by decide +kernel
theorem dX12_likelyOn_3 : decode cX12_likelyOn 3 = .ok (.istore 4, 2) := by decide +kernel
theorem dX12_means_199 : decode cX12_means 199 = .ok (.aload_n 0, 1) := by decide +kernel
theorem dX12_means_200 : decode cX12_means 200 = .ok (.getfield 10, 3) := by decide +kernel
theorem dX12_means_203 : decode cX12_means 203 = .ok (.bipush 11, 2) := by decide +kernel
theorem dX12_means_205 : decode cX12_means 205 = .ok (.iaload, 1) := by decide +kernel
theorem dX12_means_206 : decode cX12_means 206 = .ok (.ireturn, 1) := by decide +kernel
theorem dX12_means_193 : decode cX12_means 193 = .ok (.iinc 5 1, 3) := by decide +kernel
theorem dX12_means_196 : decode cX12_means 196 = .ok (.goto (-97), 3) := by decide +kernel
theorem dX12_means_141 : decode cX12_means 141 = .ok (.aload_n 0, 1) := by decide +kernel
theorem dX12_means_142 : decode cX12_means 142 = .ok (.getfield 10, 3) := by decide +kernel
theorem dX12_means_145 : decode cX12_means 145 = .ok (.ldc_w 332, 3) := by decide +kernel
theorem dX12_means_148 : decode cX12_means 148 = .ok (.iconst 2, 1) := by decide +kernel
theorem dX12_means_149 : decode cX12_means 149 = .ok (.aload_n 0, 1) := by decide +kernel
theorem dX12_means_150 : decode cX12_means 150 = .ok (.getfield 10, 3) := by decide +kernel
theorem dX12_means_153 : decode cX12_means 153 = .ok (.bipush 11, 2) := by decide +kernel
theorem dX12_means_155 : decode cX12_means 155 = .ok (.iaload, 1) := by decide +kernel
theorem dX12_means_156 : decode cX12_means 156 = .ok (.imul, 1) := by decide +kernel
theorem dX12_means_157 : decode cX12_means 157 = .ok (.iadd, 1) := by decide +kernel
theorem dX12_means_158 : decode cX12_means 158 = .ok (.iload 6, 2) := by decide +kernel
theorem dX12_means_160 : decode cX12_means 160 = .ok (.iastore, 1) := by decide +kernel
theorem dX12_means_161 : decode cX12_means 161 = .ok (.aload_n 0, 1) := by decide +kernel
theorem dX12_means_162 : decode cX12_means 162 = .ok (.getfield 10, 3) := by decide +kernel
theorem dX12_means_165 : decode cX12_means 165 = .ok (.ldc_w 332, 3) := by decide +kernel
theorem dX12_means_168 : decode cX12_means 168 = .ok (.iconst 2, 1) := by decide +kernel
theorem dX12_means_169 : decode cX12_means 169 = .ok (.aload_n 0, 1) := by decide +kernel
theorem dX12_means_170 : decode cX12_means 170 = .ok (.getfield 10, 3) := by decide +kernel
theorem dX12_means_173 : decode cX12_means 173 = .ok (.bipush 11, 2) := by decide +kernel
theorem dX12_means_175 : decode cX12_means 175 = .ok (.iaload, 1) := by decide +kernel
theorem dX12_means_176 : decode cX12_means 176 = .ok (.imul, 1) := by decide +kernel
theorem dX12_means_177 : decode cX12_means 177 = .ok (.iadd, 1) := by decide +kernel
theorem dX12_means_178 : decode cX12_means 178 = .ok (.iconst 1, 1) := by decide +kernel
theorem dX12_means_179 : decode cX12_means 179 = .ok (.iadd, 1) := by decide +kernel
theorem dX12_means_180 : decode cX12_means 180 = .ok (.iconst 0, 1) := by decide +kernel
theorem dX12_means_181 : decode cX12_means 181 = .ok (.iastore, 1) := by decide +kernel
theorem dX12_means_182 : decode cX12_means 182 = .ok (.aload_n 0, 1) := by decide +kernel
theorem dX12_means_183 : decode cX12_means 183 = .ok (.getfield 10, 3) := by decide +kernel
theorem dX12_means_186 : decode cX12_means 186 = .ok (.bipush 11, 2) := by decide +kernel
theorem dX12_means_188 : decode cX12_means 188 = .ok (.dup2, 1) := by decide +kernel
theorem dX12_means_189 : decode cX12_means 189 = .ok (.iaload, 1) := by decide +kernel
theorem dX12_means_190 : decode cX12_means 190 = .ok (.iconst 1, 1) := by decide +kernel
theorem dX12_means_191 : decode cX12_means 191 = .ok (.iadd, 1) := by decide +kernel
theorem dX12_means_192 : decode cX12_means 192 = .ok (.iastore, 1) := by decide +kernel
theorem dX12_means_99 : decode cX12_means 99 = .ok (.iload 5, 2) := by decide +kernel
theorem dX12_means_101 : decode cX12_means 101 = .ok (.iload 4, 2) := by decide +kernel
theorem dX12_means_103 : decode cX12_means 103 = .ok (.if_icmp .ge 96, 3) := by decide +kernel
theorem dX12_means_106 : decode cX12_means 106 = .ok (.aload_n 0, 1) := by decide +kernel
theorem dX12_means_107 : decode cX12_means 107 = .ok (.aload_n 0, 1) := by decide +kernel
theorem dX12_means_108 : decode cX12_means 108 = .ok (.getfield 10, 3) := by decide +kernel
theorem dX12_means_111 : decode cX12_means 111 = .ok (.sipush 10752, 3) := by decide +kernel
theorem dX12_means_114 : decode cX12_means 114 = .ok (.bipush 6, 2) := by decide +kernel
theorem dX12_means_116 : decode cX12_means 116 = .ok (.aload_n 0, 1) := by decide +kernel
theorem dX12_means_117 : decode cX12_means 117 = .ok (.getfield 85, 3) := by decide +kernel
theorem dX12_means_120 : decode cX12_means 120 = .ok (.iload 5, 2) := by decide +kernel
theorem dX12_means_122 : decode cX12_means 122 = .ok (.iaload, 1) := by decide +kernel
theorem dX12_means_123 : decode cX12_means 123 = .ok (.imul, 1) := by decide +kernel
theorem dX12_means_124 : decode cX12_means 124 = .ok (.iadd, 1) := by decide +kernel
theorem dX12_means_125 : decode cX12_means 125 = .ok (.iaload, 1) := by decide +kernel
theorem dX12_means_126 : decode cX12_means 126 = .ok (.iload_n 1, 1) := by decide +kernel
theorem dX12_means_127 : decode cX12_means 127 = .ok (.invokevirtual 314, 3) := by decide +kernel
theorem dX12_means_130 : decode cX12_means 130 = .ok (.istore 6, 2) := by decide +kernel
theorem dX12_means_132 : decode cX12_means 132 = .ok (.iload 6, 2) := by decide +kernel
theorem dX12_means_134 : decode cX12_means 134 = .ok (.iconst (-1), 1) := by decide +kernel
theorem dX12_means_135 : decode cX12_means 135 = .ok (.if_icmp .ne 6, 3) := by decide +kernel
theorem dX12_means_138 : decode cX12_means 138 = .ok (.goto 55, 3) := by decide +kernel
theorem dX12_means_94 : decode cX12_means 94 = .ok (.istore 4, 2) := by decide +kernel
theorem dX12_means_96 : decode cX12_means 96 = .ok (.iconst 0, 1) := by decide +kernel
theorem dX12_means_97 : decode cX12_means 97 = .ok (.istore 5, 2) := by decide +kernel
theorem dX12_means_88 : decode cX12_means 88 = .ok (.aload_n 0, 1) := by decide +kernel
theorem dX12_means_89 : decode cX12_means 89 = .ok (.iload_n 3, 1) := by decide +kernel
theorem dX12_means_90 : decode cX12_means 90 = .ok (.iload_n 1, 1) := by decide +kernel
theorem dX12_means_91 : decode cX12_means 91 = .ok (.invokevirtual 334, 3) := by decide +kernel
theorem dX12_means_73 : decode cX12_means 73 = .ok (.aload_n 0, 1) := by decide +kernel
theorem dX12_means_74 : decode cX12_means 74 = .ok (.iload_n 1, 1) := by decide +kernel
theorem dX12_means_75 : decode cX12_means 75 = .ok (.invokevirtual 308, 3) := by decide +kernel
theorem dX12_means_78 : decode cX12_means 78 = .ok (.istore_n 3, 1) := by decide +kernel
theorem dX12_means_79 : decode cX12_means 79 = .ok (.iload_n 3, 1) := by decide +kernel
theorem dX12_means_80 : decode cX12_means 80 = .ok (.iconst (-1), 1) := by decide +kernel
theorem dX12_means_81 : decode cX12_means 81 = .ok (.if_icmp .ne 7, 3) := by decide +kernel
theorem dX12_means_84 : decode cX12_means 84 = .ok (.iconst 0, 1) := by decide +kernel
theorem dX12_means_85 : decode cX12_means 85 = .ok (.goto 9, 3) := by decide +kernel
theorem dX12_means_45 : decode cX12_means 45 = .ok (.aload_n 0, 1) := by decide +kernel
theorem dX12_means_46 : decode cX12_means 46 = .ok (.getfield 10, 3) := by decide +kernel
theorem dX12_means_49 : decode cX12_means 49 = .ok (.ldc_w 332, 3) := by decide +kernel
theorem dX12_means_52 : decode cX12_means 52 = .ok (.iload_n 2, 1) := by decide +kernel
theorem dX12_means_53 : decode cX12_means 53 = .ok (.iastore, 1) := by decide +kernel
theorem dX12_means_54 : decode cX12_means 54 = .ok (.aload_n 0, 1) := by decide +kernel
theorem dX12_means_55 : decode cX12_means 55 = .ok (.getfield 10, 3) := by decide +kernel
theorem dX12_means_58 : decode cX12_means 58 = .ok (.ldc_w 333, 3) := by decide +kernel
theorem dX12_means_61 : decode cX12_means 61 = .ok (.iconst 1, 1) := by decide +kernel
theorem dX12_means_62 : decode cX12_means 62 = .ok (.iastore, 1) := by decide +kernel
theorem dX12_means_63 : decode cX12_means 63 = .ok (.aload_n 0, 1) := by decide +kernel
theorem dX12_means_64 : decode cX12_means 64 = .ok (.getfield 10, 3) := by decide +kernel
theorem dX12_means_67 : decode cX12_means 67 = .ok (.bipush 11, 2) := by decide +kernel
theorem dX12_means_69 : decode cX12_means 69 = .ok (.iconst 1, 1) := by decide +kernel
theorem dX12_means_70 : decode cX12_means 70 = .ok (.iastore, 1) := by decide +kernel
theorem dX12_means_71 : decode cX12_means 71 = .ok (.iconst 1, 1) := by decide +kernel
theorem dX12_means_72 : decode cX12_means 72 = .ok (.ireturn, 1) := by decide +kernel
theorem dX12_means_17 : decode cX12_means 17 = .ok (.aload_n 0, 1) := by decide +kernel
theorem dX12_means_18 : decode cX12_means 18 = .ok (.iload_n 1, 1) := by decide +kernel
theorem dX12_means_19 : decode cX12_means 19 = .ok (.invokevirtual 329, 3) := by decide +kernel
theorem dX12_means_22 : decode cX12_means 22 = .ok (.istore_n 2, 1) := by decide +kernel
theorem dX12_means_23 : decode cX12_means 23 = .ok (.aload_n 0, 1) := by decide +kernel
theorem dX12_means_24 : decode cX12_means 24 = .ok (.getfield 10, 3) := by decide +kernel
theorem dX12_means_27 : decode cX12_means 27 = .ok (.bipush 11, 2) := by decide +kernel
theorem dX12_means_29 : decode cX12_means 29 = .ok (.iconst 0, 1) := by decide +kernel
theorem dX12_means_30 : decode cX12_means 30 = .ok (.iastore, 1) := by decide +kernel
theorem dX12_means_31 : decode cX12_means 31 = .ok (.aload_n 0, 1) := by decide +kernel
theorem dX12_means_32 : decode cX12_means 32 = .ok (.getfield 78, 3) := by decide +kernel
theorem dX12_means_35 : decode cX12_means 35 = .ok (.ifCond .eq 38, 3) := by decide +kernel
theorem dX12_means_38 : decode cX12_means 38 = .ok (.iload_n 2, 1) := by decide +kernel
theorem dX12_means_39 : decode cX12_means 39 = .ok (.iconst (-1), 1) := by decide +kernel
theorem dX12_means_40 : decode cX12_means 40 = .ok (.if_icmp .ne 5, 3) := by decide +kernel
theorem dX12_means_43 : decode cX12_means 43 = .ok (.iconst 0, 1) := by decide +kernel
theorem dX12_means_44 : decode cX12_means 44 = .ok (.ireturn, 1) := by decide +kernel
theorem dX12_means_14 : decode cX12_means 14 = .ok (.bipush (-2), 2) := by decide +kernel
theorem dX12_means_16 : decode cX12_means 16 = .ok (.ireturn, 1) := by decide +kernel
theorem dX12_means_0 : decode cX12_means 0 = .ok (.aload_n 0, 1) := by decide +kernel
theorem dX12_means_1 : decode cX12_means 1 = .ok (.invokevirtual 326, 3) := by decide +kernel
theorem dX12_means_4 : decode cX12_means 4 = .ok (.ifCond .eq 10, 3) := by decide +kernel
theorem dX12_means_7 : decode cX12_means 7 = .ok (.iload_n 1, 1) := by decide +kernel
theorem dX12_means_8 : decode cX12_means 8 = .ok (.invokestatic 95, 3) := by decide +kernel
theorem dX12_means_11 : decode cX12_means 11 = .ok (.ifCond .ne 6, 3) := by decide +kernel
theorem dX12_fault_0 : decode cX12_fault 0 = .ok (.aload_n 0, 1) := by decide +kernel
theorem dX12_fault_1 : decode cX12_fault 1 = .ok (.getfield 10, 3) := by decide +kernel
theorem dX12_fault_4 : decode cX12_fault 4 = .ok (.bipush 15, 2) := by decide +kernel
theorem dX12_fault_6 : decode cX12_fault 6 = .ok (.iaload, 1) := by decide +kernel
theorem dX12_fault_7 : decode cX12_fault 7 = .ok (.ireturn, 1) := by decide +kernel
theorem dX12_found_26 : decode cX12_found 26 = .ok (.aload_n 0, 1) := by decide +kernel
theorem dX12_found_27 : decode cX12_found 27 = .ok (.getfield 10, 3) := by decide +kernel
theorem dX12_found_30 : decode cX12_found 30 = .ok (.ldc_w 332, 3) := by decide +kernel
theorem dX12_found_33 : decode cX12_found 33 = .ok (.iconst 2, 1) := by decide +kernel
theorem dX12_found_34 : decode cX12_found 34 = .ok (.iload_n 1, 1) := by decide +kernel
theorem dX12_found_35 : decode cX12_found 35 = .ok (.imul, 1) := by decide +kernel
theorem dX12_found_36 : decode cX12_found 36 = .ok (.iadd, 1) := by decide +kernel
theorem dX12_found_37 : decode cX12_found 37 = .ok (.iload_n 2, 1) := by decide +kernel
theorem dX12_found_38 : decode cX12_found 38 = .ok (.iadd, 1) := by decide +kernel
theorem dX12_found_39 : decode cX12_found 39 = .ok (.iaload, 1) := by decide +kernel
theorem dX12_found_40 : decode cX12_found 40 = .ok (.ireturn, 1) := by decide +kernel
theorem dX12_found_24 : decode cX12_found 24 = .ok (.iconst (-1), 1) := by decide +kernel
theorem dX12_found_25 : decode cX12_found 25 = .ok (.ireturn, 1) := by decide +kernel
theorem dX12_found_0 : decode cX12_found 0 = .ok (.iload_n 1, 1) := by decide +kernel
theorem dX12_found_1 : decode cX12_found 1 = .ok (.ifCond .lt 23, 3) := by decide +kernel
theorem dX12_found_4 : decode cX12_found 4 = .ok (.iload_n 1, 1) := by decide +kernel
theorem dX12_found_5 : decode cX12_found 5 = .ok (.aload_n 0, 1) := by decide +kernel
theorem dX12_found_6 : decode cX12_found 6 = .ok (.getfield 10, 3) := by decide +kernel
theorem dX12_found_9 : decode cX12_found 9 = .ok (.bipush 11, 2) := by decide +kernel
theorem dX12_found_11 : decode cX12_found 11 = .ok (.iaload, 1) := by decide +kernel
theorem dX12_found_12 : decode cX12_found 12 = .ok (.if_icmp .ge 12, 3) := by decide +kernel
theorem dX12_found_15 : decode cX12_found 15 = .ok (.iload_n 2, 1) := by decide +kernel
theorem dX12_found_16 : decode cX12_found 16 = .ok (.ifCond .lt 8, 3) := by decide +kernel
theorem dX12_found_19 : decode cX12_found 19 = .ok (.iload_n 2, 1) := by decide +kernel
theorem dX12_found_20 : decode cX12_found 20 = .ok (.iconst 1, 1) := by decide +kernel
theorem dX12_found_21 : decode cX12_found 21 = .ok (.if_icmp .le 5, 3) := by decide +kernel
theorem dX12_call_157 : decode cX12_call 157 = .ok (.iconst (-1), 1) := by decide +kernel
theorem dX12_call_158 : decode cX12_call 158 = .ok (.ireturn, 1) := by decide +kernel
theorem dX12_call_151 : decode cX12_call 151 = .ok (.iload 4, 2) := by decide +kernel
theorem dX12_call_153 : decode cX12_call 153 = .ok (.istore_n 3, 1) := by decide +kernel
theorem dX12_call_154 : decode cX12_call 154 = .ok (.goto (-122), 3) := by decide +kernel
theorem dX12_call_123 : decode cX12_call 123 = .ok (.aload_n 0, 1) := by decide +kernel
theorem dX12_call_124 : decode cX12_call 124 = .ok (.iload 4, 2) := by decide +kernel
theorem dX12_call_126 : decode cX12_call 126 = .ok (.invokevirtual 329, 3) := by decide +kernel
theorem dX12_call_129 : decode cX12_call 129 = .ok (.istore_n 2, 1) := by decide +kernel
theorem dX12_call_130 : decode cX12_call 130 = .ok (.iload_n 2, 1) := by decide +kernel
theorem dX12_call_131 : decode cX12_call 131 = .ok (.iconst (-1), 1) := by decide +kernel
theorem dX12_call_132 : decode cX12_call 132 = .ok (.if_icmp .eq 19, 3) := by decide +kernel
theorem dX12_call_135 : decode cX12_call 135 = .ok (.aload_n 0, 1) := by decide +kernel
theorem dX12_call_136 : decode cX12_call 136 = .ok (.getfield 10, 3) := by decide +kernel
theorem dX12_call_139 : decode cX12_call 139 = .ok (.bipush 16, 2) := by decide +kernel
theorem dX12_call_141 : decode cX12_call 141 = .ok (.iload 4, 2) := by decide +kernel
theorem dX12_call_143 : decode cX12_call 143 = .ok (.iconst 1, 1) := by decide +kernel
theorem dX12_call_144 : decode cX12_call 144 = .ok (.iadd, 1) := by decide +kernel
theorem dX12_call_145 : decode cX12_call 145 = .ok (.iastore, 1) := by decide +kernel
theorem dX12_call_146 : decode cX12_call 146 = .ok (.bipush (-100), 2) := by decide +kernel
theorem dX12_call_148 : decode cX12_call 148 = .ok (.iload_n 2, 1) := by decide +kernel
theorem dX12_call_149 : decode cX12_call 149 = .ok (.isub, 1) := by decide +kernel
theorem dX12_call_150 : decode cX12_call 150 = .ok (.ireturn, 1) := by decide +kernel
theorem dX12_call_116 : decode cX12_call 116 = .ok (.iload 4, 2) := by decide +kernel
theorem dX12_call_118 : decode cX12_call 118 = .ok (.ifCond .ge 5, 3) := by decide +kernel
theorem dX12_call_121 : decode cX12_call 121 = .ok (.iconst (-1), 1) := by decide +kernel
theorem dX12_call_122 : decode cX12_call 122 = .ok (.ireturn, 1) := by decide +kernel
theorem dX12_call_110 : decode cX12_call 110 = .ok (.iinc 5 1, 3) := by decide +kernel
theorem dX12_call_113 : decode cX12_call 113 = .ok (.goto (-61), 3) := by decide +kernel
theorem dX12_call_52 : decode cX12_call 52 = .ok (.iload 5, 2) := by decide +kernel
theorem dX12_call_54 : decode cX12_call 54 = .ok (.aload_n 0, 1) := by decide +kernel
theorem dX12_call_55 : decode cX12_call 55 = .ok (.getfield 10, 3) := by decide +kernel
theorem dX12_call_58 : decode cX12_call 58 = .ok (.iconst 5, 1) := by decide +kernel
theorem dX12_call_59 : decode cX12_call 59 = .ok (.iaload, 1) := by decide +kernel
theorem dX12_call_60 : decode cX12_call 60 = .ok (.if_icmp .ge 56, 3) := by decide +kernel
theorem dX12_call_63 : decode cX12_call 63 = .ok (.iload_n 3, 1) := by decide +kernel
theorem dX12_call_64 : decode cX12_call 64 = .ok (.iload_n 1, 1) := by decide +kernel
theorem dX12_call_65 : decode cX12_call 65 = .ok (.if_icmp .eq 51, 3) := by decide +kernel
theorem dX12_call_68 : decode cX12_call 68 = .ok (.aload_n 0, 1) := by decide +kernel
theorem dX12_call_69 : decode cX12_call 69 = .ok (.iload 5, 2) := by decide +kernel
theorem dX12_call_71 : decode cX12_call 71 = .ok (.invokevirtual 99, 3) := by decide +kernel
theorem dX12_call_74 : decode cX12_call 74 = .ok (.ifCond .eq 36, 3) := by decide +kernel
theorem dX12_call_77 : decode cX12_call 77 = .ok (.aload_n 0, 1) := by decide +kernel
theorem dX12_call_78 : decode cX12_call 78 = .ok (.iload 5, 2) := by decide +kernel
theorem dX12_call_80 : decode cX12_call 80 = .ok (.invokevirtual 102, 3) := by decide +kernel
theorem dX12_call_83 : decode cX12_call 83 = .ok (.iload_n 3, 1) := by decide +kernel
theorem dX12_call_84 : decode cX12_call 84 = .ok (.if_icmp .gt 26, 3) := by decide +kernel
theorem dX12_call_87 : decode cX12_call 87 = .ok (.aload_n 0, 1) := by decide +kernel
theorem dX12_call_88 : decode cX12_call 88 = .ok (.iload 5, 2) := by decide +kernel
theorem dX12_call_90 : decode cX12_call 90 = .ok (.invokevirtual 102, 3) := by decide +kernel
theorem dX12_call_93 : decode cX12_call 93 = .ok (.iconst 1, 1) := by decide +kernel
theorem dX12_call_94 : decode cX12_call 94 = .ok (.isub, 1) := by decide +kernel
theorem dX12_call_95 : decode cX12_call 95 = .ok (.iload 4, 2) := by decide +kernel
theorem dX12_call_97 : decode cX12_call 97 = .ok (.if_icmp .le 13, 3) := by decide +kernel
theorem dX12_call_100 : decode cX12_call 100 = .ok (.aload_n 0, 1) := by decide +kernel
theorem dX12_call_101 : decode cX12_call 101 = .ok (.iload 5, 2) := by decide +kernel
theorem dX12_call_103 : decode cX12_call 103 = .ok (.invokevirtual 102, 3) := by decide +kernel
theorem dX12_call_106 : decode cX12_call 106 = .ok (.iconst 1, 1) := by decide +kernel
theorem dX12_call_107 : decode cX12_call 107 = .ok (.isub, 1) := by decide +kernel
theorem dX12_call_108 : decode cX12_call 108 = .ok (.istore 4, 2) := by decide +kernel
theorem dX12_call_49 : decode cX12_call 49 = .ok (.iconst 0, 1) := by decide +kernel
theorem dX12_call_50 : decode cX12_call 50 = .ok (.istore 5, 2) := by decide +kernel
theorem dX12_call_32 : decode cX12_call 32 = .ok (.iload_n 3, 1) := by decide +kernel
theorem dX12_call_33 : decode cX12_call 33 = .ok (.ifCond .le 124, 3) := by decide +kernel
theorem dX12_call_36 : decode cX12_call 36 = .ok (.iconst (-1), 1) := by decide +kernel
theorem dX12_call_37 : decode cX12_call 37 = .ok (.istore 4, 2) := by decide +kernel
theorem dX12_call_39 : decode cX12_call 39 = .ok (.iload_n 3, 1) := by decide +kernel
theorem dX12_call_40 : decode cX12_call 40 = .ok (.iload_n 1, 1) := by decide +kernel
theorem dX12_call_41 : decode cX12_call 41 = .ok (.if_icmp .ne 8, 3) := by decide +kernel
theorem dX12_call_44 : decode cX12_call 44 = .ok (.iload_n 1, 1) := by decide +kernel
theorem dX12_call_45 : decode cX12_call 45 = .ok (.iconst 1, 1) := by decide +kernel
theorem dX12_call_46 : decode cX12_call 46 = .ok (.isub, 1) := by decide +kernel
theorem dX12_call_47 : decode cX12_call 47 = .ok (.istore 4, 2) := by decide +kernel
theorem dX12_call_30 : decode cX12_call 30 = .ok (.iload_n 1, 1) := by decide +kernel
theorem dX12_call_31 : decode cX12_call 31 = .ok (.istore_n 3, 1) := by decide +kernel
theorem dX12_call_17 : decode cX12_call 17 = .ok (.aload_n 0, 1) := by decide +kernel
theorem dX12_call_18 : decode cX12_call 18 = .ok (.iload_n 1, 1) := by decide +kernel
theorem dX12_call_19 : decode cX12_call 19 = .ok (.invokevirtual 329, 3) := by decide +kernel
theorem dX12_call_22 : decode cX12_call 22 = .ok (.istore_n 2, 1) := by decide +kernel
theorem dX12_call_23 : decode cX12_call 23 = .ok (.iload_n 2, 1) := by decide +kernel
theorem dX12_call_24 : decode cX12_call 24 = .ok (.iconst (-1), 1) := by decide +kernel
theorem dX12_call_25 : decode cX12_call 25 = .ok (.if_icmp .eq 5, 3) := by decide +kernel
theorem dX12_call_28 : decode cX12_call 28 = .ok (.iload_n 2, 1) := by decide +kernel
theorem dX12_call_29 : decode cX12_call 29 = .ok (.ireturn, 1) := by decide +kernel
theorem dX12_call_14 : decode cX12_call 14 = .ok (.bipush (-2), 2) := by decide +kernel
theorem dX12_call_16 : decode cX12_call 16 = .ok (.ireturn, 1) := by decide +kernel
theorem dX12_call_0 : decode cX12_call 0 = .ok (.aload_n 0, 1) := by decide +kernel
theorem dX12_call_1 : decode cX12_call 1 = .ok (.invokevirtual 326, 3) := by decide +kernel
theorem dX12_call_4 : decode cX12_call 4 = .ok (.ifCond .eq 10, 3) := by decide +kernel
theorem dX12_call_7 : decode cX12_call 7 = .ok (.iload_n 1, 1) := by decide +kernel
theorem dX12_call_8 : decode cX12_call 8 = .ok (.invokestatic 95, 3) := by decide +kernel
theorem dX12_call_11 : decode cX12_call 11 = .ok (.ifCond .ne 6, 3) := by decide +kernel
theorem dX12_ended_0 : decode cX12_ended 0 = .ok (.aload_n 0, 1) := by decide +kernel
theorem dX12_ended_1 : decode cX12_ended 1 = .ok (.getfield 10, 3) := by decide +kernel
theorem dX12_ended_4 : decode cX12_ended 4 = .ok (.bipush 16, 2) := by decide +kernel
theorem dX12_ended_6 : decode cX12_ended 6 = .ok (.iaload, 1) := by decide +kernel
theorem dX12_ended_7 : decode cX12_ended 7 = .ok (.ireturn, 1) := by decide +kernel

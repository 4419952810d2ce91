theorem dX12_latest_130 : decode cX12_latest 130 = .ok (.iload_n 3, 1) := by decide +kernel
theorem dX12_latest_131 : decode cX12_latest 131 = .ok (.ireturn, 1) := by decide +kernel
theorem dX12_latest_124 : decode cX12_latest 124 = .ok (.iinc 4 1, 3) := by decide +kernel
theorem dX12_latest_127 : decode cX12_latest 127 = .ok (.goto (-122), 3) := by decide +kernel
theorem dX12_latest_94 : decode cX12_latest 94 = .ok (.istore 6, 2) := by decide +kernel
theorem dX12_latest_96 : decode cX12_latest 96 = .ok (.iload 6, 2) := by decide +kernel
theorem dX12_latest_98 : decode cX12_latest 98 = .ok (.ifCond .eq 26, 3) := by decide +kernel
theorem dX12_latest_101 : decode cX12_latest 101 = .ok (.aload_n 0, 1) := by decide +kernel
theorem dX12_latest_102 : decode cX12_latest 102 = .ok (.getfield 10, 3) := by decide +kernel
theorem dX12_latest_105 : decode cX12_latest 105 = .ok (.iload 5, 2) := by decide +kernel
theorem dX12_latest_107 : decode cX12_latest 107 = .ok (.iconst 1, 1) := by decide +kernel
theorem dX12_latest_108 : decode cX12_latest 108 = .ok (.iadd, 1) := by decide +kernel
theorem dX12_latest_109 : decode cX12_latest 109 = .ok (.iaload, 1) := by decide +kernel
theorem dX12_latest_110 : decode cX12_latest 110 = .ok (.iload_n 3, 1) := by decide +kernel
theorem dX12_latest_111 : decode cX12_latest 111 = .ok (.if_icmp .le 13, 3) := by decide +kernel
theorem dX12_latest_114 : decode cX12_latest 114 = .ok (.aload_n 0, 1) := by decide +kernel
theorem dX12_latest_115 : decode cX12_latest 115 = .ok (.getfield 10, 3) := by decide +kernel
theorem dX12_latest_118 : decode cX12_latest 118 = .ok (.iload 5, 2) := by decide +kernel
theorem dX12_latest_120 : decode cX12_latest 120 = .ok (.iconst 1, 1) := by decide +kernel
theorem dX12_latest_121 : decode cX12_latest 121 = .ok (.iadd, 1) := by decide +kernel
theorem dX12_latest_122 : decode cX12_latest 122 = .ok (.iaload, 1) := by decide +kernel
theorem dX12_latest_123 : decode cX12_latest 123 = .ok (.istore_n 3, 1) := by decide +kernel
theorem dX12_latest_93 : decode cX12_latest 93 = .ok (.iconst 0, 1) := by decide +kernel
theorem dX12_latest_89 : decode cX12_latest 89 = .ok (.iconst 1, 1) := by decide +kernel
theorem dX12_latest_90 : decode cX12_latest 90 = .ok (.goto 4, 3) := by decide +kernel
theorem dX12_latest_58 : decode cX12_latest 58 = .ok (.iload_n 2, 1) := by decide +kernel
theorem dX12_latest_59 : decode cX12_latest 59 = .ok (.iconst (-1), 1) := by decide +kernel
theorem dX12_latest_60 : decode cX12_latest 60 = .ok (.if_icmp .eq 33, 3) := by decide +kernel
theorem dX12_latest_63 : decode cX12_latest 63 = .ok (.aload_n 0, 1) := by decide +kernel
theorem dX12_latest_64 : decode cX12_latest 64 = .ok (.getfield 10, 3) := by decide +kernel
theorem dX12_latest_67 : decode cX12_latest 67 = .ok (.iload 5, 2) := by decide +kernel
theorem dX12_latest_69 : decode cX12_latest 69 = .ok (.iconst 4, 1) := by decide +kernel
theorem dX12_latest_70 : decode cX12_latest 70 = .ok (.iadd, 1) := by decide +kernel
theorem dX12_latest_71 : decode cX12_latest 71 = .ok (.iaload, 1) := by decide +kernel
theorem dX12_latest_72 : decode cX12_latest 72 = .ok (.iload_n 2, 1) := by decide +kernel
theorem dX12_latest_73 : decode cX12_latest 73 = .ok (.if_icmp .eq 16, 3) := by decide +kernel
theorem dX12_latest_76 : decode cX12_latest 76 = .ok (.aload_n 0, 1) := by decide +kernel
theorem dX12_latest_77 : decode cX12_latest 77 = .ok (.getfield 10, 3) := by decide +kernel
theorem dX12_latest_80 : decode cX12_latest 80 = .ok (.iload 5, 2) := by decide +kernel
theorem dX12_latest_82 : decode cX12_latest 82 = .ok (.iconst 5, 1) := by decide +kernel
theorem dX12_latest_83 : decode cX12_latest 83 = .ok (.iadd, 1) := by decide +kernel
theorem dX12_latest_84 : decode cX12_latest 84 = .ok (.iaload, 1) := by decide +kernel
theorem dX12_latest_85 : decode cX12_latest 85 = .ok (.iload_n 2, 1) := by decide +kernel
theorem dX12_latest_86 : decode cX12_latest 86 = .ok (.if_icmp .ne 7, 3) := by decide +kernel
theorem dX12_latest_5 : decode cX12_latest 5 = .ok (.iload 4, 2) := by decide +kernel
theorem dX12_latest_7 : decode cX12_latest 7 = .ok (.aload_n 0, 1) := by decide +kernel
theorem dX12_latest_8 : decode cX12_latest 8 = .ok (.getfield 10, 3) := by decide +kernel
theorem dX12_latest_11 : decode cX12_latest 11 = .ok (.iconst 5, 1) := by decide +kernel
theorem dX12_latest_12 : decode cX12_latest 12 = .ok (.iaload, 1) := by decide +kernel
theorem dX12_latest_13 : decode cX12_latest 13 = .ok (.if_icmp .ge 117, 3) := by decide +kernel
theorem dX12_latest_16 : decode cX12_latest 16 = .ok (.sipush 28752, 3) := by decide +kernel
theorem dX12_latest_19 : decode cX12_latest 19 = .ok (.bipush 7, 2) := by decide +kernel
theorem dX12_latest_21 : decode cX12_latest 21 = .ok (.iload 4, 2) := by decide +kernel
theorem dX12_latest_23 : decode cX12_latest 23 = .ok (.imul, 1) := by decide +kernel
theorem dX12_latest_24 : decode cX12_latest 24 = .ok (.iadd, 1) := by decide +kernel
theorem dX12_latest_25 : decode cX12_latest 25 = .ok (.istore 5, 2) := by decide +kernel
theorem dX12_latest_27 : decode cX12_latest 27 = .ok (.iload_n 1, 1) := by decide +kernel
theorem dX12_latest_28 : decode cX12_latest 28 = .ok (.iconst (-1), 1) := by decide +kernel
theorem dX12_latest_29 : decode cX12_latest 29 = .ok (.if_icmp .eq 29, 3) := by decide +kernel
theorem dX12_latest_32 : decode cX12_latest 32 = .ok (.aload_n 0, 1) := by decide +kernel
theorem dX12_latest_33 : decode cX12_latest 33 = .ok (.getfield 10, 3) := by decide +kernel
theorem dX12_latest_36 : decode cX12_latest 36 = .ok (.iload 5, 2) := by decide +kernel
theorem dX12_latest_38 : decode cX12_latest 38 = .ok (.iconst 2, 1) := by decide +kernel
theorem dX12_latest_39 : decode cX12_latest 39 = .ok (.iadd, 1) := by decide +kernel
theorem dX12_latest_40 : decode cX12_latest 40 = .ok (.iaload, 1) := by decide +kernel
theorem dX12_latest_41 : decode cX12_latest 41 = .ok (.iload_n 1, 1) := by decide +kernel
theorem dX12_latest_42 : decode cX12_latest 42 = .ok (.if_icmp .eq 47, 3) := by decide +kernel
theorem dX12_latest_45 : decode cX12_latest 45 = .ok (.aload_n 0, 1) := by decide +kernel
theorem dX12_latest_46 : decode cX12_latest 46 = .ok (.getfield 10, 3) := by decide +kernel
theorem dX12_latest_49 : decode cX12_latest 49 = .ok (.iload 5, 2) := by decide +kernel
theorem dX12_latest_51 : decode cX12_latest 51 = .ok (.iconst 3, 1) := by decide +kernel
theorem dX12_latest_52 : decode cX12_latest 52 = .ok (.iadd, 1) := by decide +kernel
theorem dX12_latest_53 : decode cX12_latest 53 = .ok (.iaload, 1) := by decide +kernel
theorem dX12_latest_54 : decode cX12_latest 54 = .ok (.iload_n 1, 1) := by decide +kernel
theorem dX12_latest_55 : decode cX12_latest 55 = .ok (.if_icmp .eq 34, 3) := by decide +kernel
theorem dX12_latest_0 : decode cX12_latest 0 = .ok (.iconst (-1), 1) := by decide +kernel
theorem dX12_latest_1 : decode cX12_latest 1 = .ok (.istore_n 3, 1) := by decide +kernel
theorem dX12_latest_2 : decode cX12_latest 2 = .ok (.iconst 0, 1) := by decide +kernel
theorem dX12_latest_3 : decode cX12_latest 3 = .ok (.istore 4, 2) := by decide +kernel
theorem dX12_isEarly_19 : decode cX12_isEarly 19 = .ok (.ireturn, 1) := by decide +kernel
theorem dX12_isEarly_18 : decode cX12_isEarly 18 = .ok (.iconst 0, 1) := by decide +kernel
theorem dX12_isEarly_0 : decode cX12_isEarly 0 = .ok (.iload_n 2, 1) := by decide +kernel
theorem dX12_isEarly_1 : decode cX12_isEarly 1 = .ok (.aload_n 0, 1) := by decide +kernel
theorem dX12_isEarly_2 : decode cX12_isEarly 2 = .ok (.iload_n 1, 1) := by decide +kernel
theorem dX12_isEarly_3 : decode cX12_isEarly 3 = .ok (.aload_n 0, 1) := by decide +kernel
theorem dX12_isEarly_4 : decode cX12_isEarly 4 = .ok (.iload_n 1, 1) := by decide +kernel
theorem dX12_isEarly_5 : decode cX12_isEarly 5 = .ok (.invokevirtual 141, 3) := by decide +kernel
theorem dX12_isEarly_8 : decode cX12_isEarly 8 = .ok (.invokevirtual 144, 3) := by decide +kernel
theorem dX12_isEarly_11 : decode cX12_isEarly 11 = .ok (.if_icmp .ge 7, 3) := by decide +kernel
theorem dX12_isEarly_14 : decode cX12_isEarly 14 = .ok (.iconst 1, 1) := by decide +kernel
theorem dX12_isEarly_15 : decode cX12_isEarly 15 = .ok (.goto 4, 3) := by decide +kernel
theorem dX12_paper_0 : decode cX12_paper 0 = .ok (.aload_n 0, 1) := by decide +kernel
theorem dX12_paper_1 : decode cX12_paper 1 = .ok (.getfield 10, 3) := by decide +kernel
theorem dX12_paper_4 : decode cX12_paper 4 = .ok (.iconst 5, 1) := by decide +kernel
theorem dX12_paper_5 : decode cX12_paper 5 = .ok (.iaload, 1) := by decide +kernel
theorem dX12_paper_6 : decode cX12_paper 6 = .ok (.istore 6, 2) := by decide +kernel
theorem dX12_paper_8 : decode cX12_paper 8 = .ok (.sipush 28752, 3) := by decide +kernel
theorem dX12_paper_11 : decode cX12_paper 11 = .ok (.bipush 7, 2) := by decide +kernel
theorem dX12_paper_13 : decode cX12_paper 13 = .ok (.iload 6, 2) := by decide +kernel
theorem dX12_paper_15 : decode cX12_paper 15 = .ok (.imul, 1) := by decide +kernel
theorem dX12_paper_16 : decode cX12_paper 16 = .ok (.iadd, 1) := by decide +kernel
theorem dX12_paper_17 : decode cX12_paper 17 = .ok (.istore 7, 2) := by decide +kernel
theorem dX12_paper_19 : decode cX12_paper 19 = .ok (.aload_n 0, 1) := by decide +kernel
theorem dX12_paper_20 : decode cX12_paper 20 = .ok (.getfield 10, 3) := by decide +kernel
theorem dX12_paper_23 : decode cX12_paper 23 = .ok (.iload 7, 2) := by decide +kernel
theorem dX12_paper_25 : decode cX12_paper 25 = .ok (.aload_n 0, 1) := by decide +kernel
theorem dX12_paper_26 : decode cX12_paper 26 = .ok (.getfield 10, 3) := by decide +kernel
theorem dX12_paper_29 : decode cX12_paper 29 = .ok (.iconst 0, 1) := by decide +kernel
theorem dX12_paper_30 : decode cX12_paper 30 = .ok (.iaload, 1) := by decide +kernel
theorem dX12_paper_31 : decode cX12_paper 31 = .ok (.iastore, 1) := by decide +kernel
theorem dX12_paper_32 : decode cX12_paper 32 = .ok (.aload_n 0, 1) := by decide +kernel
theorem dX12_paper_33 : decode cX12_paper 33 = .ok (.getfield 10, 3) := by decide +kernel
theorem dX12_paper_36 : decode cX12_paper 36 = .ok (.iload 7, 2) := by decide +kernel
theorem dX12_paper_38 : decode cX12_paper 38 = .ok (.iconst 1, 1) := by decide +kernel
theorem dX12_paper_39 : decode cX12_paper 39 = .ok (.iadd, 1) := by decide +kernel
theorem dX12_paper_40 : decode cX12_paper 40 = .ok (.iload_n 1, 1) := by decide +kernel
theorem dX12_paper_41 : decode cX12_paper 41 = .ok (.iastore, 1) := by decide +kernel
theorem dX12_paper_42 : decode cX12_paper 42 = .ok (.aload_n 0, 1) := by decide +kernel
theorem dX12_paper_43 : decode cX12_paper 43 = .ok (.getfield 10, 3) := by decide +kernel
theorem dX12_paper_46 : decode cX12_paper 46 = .ok (.iload 7, 2) := by decide +kernel
theorem dX12_paper_48 : decode cX12_paper 48 = .ok (.iconst 2, 1) := by decide +kernel
theorem dX12_paper_49 : decode cX12_paper 49 = .ok (.iadd, 1) := by decide +kernel
theorem dX12_paper_50 : decode cX12_paper 50 = .ok (.iload_n 2, 1) := by decide +kernel
theorem dX12_paper_51 : decode cX12_paper 51 = .ok (.iastore, 1) := by decide +kernel
theorem dX12_paper_52 : decode cX12_paper 52 = .ok (.aload_n 0, 1) := by decide +kernel
theorem dX12_paper_53 : decode cX12_paper 53 = .ok (.getfield 10, 3) := by decide +kernel
theorem dX12_paper_56 : decode cX12_paper 56 = .ok (.iload 7, 2) := by decide +kernel
theorem dX12_paper_58 : decode cX12_paper 58 = .ok (.iconst 3, 1) := by decide +kernel
theorem dX12_paper_59 : decode cX12_paper 59 = .ok (.iadd, 1) := by decide +kernel
theorem dX12_paper_60 : decode cX12_paper 60 = .ok (.iload_n 3, 1) := by decide +kernel
theorem dX12_paper_61 : decode cX12_paper 61 = .ok (.iastore, 1) := by decide +kernel
theorem dX12_paper_62 : decode cX12_paper 62 = .ok (.aload_n 0, 1) := by decide +kernel
theorem dX12_paper_63 : decode cX12_paper 63 = .ok (.getfield 10, 3) := by decide +kernel
theorem dX12_paper_66 : decode cX12_paper 66 = .ok (.iload 7, 2) := by decide +kernel
theorem dX12_paper_68 : decode cX12_paper 68 = .ok (.iconst 4, 1) := by decide +kernel
theorem dX12_paper_69 : decode cX12_paper 69 = .ok (.iadd, 1) := by decide +kernel
theorem dX12_paper_70 : decode cX12_paper 70 = .ok (.iload 4, 2) := by decide +kernel
theorem dX12_paper_72 : decode cX12_paper 72 = .ok (.iastore, 1) := by decide +kernel
theorem dX12_paper_73 : decode cX12_paper 73 = .ok (.aload_n 0, 1) := by decide +kernel
theorem dX12_paper_74 : decode cX12_paper 74 = .ok (.getfield 10, 3) := by decide +kernel
theorem dX12_paper_77 : decode cX12_paper 77 = .ok (.iload 7, 2) := by decide +kernel
theorem dX12_paper_79 : decode cX12_paper 79 = .ok (.iconst 5, 1) := by decide +kernel
theorem dX12_paper_80 : decode cX12_paper 80 = .ok (.iadd, 1) := by decide +kernel
theorem dX12_paper_81 : decode cX12_paper 81 = .ok (.iload 5, 2) := by decide +kernel
theorem dX12_paper_83 : decode cX12_paper 83 = .ok (.iastore, 1) := by decide +kernel
theorem dX12_paper_84 : decode cX12_paper 84 = .ok (.aload_n 0, 1) := by decide +kernel
theorem dX12_paper_85 : decode cX12_paper 85 = .ok (.getfield 10, 3) := by decide +kernel
theorem dX12_paper_88 : decode cX12_paper 88 = .ok (.iload 7, 2) := by decide +kernel
theorem dX12_paper_90 : decode cX12_paper 90 = .ok (.bipush 6, 2) := by decide +kernel
theorem dX12_paper_92 : decode cX12_paper 92 = .ok (.iadd, 1) := by decide +kernel
theorem dX12_paper_93 : decode cX12_paper 93 = .ok (.iconst (-1), 1) := by decide +kernel
theorem dX12_paper_94 : decode cX12_paper 94 = .ok (.iastore, 1) := by decide +kernel
theorem dX12_paper_95 : decode cX12_paper 95 = .ok (.aload_n 0, 1) := by decide +kernel
theorem dX12_paper_96 : decode cX12_paper 96 = .ok (.getfield 10, 3) := by decide +kernel
theorem dX12_paper_99 : decode cX12_paper 99 = .ok (.iconst 5, 1) := by decide +kernel
theorem dX12_paper_100 : decode cX12_paper 100 = .ok (.dup2, 1) := by decide +kernel
theorem dX12_paper_101 : decode cX12_paper 101 = .ok (.iaload, 1) := by decide +kernel
theorem dX12_paper_102 : decode cX12_paper 102 = .ok (.iconst 1, 1) := by decide +kernel
theorem dX12_paper_103 : decode cX12_paper 103 = .ok (.iadd, 1) := by decide +kernel
theorem dX12_paper_104 : decode cX12_paper 104 = .ok (.iastore, 1) := by decide +kernel
theorem dX12_paper_105 : decode cX12_paper 105 = .ok (.iload 6, 2) := by decide +kernel
theorem dX12_paper_107 : decode cX12_paper 107 = .ok (.ireturn, 1) := by decide +kernel
theorem dX12_openName__0 : decode cX12_openName_ 0 = .ok (.sipush 7552, 3) := by decide +kernel
theorem dX12_openName__3 : decode cX12_openName_ 3 = .ok (.iconst 5, 1) := by decide +kernel
theorem dX12_openName__4 : decode cX12_openName_ 4 = .ok (.aload_n 0, 1) := by decide +kernel
theorem dX12_openName__5 : decode cX12_openName_ 5 = .ok (.getfield 10, 3) := by decide +kernel
theorem dX12_openName__8 : decode cX12_openName_ 8 = .ok (.bipush 7, 2) := by decide +kernel
theorem dX12_openName__10 : decode cX12_openName_ 10 = .ok (.iaload, 1) := by decide +kernel
theorem dX12_openName__11 : decode cX12_openName_ 11 = .ok (.imul, 1) := by decide +kernel
theorem dX12_openName__12 : decode cX12_openName_ 12 = .ok (.iadd, 1) := by decide +kernel
theorem dX12_openName__13 : decode cX12_openName_ 13 = .ok (.istore 5, 2) := by decide +kernel
theorem dX12_openName__15 : decode cX12_openName_ 15 = .ok (.aload_n 0, 1) := by decide +kernel
theorem dX12_openName__16 : decode cX12_openName_ 16 = .ok (.getfield 10, 3) := by decide +kernel
theorem dX12_openName__19 : decode cX12_openName_ 19 = .ok (.iload 5, 2) := by decide +kernel
theorem dX12_openName__21 : decode cX12_openName_ 21 = .ok (.iload_n 1, 1) := by decide +kernel
theorem dX12_openName__22 : decode cX12_openName_ 22 = .ok (.iastore, 1) := by decide +kernel
theorem dX12_openName__23 : decode cX12_openName_ 23 = .ok (.aload_n 0, 1) := by decide +kernel
theorem dX12_openName__24 : decode cX12_openName_ 24 = .ok (.getfield 10, 3) := by decide +kernel
theorem dX12_openName__27 : decode cX12_openName_ 27 = .ok (.iload 5, 2) := by decide +kernel
theorem dX12_openName__29 : decode cX12_openName_ 29 = .ok (.iconst 1, 1) := by decide +kernel
theorem dX12_openName__30 : decode cX12_openName_ 30 = .ok (.iadd, 1) := by decide +kernel
theorem dX12_openName__31 : decode cX12_openName_ 31 = .ok (.iload_n 2, 1) := by decide +kernel
theorem dX12_openName__32 : decode cX12_openName_ 32 = .ok (.iastore, 1) := by decide +kernel
theorem dX12_openName__33 : decode cX12_openName_ 33 = .ok (.aload_n 0, 1) := by decide +kernel
theorem dX12_openName__34 : decode cX12_openName_ 34 = .ok (.getfield 10, 3) := by decide +kernel
theorem dX12_openName__37 : decode cX12_openName_ 37 = .ok (.iload 5, 2) := by decide +kernel
theorem dX12_openName__39 : decode cX12_openName_ 39 = .ok (.iconst 2, 1) := by decide +kernel
theorem dX12_openName__40 : decode cX12_openName_ 40 = .ok (.iadd, 1) := by decide +kernel
theorem dX12_openName__41 : decode cX12_openName_ 41 = .ok (.iload_n 3, 1) := by decide +kernel
theorem dX12_openName__42 : decode cX12_openName_ 42 = .ok (.iastore, 1) := by decide +kernel
theorem dX12_openName__43 : decode cX12_openName_ 43 = .ok (.aload_n 0, 1) := by decide +kernel
theorem dX12_openName__44 : decode cX12_openName_ 44 = .ok (.getfield 10, 3) := by decide +kernel
theorem dX12_openName__47 : decode cX12_openName_ 47 = .ok (.iload 5, 2) := by decide +kernel
theorem dX12_openName__49 : decode cX12_openName_ 49 = .ok (.iconst 3, 1) := by decide +kernel
theorem dX12_openName__50 : decode cX12_openName_ 50 = .ok (.iadd, 1) := by decide +kernel
theorem dX12_openName__51 : decode cX12_openName_ 51 = .ok (.iload 4, 2) := by decide +kernel
theorem dX12_openName__53 : decode cX12_openName_ 53 = .ok (.iastore, 1) := by decide +kernel
theorem dX12_openName__54 : decode cX12_openName_ 54 = .ok (.aload_n 0, 1) := by decide +kernel
theorem dX12_openName__55 : decode cX12_openName_ 55 = .ok (.getfield 10, 3) := by decide +kernel
theorem dX12_openName__58 : decode cX12_openName_ 58 = .ok (.iload 5, 2) := by decide +kernel
theorem dX12_openName__60 : decode cX12_openName_ 60 = .ok (.iconst 4, 1) := by decide +kernel
theorem dX12_openName__61 : decode cX12_openName_ 61 = .ok (.iadd, 1) := by decide +kernel
theorem dX12_openName__62 : decode cX12_openName_ 62 = .ok (.iconst (-1), 1) := by decide +kernel
theorem dX12_openName__63 : decode cX12_openName_ 63 = .ok (.iastore, 1) := by decide +kernel
theorem dX12_openName__64 : decode cX12_openName_ 64 = .ok (.aload_n 0, 1) := by decide +kernel
theorem dX12_openName__65 : decode cX12_openName_ 65 = .ok (.getfield 10, 3) := by decide +kernel
theorem dX12_openName__68 : decode cX12_openName_ 68 = .ok (.bipush 7, 2) := by decide +kernel
theorem dX12_openName__70 : decode cX12_openName_ 70 = .ok (.dup2, 1) := by decide +kernel
theorem dX12_openName__71 : decode cX12_openName_ 71 = .ok (.iaload, 1) := by decide +kernel
theorem dX12_openName__72 : decode cX12_openName_ 72 = .ok (.iconst 1, 1) := by decide +kernel
theorem dX12_openName__73 : decode cX12_openName_ 73 = .ok (.iadd, 1) := by decide +kernel
theorem dX12_openName__74 : decode cX12_openName_ 74 = .ok (.iastore, 1) := by decide +kernel
theorem dX12_openName__75 : decode cX12_openName_ 75 = .ok (.return_, 1) := by decide +kernel
theorem dX12_isTaken_115 : decode cX12_isTaken 115 = .ok (.iconst 0, 1) := by decide +kernel
theorem dX12_isTaken_116 : decode cX12_isTaken 116 = .ok (.ireturn, 1) := by decide +kernel
theorem dX12_isTaken_109 : decode cX12_isTaken 109 = .ok (.iinc 3 1, 3) := by decide +kernel
theorem dX12_isTaken_112 : decode cX12_isTaken 112 = .ok (.goto (-110), 3) := by decide +kernel
theorem dX12_isTaken_107 : decode cX12_isTaken 107 = .ok (.iconst 1, 1) := by decide +kernel
theorem dX12_isTaken_108 : decode cX12_isTaken 108 = .ok (.ireturn, 1) := by decide +kernel
theorem dX12_isTaken_58 : decode cX12_isTaken 58 = .ok (.aload_n 0, 1) := by decide +kernel
theorem dX12_isTaken_59 : decode cX12_isTaken 59 = .ok (.getfield 10, 3) := by decide +kernel
theorem dX12_isTaken_62 : decode cX12_isTaken 62 = .ok (.iload 4, 2) := by decide +kernel
theorem dX12_isTaken_64 : decode cX12_isTaken 64 = .ok (.iconst 4, 1) := by decide +kernel
theorem dX12_isTaken_65 : decode cX12_isTaken 65 = .ok (.iadd, 1) := by decide +kernel
theorem dX12_isTaken_66 : decode cX12_isTaken 66 = .ok (.iaload, 1) := by decide +kernel
theorem dX12_isTaken_67 : decode cX12_isTaken 67 = .ok (.istore 5, 2) := by decide +kernel
theorem dX12_isTaken_69 : decode cX12_isTaken 69 = .ok (.iload 5, 2) := by decide +kernel
theorem dX12_isTaken_71 : decode cX12_isTaken 71 = .ok (.iconst (-1), 1) := by decide +kernel
theorem dX12_isTaken_72 : decode cX12_isTaken 72 = .ok (.if_icmp .eq 35, 3) := by decide +kernel
theorem dX12_isTaken_75 : decode cX12_isTaken 75 = .ok (.aload_n 0, 1) := by decide +kernel
theorem dX12_isTaken_76 : decode cX12_isTaken 76 = .ok (.iload 5, 2) := by decide +kernel
theorem dX12_isTaken_78 : decode cX12_isTaken 78 = .ok (.invokevirtual 102, 3) := by decide +kernel
theorem dX12_isTaken_81 : decode cX12_isTaken 81 = .ok (.iload_n 2, 1) := by decide +kernel
theorem dX12_isTaken_82 : decode cX12_isTaken 82 = .ok (.if_icmp .le 27, 3) := by decide +kernel
theorem dX12_isTaken_85 : decode cX12_isTaken 85 = .ok (.aload_n 0, 1) := by decide +kernel
theorem dX12_isTaken_86 : decode cX12_isTaken 86 = .ok (.iload 5, 2) := by decide +kernel
theorem dX12_isTaken_88 : decode cX12_isTaken 88 = .ok (.invokevirtual 102, 3) := by decide +kernel
theorem dX12_isTaken_91 : decode cX12_isTaken 91 = .ok (.aload_n 0, 1) := by decide +kernel
theorem dX12_isTaken_92 : decode cX12_isTaken 92 = .ok (.aload_n 0, 1) := by decide +kernel
theorem dX12_isTaken_93 : decode cX12_isTaken 93 = .ok (.getfield 10, 3) := by decide +kernel
theorem dX12_isTaken_96 : decode cX12_isTaken 96 = .ok (.iload 4, 2) := by decide +kernel
theorem dX12_isTaken_98 : decode cX12_isTaken 98 = .ok (.iconst 3, 1) := by decide +kernel
theorem dX12_isTaken_99 : decode cX12_isTaken 99 = .ok (.iadd, 1) := by decide +kernel
theorem dX12_isTaken_100 : decode cX12_isTaken 100 = .ok (.iaload, 1) := by decide +kernel
theorem dX12_isTaken_101 : decode cX12_isTaken 101 = .ok (.invokevirtual 102, 3) := by decide +kernel
theorem dX12_isTaken_104 : decode cX12_isTaken 104 = .ok (.if_icmp .le 5, 3) := by decide +kernel
theorem dX12_isTaken_2 : decode cX12_isTaken 2 = .ok (.iload_n 3, 1) := by decide +kernel
theorem dX12_isTaken_3 : decode cX12_isTaken 3 = .ok (.aload_n 0, 1) := by decide +kernel
theorem dX12_isTaken_4 : decode cX12_isTaken 4 = .ok (.getfield 10, 3) := by decide +kernel
theorem dX12_isTaken_7 : decode cX12_isTaken 7 = .ok (.bipush 7, 2) := by decide +kernel
theorem dX12_isTaken_9 : decode cX12_isTaken 9 = .ok (.iaload, 1) := by decide +kernel
theorem dX12_isTaken_10 : decode cX12_isTaken 10 = .ok (.if_icmp .ge 105, 3) := by decide +kernel
theorem dX12_isTaken_13 : decode cX12_isTaken 13 = .ok (.sipush 7552, 3) := by decide +kernel
theorem dX12_isTaken_16 : decode cX12_isTaken 16 = .ok (.iconst 5, 1) := by decide +kernel
theorem dX12_isTaken_17 : decode cX12_isTaken 17 = .ok (.iload_n 3, 1) := by decide +kernel
theorem dX12_isTaken_18 : decode cX12_isTaken 18 = .ok (.imul, 1) := by decide +kernel
theorem dX12_isTaken_19 : decode cX12_isTaken 19 = .ok (.iadd, 1) := by decide +kernel
theorem dX12_isTaken_20 : decode cX12_isTaken 20 = .ok (.istore 4, 2) := by decide +kernel
theorem dX12_isTaken_22 : decode cX12_isTaken 22 = .ok (.aload_n 0, 1) := by decide +kernel
theorem dX12_isTaken_23 : decode cX12_isTaken 23 = .ok (.getfield 10, 3) := by decide +kernel
theorem dX12_isTaken_26 : decode cX12_isTaken 26 = .ok (.iload 4, 2) := by decide +kernel
theorem dX12_isTaken_28 : decode cX12_isTaken 28 = .ok (.iconst 1, 1) := by decide +kernel
theorem dX12_isTaken_29 : decode cX12_isTaken 29 = .ok (.iadd, 1) := by decide +kernel
theorem dX12_isTaken_30 : decode cX12_isTaken 30 = .ok (.iaload, 1) := by decide +kernel
theorem dX12_isTaken_31 : decode cX12_isTaken 31 = .ok (.iload_n 1, 1) := by decide +kernel
theorem dX12_isTaken_32 : decode cX12_isTaken 32 = .ok (.if_icmp .ne 77, 3) := by decide +kernel
theorem dX12_isTaken_35 : decode cX12_isTaken 35 = .ok (.aload_n 0, 1) := by decide +kernel
theorem dX12_isTaken_36 : decode cX12_isTaken 36 = .ok (.aload_n 0, 1) := by decide +kernel
theorem dX12_isTaken_37 : decode cX12_isTaken 37 = .ok (.getfield 42, 3) := by decide +kernel
theorem dX12_isTaken_40 : decode cX12_isTaken 40 = .ok (.aload_n 0, 1) := by decide +kernel
theorem dX12_isTaken_41 : decode cX12_isTaken 41 = .ok (.getfield 10, 3) := by decide +kernel
theorem dX12_isTaken_44 : decode cX12_isTaken 44 = .ok (.iload 4, 2) := by decide +kernel
theorem dX12_isTaken_46 : decode cX12_isTaken 46 = .ok (.iconst 2, 1) := by decide +kernel
theorem dX12_isTaken_47 : decode cX12_isTaken 47 = .ok (.iadd, 1) := by decide +kernel
theorem dX12_isTaken_48 : decode cX12_isTaken 48 = .ok (.iaload, 1) := by decide +kernel
theorem dX12_isTaken_49 : decode cX12_isTaken 49 = .ok (.invokevirtual 127, 3) := by decide +kernel
theorem dX12_isTaken_52 : decode cX12_isTaken 52 = .ok (.ifCond .ne 6, 3) := by decide +kernel
theorem dX12_isTaken_55 : decode cX12_isTaken 55 = .ok (.goto 54, 3) := by decide +kernel
theorem dX12_isTaken_0 : decode cX12_isTaken 0 = .ok (.iconst 0, 1) := by decide +kernel
theorem dX12_isTaken_1 : decode cX12_isTaken 1 = .ok (.istore_n 3, 1) := by decide +kernel
theorem dX12_street_105 : decode cX12_street 105 = .ok (.aload_n 0, 1) := by decide +kernel
theorem dX12_street_106 : decode cX12_street 106 = .ok (.getfield 10, 3) := by decide +kernel
theorem dX12_street_109 : decode cX12_street 109 = .ok (.iconst 3, 1) := by decide +kernel
theorem dX12_street_110 : decode cX12_street 110 = .ok (.iaload, 1) := by decide +kernel
theorem dX12_street_111 : decode cX12_street 111 = .ok (.istore 5, 2) := by decide +kernel
theorem dX12_street_113 : decode cX12_street 113 = .ok (.aload_n 0, 1) := by decide +kernel
theorem dX12_street_114 : decode cX12_street 114 = .ok (.iload_n 3, 1) := by decide +kernel
theorem dX12_street_115 : decode cX12_street 115 = .ok (.iload 5, 2) := by decide +kernel
theorem dX12_street_117 : decode cX12_street 117 = .ok (.iconst (-1), 1) := by decide +kernel
theorem dX12_street_118 : decode cX12_street 118 = .ok (.iconst (-1), 1) := by decide +kernel
theorem dX12_street_119 : decode cX12_street 119 = .ok (.iconst (-1), 1) := by decide +kernel
theorem dX12_street_120 : decode cX12_street 120 = .ok (.invokevirtual 154, 3) := by decide +kernel
theorem dX12_street_123 : decode cX12_street 123 = .ok (.istore 6, 2) := by decide +kernel
theorem dX12_street_125 : decode cX12_street 125 = .ok (.aload_n 0, 1) := by decide +kernel
theorem dX12_street_126 : decode cX12_street 126 = .ok (.getfield 10, 3) := by decide +kernel
theorem dX12_street_129 : decode cX12_street 129 = .ok (.iconst 3, 1) := by decide +kernel
theorem dX12_street_130 : decode cX12_street 130 = .ok (.dup2, 1) := by decide +kernel
theorem dX12_street_131 : decode cX12_street 131 = .ok (.iaload, 1) := by decide +kernel
theorem dX12_street_132 : decode cX12_street 132 = .ok (.iconst 1, 1) := by decide +kernel
theorem dX12_street_133 : decode cX12_street 133 = .ok (.iadd, 1) := by decide +kernel
theorem dX12_street_134 : decode cX12_street 134 = .ok (.iastore, 1) := by decide +kernel
theorem dX12_street_135 : decode cX12_street 135 = .ok (.aload_n 0, 1) := by decide +kernel
theorem dX12_street_136 : decode cX12_street 136 = .ok (.getfield 10, 3) := by decide +kernel
theorem dX12_street_139 : decode cX12_street 139 = .ok (.sipush 7528, 3) := by decide +kernel
theorem dX12_street_142 : decode cX12_street 142 = .ok (.iload 5, 2) := by decide +kernel
theorem dX12_street_144 : decode cX12_street 144 = .ok (.iadd, 1) := by decide +kernel
theorem dX12_street_145 : decode cX12_street 145 = .ok (.iload_n 2, 1) := by decide +kernel
theorem dX12_street_146 : decode cX12_street 146 = .ok (.iastore, 1) := by decide +kernel
theorem dX12_street_147 : decode cX12_street 147 = .ok (.aload_n 0, 1) := by decide +kernel
theorem dX12_street_148 : decode cX12_street 148 = .ok (.bipush 8, 2) := by decide +kernel
theorem dX12_street_150 : decode cX12_street 150 = .ok (.iload 6, 2) := by decide +kernel
theorem dX12_street_152 : decode cX12_street 152 = .ok (.iadd, 1) := by decide +kernel
theorem dX12_street_153 : decode cX12_street 153 = .ok (.invokevirtual 131, 3) := by decide +kernel
theorem dX12_street_156 : decode cX12_street 156 = .ok (.aload_n 0, 1) := by decide +kernel
theorem dX12_street_157 : decode cX12_street 157 = .ok (.iload 5, 2) := by decide +kernel
theorem dX12_street_159 : decode cX12_street 159 = .ok (.iload_n 1, 1) := by decide +kernel
theorem dX12_street_160 : decode cX12_street 160 = .ok (.bipush 8, 2) := by decide +kernel
theorem dX12_street_162 : decode cX12_street 162 = .ok (.iload 6, 2) := by decide +kernel
theorem dX12_street_164 : decode cX12_street 164 = .ok (.iadd, 1) := by decide +kernel
theorem dX12_street_165 : decode cX12_street 165 = .ok (.iload 6, 2) := by decide +kernel
theorem dX12_street_167 : decode cX12_street 167 = .ok (.invokevirtual 158, 3) := by decide +kernel
theorem dX12_street_170 : decode cX12_street 170 = .ok (.aload_n 0, 1) := by decide +kernel
theorem dX12_street_171 : decode cX12_street 171 = .ok (.getfield 10, 3) := by decide +kernel
theorem dX12_street_174 : decode cX12_street 174 = .ok (.sipush 30632, 3) := by decide +kernel
theorem dX12_street_177 : decode cX12_street 177 = .ok (.sipush 1202, 3) := by decide +kernel
theorem dX12_street_180 : decode cX12_street 180 = .ok (.iload 5, 2) := by decide +kernel
theorem dX12_street_182 : decode cX12_street 182 = .ok (.imul, 1) := by decide +kernel
theorem dX12_street_183 : decode cX12_street 183 = .ok (.iadd, 1) := by decide +kernel
theorem dX12_street_184 : decode cX12_street 184 = .ok (.iconst (-1), 1) := by decide +kernel
theorem dX12_street_185 : decode cX12_street 185 = .ok (.iastore, 1) := by decide +kernel
theorem dX12_street_186 : decode cX12_street 186 = .ok (.aload_n 0, 1) := by decide +kernel
theorem dX12_street_187 : decode cX12_street 187 = .ok (.getfield 10, 3) := by decide +kernel
theorem dX12_street_190 : decode cX12_street 190 = .ok (.sipush 30632, 3) := by decide +kernel
theorem dX12_street_193 : decode cX12_street 193 = .ok (.sipush 601, 3) := by decide +kernel
theorem dX12_street_196 : decode cX12_street 196 = .ok (.iconst 2, 1) := by decide +kernel
theorem dX12_street_197 : decode cX12_street 197 = .ok (.iload 5, 2) := by decide +kernel
theorem dX12_street_199 : decode cX12_street 199 = .ok (.imul, 1) := by decide +kernel
theorem dX12_street_200 : decode cX12_street 200 = .ok (.iconst 1, 1) := by decide +kernel
theorem dX12_street_201 : decode cX12_street 201 = .ok (.iadd, 1) := by decide +kernel
theorem dX12_street_202 : decode cX12_street 202 = .ok (.imul, 1) := by decide +kernel
theorem dX12_street_203 : decode cX12_street 203 = .ok (.iadd, 1) := by decide +kernel
theorem dX12_street_204 : decode cX12_street 204 = .ok (.iconst (-1), 1) := by decide +kernel
theorem dX12_street_205 : decode cX12_street 205 = .ok (.iastore, 1) := by decide +kernel
theorem dX12_street_206 : decode cX12_street 206 = .ok (.iload 5, 2) := by decide +kernel
theorem dX12_street_208 : decode cX12_street 208 = .ok (.ireturn, 1) := by decide +kernel
theorem dX12_street_102 : decode cX12_street 102 = .ok (.bipush (-6), 2) := by decide +kernel
theorem dX12_street_104 : decode cX12_street 104 = .ok (.ireturn, 1) := by decide +kernel
theorem dX12_street_79 : decode cX12_street 79 = .ok (.aload_n 0, 1) := by decide +kernel
theorem dX12_street_80 : decode cX12_street 80 = .ok (.getfield 10, 3) := by decide +kernel
theorem dX12_street_83 : decode cX12_street 83 = .ok (.iconst 3, 1) := by decide +kernel
theorem dX12_street_84 : decode cX12_street 84 = .ok (.iaload, 1) := by decide +kernel
theorem dX12_street_85 : decode cX12_street 85 = .ok (.bipush 24, 2) := by decide +kernel
theorem dX12_street_87 : decode cX12_street 87 = .ok (.if_icmp .eq 15, 3) := by decide +kernel
theorem dX12_street_90 : decode cX12_street 90 = .ok (.aload_n 0, 1) := by decide +kernel
theorem dX12_street_91 : decode cX12_street 91 = .ok (.getfield 10, 3) := by decide +kernel
theorem dX12_street_94 : decode cX12_street 94 = .ok (.iconst 5, 1) := by decide +kernel
theorem dX12_street_95 : decode cX12_street 95 = .ok (.iaload, 1) := by decide +kernel
theorem dX12_street_96 : decode cX12_street 96 = .ok (.sipush 200, 3) := by decide +kernel
theorem dX12_street_99 : decode cX12_street 99 = .ok (.if_icmp .ne 6, 3) := by decide +kernel
theorem dX12_street_67 : decode cX12_street 67 = .ok (.aload_n 0, 1) := by decide +kernel
theorem dX12_street_68 : decode cX12_street 68 = .ok (.iload_n 1, 1) := by decide +kernel
theorem dX12_street_69 : decode cX12_street 69 = .ok (.iload_n 3, 1) := by decide +kernel
theorem dX12_street_70 : decode cX12_street 70 = .ok (.invokevirtual 151, 3) := by decide +kernel
theorem dX12_street_73 : decode cX12_street 73 = .ok (.ifCond .eq 6, 3) := by decide +kernel
theorem dX12_street_76 : decode cX12_street 76 = .ok (.bipush (-5), 2) := by decide +kernel
theorem dX12_street_78 : decode cX12_street 78 = .ok (.ireturn, 1) := by decide +kernel
theorem dX12_street_54 : decode cX12_street 54 = .ok (.iload_n 3, 1) := by decide +kernel
theorem dX12_street_55 : decode cX12_street 55 = .ok (.aload_n 0, 1) := by decide +kernel
theorem dX12_street_56 : decode cX12_street 56 = .ok (.iconst (-1), 1) := by decide +kernel
theorem dX12_street_57 : decode cX12_street 57 = .ok (.iload_n 1, 1) := by decide +kernel
theorem dX12_street_58 : decode cX12_street 58 = .ok (.invokevirtual 144, 3) := by decide +kernel
theorem dX12_street_61 : decode cX12_street 61 = .ok (.if_icmp .ge 6, 3) := by decide +kernel
theorem dX12_street_64 : decode cX12_street 64 = .ok (.bipush (-3), 2) := by decide +kernel
theorem dX12_street_66 : decode cX12_street 66 = .ok (.ireturn, 1) := by decide +kernel
theorem dX12_street_51 : decode cX12_street 51 = .ok (.bipush (-2), 2) := by decide +kernel
theorem dX12_street_53 : decode cX12_street 53 = .ok (.ireturn, 1) := by decide +kernel
theorem dX12_street_30 : decode cX12_street 30 = .ok (.iload 4, 2) := by decide +kernel
theorem dX12_street_32 : decode cX12_street 32 = .ok (.ifCond .eq 19, 3) := by decide +kernel
theorem dX12_street_35 : decode cX12_street 35 = .ok (.iload_n 2, 1) := by decide +kernel
theorem dX12_street_36 : decode cX12_street 36 = .ok (.ifCond .lt 15, 3) := by decide +kernel
theorem dX12_street_39 : decode cX12_street 39 = .ok (.iload_n 2, 1) := by decide +kernel
theorem dX12_street_40 : decode cX12_street 40 = .ok (.iconst 3, 1) := by decide +kernel
theorem dX12_street_41 : decode cX12_street 41 = .ok (.if_icmp .gt 10, 3) := by decide +kernel
theorem dX12_street_44 : decode cX12_street 44 = .ok (.iload_n 3, 1) := by decide +kernel
theorem dX12_street_45 : decode cX12_street 45 = .ok (.invokestatic 95, 3) := by decide +kernel
theorem dX12_street_48 : decode cX12_street 48 = .ok (.ifCond .ne 6, 3) := by decide +kernel
theorem dX12_street_28 : decode cX12_street 28 = .ok (.iconst (-1), 1) := by decide +kernel
theorem dX12_street_29 : decode cX12_street 29 = .ok (.ireturn, 1) := by decide +kernel
theorem dX12_street_0 : decode cX12_street 0 = .ok (.aload_n 0, 1) := by decide +kernel
theorem dX12_street_1 : decode cX12_street 1 = .ok (.invokevirtual 123, 3) := by decide +kernel
theorem dX12_street_4 : decode cX12_street 4 = .ok (.istore 4, 2) := by decide +kernel
theorem dX12_street_6 : decode cX12_street 6 = .ok (.aload_n 0, 1) := by decide +kernel
theorem dX12_street_7 : decode cX12_street 7 = .ok (.iload_n 1, 1) := by decide +kernel
theorem dX12_street_8 : decode cX12_street 8 = .ok (.invokevirtual 148, 3) := by decide +kernel
theorem dX12_street_11 : decode cX12_street 11 = .ok (.ifCond .eq 17, 3) := by decide +kernel
theorem dX12_street_14 : decode cX12_street 14 = .ok (.aload_n 0, 1) := by decide +kernel
theorem dX12_street_15 : decode cX12_street 15 = .ok (.getfield 10, 3) := by decide +kernel
theorem dX12_street_18 : decode cX12_street 18 = .ok (.sipush 7520, 3) := by decide +kernel
theorem dX12_street_21 : decode cX12_street 21 = .ok (.iload_n 1, 1) := by decide +kernel
theorem dX12_street_22 : decode cX12_street 22 = .ok (.iadd, 1) := by decide +kernel
theorem dX12_street_23 : decode cX12_street 23 = .ok (.iaload, 1) := by decide +kernel
theorem dX12_street_24 : decode cX12_street 24 = .ok (.iconst (-1), 1) := by decide +kernel
theorem dX12_street_25 : decode cX12_street 25 = .ok (.if_icmp .eq 5, 3) := by decide +kernel
theorem dX12_rename_76 : decode cX12_rename 76 = .ok (.aload_n 0, 1) := by decide +kernel
theorem dX12_rename_77 : decode cX12_rename 77 = .ok (.iload_n 1, 1) := by decide +kernel
theorem dX12_rename_78 : decode cX12_rename 78 = .ok (.invokevirtual 138, 3) := by decide +kernel
theorem dX12_rename_81 : decode cX12_rename 81 = .ok (.istore 5, 2) := by decide +kernel
theorem dX12_rename_83 : decode cX12_rename 83 = .ok (.aload_n 0, 1) := by decide +kernel
theorem dX12_rename_84 : decode cX12_rename 84 = .ok (.iload_n 2, 1) := by decide +kernel
theorem dX12_rename_85 : decode cX12_rename 85 = .ok (.iload_n 1, 1) := by decide +kernel
theorem dX12_rename_86 : decode cX12_rename 86 = .ok (.iconst (-1), 1) := by decide +kernel
theorem dX12_rename_87 : decode cX12_rename 87 = .ok (.iconst (-1), 1) := by decide +kernel
theorem dX12_rename_88 : decode cX12_rename 88 = .ok (.iconst (-1), 1) := by decide +kernel
theorem dX12_rename_89 : decode cX12_rename 89 = .ok (.invokevirtual 154, 3) := by decide +kernel
theorem dX12_rename_92 : decode cX12_rename 92 = .ok (.istore 6, 2) := by decide +kernel
theorem dX12_rename_94 : decode cX12_rename 94 = .ok (.aload_n 0, 1) := by decide +kernel
theorem dX12_rename_95 : decode cX12_rename 95 = .ok (.bipush 8, 2) := by decide +kernel
theorem dX12_rename_97 : decode cX12_rename 97 = .ok (.iload 6, 2) := by decide +kernel
theorem dX12_rename_99 : decode cX12_rename 99 = .ok (.iadd, 1) := by decide +kernel
theorem dX12_rename_100 : decode cX12_rename 100 = .ok (.invokevirtual 131, 3) := by decide +kernel
theorem dX12_rename_103 : decode cX12_rename 103 = .ok (.aload_n 0, 1) := by decide +kernel
theorem dX12_rename_104 : decode cX12_rename 104 = .ok (.getfield 10, 3) := by decide +kernel
theorem dX12_rename_107 : decode cX12_rename 107 = .ok (.sipush 7552, 3) := by decide +kernel
theorem dX12_rename_110 : decode cX12_rename 110 = .ok (.iconst 5, 1) := by decide +kernel
theorem dX12_rename_111 : decode cX12_rename 111 = .ok (.iload 5, 2) := by decide +kernel
theorem dX12_rename_113 : decode cX12_rename 113 = .ok (.imul, 1) := by decide +kernel
theorem dX12_rename_114 : decode cX12_rename 114 = .ok (.iadd, 1) := by decide +kernel
theorem dX12_rename_115 : decode cX12_rename 115 = .ok (.iconst 4, 1) := by decide +kernel
theorem dX12_rename_116 : decode cX12_rename 116 = .ok (.iadd, 1) := by decide +kernel
theorem dX12_rename_117 : decode cX12_rename 117 = .ok (.iload 6, 2) := by decide +kernel
theorem dX12_rename_119 : decode cX12_rename 119 = .ok (.iastore, 1) := by decide +kernel
theorem dX12_rename_120 : decode cX12_rename 120 = .ok (.aload_n 0, 1) := by decide +kernel
theorem dX12_rename_121 : decode cX12_rename 121 = .ok (.iload_n 1, 1) := by decide +kernel
theorem dX12_rename_122 : decode cX12_rename 122 = .ok (.iload 4, 2) := by decide +kernel
theorem dX12_rename_124 : decode cX12_rename 124 = .ok (.bipush 8, 2) := by decide +kernel
theorem dX12_rename_126 : decode cX12_rename 126 = .ok (.iload 6, 2) := by decide +kernel
theorem dX12_rename_128 : decode cX12_rename 128 = .ok (.iadd, 1) := by decide +kernel
theorem dX12_rename_129 : decode cX12_rename 129 = .ok (.iload 6, 2) := by decide +kernel
theorem dX12_rename_131 : decode cX12_rename 131 = .ok (.invokevirtual 158, 3) := by decide +kernel
theorem dX12_rename_134 : decode cX12_rename 134 = .ok (.iconst 1, 1) := by decide +kernel
theorem dX12_rename_135 : decode cX12_rename 135 = .ok (.ireturn, 1) := by decide +kernel
theorem dX12_rename_61 : decode cX12_rename 61 = .ok (.aload_n 0, 1) := by decide +kernel
theorem dX12_rename_62 : decode cX12_rename 62 = .ok (.getfield 10, 3) := by decide +kernel
theorem dX12_rename_65 : decode cX12_rename 65 = .ok (.iconst 5, 1) := by decide +kernel
theorem dX12_rename_66 : decode cX12_rename 66 = .ok (.iaload, 1) := by decide +kernel
theorem dX12_rename_67 : decode cX12_rename 67 = .ok (.sipush 200, 3) := by decide +kernel
theorem dX12_rename_70 : decode cX12_rename 70 = .ok (.if_icmp .ne 6, 3) := by decide +kernel
theorem dX12_rename_73 : decode cX12_rename 73 = .ok (.bipush (-6), 2) := by decide +kernel
theorem dX12_rename_75 : decode cX12_rename 75 = .ok (.ireturn, 1) := by decide +kernel
theorem dX12_rename_41 : decode cX12_rename 41 = .ok (.aload_n 0, 1) := by decide +kernel
theorem dX12_rename_42 : decode cX12_rename 42 = .ok (.iload_n 1, 1) := by decide +kernel
theorem dX12_rename_43 : decode cX12_rename 43 = .ok (.invokevirtual 141, 3) := by decide +kernel
theorem dX12_rename_46 : decode cX12_rename 46 = .ok (.istore 4, 2) := by decide +kernel
theorem dX12_rename_48 : decode cX12_rename 48 = .ok (.aload_n 0, 1) := by decide +kernel
theorem dX12_rename_49 : decode cX12_rename 49 = .ok (.iload 4, 2) := by decide +kernel
theorem dX12_rename_51 : decode cX12_rename 51 = .ok (.iload_n 2, 1) := by decide +kernel
theorem dX12_rename_52 : decode cX12_rename 52 = .ok (.invokevirtual 151, 3) := by decide +kernel
theorem dX12_rename_55 : decode cX12_rename 55 = .ok (.ifCond .eq 6, 3) := by decide +kernel
theorem dX12_rename_58 : decode cX12_rename 58 = .ok (.bipush (-5), 2) := by decide +kernel
theorem dX12_rename_60 : decode cX12_rename 60 = .ok (.ireturn, 1) := by decide +kernel
theorem dX12_rename_29 : decode cX12_rename 29 = .ok (.aload_n 0, 1) := by decide +kernel
theorem dX12_rename_30 : decode cX12_rename 30 = .ok (.iload_n 1, 1) := by decide +kernel
theorem dX12_rename_31 : decode cX12_rename 31 = .ok (.iload_n 2, 1) := by decide +kernel
theorem dX12_rename_32 : decode cX12_rename 32 = .ok (.invokevirtual 164, 3) := by decide +kernel
theorem dX12_rename_35 : decode cX12_rename 35 = .ok (.ifCond .eq 6, 3) := by decide +kernel
theorem dX12_rename_38 : decode cX12_rename 38 = .ok (.bipush (-3), 2) := by decide +kernel
theorem dX12_rename_40 : decode cX12_rename 40 = .ok (.ireturn, 1) := by decide +kernel
theorem dX12_rename_26 : decode cX12_rename 26 = .ok (.bipush (-2), 2) := by decide +kernel
theorem dX12_rename_28 : decode cX12_rename 28 = .ok (.ireturn, 1) := by decide +kernel
theorem dX12_rename_15 : decode cX12_rename 15 = .ok (.iload_n 3, 1) := by decide +kernel
theorem dX12_rename_16 : decode cX12_rename 16 = .ok (.ifCond .eq 10, 3) := by decide +kernel
theorem dX12_rename_19 : decode cX12_rename 19 = .ok (.iload_n 2, 1) := by decide +kernel
theorem dX12_rename_20 : decode cX12_rename 20 = .ok (.invokestatic 95, 3) := by decide +kernel
theorem dX12_rename_23 : decode cX12_rename 23 = .ok (.ifCond .ne 6, 3) := by decide +kernel
theorem dX12_rename_0 : decode cX12_rename 0 = .ok (.aload_n 0, 1) := by decide +kernel
theorem dX12_rename_1 : decode cX12_rename 1 = .ok (.invokevirtual 123, 3) := by decide +kernel
theorem dX12_rename_4 : decode cX12_rename 4 = .ok (.istore_n 3, 1) := by decide +kernel
theorem dX12_rename_5 : decode cX12_rename 5 = .ok (.aload_n 0, 1) := by decide +kernel
theorem dX12_rename_6 : decode cX12_rename 6 = .ok (.iload_n 1, 1) := by decide +kernel
theorem dX12_rename_7 : decode cX12_rename 7 = .ok (.invokevirtual 161, 3) := by decide +kernel
theorem dX12_rename_10 : decode cX12_rename 10 = .ok (.ifCond .ne 5, 3) := by decide +kernel
theorem dX12_rename_13 : decode cX12_rename 13 = .ok (.iconst (-1), 1) := by decide +kernel
theorem dX12_rename_14 : decode cX12_rename 14 = .ok (.ireturn, 1) := by decide +kernel
theorem dX12_join_395 : decode cX12_join 395 = .ok (.iload 5, 2) := by decide +kernel
theorem dX12_join_397 : decode cX12_join 397 = .ok (.ireturn, 1) := by decide +kernel
theorem dX12_join_389 : decode cX12_join 389 = .ok (.iinc 8 1, 3) := by decide +kernel
theorem dX12_join_392 : decode cX12_join 392 = .ok (.goto (-76), 3) := by decide +kernel
theorem dX12_join_340 : decode cX12_join 340 = .ok (.aload_n 0, 1) := by decide +kernel
theorem dX12_join_341 : decode cX12_join 341 = .ok (.iload 8, 2) := by decide +kernel
theorem dX12_join_343 : decode cX12_join 343 = .ok (.invokevirtual 138, 3) := by decide +kernel
theorem dX12_join_346 : decode cX12_join 346 = .ok (.istore 9, 2) := by decide +kernel
theorem dX12_join_348 : decode cX12_join 348 = .ok (.aload_n 0, 1) := by decide +kernel
theorem dX12_join_349 : decode cX12_join 349 = .ok (.getfield 10, 3) := by decide +kernel
theorem dX12_join_352 : decode cX12_join 352 = .ok (.sipush 7552, 3) := by decide +kernel
theorem dX12_join_355 : decode cX12_join 355 = .ok (.iconst 5, 1) := by decide +kernel
theorem dX12_join_356 : decode cX12_join 356 = .ok (.iload 9, 2) := by decide +kernel
theorem dX12_join_358 : decode cX12_join 358 = .ok (.imul, 1) := by decide +kernel
theorem dX12_join_359 : decode cX12_join 359 = .ok (.iadd, 1) := by decide +kernel
theorem dX12_join_360 : decode cX12_join 360 = .ok (.iconst 4, 1) := by decide +kernel
theorem dX12_join_361 : decode cX12_join 361 = .ok (.iadd, 1) := by decide +kernel
theorem dX12_join_362 : decode cX12_join 362 = .ok (.iload 7, 2) := by decide +kernel
theorem dX12_join_364 : decode cX12_join 364 = .ok (.iastore, 1) := by decide +kernel
theorem dX12_join_365 : decode cX12_join 365 = .ok (.aload_n 0, 1) := by decide +kernel
theorem dX12_join_366 : decode cX12_join 366 = .ok (.iload 8, 2) := by decide +kernel
theorem dX12_join_368 : decode cX12_join 368 = .ok (.iload_n 1, 1) := by decide +kernel
theorem dX12_join_369 : decode cX12_join 369 = .ok (.aload_n 0, 1) := by decide +kernel
theorem dX12_join_370 : decode cX12_join 370 = .ok (.getfield 10, 3) := by decide +kernel
theorem dX12_join_373 : decode cX12_join 373 = .ok (.sipush 7552, 3) := by decide +kernel
theorem dX12_join_376 : decode cX12_join 376 = .ok (.iconst 5, 1) := by decide +kernel
theorem dX12_join_377 : decode cX12_join 377 = .ok (.iload 9, 2) := by decide +kernel
theorem dX12_join_379 : decode cX12_join 379 = .ok (.imul, 1) := by decide +kernel
theorem dX12_join_380 : decode cX12_join 380 = .ok (.iadd, 1) := by decide +kernel
theorem dX12_join_381 : decode cX12_join 381 = .ok (.iconst 2, 1) := by decide +kernel
theorem dX12_join_382 : decode cX12_join 382 = .ok (.iadd, 1) := by decide +kernel
theorem dX12_join_383 : decode cX12_join 383 = .ok (.iaload, 1) := by decide +kernel
theorem dX12_join_384 : decode cX12_join 384 = .ok (.iload 7, 2) := by decide +kernel
theorem dX12_join_386 : decode cX12_join 386 = .ok (.invokevirtual 158, 3) := by decide +kernel
theorem dX12_join_316 : decode cX12_join 316 = .ok (.iload 8, 2) := by decide +kernel
theorem dX12_join_318 : decode cX12_join 318 = .ok (.aload_n 0, 1) := by decide +kernel
theorem dX12_join_319 : decode cX12_join 319 = .ok (.getfield 10, 3) := by decide +kernel
theorem dX12_join_322 : decode cX12_join 322 = .ok (.iconst 3, 1) := by decide +kernel
theorem dX12_join_323 : decode cX12_join 323 = .ok (.iaload, 1) := by decide +kernel
theorem dX12_join_324 : decode cX12_join 324 = .ok (.if_icmp .ge 71, 3) := by decide +kernel
theorem dX12_join_327 : decode cX12_join 327 = .ok (.aload_n 0, 1) := by decide +kernel
theorem dX12_join_328 : decode cX12_join 328 = .ok (.iload 8, 2) := by decide +kernel
theorem dX12_join_330 : decode cX12_join 330 = .ok (.invokevirtual 141, 3) := by decide +kernel
theorem dX12_join_333 : decode cX12_join 333 = .ok (.iload_n 2, 1) := by decide +kernel
theorem dX12_join_334 : decode cX12_join 334 = .ok (.if_icmp .eq 6, 3) := by decide +kernel
theorem dX12_join_337 : decode cX12_join 337 = .ok (.goto 52, 3) := by decide +kernel
theorem dX12_join_290 : decode cX12_join 290 = .ok (.aload_n 0, 1) := by decide +kernel
theorem dX12_join_291 : decode cX12_join 291 = .ok (.iload_n 3, 1) := by decide +kernel
theorem dX12_join_292 : decode cX12_join 292 = .ok (.iconst (-1), 1) := by decide +kernel
theorem dX12_join_293 : decode cX12_join 293 = .ok (.iconst (-1), 1) := by decide +kernel
theorem dX12_join_294 : decode cX12_join 294 = .ok (.iload_n 1, 1) := by decide +kernel
theorem dX12_join_295 : decode cX12_join 295 = .ok (.iload_n 2, 1) := by decide +kernel
theorem dX12_join_296 : decode cX12_join 296 = .ok (.invokevirtual 154, 3) := by decide +kernel
theorem dX12_join_299 : decode cX12_join 299 = .ok (.istore 7, 2) := by decide +kernel
theorem dX12_join_301 : decode cX12_join 301 = .ok (.aload_n 0, 1) := by decide +kernel
theorem dX12_join_302 : decode cX12_join 302 = .ok (.getfield 10, 3) := by decide +kernel
theorem dX12_join_305 : decode cX12_join 305 = .ok (.sipush 7520, 3) := by decide +kernel
theorem dX12_join_308 : decode cX12_join 308 = .ok (.iload_n 2, 1) := by decide +kernel
theorem dX12_join_309 : decode cX12_join 309 = .ok (.iadd, 1) := by decide +kernel
theorem dX12_join_310 : decode cX12_join 310 = .ok (.iload 7, 2) := by decide +kernel
theorem dX12_join_312 : decode cX12_join 312 = .ok (.iastore, 1) := by decide +kernel
theorem dX12_join_313 : decode cX12_join 313 = .ok (.iconst 0, 1) := by decide +kernel
theorem dX12_join_314 : decode cX12_join 314 = .ok (.istore 8, 2) := by decide +kernel
theorem dX12_join_275 : decode cX12_join 275 = .ok (.aload_n 0, 1) := by decide +kernel
theorem dX12_join_276 : decode cX12_join 276 = .ok (.getfield 10, 3) := by decide +kernel
theorem dX12_join_279 : decode cX12_join 279 = .ok (.iconst 5, 1) := by decide +kernel
theorem dX12_join_280 : decode cX12_join 280 = .ok (.iaload, 1) := by decide +kernel
theorem dX12_join_281 : decode cX12_join 281 = .ok (.sipush 200, 3) := by decide +kernel
theorem dX12_join_284 : decode cX12_join 284 = .ok (.if_icmp .ne 6, 3) := by decide +kernel
theorem dX12_join_287 : decode cX12_join 287 = .ok (.bipush (-6), 2) := by decide +kernel
theorem dX12_join_289 : decode cX12_join 289 = .ok (.ireturn, 1) := by decide +kernel
theorem dX12_join_267 : decode cX12_join 267 = .ok (.iload 6, 2) := by decide +kernel
theorem dX12_join_269 : decode cX12_join 269 = .ok (.ifCond .eq 6, 3) := by decide +kernel
theorem dX12_join_272 : decode cX12_join 272 = .ok (.bipush (-5), 2) := by decide +kernel
theorem dX12_join_274 : decode cX12_join 274 = .ok (.ireturn, 1) := by decide +kernel
theorem dX12_join_259 : decode cX12_join 259 = .ok (.iload 4, 2) := by decide +kernel
theorem dX12_join_261 : decode cX12_join 261 = .ok (.ifCond .eq 6, 3) := by decide +kernel
theorem dX12_join_264 : decode cX12_join 264 = .ok (.bipush (-3), 2) := by decide +kernel
theorem dX12_join_266 : decode cX12_join 266 = .ok (.ireturn, 1) := by decide +kernel
theorem dX12_join_253 : decode cX12_join 253 = .ok (.iinc 7 1, 3) := by decide +kernel
theorem dX12_join_256 : decode cX12_join 256 = .ok (.goto (-159), 3) := by decide +kernel
theorem dX12_join_245 : decode cX12_join 245 = .ok (.istore 6, 2) := by decide +kernel
theorem dX12_join_247 : decode cX12_join 247 = .ok (.iinc 9 1, 3) := by decide +kernel
theorem dX12_join_250 : decode cX12_join 250 = .ok (.goto (-81), 3) := by decide +kernel
theorem dX12_join_244 : decode cX12_join 244 = .ok (.iconst 0, 1) := by decide +kernel
theorem dX12_join_240 : decode cX12_join 240 = .ok (.iconst 1, 1) := by decide +kernel
theorem dX12_join_241 : decode cX12_join 241 = .ok (.goto 4, 3) := by decide +kernel
theorem dX12_join_169 : decode cX12_join 169 = .ok (.iload 9, 2) := by decide +kernel
theorem dX12_join_171 : decode cX12_join 171 = .ok (.aload_n 0, 1) := by decide +kernel
theorem dX12_join_172 : decode cX12_join 172 = .ok (.getfield 10, 3) := by decide +kernel
theorem dX12_join_175 : decode cX12_join 175 = .ok (.iconst 3, 1) := by decide +kernel
theorem dX12_join_176 : decode cX12_join 176 = .ok (.iaload, 1) := by decide +kernel
theorem dX12_join_177 : decode cX12_join 177 = .ok (.if_icmp .ge 76, 3) := by decide +kernel
theorem dX12_join_180 : decode cX12_join 180 = .ok (.iload 6, 2) := by decide +kernel
theorem dX12_join_182 : decode cX12_join 182 = .ok (.ifCond .ne 58, 3) := by decide +kernel
theorem dX12_join_185 : decode cX12_join 185 = .ok (.aload_n 0, 1) := by decide +kernel
theorem dX12_join_186 : decode cX12_join 186 = .ok (.iload 9, 2) := by decide +kernel
theorem dX12_join_188 : decode cX12_join 188 = .ok (.invokevirtual 141, 3) := by decide +kernel
theorem dX12_join_191 : decode cX12_join 191 = .ok (.iload_n 1, 1) := by decide +kernel
theorem dX12_join_192 : decode cX12_join 192 = .ok (.if_icmp .ne 52, 3) := by decide +kernel
theorem dX12_join_195 : decode cX12_join 195 = .ok (.aload_n 0, 1) := by decide +kernel
theorem dX12_join_196 : decode cX12_join 196 = .ok (.aload_n 0, 1) := by decide +kernel
theorem dX12_join_197 : decode cX12_join 197 = .ok (.getfield 10, 3) := by decide +kernel
theorem dX12_join_200 : decode cX12_join 200 = .ok (.sipush 7552, 3) := by decide +kernel
theorem dX12_join_203 : decode cX12_join 203 = .ok (.iconst 5, 1) := by decide +kernel
theorem dX12_join_204 : decode cX12_join 204 = .ok (.aload_n 0, 1) := by decide +kernel
theorem dX12_join_205 : decode cX12_join 205 = .ok (.iload 9, 2) := by decide +kernel
theorem dX12_join_207 : decode cX12_join 207 = .ok (.invokevirtual 138, 3) := by decide +kernel
theorem dX12_join_210 : decode cX12_join 210 = .ok (.imul, 1) := by decide +kernel
theorem dX12_join_211 : decode cX12_join 211 = .ok (.iadd, 1) := by decide +kernel
theorem dX12_join_212 : decode cX12_join 212 = .ok (.iconst 2, 1) := by decide +kernel
theorem dX12_join_213 : decode cX12_join 213 = .ok (.iadd, 1) := by decide +kernel
theorem dX12_join_214 : decode cX12_join 214 = .ok (.iaload, 1) := by decide +kernel
theorem dX12_join_215 : decode cX12_join 215 = .ok (.aload_n 0, 1) := by decide +kernel
theorem dX12_join_216 : decode cX12_join 216 = .ok (.getfield 10, 3) := by decide +kernel
theorem dX12_join_219 : decode cX12_join 219 = .ok (.sipush 7552, 3) := by decide +kernel
theorem dX12_join_222 : decode cX12_join 222 = .ok (.iconst 5, 1) := by decide +kernel
theorem dX12_join_223 : decode cX12_join 223 = .ok (.aload_n 0, 1) := by decide +kernel
theorem dX12_join_224 : decode cX12_join 224 = .ok (.iload 7, 2) := by decide +kernel
theorem dX12_join_226 : decode cX12_join 226 = .ok (.invokevirtual 138, 3) := by decide +kernel
theorem dX12_join_229 : decode cX12_join 229 = .ok (.imul, 1) := by decide +kernel
theorem dX12_join_230 : decode cX12_join 230 = .ok (.iadd, 1) := by decide +kernel
theorem dX12_join_231 : decode cX12_join 231 = .ok (.iconst 2, 1) := by decide +kernel
theorem dX12_join_232 : decode cX12_join 232 = .ok (.iadd, 1) := by decide +kernel
theorem dX12_join_233 : decode cX12_join 233 = .ok (.iaload, 1) := by decide +kernel
theorem dX12_join_234 : decode cX12_join 234 = .ok (.invokevirtual 167, 3) := by decide +kernel
theorem dX12_join_237 : decode cX12_join 237 = .ok (.ifCond .eq 7, 3) := by decide +kernel
theorem dX12_join_163 : decode cX12_join 163 = .ok (.iinc 5 1, 3) := by decide +kernel
theorem dX12_join_166 : decode cX12_join 166 = .ok (.iconst 0, 1) := by decide +kernel
theorem dX12_join_167 : decode cX12_join 167 = .ok (.istore 9, 2) := by decide +kernel
theorem dX12_join_152 : decode cX12_join 152 = .ok (.istore 4, 2) := by decide +kernel
theorem dX12_join_154 : decode cX12_join 154 = .ok (.iload 8, 2) := by decide +kernel
theorem dX12_join_156 : decode cX12_join 156 = .ok (.iload_n 2, 1) := by decide +kernel
theorem dX12_join_157 : decode cX12_join 157 = .ok (.if_icmp .eq 6, 3) := by decide +kernel
theorem dX12_join_160 : decode cX12_join 160 = .ok (.goto 93, 3) := by decide +kernel
theorem dX12_join_151 : decode cX12_join 151 = .ok (.iconst 0, 1) := by decide +kernel
theorem dX12_join_147 : decode cX12_join 147 = .ok (.iconst 1, 1) := by decide +kernel
theorem dX12_join_148 : decode cX12_join 148 = .ok (.goto 4, 3) := by decide +kernel
theorem dX12_join_131 : decode cX12_join 131 = .ok (.iload 4, 2) := by decide +kernel
theorem dX12_join_133 : decode cX12_join 133 = .ok (.ifCond .ne 14, 3) := by decide +kernel
theorem dX12_join_136 : decode cX12_join 136 = .ok (.iload_n 3, 1) := by decide +kernel
theorem dX12_join_137 : decode cX12_join 137 = .ok (.aload_n 0, 1) := by decide +kernel
theorem dX12_join_138 : decode cX12_join 138 = .ok (.iload 7, 2) := by decide +kernel
theorem dX12_join_140 : decode cX12_join 140 = .ok (.iconst (-1), 1) := by decide +kernel
theorem dX12_join_141 : decode cX12_join 141 = .ok (.invokevirtual 144, 3) := by decide +kernel
theorem dX12_join_144 : decode cX12_join 144 = .ok (.if_icmp .ge 7, 3) := by decide +kernel
theorem dX12_join_97 : decode cX12_join 97 = .ok (.iload 7, 2) := by decide +kernel
theorem dX12_join_99 : decode cX12_join 99 = .ok (.aload_n 0, 1) := by decide +kernel
theorem dX12_join_100 : decode cX12_join 100 = .ok (.getfield 10, 3) := by decide +kernel
theorem dX12_join_103 : decode cX12_join 103 = .ok (.iconst 3, 1) := by decide +kernel
theorem dX12_join_104 : decode cX12_join 104 = .ok (.iaload, 1) := by decide +kernel
theorem dX12_join_105 : decode cX12_join 105 = .ok (.if_icmp .ge 154, 3) := by decide +kernel
theorem dX12_join_108 : decode cX12_join 108 = .ok (.aload_n 0, 1) := by decide +kernel
theorem dX12_join_109 : decode cX12_join 109 = .ok (.iload 7, 2) := by decide +kernel
theorem dX12_join_111 : decode cX12_join 111 = .ok (.invokevirtual 141, 3) := by decide +kernel
theorem dX12_join_114 : decode cX12_join 114 = .ok (.istore 8, 2) := by decide +kernel
theorem dX12_join_116 : decode cX12_join 116 = .ok (.iload 8, 2) := by decide +kernel
theorem dX12_join_118 : decode cX12_join 118 = .ok (.iload_n 1, 1) := by decide +kernel
theorem dX12_join_119 : decode cX12_join 119 = .ok (.if_icmp .eq 12, 3) := by decide +kernel
theorem dX12_join_122 : decode cX12_join 122 = .ok (.iload 8, 2) := by decide +kernel
theorem dX12_join_124 : decode cX12_join 124 = .ok (.iload_n 2, 1) := by decide +kernel
theorem dX12_join_125 : decode cX12_join 125 = .ok (.if_icmp .eq 6, 3) := by decide +kernel
theorem dX12_join_128 : decode cX12_join 128 = .ok (.goto 125, 3) := by decide +kernel
theorem dX12_join_86 : decode cX12_join 86 = .ok (.istore 4, 2) := by decide +kernel
theorem dX12_join_88 : decode cX12_join 88 = .ok (.iconst 0, 1) := by decide +kernel
theorem dX12_join_89 : decode cX12_join 89 = .ok (.istore 5, 2) := by decide +kernel
theorem dX12_join_91 : decode cX12_join 91 = .ok (.iconst 0, 1) := by decide +kernel
theorem dX12_join_92 : decode cX12_join 92 = .ok (.istore 6, 2) := by decide +kernel
theorem dX12_join_94 : decode cX12_join 94 = .ok (.iconst 0, 1) := by decide +kernel
theorem dX12_join_95 : decode cX12_join 95 = .ok (.istore 7, 2) := by decide +kernel
theorem dX12_join_85 : decode cX12_join 85 = .ok (.iconst 0, 1) := by decide +kernel
theorem dX12_join_81 : decode cX12_join 81 = .ok (.iconst 1, 1) := by decide +kernel
theorem dX12_join_82 : decode cX12_join 82 = .ok (.goto 4, 3) := by decide +kernel
theorem dX12_join_61 : decode cX12_join 61 = .ok (.iload_n 3, 1) := by decide +kernel
theorem dX12_join_62 : decode cX12_join 62 = .ok (.aload_n 0, 1) := by decide +kernel
theorem dX12_join_63 : decode cX12_join 63 = .ok (.iconst (-1), 1) := by decide +kernel
theorem dX12_join_64 : decode cX12_join 64 = .ok (.iload_n 1, 1) := by decide +kernel
theorem dX12_join_65 : decode cX12_join 65 = .ok (.invokevirtual 144, 3) := by decide +kernel
theorem dX12_join_68 : decode cX12_join 68 = .ok (.if_icmp .lt 13, 3) := by decide +kernel
theorem dX12_join_71 : decode cX12_join 71 = .ok (.iload_n 3, 1) := by decide +kernel
theorem dX12_join_72 : decode cX12_join 72 = .ok (.aload_n 0, 1) := by decide +kernel
theorem dX12_join_73 : decode cX12_join 73 = .ok (.iconst (-1), 1) := by decide +kernel
theorem dX12_join_74 : decode cX12_join 74 = .ok (.iload_n 2, 1) := by decide +kernel
theorem dX12_join_75 : decode cX12_join 75 = .ok (.invokevirtual 144, 3) := by decide +kernel
theorem dX12_join_78 : decode cX12_join 78 = .ok (.if_icmp .ge 7, 3) := by decide +kernel
theorem dX12_join_58 : decode cX12_join 58 = .ok (.bipush (-2), 2) := by decide +kernel
theorem dX12_join_60 : decode cX12_join 60 = .ok (.ireturn, 1) := by decide +kernel
theorem dX12_join_46 : decode cX12_join 46 = .ok (.iload_n 1, 1) := by decide +kernel
theorem dX12_join_47 : decode cX12_join 47 = .ok (.iload_n 2, 1) := by decide +kernel
theorem dX12_join_48 : decode cX12_join 48 = .ok (.if_icmp .eq 10, 3) := by decide +kernel
theorem dX12_join_51 : decode cX12_join 51 = .ok (.iload_n 3, 1) := by decide +kernel
theorem dX12_join_52 : decode cX12_join 52 = .ok (.invokestatic 95, 3) := by decide +kernel
theorem dX12_join_55 : decode cX12_join 55 = .ok (.ifCond .ne 6, 3) := by decide +kernel
theorem dX12_join_44 : decode cX12_join 44 = .ok (.iconst (-1), 1) := by decide +kernel
theorem dX12_join_45 : decode cX12_join 45 = .ok (.ireturn, 1) := by decide +kernel
theorem dX12_join_0 : decode cX12_join 0 = .ok (.aload_n 0, 1) := by decide +kernel
theorem dX12_join_1 : decode cX12_join 1 = .ok (.iload_n 1, 1) := by decide +kernel
theorem dX12_join_2 : decode cX12_join 2 = .ok (.invokevirtual 148, 3) := by decide +kernel
theorem dX12_join_5 : decode cX12_join 5 = .ok (.ifCond .eq 39, 3) := by decide +kernel
theorem dX12_join_8 : decode cX12_join 8 = .ok (.aload_n 0, 1) := by decide +kernel
theorem dX12_join_9 : decode cX12_join 9 = .ok (.iload_n 2, 1) := by decide +kernel
theorem dX12_join_10 : decode cX12_join 10 = .ok (.invokevirtual 148, 3) := by decide +kernel
theorem dX12_join_13 : decode cX12_join 13 = .ok (.ifCond .eq 31, 3) := by decide +kernel
theorem dX12_join_16 : decode cX12_join 16 = .ok (.aload_n 0, 1) := by decide +kernel
theorem dX12_join_17 : decode cX12_join 17 = .ok (.getfield 10, 3) := by decide +kernel
theorem dX12_join_20 : decode cX12_join 20 = .ok (.sipush 7520, 3) := by decide +kernel
theorem dX12_join_23 : decode cX12_join 23 = .ok (.iload_n 1, 1) := by decide +kernel
theorem dX12_join_24 : decode cX12_join 24 = .ok (.iadd, 1) := by decide +kernel
theorem dX12_join_25 : decode cX12_join 25 = .ok (.iaload, 1) := by decide +kernel
theorem dX12_join_26 : decode cX12_join 26 = .ok (.iconst (-1), 1) := by decide +kernel
theorem dX12_join_27 : decode cX12_join 27 = .ok (.if_icmp .ne 17, 3) := by decide +kernel
theorem dX12_join_30 : decode cX12_join 30 = .ok (.aload_n 0, 1) := by decide +kernel
theorem dX12_join_31 : decode cX12_join 31 = .ok (.getfield 10, 3) := by decide +kernel
theorem dX12_join_34 : decode cX12_join 34 = .ok (.sipush 7520, 3) := by decide +kernel
theorem dX12_join_37 : decode cX12_join 37 = .ok (.iload_n 2, 1) := by decide +kernel
theorem dX12_join_38 : decode cX12_join 38 = .ok (.iadd, 1) := by decide +kernel
theorem dX12_join_39 : decode cX12_join 39 = .ok (.iaload, 1) := by decide +kernel
theorem dX12_join_40 : decode cX12_join 40 = .ok (.iconst (-1), 1) := by decide +kernel
theorem dX12_join_41 : decode cX12_join 41 = .ok (.if_icmp .eq 5, 3) := by decide +kernel
theorem dX12_isWhole_26 : decode cX12_isWhole 26 = .ok (.ireturn, 1) := by decide +kernel
theorem dX12_isWhole_25 : decode cX12_isWhole 25 = .ok (.iconst 0, 1) := by decide +kernel
theorem dX12_isWhole_0 : decode cX12_isWhole 0 = .ok (.iload_n 0, 1) := by decide +kernel
theorem dX12_isWhole_1 : decode cX12_isWhole 1 = .ok (.bipush 16, 2) := by decide +kernel
theorem dX12_isWhole_3 : decode cX12_isWhole 3 = .ok (.if_icmp .lt 22, 3) := by decide +kernel
theorem dX12_isWhole_6 : decode cX12_isWhole 6 = .ok (.iload_n 0, 1) := by decide +kernel
theorem dX12_isWhole_7 : decode cX12_isWhole 7 = .ok (.ldc 170, 2) := by decide +kernel
theorem dX12_isWhole_9 : decode cX12_isWhole 9 = .ok (.if_icmp .gt 16, 3) := by decide +kernel
theorem dX12_isWhole_12 : decode cX12_isWhole 12 = .ok (.iload_n 0, 1) := by decide +kernel
theorem dX12_isWhole_13 : decode cX12_isWhole 13 = .ok (.bipush 16, 2) := by decide +kernel
theorem dX12_isWhole_15 : decode cX12_isWhole 15 = .ok (.irem, 1) := by decide +kernel
theorem dX12_isWhole_16 : decode cX12_isWhole 16 = .ok (.bipush 9, 2) := by decide +kernel
theorem dX12_isWhole_18 : decode cX12_isWhole 18 = .ok (.if_icmp .gt 7, 3) := by decide +kernel
theorem dX12_isWhole_21 : decode cX12_isWhole 21 = .ok (.iconst 1, 1) := by decide +kernel
theorem dX12_isWhole_22 : decode cX12_isWhole 22 = .ok (.goto 4, 3) := by decide +kernel
theorem dX12_isDoor_19 : decode cX12_isDoor 19 = .ok (.ireturn, 1) := by decide +kernel
theorem dX12_isDoor_18 : decode cX12_isDoor 18 = .ok (.iconst 0, 1) := by decide +kernel
theorem dX12_isDoor_0 : decode cX12_isDoor 0 = .ok (.iload_n 1, 1) := by decide +kernel
theorem dX12_isDoor_1 : decode cX12_isDoor 1 = .ok (.ifCond .lt 17, 3) := by decide +kernel
theorem dX12_isDoor_4 : decode cX12_isDoor 4 = .ok (.iload_n 1, 1) := by decide +kernel
theorem dX12_isDoor_5 : decode cX12_isDoor 5 = .ok (.aload_n 0, 1) := by decide +kernel
theorem dX12_isDoor_6 : decode cX12_isDoor 6 = .ok (.getfield 10, 3) := by decide +kernel
theorem dX12_isDoor_9 : decode cX12_isDoor 9 = .ok (.iconst 4, 1) := by decide +kernel
theorem dX12_isDoor_10 : decode cX12_isDoor 10 = .ok (.iaload, 1) := by decide +kernel
theorem dX12_isDoor_11 : decode cX12_isDoor 11 = .ok (.if_icmp .ge 7, 3) := by decide +kernel
theorem dX12_isDoor_14 : decode cX12_isDoor 14 = .ok (.iconst 1, 1) := by decide +kernel
theorem dX12_isDoor_15 : decode cX12_isDoor 15 = .ok (.goto 4, 3) := by decide +kernel
theorem dX12_of_0 : decode cX12_of 0 = .ok (.aload_n 0, 1) := by decide +kernel
theorem dX12_of_1 : decode cX12_of 1 = .ok (.getfield 10, 3) := by decide +kernel
theorem dX12_of_4 : decode cX12_of 4 = .ok (.sipush 9552, 3) := by decide +kernel
theorem dX12_of_7 : decode cX12_of 7 = .ok (.bipush 12, 2) := by decide +kernel
theorem dX12_of_9 : decode cX12_of 9 = .ok (.iload_n 1, 1) := by decide +kernel
theorem dX12_of_10 : decode cX12_of 10 = .ok (.imul, 1) := by decide +kernel
theorem dX12_of_11 : decode cX12_of 11 = .ok (.iadd, 1) := by decide +kernel
theorem dX12_of_12 : decode cX12_of 12 = .ok (.iload_n 2, 1) := by decide +kernel
theorem dX12_of_13 : decode cX12_of 13 = .ok (.iadd, 1) := by decide +kernel
theorem dX12_of_14 : decode cX12_of 14 = .ok (.iaload, 1) := by decide +kernel
theorem dX12_of_15 : decode cX12_of 15 = .ok (.ireturn, 1) := by decide +kernel
theorem dX12_isOpen_24 : decode cX12_isOpen 24 = .ok (.ireturn, 1) := by decide +kernel
theorem dX12_isOpen_23 : decode cX12_isOpen 23 = .ok (.iconst 0, 1) := by decide +kernel
theorem dX12_isOpen_0 : decode cX12_isOpen 0 = .ok (.aload_n 0, 1) := by decide +kernel
theorem dX12_isOpen_1 : decode cX12_isOpen 1 = .ok (.iload_n 1, 1) := by decide +kernel
theorem dX12_isOpen_2 : decode cX12_isOpen 2 = .ok (.invokevirtual 171, 3) := by decide +kernel
theorem dX12_isOpen_5 : decode cX12_isOpen 5 = .ok (.ifCond .eq 18, 3) := by decide +kernel
theorem dX12_isOpen_8 : decode cX12_isOpen 8 = .ok (.aload_n 0, 1) := by decide +kernel
theorem dX12_isOpen_9 : decode cX12_isOpen 9 = .ok (.iload_n 1, 1) := by decide +kernel
theorem dX12_isOpen_10 : decode cX12_isOpen 10 = .ok (.bipush 10, 2) := by decide +kernel
theorem dX12_isOpen_12 : decode cX12_isOpen 12 = .ok (.invokevirtual 174, 3) := by decide +kernel
theorem dX12_isOpen_15 : decode cX12_isOpen 15 = .ok (.iconst (-1), 1) := by decide +kernel
theorem dX12_isOpen_16 : decode cX12_isOpen 16 = .ok (.if_icmp .ne 7, 3) := by decide +kernel
theorem dX12_isOpen_19 : decode cX12_isOpen 19 = .ok (.iconst 1, 1) := by decide +kernel
theorem dX12_isOpen_20 : decode cX12_isOpen 20 = .ok (.goto 4, 3) := by decide +kernel
theorem dX12_hasPlace_35 : decode cX12_hasPlace 35 = .ok (.ireturn, 1) := by decide +kernel
theorem dX12_hasPlace_34 : decode cX12_hasPlace 34 = .ok (.iconst 0, 1) := by decide +kernel
theorem dX12_hasPlace_30 : decode cX12_hasPlace 30 = .ok (.iconst 1, 1) := by decide +kernel
theorem dX12_hasPlace_31 : decode cX12_hasPlace 31 = .ok (.goto 4, 3) := by decide +kernel
theorem dX12_hasPlace_0 : decode cX12_hasPlace 0 = .ok (.aload_n 0, 1) := by decide +kernel
theorem dX12_hasPlace_1 : decode cX12_hasPlace 1 = .ok (.iload_n 1, 1) := by decide +kernel
theorem dX12_hasPlace_2 : decode cX12_hasPlace 2 = .ok (.iconst 0, 1) := by decide +kernel
theorem dX12_hasPlace_3 : decode cX12_hasPlace 3 = .ok (.invokevirtual 174, 3) := by decide +kernel
theorem dX12_hasPlace_6 : decode cX12_hasPlace 6 = .ok (.iconst 2, 1) := by decide +kernel
theorem dX12_hasPlace_7 : decode cX12_hasPlace 7 = .ok (.if_icmp .ge 27, 3) := by decide +kernel
theorem dX12_hasPlace_10 : decode cX12_hasPlace 10 = .ok (.iload_n 2, 1) := by decide +kernel
theorem dX12_hasPlace_11 : decode cX12_hasPlace 11 = .ok (.ifCond .eq 19, 3) := by decide +kernel
theorem dX12_hasPlace_14 : decode cX12_hasPlace 14 = .ok (.iload_n 2, 1) := by decide +kernel
theorem dX12_hasPlace_15 : decode cX12_hasPlace 15 = .ok (.iconst 1, 1) := by decide +kernel
theorem dX12_hasPlace_16 : decode cX12_hasPlace 16 = .ok (.if_icmp .ne 18, 3) := by decide +kernel
theorem dX12_hasPlace_19 : decode cX12_hasPlace 19 = .ok (.aload_n 0, 1) := by decide +kernel
theorem dX12_hasPlace_20 : decode cX12_hasPlace 20 = .ok (.iload_n 1, 1) := by decide +kernel
theorem dX12_hasPlace_21 : decode cX12_hasPlace 21 = .ok (.bipush 11, 2) := by decide +kernel
theorem dX12_hasPlace_23 : decode cX12_hasPlace 23 = .ok (.invokevirtual 174, 3) := by decide +kernel
theorem dX12_hasPlace_26 : decode cX12_hasPlace 26 = .ok (.iconst (-1), 1) := by decide +kernel
theorem dX12_hasPlace_27 : decode cX12_hasPlace 27 = .ok (.if_icmp .eq 7, 3) := by decide +kernel
theorem dX12_streetAt_0 : decode cX12_streetAt 0 = .ok (.aload_n 0, 1) := by decide +kernel
theorem dX12_streetAt_1 : decode cX12_streetAt 1 = .ok (.iload_n 1, 1) := by decide +kernel
theorem dX12_streetAt_2 : decode cX12_streetAt 2 = .ok (.iconst 1, 1) := by decide +kernel
theorem dX12_streetAt_3 : decode cX12_streetAt 3 = .ok (.iconst 3, 1) := by decide +kernel
theorem dX12_streetAt_4 : decode cX12_streetAt 4 = .ok (.iload_n 2, 1) := by decide +kernel
theorem dX12_streetAt_5 : decode cX12_streetAt 5 = .ok (.imul, 1) := by decide +kernel
theorem dX12_streetAt_6 : decode cX12_streetAt 6 = .ok (.iadd, 1) := by decide +kernel
theorem dX12_streetAt_7 : decode cX12_streetAt 7 = .ok (.invokevirtual 174, 3) := by decide +kernel
theorem dX12_streetAt_10 : decode cX12_streetAt 10 = .ok (.ireturn, 1) := by decide +kernel
theorem dX12_sideAt_0 : decode cX12_sideAt 0 = .ok (.aload_n 0, 1) := by decide +kernel
theorem dX12_sideAt_1 : decode cX12_sideAt 1 = .ok (.iload_n 1, 1) := by decide +kernel
theorem dX12_sideAt_2 : decode cX12_sideAt 2 = .ok (.iconst 2, 1) := by decide +kernel
theorem dX12_sideAt_3 : decode cX12_sideAt 3 = .ok (.iconst 3, 1) := by decide +kernel
theorem dX12_sideAt_4 : decode cX12_sideAt 4 = .ok (.iload_n 2, 1) := by decide +kernel
theorem dX12_sideAt_5 : decode cX12_sideAt 5 = .ok (.imul, 1) := by decide +kernel
theorem dX12_sideAt_6 : decode cX12_sideAt 6 = .ok (.iadd, 1) := by decide +kernel
theorem dX12_sideAt_7 : decode cX12_sideAt 7 = .ok (.invokevirtual 174, 3) := by decide +kernel
theorem dX12_sideAt_10 : decode cX12_sideAt 10 = .ok (.ireturn, 1) := by decide +kernel
theorem dX12_pacesAt_0 : decode cX12_pacesAt 0 = .ok (.aload_n 0, 1) := by decide +kernel
theorem dX12_pacesAt_1 : decode cX12_pacesAt 1 = .ok (.iload_n 1, 1) := by decide +kernel
theorem dX12_pacesAt_2 : decode cX12_pacesAt 2 = .ok (.iconst 3, 1) := by decide +kernel
theorem dX12_pacesAt_3 : decode cX12_pacesAt 3 = .ok (.iconst 3, 1) := by decide +kernel
theorem dX12_pacesAt_4 : decode cX12_pacesAt 4 = .ok (.iload_n 2, 1) := by decide +kernel
theorem dX12_pacesAt_5 : decode cX12_pacesAt 5 = .ok (.imul, 1) := by decide +kernel
theorem dX12_pacesAt_6 : decode cX12_pacesAt 6 = .ok (.iadd, 1) := by decide +kernel
theorem dX12_pacesAt_7 : decode cX12_pacesAt 7 = .ok (.invokevirtual 174, 3) := by decide +kernel
theorem dX12_pacesAt_10 : decode cX12_pacesAt 10 = .ok (.ireturn, 1) := by decide +kernel
theorem dX12_front_23 : decode cX12_front 23 = .ok (.iload_n 2, 1) := by decide +kernel
theorem dX12_front_24 : decode cX12_front 24 = .ok (.ireturn, 1) := by decide +kernel
theorem dX12_front_2 : decode cX12_front 2 = .ok (.aload_n 0, 1) := by decide +kernel
theorem dX12_front_3 : decode cX12_front 3 = .ok (.iload_n 2, 1) := by decide +kernel
theorem dX12_front_4 : decode cX12_front 4 = .ok (.iconst 0, 1) := by decide +kernel
theorem dX12_front_5 : decode cX12_front 5 = .ok (.invokevirtual 174, 3) := by decide +kernel
theorem dX12_front_8 : decode cX12_front 8 = .ok (.iconst 2, 1) := by decide +kernel
theorem dX12_front_9 : decode cX12_front 9 = .ok (.if_icmp .lt 14, 3) := by decide +kernel
theorem dX12_front_12 : decode cX12_front 12 = .ok (.aload_n 0, 1) := by decide +kernel
theorem dX12_front_13 : decode cX12_front 13 = .ok (.iload_n 2, 1) := by decide +kernel
theorem dX12_front_14 : decode cX12_front 14 = .ok (.bipush 8, 2) := by decide +kernel
theorem dX12_front_16 : decode cX12_front 16 = .ok (.invokevirtual 174, 3) := by decide +kernel
theorem dX12_front_19 : decode cX12_front 19 = .ok (.istore_n 2, 1) := by decide +kernel
theorem dX12_front_20 : decode cX12_front 20 = .ok (.goto (-18), 3) := by decide +kernel
theorem dX12_front_0 : decode cX12_front 0 = .ok (.iload_n 1, 1) := by decide +kernel
theorem dX12_front_1 : decode cX12_front 1 = .ok (.istore_n 2, 1) := by decide +kernel
theorem dX12_openSpan_69 : decode cX12_openSpan 69 = .ok (.iconst (-1), 1) := by decide +kernel
theorem dX12_openSpan_70 : decode cX12_openSpan 70 = .ok (.ireturn, 1) := by decide +kernel
theorem dX12_openSpan_63 : decode cX12_openSpan 63 = .ok (.iinc 3 (-1), 3) := by decide +kernel
theorem dX12_openSpan_66 : decode cX12_openSpan 66 = .ok (.goto (-56), 3) := by decide +kernel
theorem dX12_openSpan_10 : decode cX12_openSpan 10 = .ok (.iload_n 3, 1) := by decide +kernel
theorem dX12_openSpan_11 : decode cX12_openSpan 11 = .ok (.ifCond .lt 58, 3) := by decide +kernel
theorem dX12_openSpan_14 : decode cX12_openSpan 14 = .ok (.sipush 10752, 3) := by decide +kernel
theorem dX12_openSpan_17 : decode cX12_openSpan 17 = .ok (.bipush 6, 2) := by decide +kernel
theorem dX12_openSpan_19 : decode cX12_openSpan 19 = .ok (.iload_n 3, 1) := by decide +kernel
theorem dX12_openSpan_20 : decode cX12_openSpan 20 = .ok (.imul, 1) := by decide +kernel
theorem dX12_openSpan_21 : decode cX12_openSpan 21 = .ok (.iadd, 1) := by decide +kernel
theorem dX12_openSpan_22 : decode cX12_openSpan 22 = .ok (.istore 4, 2) := by decide +kernel
theorem dX12_openSpan_24 : decode cX12_openSpan 24 = .ok (.aload_n 0, 1) := by decide +kernel
theorem dX12_openSpan_25 : decode cX12_openSpan 25 = .ok (.getfield 10, 3) := by decide +kernel
theorem dX12_openSpan_28 : decode cX12_openSpan 28 = .ok (.iload 4, 2) := by decide +kernel
theorem dX12_openSpan_30 : decode cX12_openSpan 30 = .ok (.iaload, 1) := by decide +kernel
theorem dX12_openSpan_31 : decode cX12_openSpan 31 = .ok (.iload_n 1, 1) := by decide +kernel
theorem dX12_openSpan_32 : decode cX12_openSpan 32 = .ok (.if_icmp .ne 31, 3) := by decide +kernel
theorem dX12_openSpan_35 : decode cX12_openSpan 35 = .ok (.aload_n 0, 1) := by decide +kernel
theorem dX12_openSpan_36 : decode cX12_openSpan 36 = .ok (.getfield 10, 3) := by decide +kernel
theorem dX12_openSpan_39 : decode cX12_openSpan 39 = .ok (.iload 4, 2) := by decide +kernel
theorem dX12_openSpan_41 : decode cX12_openSpan 41 = .ok (.iconst 1, 1) := by decide +kernel
theorem dX12_openSpan_42 : decode cX12_openSpan 42 = .ok (.iadd, 1) := by decide +kernel
theorem dX12_openSpan_43 : decode cX12_openSpan 43 = .ok (.iaload, 1) := by decide +kernel
theorem dX12_openSpan_44 : decode cX12_openSpan 44 = .ok (.iload_n 2, 1) := by decide +kernel
theorem dX12_openSpan_45 : decode cX12_openSpan 45 = .ok (.if_icmp .ne 18, 3) := by decide +kernel
theorem dX12_openSpan_48 : decode cX12_openSpan 48 = .ok (.aload_n 0, 1) := by decide +kernel
theorem dX12_openSpan_49 : decode cX12_openSpan 49 = .ok (.getfield 10, 3) := by decide +kernel
theorem dX12_openSpan_52 : decode cX12_openSpan 52 = .ok (.iload 4, 2) := by decide +kernel
theorem dX12_openSpan_54 : decode cX12_openSpan 54 = .ok (.iconst 5, 1) := by decide +kernel
theorem dX12_openSpan_55 : decode cX12_openSpan 55 = .ok (.iadd, 1) := by decide +kernel
theorem dX12_openSpan_56 : decode cX12_openSpan 56 = .ok (.iaload, 1) := by decide +kernel
theorem dX12_openSpan_57 : decode cX12_openSpan 57 = .ok (.iconst (-1), 1) := by decide +kernel
theorem dX12_openSpan_58 : decode cX12_openSpan 58 = .ok (.if_icmp .ne 5, 3) := by decide +kernel
theorem dX12_openSpan_61 : decode cX12_openSpan 61 = .ok (.iload_n 3, 1) := by decide +kernel
theorem dX12_openSpan_62 : decode cX12_openSpan 62 = .ok (.ireturn, 1) := by decide +kernel
theorem dX12_openSpan_0 : decode cX12_openSpan 0 = .ok (.aload_n 0, 1) := by decide +kernel
theorem dX12_openSpan_1 : decode cX12_openSpan 1 = .ok (.getfield 10, 3) := by decide +kernel
theorem dX12_openSpan_4 : decode cX12_openSpan 4 = .ok (.bipush 6, 2) := by decide +kernel
theorem dX12_openSpan_6 : decode cX12_openSpan 6 = .ok (.iaload, 1) := by decide +kernel
theorem dX12_openSpan_7 : decode cX12_openSpan 7 = .ok (.iconst 1, 1) := by decide +kernel
theorem dX12_openSpan_8 : decode cX12_openSpan 8 = .ok (.isub, 1) := by decide +kernel
theorem dX12_openSpan_9 : decode cX12_openSpan 9 = .ok (.istore_n 3, 1) := by decide +kernel
theorem dX12_wholeAt_31 : decode cX12_wholeAt 31 = .ok (.ireturn, 1) := by decide +kernel
theorem dX12_wholeAt_16 : decode cX12_wholeAt 16 = .ok (.aload_n 0, 1) := by decide +kernel
theorem dX12_wholeAt_17 : decode cX12_wholeAt 17 = .ok (.getfield 10, 3) := by decide +kernel
theorem dX12_wholeAt_20 : decode cX12_wholeAt 20 = .ok (.sipush 10752, 3) := by decide +kernel
theorem dX12_wholeAt_23 : decode cX12_wholeAt 23 = .ok (.bipush 6, 2) := by decide +kernel
theorem dX12_wholeAt_25 : decode cX12_wholeAt 25 = .ok (.iload_n 3, 1) := by decide +kernel
theorem dX12_wholeAt_26 : decode cX12_wholeAt 26 = .ok (.imul, 1) := by decide +kernel
theorem dX12_wholeAt_27 : decode cX12_wholeAt 27 = .ok (.iadd, 1) := by decide +kernel
theorem dX12_wholeAt_28 : decode cX12_wholeAt 28 = .ok (.iconst 3, 1) := by decide +kernel
theorem dX12_wholeAt_29 : decode cX12_wholeAt 29 = .ok (.iadd, 1) := by decide +kernel
theorem dX12_wholeAt_30 : decode cX12_wholeAt 30 = .ok (.iaload, 1) := by decide +kernel
theorem dX12_wholeAt_0 : decode cX12_wholeAt 0 = .ok (.aload_n 0, 1) := by decide +kernel
theorem dX12_wholeAt_1 : decode cX12_wholeAt 1 = .ok (.iload_n 1, 1) := by decide +kernel
theorem dX12_wholeAt_2 : decode cX12_wholeAt 2 = .ok (.iload_n 2, 1) := by decide +kernel
theorem dX12_wholeAt_3 : decode cX12_wholeAt 3 = .ok (.invokevirtual 177, 3) := by decide +kernel
theorem dX12_wholeAt_6 : decode cX12_wholeAt 6 = .ok (.istore_n 3, 1) := by decide +kernel
theorem dX12_wholeAt_7 : decode cX12_wholeAt 7 = .ok (.iload_n 3, 1) := by decide +kernel
theorem dX12_wholeAt_8 : decode cX12_wholeAt 8 = .ok (.iconst (-1), 1) := by decide +kernel
theorem dX12_wholeAt_9 : decode cX12_wholeAt 9 = .ok (.if_icmp .ne 7, 3) := by decide +kernel
theorem dX12_wholeAt_12 : decode cX12_wholeAt 12 = .ok (.iconst (-1), 1) := by decide +kernel
theorem dX12_wholeAt_13 : decode cX12_wholeAt 13 = .ok (.goto 18, 3) := by decide +kernel

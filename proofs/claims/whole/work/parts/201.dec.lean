theorem dX3_isWordOfName_31 : decode cX3_isWordOfName 31 = .ok (.iconst 0, 1) := by decide +kernel
theorem dX3_isWordOfName_32 : decode cX3_isWordOfName 32 = .ok (.ireturn, 1) := by decide +kernel
theorem dX3_isWordOfName_25 : decode cX3_isWordOfName 25 = .ok (.iinc 3 1, 3) := by decide +kernel
theorem dX3_isWordOfName_28 : decode cX3_isWordOfName 28 = .ok (.goto (-26), 3) := by decide +kernel
theorem dX3_isWordOfName_2 : decode cX3_isWordOfName 2 = .ok (.iload_n 3, 1) := by decide +kernel
theorem dX3_isWordOfName_3 : decode cX3_isWordOfName 3 = .ok (.iconst 3, 1) := by decide +kernel
theorem dX3_isWordOfName_4 : decode cX3_isWordOfName 4 = .ok (.aload_n 0, 1) := by decide +kernel
theorem dX3_isWordOfName_5 : decode cX3_isWordOfName 5 = .ok (.getfield 28, 3) := by decide +kernel
theorem dX3_isWordOfName_8 : decode cX3_isWordOfName 8 = .ok (.imul, 1) := by decide +kernel
theorem dX3_isWordOfName_9 : decode cX3_isWordOfName 9 = .ok (.if_icmp .ge 22, 3) := by decide +kernel
theorem dX3_isWordOfName_12 : decode cX3_isWordOfName 12 = .ok (.aload_n 0, 1) := by decide +kernel
theorem dX3_isWordOfName_13 : decode cX3_isWordOfName 13 = .ok (.getfield 24, 3) := by decide +kernel
theorem dX3_isWordOfName_16 : decode cX3_isWordOfName 16 = .ok (.iload_n 3, 1) := by decide +kernel
theorem dX3_isWordOfName_17 : decode cX3_isWordOfName 17 = .ok (.laload, 1) := by decide +kernel
theorem dX3_isWordOfName_18 : decode cX3_isWordOfName 18 = .ok (.lload_n 1, 1) := by decide +kernel
theorem dX3_isWordOfName_19 : decode cX3_isWordOfName 19 = .ok (.lcmp, 1) := by decide +kernel
theorem dX3_isWordOfName_20 : decode cX3_isWordOfName 20 = .ok (.ifCond .ne 5, 3) := by decide +kernel
theorem dX3_isWordOfName_23 : decode cX3_isWordOfName 23 = .ok (.iconst 1, 1) := by decide +kernel
theorem dX3_isWordOfName_24 : decode cX3_isWordOfName 24 = .ok (.ireturn, 1) := by decide +kernel
theorem dX3_isWordOfName_0 : decode cX3_isWordOfName 0 = .ok (.iconst 0, 1) := by decide +kernel
theorem dX3_isWordOfName_1 : decode cX3_isWordOfName 1 = .ok (.istore_n 3, 1) := by decide +kernel
theorem dX8_keep_40 : decode cX8_keep 40 = .ok (.aload_n 0, 1) := by decide +kernel
theorem dX8_keep_41 : decode cX8_keep 41 = .ok (.getfield 9, 3) := by decide +kernel
theorem dX8_keep_44 : decode cX8_keep 44 = .ok (.iload 5, 2) := by decide +kernel
theorem dX8_keep_46 : decode cX8_keep 46 = .ok (.lload_n 1, 1) := by decide +kernel
theorem dX8_keep_47 : decode cX8_keep 47 = .ok (.lastore, 1) := by decide +kernel
theorem dX8_keep_48 : decode cX8_keep 48 = .ok (.aload_n 0, 1) := by decide +kernel
theorem dX8_keep_49 : decode cX8_keep 49 = .ok (.getfield 15, 3) := by decide +kernel
theorem dX8_keep_52 : decode cX8_keep 52 = .ok (.iload 5, 2) := by decide +kernel
theorem dX8_keep_54 : decode cX8_keep 54 = .ok (.lload_n 3, 1) := by decide +kernel
theorem dX8_keep_55 : decode cX8_keep 55 = .ok (.lastore, 1) := by decide +kernel
theorem dX8_keep_56 : decode cX8_keep 56 = .ok (.iconst 1, 1) := by decide +kernel
theorem dX8_keep_57 : decode cX8_keep 57 = .ok (.ireturn, 1) := by decide +kernel
theorem dX8_keep_24 : decode cX8_keep 24 = .ok (.aload_n 0, 1) := by decide +kernel
theorem dX8_keep_25 : decode cX8_keep 25 = .ok (.getfield 18, 3) := by decide +kernel
theorem dX8_keep_28 : decode cX8_keep 28 = .ok (.istore 5, 2) := by decide +kernel
theorem dX8_keep_30 : decode cX8_keep 30 = .ok (.aload_n 0, 1) := by decide +kernel
theorem dX8_keep_31 : decode cX8_keep 31 = .ok (.dup, 1) := by decide +kernel
theorem dX8_keep_32 : decode cX8_keep 32 = .ok (.getfield 18, 3) := by decide +kernel
theorem dX8_keep_35 : decode cX8_keep 35 = .ok (.iconst 1, 1) := by decide +kernel
theorem dX8_keep_36 : decode cX8_keep 36 = .ok (.iadd, 1) := by decide +kernel
theorem dX8_keep_37 : decode cX8_keep 37 = .ok (.putfield 18, 3) := by decide +kernel
theorem dX8_keep_0 : decode cX8_keep 0 = .ok (.aload_n 0, 1) := by decide +kernel
theorem dX8_keep_1 : decode cX8_keep 1 = .ok (.lload_n 1, 1) := by decide +kernel
theorem dX8_keep_2 : decode cX8_keep 2 = .ok (.invokevirtual 28, 3) := by decide +kernel
theorem dX8_keep_5 : decode cX8_keep 5 = .ok (.istore 5, 2) := by decide +kernel
theorem dX8_keep_7 : decode cX8_keep 7 = .ok (.iload 5, 2) := by decide +kernel
theorem dX8_keep_9 : decode cX8_keep 9 = .ok (.iconst (-1), 1) := by decide +kernel
theorem dX8_keep_10 : decode cX8_keep 10 = .ok (.if_icmp .ne 30, 3) := by decide +kernel
theorem dX8_keep_13 : decode cX8_keep 13 = .ok (.aload_n 0, 1) := by decide +kernel
theorem dX8_keep_14 : decode cX8_keep 14 = .ok (.getfield 18, 3) := by decide +kernel
theorem dX8_keep_17 : decode cX8_keep 17 = .ok (.bipush 20, 2) := by decide +kernel
theorem dX8_keep_19 : decode cX8_keep 19 = .ok (.if_icmp .lt 5, 3) := by decide +kernel
theorem dX8_keep_22 : decode cX8_keep 22 = .ok (.iconst 0, 1) := by decide +kernel
theorem dX8_keep_23 : decode cX8_keep 23 = .ok (.ireturn, 1) := by decide +kernel
theorem dX11_shorten_94 : decode cX11_shorten 94 = .ok (.aload_n 0, 1) := by decide +kernel
theorem dX11_shorten_95 : decode cX11_shorten 95 = .ok (.getfield 22, 3) := by decide +kernel
theorem dX11_shorten_98 : decode cX11_shorten 98 = .ok (.getfield 126, 3) := by decide +kernel
theorem dX11_shorten_101 : decode cX11_shorten 101 = .ok (.getfield 136, 3) := by decide +kernel
theorem dX11_shorten_104 : decode cX11_shorten 104 = .ok (.ireturn, 1) := by decide +kernel
theorem dX11_shorten_68 : decode cX11_shorten 68 = .ok (.aload_n 0, 1) := by decide +kernel
theorem dX11_shorten_69 : decode cX11_shorten 69 = .ok (.getfield 22, 3) := by decide +kernel
theorem dX11_shorten_72 : decode cX11_shorten 72 = .ok (.getfield 126, 3) := by decide +kernel
theorem dX11_shorten_75 : decode cX11_shorten 75 = .ok (.lload_n 2, 1) := by decide +kernel
theorem dX11_shorten_76 : decode cX11_shorten 76 = .ok (.aload_n 0, 1) := by decide +kernel
theorem dX11_shorten_77 : decode cX11_shorten 77 = .ok (.getfield 33, 3) := by decide +kernel
theorem dX11_shorten_80 : decode cX11_shorten 80 = .ok (.getfield 93, 3) := by decide +kernel
theorem dX11_shorten_83 : decode cX11_shorten 83 = .ok (.iconst 1, 1) := by decide +kernel
theorem dX11_shorten_84 : decode cX11_shorten 84 = .ok (.laload, 1) := by decide +kernel
theorem dX11_shorten_85 : decode cX11_shorten 85 = .ok (.invokevirtual 130, 3) := by decide +kernel
theorem dX11_shorten_88 : decode cX11_shorten 88 = .ok (.ifCond .ne 6, 3) := by decide +kernel
theorem dX11_shorten_91 : decode cX11_shorten 91 = .ok (.bipush (-6), 2) := by decide +kernel
theorem dX11_shorten_93 : decode cX11_shorten 93 = .ok (.ireturn, 1) := by decide +kernel
theorem dX11_shorten_65 : decode cX11_shorten 65 = .ok (.bipush (-5), 2) := by decide +kernel
theorem dX11_shorten_67 : decode cX11_shorten 67 = .ok (.ireturn, 1) := by decide +kernel
theorem dX11_shorten_27 : decode cX11_shorten 27 = .ok (.aload_n 0, 1) := by decide +kernel
theorem dX11_shorten_28 : decode cX11_shorten 28 = .ok (.getfield 33, 3) := by decide +kernel
theorem dX11_shorten_31 : decode cX11_shorten 31 = .ok (.getfield 93, 3) := by decide +kernel
theorem dX11_shorten_34 : decode cX11_shorten 34 = .ok (.iconst 0, 1) := by decide +kernel
theorem dX11_shorten_35 : decode cX11_shorten 35 = .ok (.laload, 1) := by decide +kernel
theorem dX11_shorten_36 : decode cX11_shorten 36 = .ok (.lstore_n 2, 1) := by decide +kernel
theorem dX11_shorten_37 : decode cX11_shorten 37 = .ok (.aload_n 0, 1) := by decide +kernel
theorem dX11_shorten_38 : decode cX11_shorten 38 = .ok (.getfield 22, 3) := by decide +kernel
theorem dX11_shorten_41 : decode cX11_shorten 41 = .ok (.getfield 89, 3) := by decide +kernel
theorem dX11_shorten_44 : decode cX11_shorten 44 = .ok (.lload_n 2, 1) := by decide +kernel
theorem dX11_shorten_45 : decode cX11_shorten 45 = .ok (.invokevirtual 113, 3) := by decide +kernel
theorem dX11_shorten_48 : decode cX11_shorten 48 = .ok (.ifCond .ne 17, 3) := by decide +kernel
theorem dX11_shorten_51 : decode cX11_shorten 51 = .ok (.aload_n 0, 1) := by decide +kernel
theorem dX11_shorten_52 : decode cX11_shorten 52 = .ok (.getfield 22, 3) := by decide +kernel
theorem dX11_shorten_55 : decode cX11_shorten 55 = .ok (.getfield 117, 3) := by decide +kernel
theorem dX11_shorten_58 : decode cX11_shorten 58 = .ok (.lload_n 2, 1) := by decide +kernel
theorem dX11_shorten_59 : decode cX11_shorten 59 = .ok (.invokevirtual 121, 3) := by decide +kernel
theorem dX11_shorten_62 : decode cX11_shorten 62 = .ok (.ifCond .eq 6, 3) := by decide +kernel
theorem dX11_shorten_0 : decode cX11_shorten 0 = .ok (.aload_n 0, 1) := by decide +kernel
theorem dX11_shorten_1 : decode cX11_shorten 1 = .ok (.getfield 33, 3) := by decide +kernel
theorem dX11_shorten_4 : decode cX11_shorten 4 = .ok (.aload_n 0, 1) := by decide +kernel
theorem dX11_shorten_5 : decode cX11_shorten 5 = .ok (.getfield 12, 3) := by decide +kernel
theorem dX11_shorten_8 : decode cX11_shorten 8 = .ok (.invokevirtual 109, 3) := by decide +kernel
theorem dX11_shorten_11 : decode cX11_shorten 11 = .ok (.istore_n 1, 1) := by decide +kernel
theorem dX11_shorten_12 : decode cX11_shorten 12 = .ok (.aload_n 0, 1) := by decide +kernel
theorem dX11_shorten_13 : decode cX11_shorten 13 = .ok (.getfield 12, 3) := by decide +kernel
theorem dX11_shorten_16 : decode cX11_shorten 16 = .ok (.iconst 0, 1) := by decide +kernel
theorem dX11_shorten_17 : decode cX11_shorten 17 = .ok (.putfield 58, 3) := by decide +kernel
theorem dX11_shorten_20 : decode cX11_shorten 20 = .ok (.iload_n 1, 1) := by decide +kernel
theorem dX11_shorten_21 : decode cX11_shorten 21 = .ok (.ifCond .ne 6, 3) := by decide +kernel
theorem dX11_shorten_24 : decode cX11_shorten 24 = .ok (.bipush (-2), 2) := by decide +kernel
theorem dX11_shorten_26 : decode cX11_shorten 26 = .ok (.ireturn, 1) := by decide +kernel
theorem dX10_isTown_17 : decode cX10_isTown 17 = .ok (.ireturn, 1) := by decide +kernel
theorem dX10_isTown_16 : decode cX10_isTown 16 = .ok (.iconst 0, 1) := by decide +kernel
theorem dX10_isTown_0 : decode cX10_isTown 0 = .ok (.iload_n 1, 1) := by decide +kernel
theorem dX10_isTown_1 : decode cX10_isTown 1 = .ok (.ifCond .lt 15, 3) := by decide +kernel
theorem dX10_isTown_4 : decode cX10_isTown 4 = .ok (.iload_n 1, 1) := by decide +kernel
theorem dX10_isTown_5 : decode cX10_isTown 5 = .ok (.aload_n 0, 1) := by decide +kernel
theorem dX10_isTown_6 : decode cX10_isTown 6 = .ok (.getfield 28, 3) := by decide +kernel
theorem dX10_isTown_9 : decode cX10_isTown 9 = .ok (.if_icmp .ge 7, 3) := by decide +kernel
theorem dX10_isTown_12 : decode cX10_isTown 12 = .ok (.iconst 1, 1) := by decide +kernel
theorem dX10_isTown_13 : decode cX10_isTown 13 = .ok (.goto 4, 3) := by decide +kernel
theorem dX6_wasJoined_28 : decode cX6_wasJoined 28 = .ok (.iconst 0, 1) := by decide +kernel
theorem dX6_wasJoined_29 : decode cX6_wasJoined 29 = .ok (.ireturn, 1) := by decide +kernel
theorem dX6_wasJoined_22 : decode cX6_wasJoined 22 = .ok (.iinc 2 1, 3) := by decide +kernel
theorem dX6_wasJoined_25 : decode cX6_wasJoined 25 = .ok (.goto (-23), 3) := by decide +kernel
theorem dX6_wasJoined_2 : decode cX6_wasJoined 2 = .ok (.iload_n 2, 1) := by decide +kernel
theorem dX6_wasJoined_3 : decode cX6_wasJoined 3 = .ok (.aload_n 0, 1) := by decide +kernel
theorem dX6_wasJoined_4 : decode cX6_wasJoined 4 = .ok (.getfield 40, 3) := by decide +kernel
theorem dX6_wasJoined_7 : decode cX6_wasJoined 7 = .ok (.if_icmp .ge 21, 3) := by decide +kernel
theorem dX6_wasJoined_10 : decode cX6_wasJoined 10 = .ok (.aload_n 0, 1) := by decide +kernel
theorem dX6_wasJoined_11 : decode cX6_wasJoined 11 = .ok (.getfield 31, 3) := by decide +kernel
theorem dX6_wasJoined_14 : decode cX6_wasJoined 14 = .ok (.iload_n 2, 1) := by decide +kernel
theorem dX6_wasJoined_15 : decode cX6_wasJoined 15 = .ok (.iaload, 1) := by decide +kernel
theorem dX6_wasJoined_16 : decode cX6_wasJoined 16 = .ok (.iload_n 1, 1) := by decide +kernel
theorem dX6_wasJoined_17 : decode cX6_wasJoined 17 = .ok (.if_icmp .ne 5, 3) := by decide +kernel
theorem dX6_wasJoined_20 : decode cX6_wasJoined 20 = .ok (.iconst 1, 1) := by decide +kernel
theorem dX6_wasJoined_21 : decode cX6_wasJoined 21 = .ok (.ireturn, 1) := by decide +kernel
theorem dX6_wasJoined_0 : decode cX6_wasJoined 0 = .ok (.iconst 0, 1) := by decide +kernel
theorem dX6_wasJoined_1 : decode cX6_wasJoined 1 = .ok (.istore_n 2, 1) := by decide +kernel
theorem dX11_isTownOfItsOwn_33 : decode cX11_isTownOfItsOwn 33 = .ok (.ireturn, 1) := by decide +kernel
theorem dX11_isTownOfItsOwn_32 : decode cX11_isTownOfItsOwn 32 = .ok (.iconst 0, 1) := by decide +kernel
theorem dX11_isTownOfItsOwn_0 : decode cX11_isTownOfItsOwn 0 = .ok (.aload_n 0, 1) := by decide +kernel
theorem dX11_isTownOfItsOwn_1 : decode cX11_isTownOfItsOwn 1 = .ok (.getfield 22, 3) := by decide +kernel
theorem dX11_isTownOfItsOwn_4 : decode cX11_isTownOfItsOwn 4 = .ok (.getfield 89, 3) := by decide +kernel
theorem dX11_isTownOfItsOwn_7 : decode cX11_isTownOfItsOwn 7 = .ok (.iload_n 1, 1) := by decide +kernel
theorem dX11_isTownOfItsOwn_8 : decode cX11_isTownOfItsOwn 8 = .ok (.invokevirtual 518, 3) := by decide +kernel
theorem dX11_isTownOfItsOwn_11 : decode cX11_isTownOfItsOwn 11 = .ok (.ifCond .eq 21, 3) := by decide +kernel
theorem dX11_isTownOfItsOwn_14 : decode cX11_isTownOfItsOwn 14 = .ok (.aload_n 0, 1) := by decide +kernel
theorem dX11_isTownOfItsOwn_15 : decode cX11_isTownOfItsOwn 15 = .ok (.getfield 22, 3) := by decide +kernel
theorem dX11_isTownOfItsOwn_18 : decode cX11_isTownOfItsOwn 18 = .ok (.getfield 73, 3) := by decide +kernel
theorem dX11_isTownOfItsOwn_21 : decode cX11_isTownOfItsOwn 21 = .ok (.iload_n 1, 1) := by decide +kernel
theorem dX11_isTownOfItsOwn_22 : decode cX11_isTownOfItsOwn 22 = .ok (.invokevirtual 521, 3) := by decide +kernel
theorem dX11_isTownOfItsOwn_25 : decode cX11_isTownOfItsOwn 25 = .ok (.ifCond .ne 7, 3) := by decide +kernel
theorem dX11_isTownOfItsOwn_28 : decode cX11_isTownOfItsOwn 28 = .ok (.iconst 1, 1) := by decide +kernel
theorem dX11_isTownOfItsOwn_29 : decode cX11_isTownOfItsOwn 29 = .ok (.goto 4, 3) := by decide +kernel
theorem dX11_isRule_14 : decode cX11_isRule 14 = .ok (.ireturn, 1) := by decide +kernel
theorem dX11_isRule_13 : decode cX11_isRule 13 = .ok (.iconst 0, 1) := by decide +kernel
theorem dX11_isRule_0 : decode cX11_isRule 0 = .ok (.iload_n 0, 1) := by decide +kernel
theorem dX11_isRule_1 : decode cX11_isRule 1 = .ok (.ifCond .lt 12, 3) := by decide +kernel
theorem dX11_isRule_4 : decode cX11_isRule 4 = .ok (.iload_n 0, 1) := by decide +kernel
theorem dX11_isRule_5 : decode cX11_isRule 5 = .ok (.iconst 3, 1) := by decide +kernel
theorem dX11_isRule_6 : decode cX11_isRule 6 = .ok (.if_icmp .gt 7, 3) := by decide +kernel
theorem dX11_isRule_9 : decode cX11_isRule 9 = .ok (.iconst 1, 1) := by decide +kernel
theorem dX11_isRule_10 : decode cX11_isRule 10 = .ok (.goto 4, 3) := by decide +kernel
theorem dX6_latestOn_110 : decode cX6_latestOn 110 = .ok (.iload_n 3, 1) := by decide +kernel
theorem dX6_latestOn_111 : decode cX6_latestOn 111 = .ok (.ireturn, 1) := by decide +kernel
theorem dX6_latestOn_104 : decode cX6_latestOn 104 = .ok (.iinc 4 1, 3) := by decide +kernel
theorem dX6_latestOn_107 : decode cX6_latestOn 107 = .ok (.goto (-102), 3) := by decide +kernel
theorem dX6_latestOn_92 : decode cX6_latestOn 92 = .ok (.iload_n 3, 1) := by decide +kernel
theorem dX6_latestOn_93 : decode cX6_latestOn 93 = .ok (.aload_n 0, 1) := by decide +kernel
theorem dX6_latestOn_94 : decode cX6_latestOn 94 = .ok (.getfield 15, 3) := by decide +kernel
theorem dX6_latestOn_97 : decode cX6_latestOn 97 = .ok (.iload 4, 2) := by decide +kernel
theorem dX6_latestOn_99 : decode cX6_latestOn 99 = .ok (.iaload, 1) := by decide +kernel
theorem dX6_latestOn_100 : decode cX6_latestOn 100 = .ok (.invokestatic 63, 3) := by decide +kernel
theorem dX6_latestOn_103 : decode cX6_latestOn 103 = .ok (.istore_n 3, 1) := by decide +kernel
theorem dX6_latestOn_80 : decode cX6_latestOn 80 = .ok (.istore 6, 2) := by decide +kernel
theorem dX6_latestOn_82 : decode cX6_latestOn 82 = .ok (.iload 5, 2) := by decide +kernel
theorem dX6_latestOn_84 : decode cX6_latestOn 84 = .ok (.ifCond .ne 8, 3) := by decide +kernel
theorem dX6_latestOn_87 : decode cX6_latestOn 87 = .ok (.iload 6, 2) := by decide +kernel
theorem dX6_latestOn_89 : decode cX6_latestOn 89 = .ok (.ifCond .eq 15, 3) := by decide +kernel
theorem dX6_latestOn_79 : decode cX6_latestOn 79 = .ok (.iconst 0, 1) := by decide +kernel
theorem dX6_latestOn_75 : decode cX6_latestOn 75 = .ok (.iconst 1, 1) := by decide +kernel
theorem dX6_latestOn_76 : decode cX6_latestOn 76 = .ok (.goto 4, 3) := by decide +kernel
theorem dX6_latestOn_46 : decode cX6_latestOn 46 = .ok (.istore 5, 2) := by decide +kernel
theorem dX6_latestOn_48 : decode cX6_latestOn 48 = .ok (.iload_n 2, 1) := by decide +kernel
theorem dX6_latestOn_49 : decode cX6_latestOn 49 = .ok (.iconst (-1), 1) := by decide +kernel
theorem dX6_latestOn_50 : decode cX6_latestOn 50 = .ok (.if_icmp .eq 29, 3) := by decide +kernel
theorem dX6_latestOn_53 : decode cX6_latestOn 53 = .ok (.aload_n 0, 1) := by decide +kernel
theorem dX6_latestOn_54 : decode cX6_latestOn 54 = .ok (.getfield 28, 3) := by decide +kernel
theorem dX6_latestOn_57 : decode cX6_latestOn 57 = .ok (.iload 4, 2) := by decide +kernel
theorem dX6_latestOn_59 : decode cX6_latestOn 59 = .ok (.iaload, 1) := by decide +kernel
theorem dX6_latestOn_60 : decode cX6_latestOn 60 = .ok (.iload_n 2, 1) := by decide +kernel
theorem dX6_latestOn_61 : decode cX6_latestOn 61 = .ok (.if_icmp .eq 14, 3) := by decide +kernel
theorem dX6_latestOn_64 : decode cX6_latestOn 64 = .ok (.aload_n 0, 1) := by decide +kernel
theorem dX6_latestOn_65 : decode cX6_latestOn 65 = .ok (.getfield 31, 3) := by decide +kernel
theorem dX6_latestOn_68 : decode cX6_latestOn 68 = .ok (.iload 4, 2) := by decide +kernel
theorem dX6_latestOn_70 : decode cX6_latestOn 70 = .ok (.iaload, 1) := by decide +kernel
theorem dX6_latestOn_71 : decode cX6_latestOn 71 = .ok (.iload_n 2, 1) := by decide +kernel
theorem dX6_latestOn_72 : decode cX6_latestOn 72 = .ok (.if_icmp .ne 7, 3) := by decide +kernel
theorem dX6_latestOn_45 : decode cX6_latestOn 45 = .ok (.iconst 0, 1) := by decide +kernel
theorem dX6_latestOn_41 : decode cX6_latestOn 41 = .ok (.iconst 1, 1) := by decide +kernel
theorem dX6_latestOn_42 : decode cX6_latestOn 42 = .ok (.goto 4, 3) := by decide +kernel
theorem dX6_latestOn_5 : decode cX6_latestOn 5 = .ok (.iload 4, 2) := by decide +kernel
theorem dX6_latestOn_7 : decode cX6_latestOn 7 = .ok (.aload_n 0, 1) := by decide +kernel
theorem dX6_latestOn_8 : decode cX6_latestOn 8 = .ok (.getfield 40, 3) := by decide +kernel
theorem dX6_latestOn_11 : decode cX6_latestOn 11 = .ok (.if_icmp .ge 99, 3) := by decide +kernel
theorem dX6_latestOn_14 : decode cX6_latestOn 14 = .ok (.iload_n 1, 1) := by decide +kernel
theorem dX6_latestOn_15 : decode cX6_latestOn 15 = .ok (.iconst (-1), 1) := by decide +kernel
theorem dX6_latestOn_16 : decode cX6_latestOn 16 = .ok (.if_icmp .eq 29, 3) := by decide +kernel
theorem dX6_latestOn_19 : decode cX6_latestOn 19 = .ok (.aload_n 0, 1) := by decide +kernel
theorem dX6_latestOn_20 : decode cX6_latestOn 20 = .ok (.getfield 22, 3) := by decide +kernel
theorem dX6_latestOn_23 : decode cX6_latestOn 23 = .ok (.iload 4, 2) := by decide +kernel
theorem dX6_latestOn_25 : decode cX6_latestOn 25 = .ok (.iaload, 1) := by decide +kernel
theorem dX6_latestOn_26 : decode cX6_latestOn 26 = .ok (.iload_n 1, 1) := by decide +kernel
theorem dX6_latestOn_27 : decode cX6_latestOn 27 = .ok (.if_icmp .eq 14, 3) := by decide +kernel
theorem dX6_latestOn_30 : decode cX6_latestOn 30 = .ok (.aload_n 0, 1) := by decide +kernel
theorem dX6_latestOn_31 : decode cX6_latestOn 31 = .ok (.getfield 25, 3) := by decide +kernel
theorem dX6_latestOn_34 : decode cX6_latestOn 34 = .ok (.iload 4, 2) := by decide +kernel
theorem dX6_latestOn_36 : decode cX6_latestOn 36 = .ok (.iaload, 1) := by decide +kernel
theorem dX6_latestOn_37 : decode cX6_latestOn 37 = .ok (.iload_n 1, 1) := by decide +kernel
theorem dX6_latestOn_38 : decode cX6_latestOn 38 = .ok (.if_icmp .ne 7, 3) := by decide +kernel
theorem dX6_latestOn_0 : decode cX6_latestOn 0 = .ok (.iconst 0, 1) := by decide +kernel
theorem dX6_latestOn_1 : decode cX6_latestOn 1 = .ok (.istore_n 3, 1) := by decide +kernel
theorem dX6_latestOn_2 : decode cX6_latestOn 2 = .ok (.iconst 0, 1) := by decide +kernel
theorem dX6_latestOn_3 : decode cX6_latestOn 3 = .ok (.istore 4, 2) := by decide +kernel
theorem dX6_isPaper_17 : decode cX6_isPaper 17 = .ok (.ireturn, 1) := by decide +kernel
theorem dX6_isPaper_16 : decode cX6_isPaper 16 = .ok (.iconst 0, 1) := by decide +kernel
theorem dX6_isPaper_0 : decode cX6_isPaper 0 = .ok (.iload_n 1, 1) := by decide +kernel
theorem dX6_isPaper_1 : decode cX6_isPaper 1 = .ok (.ifCond .lt 15, 3) := by decide +kernel
theorem dX6_isPaper_4 : decode cX6_isPaper 4 = .ok (.iload_n 1, 1) := by decide +kernel
theorem dX6_isPaper_5 : decode cX6_isPaper 5 = .ok (.aload_n 0, 1) := by decide +kernel
theorem dX6_isPaper_6 : decode cX6_isPaper 6 = .ok (.getfield 40, 3) := by decide +kernel
theorem dX6_isPaper_9 : decode cX6_isPaper 9 = .ok (.if_icmp .ge 7, 3) := by decide +kernel
theorem dX6_isPaper_12 : decode cX6_isPaper 12 = .ok (.iconst 1, 1) := by decide +kernel
theorem dX6_isPaper_13 : decode cX6_isPaper 13 = .ok (.goto 4, 3) := by decide +kernel
theorem dX6_startOf_19 : decode cX6_startOf 19 = .ok (.ireturn, 1) := by decide +kernel
theorem dX6_startOf_17 : decode cX6_startOf 17 = .ok (.ldc 59, 2) := by decide +kernel
theorem dX6_startOf_0 : decode cX6_startOf 0 = .ok (.aload_n 0, 1) := by decide +kernel
theorem dX6_startOf_1 : decode cX6_startOf 1 = .ok (.iload_n 1, 1) := by decide +kernel
theorem dX6_startOf_2 : decode cX6_startOf 2 = .ok (.invokevirtual 55, 3) := by decide +kernel
theorem dX6_startOf_5 : decode cX6_startOf 5 = .ok (.ifCond .eq 12, 3) := by decide +kernel
theorem dX6_startOf_8 : decode cX6_startOf 8 = .ok (.aload_n 0, 1) := by decide +kernel
theorem dX6_startOf_9 : decode cX6_startOf 9 = .ok (.getfield 15, 3) := by decide +kernel
theorem dX6_startOf_12 : decode cX6_startOf 12 = .ok (.iload_n 1, 1) := by decide +kernel
theorem dX6_startOf_13 : decode cX6_startOf 13 = .ok (.iaload, 1) := by decide +kernel
theorem dX6_startOf_14 : decode cX6_startOf 14 = .ok (.goto 5, 3) := by decide +kernel
theorem dX3_isNamed_30 : decode cX3_isNamed 30 = .ok (.ireturn, 1) := by decide +kernel
theorem dX3_isNamed_29 : decode cX3_isNamed 29 = .ok (.iconst 0, 1) := by decide +kernel
theorem dX3_isNamed_0 : decode cX3_isNamed 0 = .ok (.aload_n 0, 1) := by decide +kernel
theorem dX3_isNamed_1 : decode cX3_isNamed 1 = .ok (.getfield 15, 3) := by decide +kernel
theorem dX3_isNamed_4 : decode cX3_isNamed 4 = .ok (.iload_n 1, 1) := by decide +kernel
theorem dX3_isNamed_5 : decode cX3_isNamed 5 = .ok (.iaload, 1) := by decide +kernel
theorem dX3_isNamed_6 : decode cX3_isNamed 6 = .ok (.iload_n 3, 1) := by decide +kernel
theorem dX3_isNamed_7 : decode cX3_isNamed 7 = .ok (.if_icmp .ne 22, 3) := by decide +kernel
theorem dX3_isNamed_10 : decode cX3_isNamed 10 = .ok (.aload_n 0, 1) := by decide +kernel
theorem dX3_isNamed_11 : decode cX3_isNamed 11 = .ok (.getfield 24, 3) := by decide +kernel
theorem dX3_isNamed_14 : decode cX3_isNamed 14 = .ok (.iconst 3, 1) := by decide +kernel
theorem dX3_isNamed_15 : decode cX3_isNamed 15 = .ok (.iload_n 1, 1) := by decide +kernel
theorem dX3_isNamed_16 : decode cX3_isNamed 16 = .ok (.imul, 1) := by decide +kernel
theorem dX3_isNamed_17 : decode cX3_isNamed 17 = .ok (.aload_n 2, 1) := by decide +kernel
theorem dX3_isNamed_18 : decode cX3_isNamed 18 = .ok (.iconst 0, 1) := by decide +kernel
theorem dX3_isNamed_19 : decode cX3_isNamed 19 = .ok (.invokestatic 48, 3) := by decide +kernel
theorem dX3_isNamed_22 : decode cX3_isNamed 22 = .ok (.ifCond .eq 7, 3) := by decide +kernel
theorem dX3_isNamed_25 : decode cX3_isNamed 25 = .ok (.iconst 1, 1) := by decide +kernel
theorem dX3_isNamed_26 : decode cX3_isNamed 26 = .ok (.goto 4, 3) := by decide +kernel
theorem dX6_lastEndOf_19 : decode cX6_lastEndOf 19 = .ok (.ireturn, 1) := by decide +kernel
theorem dX6_lastEndOf_17 : decode cX6_lastEndOf 17 = .ok (.ldc 59, 2) := by decide +kernel
theorem dX6_lastEndOf_0 : decode cX6_lastEndOf 0 = .ok (.aload_n 0, 1) := by decide +kernel
theorem dX6_lastEndOf_1 : decode cX6_lastEndOf 1 = .ok (.iload_n 1, 1) := by decide +kernel
theorem dX6_lastEndOf_2 : decode cX6_lastEndOf 2 = .ok (.invokevirtual 55, 3) := by decide +kernel
theorem dX6_lastEndOf_5 : decode cX6_lastEndOf 5 = .ok (.ifCond .eq 12, 3) := by decide +kernel
theorem dX6_lastEndOf_8 : decode cX6_lastEndOf 8 = .ok (.aload_n 0, 1) := by decide +kernel
theorem dX6_lastEndOf_9 : decode cX6_lastEndOf 9 = .ok (.getfield 15, 3) := by decide +kernel
theorem dX6_lastEndOf_12 : decode cX6_lastEndOf 12 = .ok (.iload_n 1, 1) := by decide +kernel
theorem dX6_lastEndOf_13 : decode cX6_lastEndOf 13 = .ok (.iaload, 1) := by decide +kernel
theorem dX6_lastEndOf_14 : decode cX6_lastEndOf 14 = .ok (.goto 5, 3) := by decide +kernel
theorem dX3_isHeldFrom_66 : decode cX3_isHeldFrom 66 = .ok (.iconst 0, 1) := by decide +kernel
theorem dX3_isHeldFrom_67 : decode cX3_isHeldFrom 67 = .ok (.ireturn, 1) := by decide +kernel
theorem dX3_isHeldFrom_60 : decode cX3_isHeldFrom 60 = .ok (.iinc 5 1, 3) := by decide +kernel
theorem dX3_isHeldFrom_63 : decode cX3_isHeldFrom 63 = .ok (.goto (-60), 3) := by decide +kernel
theorem dX3_isHeldFrom_3 : decode cX3_isHeldFrom 3 = .ok (.iload 5, 2) := by decide +kernel
theorem dX3_isHeldFrom_5 : decode cX3_isHeldFrom 5 = .ok (.aload_n 0, 1) := by decide +kernel
theorem dX3_isHeldFrom_6 : decode cX3_isHeldFrom 6 = .ok (.getfield 28, 3) := by decide +kernel
theorem dX3_isHeldFrom_9 : decode cX3_isHeldFrom 9 = .ok (.if_icmp .ge 57, 3) := by decide +kernel
theorem dX3_isHeldFrom_12 : decode cX3_isHeldFrom 12 = .ok (.iload_n 3, 1) := by decide +kernel
theorem dX3_isHeldFrom_13 : decode cX3_isHeldFrom 13 = .ok (.aload 4, 2) := by decide +kernel
theorem dX3_isHeldFrom_15 : decode cX3_isHeldFrom 15 = .ok (.aload_n 0, 1) := by decide +kernel
theorem dX3_isHeldFrom_16 : decode cX3_isHeldFrom 16 = .ok (.getfield 18, 3) := by decide +kernel
theorem dX3_isHeldFrom_19 : decode cX3_isHeldFrom 19 = .ok (.iload 5, 2) := by decide +kernel
theorem dX3_isHeldFrom_21 : decode cX3_isHeldFrom 21 = .ok (.iaload, 1) := by decide +kernel
theorem dX3_isHeldFrom_22 : decode cX3_isHeldFrom 22 = .ok (.invokevirtual 56, 3) := by decide +kernel
theorem dX3_isHeldFrom_25 : decode cX3_isHeldFrom 25 = .ok (.invokestatic 59, 3) := by decide +kernel
theorem dX3_isHeldFrom_28 : decode cX3_isHeldFrom 28 = .ok (.istore 6, 2) := by decide +kernel
theorem dX3_isHeldFrom_30 : decode cX3_isHeldFrom 30 = .ok (.aload_n 0, 1) := by decide +kernel
theorem dX3_isHeldFrom_31 : decode cX3_isHeldFrom 31 = .ok (.iload 5, 2) := by decide +kernel
theorem dX3_isHeldFrom_33 : decode cX3_isHeldFrom 33 = .ok (.aload_n 1, 1) := by decide +kernel
theorem dX3_isHeldFrom_34 : decode cX3_isHeldFrom 34 = .ok (.iload_n 2, 1) := by decide +kernel
theorem dX3_isHeldFrom_35 : decode cX3_isHeldFrom 35 = .ok (.invokevirtual 52, 3) := by decide +kernel
theorem dX3_isHeldFrom_38 : decode cX3_isHeldFrom 38 = .ok (.ifCond .eq 22, 3) := by decide +kernel
theorem dX3_isHeldFrom_41 : decode cX3_isHeldFrom 41 = .ok (.iload 6, 2) := by decide +kernel
theorem dX3_isHeldFrom_43 : decode cX3_isHeldFrom 43 = .ok (.aload 4, 2) := by decide +kernel
theorem dX3_isHeldFrom_45 : decode cX3_isHeldFrom 45 = .ok (.aload_n 0, 1) := by decide +kernel
theorem dX3_isHeldFrom_46 : decode cX3_isHeldFrom 46 = .ok (.getfield 21, 3) := by decide +kernel
theorem dX3_isHeldFrom_49 : decode cX3_isHeldFrom 49 = .ok (.iload 5, 2) := by decide +kernel
theorem dX3_isHeldFrom_51 : decode cX3_isHeldFrom 51 = .ok (.iaload, 1) := by decide +kernel
theorem dX3_isHeldFrom_52 : decode cX3_isHeldFrom 52 = .ok (.invokevirtual 65, 3) := by decide +kernel
theorem dX3_isHeldFrom_55 : decode cX3_isHeldFrom 55 = .ok (.if_icmp .ge 5, 3) := by decide +kernel
theorem dX3_isHeldFrom_58 : decode cX3_isHeldFrom 58 = .ok (.iconst 1, 1) := by decide +kernel
theorem dX3_isHeldFrom_59 : decode cX3_isHeldFrom 59 = .ok (.ireturn, 1) := by decide +kernel
theorem dX3_isHeldFrom_0 : decode cX3_isHeldFrom 0 = .ok (.iconst 0, 1) := by decide +kernel
theorem dX3_isHeldFrom_1 : decode cX3_isHeldFrom 1 = .ok (.istore 5, 2) := by decide +kernel
theorem dX6_hasRoom_15 : decode cX6_hasRoom 15 = .ok (.ireturn, 1) := by decide +kernel
theorem dX6_hasRoom_14 : decode cX6_hasRoom 14 = .ok (.iconst 0, 1) := by decide +kernel
theorem dX6_hasRoom_0 : decode cX6_hasRoom 0 = .ok (.aload_n 0, 1) := by decide +kernel
theorem dX6_hasRoom_1 : decode cX6_hasRoom 1 = .ok (.getfield 40, 3) := by decide +kernel
theorem dX6_hasRoom_4 : decode cX6_hasRoom 4 = .ok (.sipush 200, 3) := by decide +kernel
theorem dX6_hasRoom_7 : decode cX6_hasRoom 7 = .ok (.if_icmp .ge 7, 3) := by decide +kernel
theorem dX6_hasRoom_10 : decode cX6_hasRoom 10 = .ok (.iconst 1, 1) := by decide +kernel
theorem dX6_hasRoom_11 : decode cX6_hasRoom 11 = .ok (.goto 4, 3) := by decide +kernel
theorem dX6_lay_0 : decode cX6_lay 0 = .ok (.aload_n 0, 1) := by decide +kernel
theorem dX6_lay_1 : decode cX6_lay 1 = .ok (.getfield 40, 3) := by decide +kernel
theorem dX6_lay_4 : decode cX6_lay 4 = .ok (.sipush 199, 3) := by decide +kernel
theorem dX6_lay_7 : decode cX6_lay 7 = .ok (.invokestatic 49, 3) := by decide +kernel
theorem dX6_lay_10 : decode cX6_lay 10 = .ok (.istore 4, 2) := by decide +kernel
theorem dX6_lay_12 : decode cX6_lay 12 = .ok (.aload_n 0, 1) := by decide +kernel
theorem dX6_lay_13 : decode cX6_lay 13 = .ok (.getfield 15, 3) := by decide +kernel
theorem dX6_lay_16 : decode cX6_lay 16 = .ok (.iload 4, 2) := by decide +kernel
theorem dX6_lay_18 : decode cX6_lay 18 = .ok (.iload_n 1, 1) := by decide +kernel
theorem dX6_lay_19 : decode cX6_lay 19 = .ok (.iastore, 1) := by decide +kernel
theorem dX6_lay_20 : decode cX6_lay 20 = .ok (.aload_n 0, 1) := by decide +kernel
theorem dX6_lay_21 : decode cX6_lay 21 = .ok (.getfield 19, 3) := by decide +kernel
theorem dX6_lay_24 : decode cX6_lay 24 = .ok (.iload 4, 2) := by decide +kernel
theorem dX6_lay_26 : decode cX6_lay 26 = .ok (.aload_n 0, 1) := by decide +kernel
theorem dX6_lay_27 : decode cX6_lay 27 = .ok (.getfield 37, 3) := by decide +kernel
theorem dX6_lay_30 : decode cX6_lay 30 = .ok (.iastore, 1) := by decide +kernel
theorem dX6_lay_31 : decode cX6_lay 31 = .ok (.aload_n 0, 1) := by decide +kernel
theorem dX6_lay_32 : decode cX6_lay 32 = .ok (.getfield 22, 3) := by decide +kernel
theorem dX6_lay_35 : decode cX6_lay 35 = .ok (.iload 4, 2) := by decide +kernel
theorem dX6_lay_37 : decode cX6_lay 37 = .ok (.iload_n 2, 1) := by decide +kernel
theorem dX6_lay_38 : decode cX6_lay 38 = .ok (.iastore, 1) := by decide +kernel
theorem dX6_lay_39 : decode cX6_lay 39 = .ok (.aload_n 0, 1) := by decide +kernel
theorem dX6_lay_40 : decode cX6_lay 40 = .ok (.getfield 25, 3) := by decide +kernel
theorem dX6_lay_43 : decode cX6_lay 43 = .ok (.iload 4, 2) := by decide +kernel
theorem dX6_lay_45 : decode cX6_lay 45 = .ok (.iload_n 3, 1) := by decide +kernel
theorem dX6_lay_46 : decode cX6_lay 46 = .ok (.iastore, 1) := by decide +kernel
theorem dX6_lay_47 : decode cX6_lay 47 = .ok (.aload_n 0, 1) := by decide +kernel
theorem dX6_lay_48 : decode cX6_lay 48 = .ok (.getfield 28, 3) := by decide +kernel
theorem dX6_lay_51 : decode cX6_lay 51 = .ok (.iload 4, 2) := by decide +kernel
theorem dX6_lay_53 : decode cX6_lay 53 = .ok (.iconst (-1), 1) := by decide +kernel
theorem dX6_lay_54 : decode cX6_lay 54 = .ok (.iastore, 1) := by decide +kernel
theorem dX6_lay_55 : decode cX6_lay 55 = .ok (.aload_n 0, 1) := by decide +kernel
theorem dX6_lay_56 : decode cX6_lay 56 = .ok (.getfield 31, 3) := by decide +kernel
theorem dX6_lay_59 : decode cX6_lay 59 = .ok (.iload 4, 2) := by decide +kernel
theorem dX6_lay_61 : decode cX6_lay 61 = .ok (.iconst (-1), 1) := by decide +kernel
theorem dX6_lay_62 : decode cX6_lay 62 = .ok (.iastore, 1) := by decide +kernel
theorem dX6_lay_63 : decode cX6_lay 63 = .ok (.aload_n 0, 1) := by decide +kernel
theorem dX6_lay_64 : decode cX6_lay 64 = .ok (.getfield 34, 3) := by decide +kernel
theorem dX6_lay_67 : decode cX6_lay 67 = .ok (.iload 4, 2) := by decide +kernel
theorem dX6_lay_69 : decode cX6_lay 69 = .ok (.iconst (-1), 1) := by decide +kernel
theorem dX6_lay_70 : decode cX6_lay 70 = .ok (.iastore, 1) := by decide +kernel
theorem dX6_lay_71 : decode cX6_lay 71 = .ok (.aload_n 0, 1) := by decide +kernel
theorem dX6_lay_72 : decode cX6_lay 72 = .ok (.iload 4, 2) := by decide +kernel
theorem dX6_lay_74 : decode cX6_lay 74 = .ok (.iconst 1, 1) := by decide +kernel
theorem dX6_lay_75 : decode cX6_lay 75 = .ok (.iadd, 1) := by decide +kernel
theorem dX6_lay_76 : decode cX6_lay 76 = .ok (.putfield 40, 3) := by decide +kernel
theorem dX6_lay_79 : decode cX6_lay 79 = .ok (.iload 4, 2) := by decide +kernel
theorem dX6_lay_81 : decode cX6_lay 81 = .ok (.ireturn, 1) := by decide +kernel
theorem dX10_addStreet_65 : decode cX10_addStreet 65 = .ok (.return_, 1) := by decide +kernel
theorem dX10_addStreet_0 : decode cX10_addStreet 0 = .ok (.aload_n 0, 1) := by decide +kernel
theorem dX10_addStreet_1 : decode cX10_addStreet 1 = .ok (.getfield 32, 3) := by decide +kernel
theorem dX10_addStreet_4 : decode cX10_addStreet 4 = .ok (.bipush 24, 2) := by decide +kernel
theorem dX10_addStreet_6 : decode cX10_addStreet 6 = .ok (.if_icmp .ge 59, 3) := by decide +kernel
theorem dX10_addStreet_9 : decode cX10_addStreet 9 = .ok (.aload_n 0, 1) := by decide +kernel
theorem dX10_addStreet_10 : decode cX10_addStreet 10 = .ok (.getfield 15, 3) := by decide +kernel
theorem dX10_addStreet_13 : decode cX10_addStreet 13 = .ok (.aload_n 0, 1) := by decide +kernel
theorem dX10_addStreet_14 : decode cX10_addStreet 14 = .ok (.getfield 32, 3) := by decide +kernel
theorem dX10_addStreet_17 : decode cX10_addStreet 17 = .ok (.iload_n 1, 1) := by decide +kernel
theorem dX10_addStreet_18 : decode cX10_addStreet 18 = .ok (.iastore, 1) := by decide +kernel
theorem dX10_addStreet_19 : decode cX10_addStreet 19 = .ok (.aload_n 0, 1) := by decide +kernel
theorem dX10_addStreet_20 : decode cX10_addStreet 20 = .ok (.getfield 19, 3) := by decide +kernel
theorem dX10_addStreet_23 : decode cX10_addStreet 23 = .ok (.aload_n 0, 1) := by decide +kernel
theorem dX10_addStreet_24 : decode cX10_addStreet 24 = .ok (.getfield 32, 3) := by decide +kernel
theorem dX10_addStreet_27 : decode cX10_addStreet 27 = .ok (.iload_n 2, 1) := by decide +kernel
theorem dX10_addStreet_28 : decode cX10_addStreet 28 = .ok (.iastore, 1) := by decide +kernel
theorem dX10_addStreet_29 : decode cX10_addStreet 29 = .ok (.aload_n 0, 1) := by decide +kernel
theorem dX10_addStreet_30 : decode cX10_addStreet 30 = .ok (.getfield 22, 3) := by decide +kernel
theorem dX10_addStreet_33 : decode cX10_addStreet 33 = .ok (.iconst 2, 1) := by decide +kernel
theorem dX10_addStreet_34 : decode cX10_addStreet 34 = .ok (.aload_n 0, 1) := by decide +kernel
theorem dX10_addStreet_35 : decode cX10_addStreet 35 = .ok (.getfield 32, 3) := by decide +kernel
theorem dX10_addStreet_38 : decode cX10_addStreet 38 = .ok (.imul, 1) := by decide +kernel
theorem dX10_addStreet_39 : decode cX10_addStreet 39 = .ok (.iconst (-1), 1) := by decide +kernel
theorem dX10_addStreet_40 : decode cX10_addStreet 40 = .ok (.iastore, 1) := by decide +kernel
theorem dX10_addStreet_41 : decode cX10_addStreet 41 = .ok (.aload_n 0, 1) := by decide +kernel
theorem dX10_addStreet_42 : decode cX10_addStreet 42 = .ok (.getfield 22, 3) := by decide +kernel
theorem dX10_addStreet_45 : decode cX10_addStreet 45 = .ok (.iconst 2, 1) := by decide +kernel
theorem dX10_addStreet_46 : decode cX10_addStreet 46 = .ok (.aload_n 0, 1) := by decide +kernel
theorem dX10_addStreet_47 : decode cX10_addStreet 47 = .ok (.getfield 32, 3) := by decide +kernel
theorem dX10_addStreet_50 : decode cX10_addStreet 50 = .ok (.imul, 1) := by decide +kernel
theorem dX10_addStreet_51 : decode cX10_addStreet 51 = .ok (.iconst 1, 1) := by decide +kernel
theorem dX10_addStreet_52 : decode cX10_addStreet 52 = .ok (.iadd, 1) := by decide +kernel
theorem dX10_addStreet_53 : decode cX10_addStreet 53 = .ok (.iconst (-1), 1) := by decide +kernel
theorem dX10_addStreet_54 : decode cX10_addStreet 54 = .ok (.iastore, 1) := by decide +kernel
theorem dX10_addStreet_55 : decode cX10_addStreet 55 = .ok (.aload_n 0, 1) := by decide +kernel
theorem dX10_addStreet_56 : decode cX10_addStreet 56 = .ok (.dup, 1) := by decide +kernel
theorem dX10_addStreet_57 : decode cX10_addStreet 57 = .ok (.getfield 32, 3) := by decide +kernel
theorem dX10_addStreet_60 : decode cX10_addStreet 60 = .ok (.iconst 1, 1) := by decide +kernel
theorem dX10_addStreet_61 : decode cX10_addStreet 61 = .ok (.iadd, 1) := by decide +kernel
theorem dX10_addStreet_62 : decode cX10_addStreet 62 = .ok (.putfield 32, 3) := by decide +kernel
theorem dX3_open_92 : decode cX3_open 92 = .ok (.return_, 1) := by decide +kernel
theorem dX3_open_0 : decode cX3_open 0 = .ok (.aload_n 0, 1) := by decide +kernel
theorem dX3_open_1 : decode cX3_open 1 = .ok (.getfield 28, 3) := by decide +kernel
theorem dX3_open_4 : decode cX3_open 4 = .ok (.sipush 416, 3) := by decide +kernel
theorem dX3_open_7 : decode cX3_open 7 = .ok (.if_icmp .ge 85, 3) := by decide +kernel
theorem dX3_open_10 : decode cX3_open 10 = .ok (.iload 4, 2) := by decide +kernel
theorem dX3_open_12 : decode cX3_open 12 = .ok (.ifCond .lt 80, 3) := by decide +kernel
theorem dX3_open_15 : decode cX3_open 15 = .ok (.iload 4, 2) := by decide +kernel
theorem dX3_open_17 : decode cX3_open 17 = .ok (.iconst 3, 1) := by decide +kernel
theorem dX3_open_18 : decode cX3_open 18 = .ok (.iadd, 1) := by decide +kernel
theorem dX3_open_19 : decode cX3_open 19 = .ok (.aload_n 3, 1) := by decide +kernel
theorem dX3_open_20 : decode cX3_open 20 = .ok (.arraylength, 1) := by decide +kernel
theorem dX3_open_21 : decode cX3_open 21 = .ok (.if_icmp .gt 71, 3) := by decide +kernel
theorem dX3_open_24 : decode cX3_open 24 = .ok (.aload_n 0, 1) := by decide +kernel
theorem dX3_open_25 : decode cX3_open 25 = .ok (.getfield 9, 3) := by decide +kernel
theorem dX3_open_28 : decode cX3_open 28 = .ok (.aload_n 0, 1) := by decide +kernel
theorem dX3_open_29 : decode cX3_open 29 = .ok (.getfield 28, 3) := by decide +kernel
theorem dX3_open_32 : decode cX3_open 32 = .ok (.iload_n 1, 1) := by decide +kernel
theorem dX3_open_33 : decode cX3_open 33 = .ok (.iastore, 1) := by decide +kernel
theorem dX3_open_34 : decode cX3_open 34 = .ok (.aload_n 0, 1) := by decide +kernel
theorem dX3_open_35 : decode cX3_open 35 = .ok (.getfield 15, 3) := by decide +kernel
theorem dX3_open_38 : decode cX3_open 38 = .ok (.aload_n 0, 1) := by decide +kernel
theorem dX3_open_39 : decode cX3_open 39 = .ok (.getfield 28, 3) := by decide +kernel
theorem dX3_open_42 : decode cX3_open 42 = .ok (.iload_n 2, 1) := by decide +kernel
theorem dX3_open_43 : decode cX3_open 43 = .ok (.iastore, 1) := by decide +kernel
theorem dX3_open_44 : decode cX3_open 44 = .ok (.aload_n 0, 1) := by decide +kernel
theorem dX3_open_45 : decode cX3_open 45 = .ok (.getfield 18, 3) := by decide +kernel
theorem dX3_open_48 : decode cX3_open 48 = .ok (.aload_n 0, 1) := by decide +kernel
theorem dX3_open_49 : decode cX3_open 49 = .ok (.getfield 28, 3) := by decide +kernel
theorem dX3_open_52 : decode cX3_open 52 = .ok (.iload 5, 2) := by decide +kernel
theorem dX3_open_54 : decode cX3_open 54 = .ok (.iastore, 1) := by decide +kernel
theorem dX3_open_55 : decode cX3_open 55 = .ok (.aload_n 0, 1) := by decide +kernel
theorem dX3_open_56 : decode cX3_open 56 = .ok (.getfield 21, 3) := by decide +kernel
theorem dX3_open_59 : decode cX3_open 59 = .ok (.aload_n 0, 1) := by decide +kernel
theorem dX3_open_60 : decode cX3_open 60 = .ok (.getfield 28, 3) := by decide +kernel
theorem dX3_open_63 : decode cX3_open 63 = .ok (.iconst (-1), 1) := by decide +kernel
theorem dX3_open_64 : decode cX3_open 64 = .ok (.iastore, 1) := by decide +kernel
theorem dX3_open_65 : decode cX3_open 65 = .ok (.aload_n 3, 1) := by decide +kernel
theorem dX3_open_66 : decode cX3_open 66 = .ok (.iload 4, 2) := by decide +kernel
theorem dX3_open_68 : decode cX3_open 68 = .ok (.aload_n 0, 1) := by decide +kernel
theorem dX3_open_69 : decode cX3_open 69 = .ok (.getfield 24, 3) := by decide +kernel
theorem dX3_open_72 : decode cX3_open 72 = .ok (.iconst 3, 1) := by decide +kernel
theorem dX3_open_73 : decode cX3_open 73 = .ok (.aload_n 0, 1) := by decide +kernel
theorem dX3_open_74 : decode cX3_open 74 = .ok (.getfield 28, 3) := by decide +kernel
theorem dX3_open_77 : decode cX3_open 77 = .ok (.imul, 1) := by decide +kernel
theorem dX3_open_78 : decode cX3_open 78 = .ok (.iconst 3, 1) := by decide +kernel
theorem dX3_open_79 : decode cX3_open 79 = .ok (.invokestatic 32, 3) := by decide +kernel
theorem dX3_open_82 : decode cX3_open 82 = .ok (.aload_n 0, 1) := by decide +kernel
theorem dX3_open_83 : decode cX3_open 83 = .ok (.dup, 1) := by decide +kernel
theorem dX3_open_84 : decode cX3_open 84 = .ok (.getfield 28, 3) := by decide +kernel
theorem dX3_open_87 : decode cX3_open 87 = .ok (.iconst 1, 1) := by decide +kernel
theorem dX3_open_88 : decode cX3_open 88 = .ok (.iadd, 1) := by decide +kernel
theorem dX3_open_89 : decode cX3_open 89 = .ok (.putfield 28, 3) := by decide +kernel
theorem dX11_street_124 : decode cX11_street 124 = .ok (.aload_n 0, 1) := by decide +kernel
theorem dX11_street_125 : decode cX11_street 125 = .ok (.getfield 22, 3) := by decide +kernel
theorem dX11_street_128 : decode cX11_street 128 = .ok (.getfield 73, 3) := by decide +kernel
theorem dX11_street_131 : decode cX11_street 131 = .ok (.iload_n 3, 1) := by decide +kernel
theorem dX11_street_132 : decode cX11_street 132 = .ok (.iload 5, 2) := by decide +kernel
theorem dX11_street_134 : decode cX11_street 134 = .ok (.iconst (-1), 1) := by decide +kernel
theorem dX11_street_135 : decode cX11_street 135 = .ok (.invokevirtual 155, 3) := by decide +kernel
theorem dX11_street_138 : decode cX11_street 138 = .ok (.istore 6, 2) := by decide +kernel
theorem dX11_street_140 : decode cX11_street 140 = .ok (.aload_n 0, 1) := by decide +kernel
theorem dX11_street_141 : decode cX11_street 141 = .ok (.getfield 22, 3) := by decide +kernel
theorem dX11_street_144 : decode cX11_street 144 = .ok (.getfield 89, 3) := by decide +kernel
theorem dX11_street_147 : decode cX11_street 147 = .ok (.iload_n 2, 1) := by decide +kernel
theorem dX11_street_148 : decode cX11_street 148 = .ok (.iload 6, 2) := by decide +kernel
theorem dX11_street_150 : decode cX11_street 150 = .ok (.invokevirtual 159, 3) := by decide +kernel
theorem dX11_street_153 : decode cX11_street 153 = .ok (.aload_n 0, 1) := by decide +kernel
theorem dX11_street_154 : decode cX11_street 154 = .ok (.getfield 22, 3) := by decide +kernel
theorem dX11_street_157 : decode cX11_street 157 = .ok (.getfield 117, 3) := by decide +kernel
theorem dX11_street_160 : decode cX11_street 160 = .ok (.iload 5, 2) := by decide +kernel
theorem dX11_street_162 : decode cX11_street 162 = .ok (.iload_n 1, 1) := by decide +kernel
theorem dX11_street_163 : decode cX11_street 163 = .ok (.aload_n 0, 1) := by decide +kernel
theorem dX11_street_164 : decode cX11_street 164 = .ok (.getfield 33, 3) := by decide +kernel
theorem dX11_street_167 : decode cX11_street 167 = .ok (.getfield 93, 3) := by decide +kernel
theorem dX11_street_170 : decode cX11_street 170 = .ok (.iconst 0, 1) := by decide +kernel
theorem dX11_street_171 : decode cX11_street 171 = .ok (.iload 6, 2) := by decide +kernel
theorem dX11_street_173 : decode cX11_street 173 = .ok (.invokevirtual 163, 3) := by decide +kernel
theorem dX11_street_176 : decode cX11_street 176 = .ok (.iload 5, 2) := by decide +kernel
theorem dX11_street_178 : decode cX11_street 178 = .ok (.ireturn, 1) := by decide +kernel
theorem dX11_street_121 : decode cX11_street 121 = .ok (.bipush (-6), 2) := by decide +kernel
theorem dX11_street_123 : decode cX11_street 123 = .ok (.ireturn, 1) := by decide +kernel
theorem dX11_street_89 : decode cX11_street 89 = .ok (.aload_n 0, 1) := by decide +kernel
theorem dX11_street_90 : decode cX11_street 90 = .ok (.getfield 22, 3) := by decide +kernel
theorem dX11_street_93 : decode cX11_street 93 = .ok (.getfield 89, 3) := by decide +kernel
theorem dX11_street_96 : decode cX11_street 96 = .ok (.getfield 151, 3) := by decide +kernel
theorem dX11_street_99 : decode cX11_street 99 = .ok (.istore 5, 2) := by decide +kernel
theorem dX11_street_101 : decode cX11_street 101 = .ok (.iload 5, 2) := by decide +kernel
theorem dX11_street_103 : decode cX11_street 103 = .ok (.bipush 24, 2) := by decide +kernel
theorem dX11_street_105 : decode cX11_street 105 = .ok (.if_icmp .ge 16, 3) := by decide +kernel
theorem dX11_street_108 : decode cX11_street 108 = .ok (.aload_n 0, 1) := by decide +kernel
theorem dX11_street_109 : decode cX11_street 109 = .ok (.getfield 22, 3) := by decide +kernel
theorem dX11_street_112 : decode cX11_street 112 = .ok (.getfield 73, 3) := by decide +kernel
theorem dX11_street_115 : decode cX11_street 115 = .ok (.invokevirtual 152, 3) := by decide +kernel
theorem dX11_street_118 : decode cX11_street 118 = .ok (.ifCond .ne 6, 3) := by decide +kernel
theorem dX11_street_57 : decode cX11_street 57 = .ok (.aload_n 0, 1) := by decide +kernel
theorem dX11_street_58 : decode cX11_street 58 = .ok (.getfield 22, 3) := by decide +kernel
theorem dX11_street_61 : decode cX11_street 61 = .ok (.getfield 117, 3) := by decide +kernel
theorem dX11_street_64 : decode cX11_street 64 = .ok (.aload_n 0, 1) := by decide +kernel
theorem dX11_street_65 : decode cX11_street 65 = .ok (.getfield 33, 3) := by decide +kernel
theorem dX11_street_68 : decode cX11_street 68 = .ok (.getfield 93, 3) := by decide +kernel
theorem dX11_street_71 : decode cX11_street 71 = .ok (.iload_n 1, 1) := by decide +kernel
theorem dX11_street_72 : decode cX11_street 72 = .ok (.iload_n 3, 1) := by decide +kernel
theorem dX11_street_73 : decode cX11_street 73 = .ok (.aload_n 0, 1) := by decide +kernel
theorem dX11_street_74 : decode cX11_street 74 = .ok (.getfield 22, 3) := by decide +kernel
theorem dX11_street_77 : decode cX11_street 77 = .ok (.getfield 73, 3) := by decide +kernel
theorem dX11_street_80 : decode cX11_street 80 = .ok (.invokevirtual 147, 3) := by decide +kernel
theorem dX11_street_83 : decode cX11_street 83 = .ok (.ifCond .eq 6, 3) := by decide +kernel
theorem dX11_street_86 : decode cX11_street 86 = .ok (.bipush (-5), 2) := by decide +kernel
theorem dX11_street_88 : decode cX11_street 88 = .ok (.ireturn, 1) := by decide +kernel
theorem dX11_street_38 : decode cX11_street 38 = .ok (.iload_n 3, 1) := by decide +kernel
theorem dX11_street_39 : decode cX11_street 39 = .ok (.aload_n 0, 1) := by decide +kernel
theorem dX11_street_40 : decode cX11_street 40 = .ok (.getfield 22, 3) := by decide +kernel
theorem dX11_street_43 : decode cX11_street 43 = .ok (.getfield 73, 3) := by decide +kernel
theorem dX11_street_46 : decode cX11_street 46 = .ok (.iconst (-1), 1) := by decide +kernel
theorem dX11_street_47 : decode cX11_street 47 = .ok (.iload_n 1, 1) := by decide +kernel
theorem dX11_street_48 : decode cX11_street 48 = .ok (.invokevirtual 143, 3) := by decide +kernel
theorem dX11_street_51 : decode cX11_street 51 = .ok (.if_icmp .ge 6, 3) := by decide +kernel
theorem dX11_street_54 : decode cX11_street 54 = .ok (.bipush (-3), 2) := by decide +kernel
theorem dX11_street_56 : decode cX11_street 56 = .ok (.ireturn, 1) := by decide +kernel
theorem dX11_street_35 : decode cX11_street 35 = .ok (.bipush (-2), 2) := by decide +kernel
theorem dX11_street_37 : decode cX11_street 37 = .ok (.ireturn, 1) := by decide +kernel
theorem dX11_street_16 : decode cX11_street 16 = .ok (.iload 4, 2) := by decide +kernel
theorem dX11_street_18 : decode cX11_street 18 = .ok (.ifCond .eq 17, 3) := by decide +kernel
theorem dX11_street_21 : decode cX11_street 21 = .ok (.iload_n 2, 1) := by decide +kernel
theorem dX11_street_22 : decode cX11_street 22 = .ok (.invokestatic 140, 3) := by decide +kernel
theorem dX11_street_25 : decode cX11_street 25 = .ok (.ifCond .eq 10, 3) := by decide +kernel
theorem dX11_street_28 : decode cX11_street 28 = .ok (.iload_n 3, 1) := by decide +kernel
theorem dX11_street_29 : decode cX11_street 29 = .ok (.invokestatic 69, 3) := by decide +kernel
theorem dX11_street_32 : decode cX11_street 32 = .ok (.ifCond .ne 6, 3) := by decide +kernel
theorem dX11_street_0 : decode cX11_street 0 = .ok (.aload_n 0, 1) := by decide +kernel
theorem dX11_street_1 : decode cX11_street 1 = .ok (.invokevirtual 85, 3) := by decide +kernel
theorem dX11_street_4 : decode cX11_street 4 = .ok (.istore 4, 2) := by decide +kernel
theorem dX11_street_6 : decode cX11_street 6 = .ok (.aload_n 0, 1) := by decide +kernel
theorem dX11_street_7 : decode cX11_street 7 = .ok (.iload_n 1, 1) := by decide +kernel
theorem dX11_street_8 : decode cX11_street 8 = .ok (.invokevirtual 137, 3) := by decide +kernel
theorem dX11_street_11 : decode cX11_street 11 = .ok (.ifCond .ne 5, 3) := by decide +kernel
theorem dX11_street_14 : decode cX11_street 14 = .ok (.iconst (-1), 1) := by decide +kernel
theorem dX11_street_15 : decode cX11_street 15 = .ok (.ireturn, 1) := by decide +kernel
theorem dX10_isStreet_17 : decode cX10_isStreet 17 = .ok (.ireturn, 1) := by decide +kernel
theorem dX10_isStreet_16 : decode cX10_isStreet 16 = .ok (.iconst 0, 1) := by decide +kernel
theorem dX10_isStreet_0 : decode cX10_isStreet 0 = .ok (.iload_n 1, 1) := by decide +kernel
theorem dX10_isStreet_1 : decode cX10_isStreet 1 = .ok (.ifCond .lt 15, 3) := by decide +kernel
theorem dX10_isStreet_4 : decode cX10_isStreet 4 = .ok (.iload_n 1, 1) := by decide +kernel
theorem dX10_isStreet_5 : decode cX10_isStreet 5 = .ok (.aload_n 0, 1) := by decide +kernel
theorem dX10_isStreet_6 : decode cX10_isStreet 6 = .ok (.getfield 32, 3) := by decide +kernel
theorem dX10_isStreet_9 : decode cX10_isStreet 9 = .ok (.if_icmp .ge 7, 3) := by decide +kernel
theorem dX10_isStreet_12 : decode cX10_isStreet 12 = .ok (.iconst 1, 1) := by decide +kernel
theorem dX10_isStreet_13 : decode cX10_isStreet 13 = .ok (.goto 4, 3) := by decide +kernel
theorem dX11_isSide_14 : decode cX11_isSide 14 = .ok (.ireturn, 1) := by decide +kernel
theorem dX11_isSide_13 : decode cX11_isSide 13 = .ok (.iconst 0, 1) := by decide +kernel
theorem dX11_isSide_9 : decode cX11_isSide 9 = .ok (.iconst 1, 1) := by decide +kernel
theorem dX11_isSide_10 : decode cX11_isSide 10 = .ok (.goto 4, 3) := by decide +kernel
theorem dX11_isSide_0 : decode cX11_isSide 0 = .ok (.iload_n 0, 1) := by decide +kernel
theorem dX11_isSide_1 : decode cX11_isSide 1 = .ok (.ifCond .eq 8, 3) := by decide +kernel
theorem dX11_isSide_4 : decode cX11_isSide 4 = .ok (.iload_n 0, 1) := by decide +kernel
theorem dX11_isSide_5 : decode cX11_isSide 5 = .ok (.iconst 1, 1) := by decide +kernel
theorem dX11_isSide_6 : decode cX11_isSide 6 = .ok (.if_icmp .ne 7, 3) := by decide +kernel
theorem dX11_isPlace_23 : decode cX11_isPlace 23 = .ok (.ireturn, 1) := by decide +kernel
theorem dX11_isPlace_22 : decode cX11_isPlace 22 = .ok (.iconst 0, 1) := by decide +kernel
theorem dX11_isPlace_0 : decode cX11_isPlace 0 = .ok (.iload_n 0, 1) := by decide +kernel
theorem dX11_isPlace_1 : decode cX11_isPlace 1 = .ok (.invokestatic 309, 3) := by decide +kernel
theorem dX11_isPlace_4 : decode cX11_isPlace 4 = .ok (.ifCond .eq 18, 3) := by decide +kernel
theorem dX11_isPlace_7 : decode cX11_isPlace 7 = .ok (.iload_n 1, 1) := by decide +kernel
theorem dX11_isPlace_8 : decode cX11_isPlace 8 = .ok (.ifCond .lt 14, 3) := by decide +kernel
theorem dX11_isPlace_11 : decode cX11_isPlace 11 = .ok (.iload_n 1, 1) := by decide +kernel
theorem dX11_isPlace_12 : decode cX11_isPlace 12 = .ok (.sipush 9999, 3) := by decide +kernel
theorem dX11_isPlace_15 : decode cX11_isPlace 15 = .ok (.if_icmp .gt 7, 3) := by decide +kernel
theorem dX11_isPlace_18 : decode cX11_isPlace 18 = .ok (.iconst 1, 1) := by decide +kernel
theorem dX11_isPlace_19 : decode cX11_isPlace 19 = .ok (.goto 4, 3) := by decide +kernel
theorem dX11_isWhole_30 : decode cX11_isWhole 30 = .ok (.ireturn, 1) := by decide +kernel
theorem dX11_isWhole_29 : decode cX11_isWhole 29 = .ok (.iconst 0, 1) := by decide +kernel
theorem dX11_isWhole_0 : decode cX11_isWhole 0 = .ok (.iload_n 0, 1) := by decide +kernel
theorem dX11_isWhole_1 : decode cX11_isWhole 1 = .ok (.bipush 16, 2) := by decide +kernel
theorem dX11_isWhole_3 : decode cX11_isWhole 3 = .ok (.if_icmp .lt 26, 3) := by decide +kernel
theorem dX11_isWhole_6 : decode cX11_isWhole 6 = .ok (.iload_n 0, 1) := by decide +kernel
theorem dX11_isWhole_7 : decode cX11_isWhole 7 = .ok (.bipush 16, 2) := by decide +kernel
theorem dX11_isWhole_9 : decode cX11_isWhole 9 = .ok (.idiv, 1) := by decide +kernel
theorem dX11_isWhole_10 : decode cX11_isWhole 10 = .ok (.sipush 9999, 3) := by decide +kernel
theorem dX11_isWhole_13 : decode cX11_isWhole 13 = .ok (.if_icmp .gt 16, 3) := by decide +kernel
theorem dX11_isWhole_16 : decode cX11_isWhole 16 = .ok (.iload_n 0, 1) := by decide +kernel
theorem dX11_isWhole_17 : decode cX11_isWhole 17 = .ok (.bipush 16, 2) := by decide +kernel
theorem dX11_isWhole_19 : decode cX11_isWhole 19 = .ok (.irem, 1) := by decide +kernel
theorem dX11_isWhole_20 : decode cX11_isWhole 20 = .ok (.bipush 9, 2) := by decide +kernel
theorem dX11_isWhole_22 : decode cX11_isWhole 22 = .ok (.if_icmp .gt 7, 3) := by decide +kernel
theorem dX11_isWhole_25 : decode cX11_isWhole 25 = .ok (.iconst 1, 1) := by decide +kernel
theorem dX11_isWhole_26 : decode cX11_isWhole 26 = .ok (.goto 4, 3) := by decide +kernel
theorem dX11_isWholeOrLeast_16 : decode cX11_isWholeOrLeast 16 = .ok (.ireturn, 1) := by decide +kernel
theorem dX11_isWholeOrLeast_15 : decode cX11_isWholeOrLeast 15 = .ok (.iconst 0, 1) := by decide +kernel
theorem dX11_isWholeOrLeast_11 : decode cX11_isWholeOrLeast 11 = .ok (.iconst 1, 1) := by decide +kernel
theorem dX11_isWholeOrLeast_12 : decode cX11_isWholeOrLeast 12 = .ok (.goto 4, 3) := by decide +kernel
theorem dX11_isWholeOrLeast_0 : decode cX11_isWholeOrLeast 0 = .ok (.iload_n 0, 1) := by decide +kernel
theorem dX11_isWholeOrLeast_1 : decode cX11_isWholeOrLeast 1 = .ok (.ifCond .eq 10, 3) := by decide +kernel
theorem dX11_isWholeOrLeast_4 : decode cX11_isWholeOrLeast 4 = .ok (.iload_n 0, 1) := by decide +kernel
theorem dX11_isWholeOrLeast_5 : decode cX11_isWholeOrLeast 5 = .ok (.invokestatic 515, 3) := by decide +kernel
theorem dX11_isWholeOrLeast_8 : decode cX11_isWholeOrLeast 8 = .ok (.ifCond .eq 7, 3) := by decide +kernel
theorem dX3_openOf_38 : decode cX3_openOf 38 = .ok (.iconst (-1), 1) := by decide +kernel
theorem dX3_openOf_39 : decode cX3_openOf 39 = .ok (.ireturn, 1) := by decide +kernel
theorem dX3_openOf_32 : decode cX3_openOf 32 = .ok (.iinc 2 1, 3) := by decide +kernel
theorem dX3_openOf_35 : decode cX3_openOf 35 = .ok (.goto (-33), 3) := by decide +kernel
theorem dX3_openOf_2 : decode cX3_openOf 2 = .ok (.iload_n 2, 1) := by decide +kernel
theorem dX3_openOf_3 : decode cX3_openOf 3 = .ok (.aload_n 0, 1) := by decide +kernel
theorem dX3_openOf_4 : decode cX3_openOf 4 = .ok (.getfield 28, 3) := by decide +kernel
theorem dX3_openOf_7 : decode cX3_openOf 7 = .ok (.if_icmp .ge 31, 3) := by decide +kernel
theorem dX3_openOf_10 : decode cX3_openOf 10 = .ok (.aload_n 0, 1) := by decide +kernel
theorem dX3_openOf_11 : decode cX3_openOf 11 = .ok (.getfield 9, 3) := by decide +kernel
theorem dX3_openOf_14 : decode cX3_openOf 14 = .ok (.iload_n 2, 1) := by decide +kernel
theorem dX3_openOf_15 : decode cX3_openOf 15 = .ok (.iaload, 1) := by decide +kernel
theorem dX3_openOf_16 : decode cX3_openOf 16 = .ok (.iload_n 1, 1) := by decide +kernel
theorem dX3_openOf_17 : decode cX3_openOf 17 = .ok (.if_icmp .ne 15, 3) := by decide +kernel
theorem dX3_openOf_20 : decode cX3_openOf 20 = .ok (.aload_n 0, 1) := by decide +kernel
theorem dX3_openOf_21 : decode cX3_openOf 21 = .ok (.getfield 21, 3) := by decide +kernel
theorem dX3_openOf_24 : decode cX3_openOf 24 = .ok (.iload_n 2, 1) := by decide +kernel
theorem dX3_openOf_25 : decode cX3_openOf 25 = .ok (.iaload, 1) := by decide +kernel
theorem dX3_openOf_26 : decode cX3_openOf 26 = .ok (.iconst (-1), 1) := by decide +kernel
theorem dX3_openOf_27 : decode cX3_openOf 27 = .ok (.if_icmp .ne 5, 3) := by decide +kernel
theorem dX3_openOf_30 : decode cX3_openOf 30 = .ok (.iload_n 2, 1) := by decide +kernel
theorem dX3_openOf_31 : decode cX3_openOf 31 = .ok (.ireturn, 1) := by decide +kernel
theorem dX3_openOf_0 : decode cX3_openOf 0 = .ok (.iconst 0, 1) := by decide +kernel
theorem dX3_openOf_1 : decode cX3_openOf 1 = .ok (.istore_n 2, 1) := by decide +kernel
theorem dX3_townOf_21 : decode cX3_townOf 21 = .ok (.ireturn, 1) := by decide +kernel
theorem dX3_townOf_15 : decode cX3_townOf 15 = .ok (.aload_n 0, 1) := by decide +kernel
theorem dX3_townOf_16 : decode cX3_townOf 16 = .ok (.getfield 15, 3) := by decide +kernel
theorem dX3_townOf_19 : decode cX3_townOf 19 = .ok (.iload_n 2, 1) := by decide +kernel
theorem dX3_townOf_20 : decode cX3_townOf 20 = .ok (.iaload, 1) := by decide +kernel
theorem dX3_townOf_0 : decode cX3_townOf 0 = .ok (.aload_n 0, 1) := by decide +kernel
theorem dX3_townOf_1 : decode cX3_townOf 1 = .ok (.iload_n 1, 1) := by decide +kernel
theorem dX3_townOf_2 : decode cX3_townOf 2 = .ok (.invokevirtual 38, 3) := by decide +kernel
theorem dX3_townOf_5 : decode cX3_townOf 5 = .ok (.istore_n 2, 1) := by decide +kernel
theorem dX3_townOf_6 : decode cX3_townOf 6 = .ok (.iload_n 2, 1) := by decide +kernel
theorem dX3_townOf_7 : decode cX3_townOf 7 = .ok (.iconst (-1), 1) := by decide +kernel
theorem dX3_townOf_8 : decode cX3_townOf 8 = .ok (.if_icmp .ne 7, 3) := by decide +kernel
theorem dX3_townOf_11 : decode cX3_townOf 11 = .ok (.iconst (-1), 1) := by decide +kernel
theorem dX3_townOf_12 : decode cX3_townOf 12 = .ok (.goto 9, 3) := by decide +kernel
theorem dX5_earliestOn_0 : decode cX5_earliestOn 0 = .ok (.aload_n 0, 1) := by decide +kernel
theorem dX5_earliestOn_1 : decode cX5_earliestOn 1 = .ok (.getfield 12, 3) := by decide +kernel
theorem dX5_earliestOn_4 : decode cX5_earliestOn 4 = .ok (.iload_n 1, 1) := by decide +kernel
theorem dX5_earliestOn_5 : decode cX5_earliestOn 5 = .ok (.aload_n 0, 1) := by decide +kernel
theorem dX5_earliestOn_6 : decode cX5_earliestOn 6 = .ok (.getfield 28, 3) := by decide +kernel
theorem dX5_earliestOn_9 : decode cX5_earliestOn 9 = .ok (.iload_n 1, 1) := by decide +kernel
theorem dX5_earliestOn_10 : decode cX5_earliestOn 10 = .ok (.invokevirtual 90, 3) := by decide +kernel
theorem dX5_earliestOn_13 : decode cX5_earliestOn 13 = .ok (.invokevirtual 94, 3) := by decide +kernel
theorem dX5_earliestOn_16 : decode cX5_earliestOn 16 = .ok (.ireturn, 1) := by decide +kernel
theorem dX10_ruleOf_18 : decode cX10_ruleOf 18 = .ok (.ireturn, 1) := by decide +kernel
theorem dX10_ruleOf_17 : decode cX10_ruleOf 17 = .ok (.iconst (-1), 1) := by decide +kernel
theorem dX10_ruleOf_0 : decode cX10_ruleOf 0 = .ok (.aload_n 0, 1) := by decide +kernel
theorem dX10_ruleOf_1 : decode cX10_ruleOf 1 = .ok (.iload_n 1, 1) := by decide +kernel
theorem dX10_ruleOf_2 : decode cX10_ruleOf 2 = .ok (.invokevirtual 47, 3) := by decide +kernel
theorem dX10_ruleOf_5 : decode cX10_ruleOf 5 = .ok (.ifCond .eq 12, 3) := by decide +kernel
theorem dX10_ruleOf_8 : decode cX10_ruleOf 8 = .ok (.aload_n 0, 1) := by decide +kernel
theorem dX10_ruleOf_9 : decode cX10_ruleOf 9 = .ok (.getfield 15, 3) := by decide +kernel
theorem dX10_ruleOf_12 : decode cX10_ruleOf 12 = .ok (.iload_n 1, 1) := by decide +kernel
theorem dX10_ruleOf_13 : decode cX10_ruleOf 13 = .ok (.iaload, 1) := by decide +kernel
theorem dX10_ruleOf_14 : decode cX10_ruleOf 14 = .ok (.goto 4, 3) := by decide +kernel
theorem dX11_orderOf_10 : decode cX11_orderOf 10 = .ok (.ireturn, 1) := by decide +kernel
theorem dX11_orderOf_9 : decode cX11_orderOf 9 = .ok (.iconst 3, 1) := by decide +kernel
theorem dX11_orderOf_0 : decode cX11_orderOf 0 = .ok (.iload_n 0, 1) := by decide +kernel
theorem dX11_orderOf_1 : decode cX11_orderOf 1 = .ok (.iconst 1, 1) := by decide +kernel
theorem dX11_orderOf_2 : decode cX11_orderOf 2 = .ok (.if_icmp .ne 7, 3) := by decide +kernel
theorem dX11_orderOf_5 : decode cX11_orderOf 5 = .ok (.iconst 0, 1) := by decide +kernel
theorem dX11_orderOf_6 : decode cX11_orderOf 6 = .ok (.goto 4, 3) := by decide +kernel
theorem dX2_streetOf_24 : decode cX2_streetOf 24 = .ok (.ireturn, 1) := by decide +kernel
theorem dX2_streetOf_23 : decode cX2_streetOf 23 = .ok (.iconst (-1), 1) := by decide +kernel
theorem dX2_streetOf_0 : decode cX2_streetOf 0 = .ok (.iload_n 1, 1) := by decide +kernel
theorem dX2_streetOf_1 : decode cX2_streetOf 1 = .ok (.ifCond .lt 22, 3) := by decide +kernel
theorem dX2_streetOf_4 : decode cX2_streetOf 4 = .ok (.iload_n 1, 1) := by decide +kernel
theorem dX2_streetOf_5 : decode cX2_streetOf 5 = .ok (.iconst 2, 1) := by decide +kernel
theorem dX2_streetOf_6 : decode cX2_streetOf 6 = .ok (.aload_n 0, 1) := by decide +kernel
theorem dX2_streetOf_7 : decode cX2_streetOf 7 = .ok (.getfield 42, 3) := by decide +kernel
theorem dX2_streetOf_10 : decode cX2_streetOf 10 = .ok (.imul, 1) := by decide +kernel
theorem dX2_streetOf_11 : decode cX2_streetOf 11 = .ok (.if_icmp .ge 12, 3) := by decide +kernel
theorem dX2_streetOf_14 : decode cX2_streetOf 14 = .ok (.aload_n 0, 1) := by decide +kernel
theorem dX2_streetOf_15 : decode cX2_streetOf 15 = .ok (.getfield 33, 3) := by decide +kernel
theorem dX2_streetOf_18 : decode cX2_streetOf 18 = .ok (.iload_n 1, 1) := by decide +kernel
theorem dX2_streetOf_19 : decode cX2_streetOf 19 = .ok (.iaload, 1) := by decide +kernel
theorem dX2_streetOf_20 : decode cX2_streetOf 20 = .ok (.goto 4, 3) := by decide +kernel
theorem dX6_isThere_38 : decode cX6_isThere 38 = .ok (.ireturn, 1) := by decide +kernel
theorem dX6_isThere_37 : decode cX6_isThere 37 = .ok (.iconst 0, 1) := by decide +kernel
theorem dX6_isThere_33 : decode cX6_isThere 33 = .ok (.iconst 1, 1) := by decide +kernel
theorem dX6_isThere_34 : decode cX6_isThere 34 = .ok (.goto 4, 3) := by decide +kernel
theorem dX6_isThere_0 : decode cX6_isThere 0 = .ok (.iload_n 1, 1) := by decide +kernel
theorem dX6_isThere_1 : decode cX6_isThere 1 = .ok (.ifCond .lt 36, 3) := by decide +kernel
theorem dX6_isThere_4 : decode cX6_isThere 4 = .ok (.iload_n 1, 1) := by decide +kernel
theorem dX6_isThere_5 : decode cX6_isThere 5 = .ok (.aload_n 0, 1) := by decide +kernel
theorem dX6_isThere_6 : decode cX6_isThere 6 = .ok (.getfield 40, 3) := by decide +kernel
theorem dX6_isThere_9 : decode cX6_isThere 9 = .ok (.if_icmp .ge 28, 3) := by decide +kernel
theorem dX6_isThere_12 : decode cX6_isThere 12 = .ok (.aload_n 0, 1) := by decide +kernel
theorem dX6_isThere_13 : decode cX6_isThere 13 = .ok (.getfield 9, 3) := by decide +kernel
theorem dX6_isThere_16 : decode cX6_isThere 16 = .ok (.iconst (-1), 1) := by decide +kernel
theorem dX6_isThere_17 : decode cX6_isThere 17 = .ok (.if_icmp .eq 16, 3) := by decide +kernel
theorem dX6_isThere_20 : decode cX6_isThere 20 = .ok (.aload_n 0, 1) := by decide +kernel
theorem dX6_isThere_21 : decode cX6_isThere 21 = .ok (.getfield 19, 3) := by decide +kernel
theorem dX6_isThere_24 : decode cX6_isThere 24 = .ok (.iload_n 1, 1) := by decide +kernel
theorem dX6_isThere_25 : decode cX6_isThere 25 = .ok (.iaload, 1) := by decide +kernel
theorem dX6_isThere_26 : decode cX6_isThere 26 = .ok (.aload_n 0, 1) := by decide +kernel
theorem dX6_isThere_27 : decode cX6_isThere 27 = .ok (.getfield 9, 3) := by decide +kernel
theorem dX6_isThere_30 : decode cX6_isThere 30 = .ok (.if_icmp .gt 7, 3) := by decide +kernel
theorem dX6_holds_41 : decode cX6_holds 41 = .ok (.ireturn, 1) := by decide +kernel
theorem dX6_holds_40 : decode cX6_holds 40 = .ok (.iconst 0, 1) := by decide +kernel
theorem dX6_holds_36 : decode cX6_holds 36 = .ok (.iconst 1, 1) := by decide +kernel
theorem dX6_holds_37 : decode cX6_holds 37 = .ok (.goto 4, 3) := by decide +kernel
theorem dX6_holds_0 : decode cX6_holds 0 = .ok (.aload_n 0, 1) := by decide +kernel
theorem dX6_holds_1 : decode cX6_holds 1 = .ok (.iload_n 1, 1) := by decide +kernel
theorem dX6_holds_2 : decode cX6_holds 2 = .ok (.invokevirtual 60, 3) := by decide +kernel
theorem dX6_holds_5 : decode cX6_holds 5 = .ok (.ifCond .eq 35, 3) := by decide +kernel
theorem dX6_holds_8 : decode cX6_holds 8 = .ok (.aload_n 0, 1) := by decide +kernel
theorem dX6_holds_9 : decode cX6_holds 9 = .ok (.getfield 15, 3) := by decide +kernel
theorem dX6_holds_12 : decode cX6_holds 12 = .ok (.iload_n 1, 1) := by decide +kernel
theorem dX6_holds_13 : decode cX6_holds 13 = .ok (.iaload, 1) := by decide +kernel
theorem dX6_holds_14 : decode cX6_holds 14 = .ok (.iload_n 3, 1) := by decide +kernel
theorem dX6_holds_15 : decode cX6_holds 15 = .ok (.if_icmp .gt 25, 3) := by decide +kernel
theorem dX6_holds_18 : decode cX6_holds 18 = .ok (.aload_n 0, 1) := by decide +kernel
theorem dX6_holds_19 : decode cX6_holds 19 = .ok (.iload_n 2, 1) := by decide +kernel
theorem dX6_holds_20 : decode cX6_holds 20 = .ok (.invokevirtual 60, 3) := by decide +kernel
theorem dX6_holds_23 : decode cX6_holds 23 = .ok (.ifCond .eq 13, 3) := by decide +kernel
theorem dX6_holds_26 : decode cX6_holds 26 = .ok (.iload_n 3, 1) := by decide +kernel
theorem dX6_holds_27 : decode cX6_holds 27 = .ok (.aload_n 0, 1) := by decide +kernel
theorem dX6_holds_28 : decode cX6_holds 28 = .ok (.getfield 15, 3) := by decide +kernel
theorem dX6_holds_31 : decode cX6_holds 31 = .ok (.iload_n 2, 1) := by decide +kernel
theorem dX6_holds_32 : decode cX6_holds 32 = .ok (.iaload, 1) := by decide +kernel
theorem dX6_holds_33 : decode cX6_holds 33 = .ok (.if_icmp .ge 7, 3) := by decide +kernel
theorem dX9_isThen_46 : decode cX9_isThen 46 = .ok (.ireturn, 1) := by decide +kernel
theorem dX9_isThen_28 : decode cX9_isThen 28 = .ok (.aload_n 0, 1) := by decide +kernel
theorem dX9_isThen_29 : decode cX9_isThen 29 = .ok (.getfield 81, 3) := by decide +kernel
theorem dX9_isThen_32 : decode cX9_isThen 32 = .ok (.aload_n 0, 1) := by decide +kernel
theorem dX9_isThen_33 : decode cX9_isThen 33 = .ok (.getfield 52, 3) := by decide +kernel
theorem dX9_isThen_36 : decode cX9_isThen 36 = .ok (.getfield 85, 3) := by decide +kernel
theorem dX9_isThen_39 : decode cX9_isThen 39 = .ok (.iload_n 1, 1) := by decide +kernel
theorem dX9_isThen_40 : decode cX9_isThen 40 = .ok (.iaload, 1) := by decide +kernel
theorem dX9_isThen_41 : decode cX9_isThen 41 = .ok (.iload_n 3, 1) := by decide +kernel
theorem dX9_isThen_42 : decode cX9_isThen 42 = .ok (.iload_n 2, 1) := by decide +kernel
theorem dX9_isThen_43 : decode cX9_isThen 43 = .ok (.invokevirtual 88, 3) := by decide +kernel
theorem dX9_isThen_24 : decode cX9_isThen 24 = .ok (.iconst 0, 1) := by decide +kernel
theorem dX9_isThen_25 : decode cX9_isThen 25 = .ok (.goto 21, 3) := by decide +kernel
theorem dX9_isThen_0 : decode cX9_isThen 0 = .ok (.aload_n 0, 1) := by decide +kernel
theorem dX9_isThen_1 : decode cX9_isThen 1 = .ok (.getfield 52, 3) := by decide +kernel
theorem dX9_isThen_4 : decode cX9_isThen 4 = .ok (.getfield 78, 3) := by decide +kernel
theorem dX9_isThen_7 : decode cX9_isThen 7 = .ok (.iload_n 1, 1) := by decide +kernel
theorem dX9_isThen_8 : decode cX9_isThen 8 = .ok (.iaload, 1) := by decide +kernel
theorem dX9_isThen_9 : decode cX9_isThen 9 = .ok (.istore_n 3, 1) := by decide +kernel
theorem dX9_isThen_10 : decode cX9_isThen 10 = .ok (.iload_n 2, 1) := by decide +kernel
theorem dX9_isThen_11 : decode cX9_isThen 11 = .ok (.iconst (-1), 1) := by decide +kernel
theorem dX9_isThen_12 : decode cX9_isThen 12 = .ok (.if_icmp .ne 16, 3) := by decide +kernel
theorem dX9_isThen_15 : decode cX9_isThen 15 = .ok (.iload_n 3, 1) := by decide +kernel
theorem dX9_isThen_16 : decode cX9_isThen 16 = .ok (.iconst (-1), 1) := by decide +kernel
theorem dX9_isThen_17 : decode cX9_isThen 17 = .ok (.if_icmp .ne 7, 3) := by decide +kernel
theorem dX9_isThen_20 : decode cX9_isThen 20 = .ok (.iconst 1, 1) := by decide +kernel
theorem dX9_isThen_21 : decode cX9_isThen 21 = .ok (.goto 25, 3) := by decide +kernel
theorem dX9_rankOf_59 : decode cX9_rankOf 59 = .ok (.iload_n 1, 1) := by decide +kernel
theorem dX9_rankOf_60 : decode cX9_rankOf 60 = .ok (.sipush 20000, 3) := by decide +kernel
theorem dX9_rankOf_63 : decode cX9_rankOf 63 = .ok (.imul, 1) := by decide +kernel
theorem dX9_rankOf_64 : decode cX9_rankOf 64 = .ok (.iload_n 2, 1) := by decide +kernel
theorem dX9_rankOf_65 : decode cX9_rankOf 65 = .ok (.iadd, 1) := by decide +kernel
theorem dX9_rankOf_66 : decode cX9_rankOf 66 = .ok (.ireturn, 1) := by decide +kernel
theorem dX9_rankOf_52 : decode cX9_rankOf 52 = .ok (.bipush (-2), 2) := by decide +kernel
theorem dX9_rankOf_54 : decode cX9_rankOf 54 = .ok (.iload_n 2, 1) := by decide +kernel
theorem dX9_rankOf_55 : decode cX9_rankOf 55 = .ok (.imul, 1) := by decide +kernel
theorem dX9_rankOf_56 : decode cX9_rankOf 56 = .ok (.iload_n 1, 1) := by decide +kernel
theorem dX9_rankOf_57 : decode cX9_rankOf 57 = .ok (.isub, 1) := by decide +kernel
theorem dX9_rankOf_58 : decode cX9_rankOf 58 = .ok (.ireturn, 1) := by decide +kernel
theorem dX9_rankOf_46 : decode cX9_rankOf 46 = .ok (.iconst 2, 1) := by decide +kernel
theorem dX9_rankOf_47 : decode cX9_rankOf 47 = .ok (.iload_n 2, 1) := by decide +kernel
theorem dX9_rankOf_48 : decode cX9_rankOf 48 = .ok (.imul, 1) := by decide +kernel
theorem dX9_rankOf_49 : decode cX9_rankOf 49 = .ok (.iload_n 1, 1) := by decide +kernel
theorem dX9_rankOf_50 : decode cX9_rankOf 50 = .ok (.iadd, 1) := by decide +kernel
theorem dX9_rankOf_51 : decode cX9_rankOf 51 = .ok (.ireturn, 1) := by decide +kernel
theorem dX9_rankOf_45 : decode cX9_rankOf 45 = .ok (.ireturn, 1) := by decide +kernel
theorem dX9_rankOf_40 : decode cX9_rankOf 40 = .ok (.sipush 20000, 3) := by decide +kernel
theorem dX9_rankOf_43 : decode cX9_rankOf 43 = .ok (.iload_n 2, 1) := by decide +kernel
theorem dX9_rankOf_44 : decode cX9_rankOf 44 = .ok (.isub, 1) := by decide +kernel
theorem dX9_rankOf_32 : decode cX9_rankOf 32 = .ok (.iload_n 1, 1) := by decide +kernel
theorem dX9_rankOf_33 : decode cX9_rankOf 33 = .ok (.ifCond .ne 7, 3) := by decide +kernel
theorem dX9_rankOf_36 : decode cX9_rankOf 36 = .ok (.iload_n 2, 1) := by decide +kernel
theorem dX9_rankOf_37 : decode cX9_rankOf 37 = .ok (.goto 8, 3) := by decide +kernel
theorem dX9_rankOf_0 : decode cX9_rankOf 0 = .ok (.aload_n 0, 1) := by decide +kernel
theorem dX9_rankOf_1 : decode cX9_rankOf 1 = .ok (.getfield 49, 3) := by decide +kernel
theorem dX9_rankOf_4 : decode cX9_rankOf 4 = .ok (.tableswitch 55 0 2 #[28, 42, 48], 28) := by decide +kernel
theorem dX9_moveUp_0 : decode cX9_moveUp 0 = .ok (.aload_n 0, 1) := by decide +kernel
theorem dX9_moveUp_1 : decode cX9_moveUp 1 = .ok (.getfield 9, 3) := by decide +kernel
theorem dX9_moveUp_4 : decode cX9_moveUp 4 = .ok (.iload_n 1, 1) := by decide +kernel
theorem dX9_moveUp_5 : decode cX9_moveUp 5 = .ok (.aload_n 0, 1) := by decide +kernel
theorem dX9_moveUp_6 : decode cX9_moveUp 6 = .ok (.getfield 9, 3) := by decide +kernel
theorem dX9_moveUp_9 : decode cX9_moveUp 9 = .ok (.iload_n 1, 1) := by decide +kernel
theorem dX9_moveUp_10 : decode cX9_moveUp 10 = .ok (.iconst 1, 1) := by decide +kernel
theorem dX9_moveUp_11 : decode cX9_moveUp 11 = .ok (.isub, 1) := by decide +kernel
theorem dX9_moveUp_12 : decode cX9_moveUp 12 = .ok (.iaload, 1) := by decide +kernel
theorem dX9_moveUp_13 : decode cX9_moveUp 13 = .ok (.iastore, 1) := by decide +kernel
theorem dX9_moveUp_14 : decode cX9_moveUp 14 = .ok (.aload_n 0, 1) := by decide +kernel
theorem dX9_moveUp_15 : decode cX9_moveUp 15 = .ok (.getfield 15, 3) := by decide +kernel
theorem dX9_moveUp_18 : decode cX9_moveUp 18 = .ok (.iload_n 1, 1) := by decide +kernel
theorem dX9_moveUp_19 : decode cX9_moveUp 19 = .ok (.aload_n 0, 1) := by decide +kernel
theorem dX9_moveUp_20 : decode cX9_moveUp 20 = .ok (.getfield 15, 3) := by decide +kernel
theorem dX9_moveUp_23 : decode cX9_moveUp 23 = .ok (.iload_n 1, 1) := by decide +kernel
theorem dX9_moveUp_24 : decode cX9_moveUp 24 = .ok (.iconst 1, 1) := by decide +kernel
theorem dX9_moveUp_25 : decode cX9_moveUp 25 = .ok (.isub, 1) := by decide +kernel
theorem dX9_moveUp_26 : decode cX9_moveUp 26 = .ok (.iaload, 1) := by decide +kernel
theorem dX9_moveUp_27 : decode cX9_moveUp 27 = .ok (.iastore, 1) := by decide +kernel
theorem dX9_moveUp_28 : decode cX9_moveUp 28 = .ok (.aload_n 0, 1) := by decide +kernel
theorem dX9_moveUp_29 : decode cX9_moveUp 29 = .ok (.getfield 18, 3) := by decide +kernel
theorem dX9_moveUp_32 : decode cX9_moveUp 32 = .ok (.iload_n 1, 1) := by decide +kernel
theorem dX9_moveUp_33 : decode cX9_moveUp 33 = .ok (.aload_n 0, 1) := by decide +kernel
theorem dX9_moveUp_34 : decode cX9_moveUp 34 = .ok (.getfield 18, 3) := by decide +kernel
theorem dX9_moveUp_37 : decode cX9_moveUp 37 = .ok (.iload_n 1, 1) := by decide +kernel
theorem dX9_moveUp_38 : decode cX9_moveUp 38 = .ok (.iconst 1, 1) := by decide +kernel
theorem dX9_moveUp_39 : decode cX9_moveUp 39 = .ok (.isub, 1) := by decide +kernel
theorem dX9_moveUp_40 : decode cX9_moveUp 40 = .ok (.iaload, 1) := by decide +kernel
theorem dX9_moveUp_41 : decode cX9_moveUp 41 = .ok (.iastore, 1) := by decide +kernel
theorem dX9_moveUp_42 : decode cX9_moveUp 42 = .ok (.aload_n 0, 1) := by decide +kernel
theorem dX9_moveUp_43 : decode cX9_moveUp 43 = .ok (.getfield 21, 3) := by decide +kernel
theorem dX9_moveUp_46 : decode cX9_moveUp 46 = .ok (.iload_n 1, 1) := by decide +kernel
theorem dX9_moveUp_47 : decode cX9_moveUp 47 = .ok (.aload_n 0, 1) := by decide +kernel
theorem dX9_moveUp_48 : decode cX9_moveUp 48 = .ok (.getfield 21, 3) := by decide +kernel
theorem dX9_moveUp_51 : decode cX9_moveUp 51 = .ok (.iload_n 1, 1) := by decide +kernel
theorem dX9_moveUp_52 : decode cX9_moveUp 52 = .ok (.iconst 1, 1) := by decide +kernel
theorem dX9_moveUp_53 : decode cX9_moveUp 53 = .ok (.isub, 1) := by decide +kernel
theorem dX9_moveUp_54 : decode cX9_moveUp 54 = .ok (.iaload, 1) := by decide +kernel
theorem dX9_moveUp_55 : decode cX9_moveUp 55 = .ok (.iastore, 1) := by decide +kernel
theorem dX9_moveUp_56 : decode cX9_moveUp 56 = .ok (.aload_n 0, 1) := by decide +kernel
theorem dX9_moveUp_57 : decode cX9_moveUp 57 = .ok (.getfield 24, 3) := by decide +kernel
theorem dX9_moveUp_60 : decode cX9_moveUp 60 = .ok (.iload_n 1, 1) := by decide +kernel
theorem dX9_moveUp_61 : decode cX9_moveUp 61 = .ok (.aload_n 0, 1) := by decide +kernel
theorem dX9_moveUp_62 : decode cX9_moveUp 62 = .ok (.getfield 24, 3) := by decide +kernel
theorem dX9_moveUp_65 : decode cX9_moveUp 65 = .ok (.iload_n 1, 1) := by decide +kernel
theorem dX9_moveUp_66 : decode cX9_moveUp 66 = .ok (.iconst 1, 1) := by decide +kernel
theorem dX9_moveUp_67 : decode cX9_moveUp 67 = .ok (.isub, 1) := by decide +kernel
theorem dX9_moveUp_68 : decode cX9_moveUp 68 = .ok (.iaload, 1) := by decide +kernel
theorem dX9_moveUp_69 : decode cX9_moveUp 69 = .ok (.iastore, 1) := by decide +kernel
theorem dX9_moveUp_70 : decode cX9_moveUp 70 = .ok (.aload_n 0, 1) := by decide +kernel
theorem dX9_moveUp_71 : decode cX9_moveUp 71 = .ok (.getfield 27, 3) := by decide +kernel
theorem dX9_moveUp_74 : decode cX9_moveUp 74 = .ok (.iload_n 1, 1) := by decide +kernel
theorem dX9_moveUp_75 : decode cX9_moveUp 75 = .ok (.aload_n 0, 1) := by decide +kernel
theorem dX9_moveUp_76 : decode cX9_moveUp 76 = .ok (.getfield 27, 3) := by decide +kernel
theorem dX9_moveUp_79 : decode cX9_moveUp 79 = .ok (.iload_n 1, 1) := by decide +kernel
theorem dX9_moveUp_80 : decode cX9_moveUp 80 = .ok (.iconst 1, 1) := by decide +kernel
theorem dX9_moveUp_81 : decode cX9_moveUp 81 = .ok (.isub, 1) := by decide +kernel
theorem dX9_moveUp_82 : decode cX9_moveUp 82 = .ok (.iaload, 1) := by decide +kernel
theorem dX9_moveUp_83 : decode cX9_moveUp 83 = .ok (.iastore, 1) := by decide +kernel
theorem dX9_moveUp_84 : decode cX9_moveUp 84 = .ok (.return_, 1) := by decide +kernel

theorem dX7_readDigits_66 : decode cX7_readDigits 66 = .ok (.iload_n 2, 1) := by decide +kernel
theorem dX7_readDigits_67 : decode cX7_readDigits 67 = .ok (.ireturn, 1) := by decide +kernel
theorem dX7_readDigits_21 : decode cX7_readDigits 21 = .ok (.bipush 57, 2) := by decide +kernel
theorem dX7_readDigits_23 : decode cX7_readDigits 23 = .ok (.invokevirtual 74, 3) := by decide +kernel
theorem dX7_readDigits_26 : decode cX7_readDigits 26 = .ok (.ifCond .eq 40, 3) := by decide +kernel
theorem dX7_readDigits_29 : decode cX7_readDigits 29 = .ok (.iload_n 2, 1) := by decide +kernel
theorem dX7_readDigits_30 : decode cX7_readDigits 30 = .ok (.bipush 10, 2) := by decide +kernel
theorem dX7_readDigits_32 : decode cX7_readDigits 32 = .ok (.imul, 1) := by decide +kernel
theorem dX7_readDigits_33 : decode cX7_readDigits 33 = .ok (.aload_n 0, 1) := by decide +kernel
theorem dX7_readDigits_34 : decode cX7_readDigits 34 = .ok (.getfield 45, 3) := by decide +kernel
theorem dX7_readDigits_37 : decode cX7_readDigits 37 = .ok (.getfield 70, 3) := by decide +kernel
theorem dX7_readDigits_40 : decode cX7_readDigits 40 = .ok (.aload_n 0, 1) := by decide +kernel
theorem dX7_readDigits_41 : decode cX7_readDigits 41 = .ok (.getfield 42, 3) := by decide +kernel
theorem dX7_readDigits_44 : decode cX7_readDigits 44 = .ok (.iaload, 1) := by decide +kernel
theorem dX7_readDigits_45 : decode cX7_readDigits 45 = .ok (.iadd, 1) := by decide +kernel
theorem dX7_readDigits_46 : decode cX7_readDigits 46 = .ok (.bipush 48, 2) := by decide +kernel
theorem dX7_readDigits_48 : decode cX7_readDigits 48 = .ok (.isub, 1) := by decide +kernel
theorem dX7_readDigits_49 : decode cX7_readDigits 49 = .ok (.istore_n 2, 1) := by decide +kernel
theorem dX7_readDigits_50 : decode cX7_readDigits 50 = .ok (.aload_n 0, 1) := by decide +kernel
theorem dX7_readDigits_51 : decode cX7_readDigits 51 = .ok (.dup, 1) := by decide +kernel
theorem dX7_readDigits_52 : decode cX7_readDigits 52 = .ok (.getfield 42, 3) := by decide +kernel
theorem dX7_readDigits_55 : decode cX7_readDigits 55 = .ok (.iconst 1, 1) := by decide +kernel
theorem dX7_readDigits_56 : decode cX7_readDigits 56 = .ok (.iadd, 1) := by decide +kernel
theorem dX7_readDigits_57 : decode cX7_readDigits 57 = .ok (.putfield 42, 3) := by decide +kernel
theorem dX7_readDigits_60 : decode cX7_readDigits 60 = .ok (.iinc 3 1, 3) := by decide +kernel
theorem dX7_readDigits_63 : decode cX7_readDigits 63 = .ok (.goto (-59), 3) := by decide +kernel
theorem dX7_readDigits_19 : decode cX7_readDigits 19 = .ok (.bipush 48, 2) := by decide +kernel
theorem dX7_readDigits_4 : decode cX7_readDigits 4 = .ok (.iload_n 3, 1) := by decide +kernel
theorem dX7_readDigits_5 : decode cX7_readDigits 5 = .ok (.iload_n 1, 1) := by decide +kernel
theorem dX7_readDigits_6 : decode cX7_readDigits 6 = .ok (.if_icmp .ge 60, 3) := by decide +kernel
theorem dX7_readDigits_9 : decode cX7_readDigits 9 = .ok (.aload_n 0, 1) := by decide +kernel
theorem dX7_readDigits_10 : decode cX7_readDigits 10 = .ok (.iload_n 3, 1) := by decide +kernel
theorem dX7_readDigits_11 : decode cX7_readDigits 11 = .ok (.ifCond .ne 8, 3) := by decide +kernel
theorem dX7_readDigits_14 : decode cX7_readDigits 14 = .ok (.bipush 49, 2) := by decide +kernel
theorem dX7_readDigits_16 : decode cX7_readDigits 16 = .ok (.goto 5, 3) := by decide +kernel
theorem dX7_readDigits_0 : decode cX7_readDigits 0 = .ok (.iconst 0, 1) := by decide +kernel
theorem dX7_readDigits_1 : decode cX7_readDigits 1 = .ok (.istore_n 2, 1) := by decide +kernel
theorem dX7_readDigits_2 : decode cX7_readDigits 2 = .ok (.iconst 0, 1) := by decide +kernel
theorem dX7_readDigits_3 : decode cX7_readDigits 3 = .ok (.istore_n 3, 1) := by decide +kernel
theorem dX7_readNumber_90 : decode cX7_readNumber 90 = .ok (.iconst 1, 1) := by decide +kernel
theorem dX7_readNumber_91 : decode cX7_readNumber 91 = .ok (.ireturn, 1) := by decide +kernel
theorem dX7_readNumber_70 : decode cX7_readNumber 70 = .ok (.aload_n 0, 1) := by decide +kernel
theorem dX7_readNumber_71 : decode cX7_readNumber 71 = .ok (.bipush 43, 2) := by decide +kernel
theorem dX7_readNumber_73 : decode cX7_readNumber 73 = .ok (.invokevirtual 38, 3) := by decide +kernel
theorem dX7_readNumber_76 : decode cX7_readNumber 76 = .ok (.ifCond .eq 14, 3) := by decide +kernel
theorem dX7_readNumber_79 : decode cX7_readNumber 79 = .ok (.aload_n 0, 1) := by decide +kernel
theorem dX7_readNumber_80 : decode cX7_readNumber 80 = .ok (.dup, 1) := by decide +kernel
theorem dX7_readNumber_81 : decode cX7_readNumber 81 = .ok (.getfield 90, 3) := by decide +kernel
theorem dX7_readNumber_84 : decode cX7_readNumber 84 = .ok (.bipush 9, 2) := by decide +kernel
theorem dX7_readNumber_86 : decode cX7_readNumber 86 = .ok (.iadd, 1) := by decide +kernel
theorem dX7_readNumber_87 : decode cX7_readNumber 87 = .ok (.putfield 90, 3) := by decide +kernel
theorem dX7_readNumber_12 : decode cX7_readNumber 12 = .ok (.aload_n 0, 1) := by decide +kernel
theorem dX7_readNumber_13 : decode cX7_readNumber 13 = .ok (.bipush 16, 2) := by decide +kernel
theorem dX7_readNumber_15 : decode cX7_readNumber 15 = .ok (.iload_n 1, 1) := by decide +kernel
theorem dX7_readNumber_16 : decode cX7_readNumber 16 = .ok (.imul, 1) := by decide +kernel
theorem dX7_readNumber_17 : decode cX7_readNumber 17 = .ok (.putfield 90, 3) := by decide +kernel
theorem dX7_readNumber_20 : decode cX7_readNumber 20 = .ok (.aload_n 0, 1) := by decide +kernel
theorem dX7_readNumber_21 : decode cX7_readNumber 21 = .ok (.bipush 97, 2) := by decide +kernel
theorem dX7_readNumber_23 : decode cX7_readNumber 23 = .ok (.bipush 104, 2) := by decide +kernel
theorem dX7_readNumber_25 : decode cX7_readNumber 25 = .ok (.invokevirtual 74, 3) := by decide +kernel
theorem dX7_readNumber_28 : decode cX7_readNumber 28 = .ok (.ifCond .eq 42, 3) := by decide +kernel
theorem dX7_readNumber_31 : decode cX7_readNumber 31 = .ok (.aload_n 0, 1) := by decide +kernel
theorem dX7_readNumber_32 : decode cX7_readNumber 32 = .ok (.dup, 1) := by decide +kernel
theorem dX7_readNumber_33 : decode cX7_readNumber 33 = .ok (.getfield 90, 3) := by decide +kernel
theorem dX7_readNumber_36 : decode cX7_readNumber 36 = .ok (.aload_n 0, 1) := by decide +kernel
theorem dX7_readNumber_37 : decode cX7_readNumber 37 = .ok (.getfield 45, 3) := by decide +kernel
theorem dX7_readNumber_40 : decode cX7_readNumber 40 = .ok (.getfield 70, 3) := by decide +kernel
theorem dX7_readNumber_43 : decode cX7_readNumber 43 = .ok (.aload_n 0, 1) := by decide +kernel
theorem dX7_readNumber_44 : decode cX7_readNumber 44 = .ok (.getfield 42, 3) := by decide +kernel
theorem dX7_readNumber_47 : decode cX7_readNumber 47 = .ok (.iaload, 1) := by decide +kernel
theorem dX7_readNumber_48 : decode cX7_readNumber 48 = .ok (.bipush 97, 2) := by decide +kernel
theorem dX7_readNumber_50 : decode cX7_readNumber 50 = .ok (.isub, 1) := by decide +kernel
theorem dX7_readNumber_51 : decode cX7_readNumber 51 = .ok (.iconst 1, 1) := by decide +kernel
theorem dX7_readNumber_52 : decode cX7_readNumber 52 = .ok (.iadd, 1) := by decide +kernel
theorem dX7_readNumber_53 : decode cX7_readNumber 53 = .ok (.iadd, 1) := by decide +kernel
theorem dX7_readNumber_54 : decode cX7_readNumber 54 = .ok (.putfield 90, 3) := by decide +kernel
theorem dX7_readNumber_57 : decode cX7_readNumber 57 = .ok (.aload_n 0, 1) := by decide +kernel
theorem dX7_readNumber_58 : decode cX7_readNumber 58 = .ok (.dup, 1) := by decide +kernel
theorem dX7_readNumber_59 : decode cX7_readNumber 59 = .ok (.getfield 42, 3) := by decide +kernel
theorem dX7_readNumber_62 : decode cX7_readNumber 62 = .ok (.iconst 1, 1) := by decide +kernel
theorem dX7_readNumber_63 : decode cX7_readNumber 63 = .ok (.iadd, 1) := by decide +kernel
theorem dX7_readNumber_64 : decode cX7_readNumber 64 = .ok (.putfield 42, 3) := by decide +kernel
theorem dX7_readNumber_67 : decode cX7_readNumber 67 = .ok (.goto 23, 3) := by decide +kernel
theorem dX7_readNumber_0 : decode cX7_readNumber 0 = .ok (.aload_n 0, 1) := by decide +kernel
theorem dX7_readNumber_1 : decode cX7_readNumber 1 = .ok (.iconst 4, 1) := by decide +kernel
theorem dX7_readNumber_2 : decode cX7_readNumber 2 = .ok (.invokevirtual 86, 3) := by decide +kernel
theorem dX7_readNumber_5 : decode cX7_readNumber 5 = .ok (.istore_n 1, 1) := by decide +kernel
theorem dX7_readNumber_6 : decode cX7_readNumber 6 = .ok (.iload_n 1, 1) := by decide +kernel
theorem dX7_readNumber_7 : decode cX7_readNumber 7 = .ok (.ifCond .ne 5, 3) := by decide +kernel
theorem dX7_readNumber_10 : decode cX7_readNumber 10 = .ok (.iconst 0, 1) := by decide +kernel
theorem dX7_readNumber_11 : decode cX7_readNumber 11 = .ok (.ireturn, 1) := by decide +kernel
theorem dX7_readText_30 : decode cX7_readText 30 = .ok (.iconst 1, 1) := by decide +kernel
theorem dX7_readText_31 : decode cX7_readText 31 = .ok (.ireturn, 1) := by decide +kernel
theorem dX7_readText_24 : decode cX7_readText 24 = .ok (.iinc 2 1, 3) := by decide +kernel
theorem dX7_readText_27 : decode cX7_readText 27 = .ok (.goto (-25), 3) := by decide +kernel
theorem dX7_readText_2 : decode cX7_readText 2 = .ok (.iload_n 2, 1) := by decide +kernel
theorem dX7_readText_3 : decode cX7_readText 3 = .ok (.aload_n 1, 1) := by decide +kernel
theorem dX7_readText_4 : decode cX7_readText 4 = .ok (.invokevirtual 93, 3) := by decide +kernel
theorem dX7_readText_7 : decode cX7_readText 7 = .ok (.if_icmp .ge 23, 3) := by decide +kernel
theorem dX7_readText_10 : decode cX7_readText 10 = .ok (.aload_n 0, 1) := by decide +kernel
theorem dX7_readText_11 : decode cX7_readText 11 = .ok (.aload_n 1, 1) := by decide +kernel
theorem dX7_readText_12 : decode cX7_readText 12 = .ok (.iload_n 2, 1) := by decide +kernel
theorem dX7_readText_13 : decode cX7_readText 13 = .ok (.invokevirtual 99, 3) := by decide +kernel
theorem dX7_readText_16 : decode cX7_readText 16 = .ok (.invokevirtual 38, 3) := by decide +kernel
theorem dX7_readText_19 : decode cX7_readText 19 = .ok (.ifCond .ne 5, 3) := by decide +kernel
theorem dX7_readText_22 : decode cX7_readText 22 = .ok (.iconst 0, 1) := by decide +kernel
theorem dX7_readText_23 : decode cX7_readText 23 = .ok (.ireturn, 1) := by decide +kernel
theorem dX7_readText_0 : decode cX7_readText 0 = .ok (.iconst 0, 1) := by decide +kernel
theorem dX7_readText_1 : decode cX7_readText 1 = .ok (.istore_n 2, 1) := by decide +kernel
theorem dX7_readExtra_107 : decode cX7_readExtra 107 = .ok (.ireturn, 1) := by decide +kernel
theorem dX7_readExtra_106 : decode cX7_readExtra 106 = .ok (.iconst 0, 1) := by decide +kernel
theorem dX7_readExtra_86 : decode cX7_readExtra 86 = .ok (.aload_n 0, 1) := by decide +kernel
theorem dX7_readExtra_87 : decode cX7_readExtra 87 = .ok (.aload_n 0, 1) := by decide +kernel
theorem dX7_readExtra_88 : decode cX7_readExtra 88 = .ok (.iconst 2, 1) := by decide +kernel
theorem dX7_readExtra_89 : decode cX7_readExtra 89 = .ok (.invokevirtual 86, 3) := by decide +kernel
theorem dX7_readExtra_92 : decode cX7_readExtra 92 = .ok (.putfield 106, 3) := by decide +kernel
theorem dX7_readExtra_95 : decode cX7_readExtra 95 = .ok (.aload_n 0, 1) := by decide +kernel
theorem dX7_readExtra_96 : decode cX7_readExtra 96 = .ok (.getfield 106, 3) := by decide +kernel
theorem dX7_readExtra_99 : decode cX7_readExtra 99 = .ok (.ifCond .le 7, 3) := by decide +kernel
theorem dX7_readExtra_102 : decode cX7_readExtra 102 = .ok (.iconst 1, 1) := by decide +kernel
theorem dX7_readExtra_103 : decode cX7_readExtra 103 = .ok (.goto 4, 3) := by decide +kernel
theorem dX7_readExtra_78 : decode cX7_readExtra 78 = .ok (.invokevirtual 111, 3) := by decide +kernel
theorem dX7_readExtra_81 : decode cX7_readExtra 81 = .ok (.ifCond .ne 5, 3) := by decide +kernel
theorem dX7_readExtra_84 : decode cX7_readExtra 84 = .ok (.iconst 0, 1) := by decide +kernel
theorem dX7_readExtra_85 : decode cX7_readExtra 85 = .ok (.ireturn, 1) := by decide +kernel
theorem dX7_readExtra_76 : decode cX7_readExtra 76 = .ok (.ldc 117, 2) := by decide +kernel
theorem dX7_readExtra_63 : decode cX7_readExtra 63 = .ok (.putfield 103, 3) := by decide +kernel
theorem dX7_readExtra_66 : decode cX7_readExtra 66 = .ok (.aload_n 0, 1) := by decide +kernel
theorem dX7_readExtra_67 : decode cX7_readExtra 67 = .ok (.iload_n 1, 1) := by decide +kernel
theorem dX7_readExtra_68 : decode cX7_readExtra 68 = .ok (.ifCond .eq 8, 3) := by decide +kernel
theorem dX7_readExtra_71 : decode cX7_readExtra 71 = .ok (.ldc 115, 2) := by decide +kernel
theorem dX7_readExtra_73 : decode cX7_readExtra 73 = .ok (.goto 5, 3) := by decide +kernel
theorem dX7_readExtra_62 : decode cX7_readExtra 62 = .ok (.iconst 4, 1) := by decide +kernel
theorem dX7_readExtra_44 : decode cX7_readExtra 44 = .ok (.aload_n 0, 1) := by decide +kernel
theorem dX7_readExtra_45 : decode cX7_readExtra 45 = .ok (.bipush 99, 2) := by decide +kernel
theorem dX7_readExtra_47 : decode cX7_readExtra 47 = .ok (.bipush 99, 2) := by decide +kernel
theorem dX7_readExtra_49 : decode cX7_readExtra 49 = .ok (.invokevirtual 74, 3) := by decide +kernel
theorem dX7_readExtra_52 : decode cX7_readExtra 52 = .ok (.istore_n 1, 1) := by decide +kernel
theorem dX7_readExtra_53 : decode cX7_readExtra 53 = .ok (.aload_n 0, 1) := by decide +kernel
theorem dX7_readExtra_54 : decode cX7_readExtra 54 = .ok (.iload_n 1, 1) := by decide +kernel
theorem dX7_readExtra_55 : decode cX7_readExtra 55 = .ok (.ifCond .eq 7, 3) := by decide +kernel
theorem dX7_readExtra_58 : decode cX7_readExtra 58 = .ok (.iconst 3, 1) := by decide +kernel
theorem dX7_readExtra_59 : decode cX7_readExtra 59 = .ok (.goto 4, 3) := by decide +kernel
theorem dX7_readExtra_21 : decode cX7_readExtra 21 = .ok (.aload_n 0, 1) := by decide +kernel
theorem dX7_readExtra_22 : decode cX7_readExtra 22 = .ok (.bipush 98, 2) := by decide +kernel
theorem dX7_readExtra_24 : decode cX7_readExtra 24 = .ok (.bipush 98, 2) := by decide +kernel
theorem dX7_readExtra_26 : decode cX7_readExtra 26 = .ok (.invokevirtual 74, 3) := by decide +kernel
theorem dX7_readExtra_29 : decode cX7_readExtra 29 = .ok (.ifCond .eq 15, 3) := by decide +kernel
theorem dX7_readExtra_32 : decode cX7_readExtra 32 = .ok (.aload_n 0, 1) := by decide +kernel
theorem dX7_readExtra_33 : decode cX7_readExtra 33 = .ok (.iconst 2, 1) := by decide +kernel
theorem dX7_readExtra_34 : decode cX7_readExtra 34 = .ok (.putfield 103, 3) := by decide +kernel
theorem dX7_readExtra_37 : decode cX7_readExtra 37 = .ok (.aload_n 0, 1) := by decide +kernel
theorem dX7_readExtra_38 : decode cX7_readExtra 38 = .ok (.ldc 109, 2) := by decide +kernel
theorem dX7_readExtra_40 : decode cX7_readExtra 40 = .ok (.invokevirtual 111, 3) := by decide +kernel
theorem dX7_readExtra_43 : decode cX7_readExtra 43 = .ok (.ireturn, 1) := by decide +kernel
theorem dX7_readExtra_0 : decode cX7_readExtra 0 = .ok (.aload_n 0, 1) := by decide +kernel
theorem dX7_readExtra_1 : decode cX7_readExtra 1 = .ok (.iconst (-1), 1) := by decide +kernel
theorem dX7_readExtra_2 : decode cX7_readExtra 2 = .ok (.putfield 103, 3) := by decide +kernel
theorem dX7_readExtra_5 : decode cX7_readExtra 5 = .ok (.aload_n 0, 1) := by decide +kernel
theorem dX7_readExtra_6 : decode cX7_readExtra 6 = .ok (.iconst 0, 1) := by decide +kernel
theorem dX7_readExtra_7 : decode cX7_readExtra 7 = .ok (.putfield 106, 3) := by decide +kernel
theorem dX7_readExtra_10 : decode cX7_readExtra 10 = .ok (.aload_n 0, 1) := by decide +kernel
theorem dX7_readExtra_11 : decode cX7_readExtra 11 = .ok (.bipush 32, 2) := by decide +kernel
theorem dX7_readExtra_13 : decode cX7_readExtra 13 = .ok (.invokevirtual 38, 3) := by decide +kernel
theorem dX7_readExtra_16 : decode cX7_readExtra 16 = .ok (.ifCond .ne 5, 3) := by decide +kernel
theorem dX7_readExtra_19 : decode cX7_readExtra 19 = .ok (.iconst 1, 1) := by decide +kernel
theorem dX7_readExtra_20 : decode cX7_readExtra 20 = .ok (.ireturn, 1) := by decide +kernel
theorem dX7_readAddress_74 : decode cX7_readAddress 74 = .ok (.putfield 18, 3) := by decide +kernel
theorem dX7_readAddress_77 : decode cX7_readAddress 77 = .ok (.aload_n 0, 1) := by decide +kernel
theorem dX7_readAddress_78 : decode cX7_readAddress 78 = .ok (.getfield 9, 3) := by decide +kernel
theorem dX7_readAddress_81 : decode cX7_readAddress 81 = .ok (.aload_n 2, 1) := by decide +kernel
theorem dX7_readAddress_82 : decode cX7_readAddress 82 = .ok (.invokestatic 30, 3) := by decide +kernel
theorem dX7_readAddress_85 : decode cX7_readAddress 85 = .ok (.aload_n 0, 1) := by decide +kernel
theorem dX7_readAddress_86 : decode cX7_readAddress 86 = .ok (.getfield 15, 3) := by decide +kernel
theorem dX7_readAddress_89 : decode cX7_readAddress 89 = .ok (.aload_n 2, 1) := by decide +kernel
theorem dX7_readAddress_90 : decode cX7_readAddress 90 = .ok (.invokestatic 30, 3) := by decide +kernel
theorem dX7_readAddress_93 : decode cX7_readAddress 93 = .ok (.iload_n 3, 1) := by decide +kernel
theorem dX7_readAddress_94 : decode cX7_readAddress 94 = .ok (.ireturn, 1) := by decide +kernel
theorem dX7_readAddress_70 : decode cX7_readAddress 70 = .ok (.aload_n 0, 1) := by decide +kernel
theorem dX7_readAddress_71 : decode cX7_readAddress 71 = .ok (.getfield 42, 3) := by decide +kernel
theorem dX7_readAddress_60 : decode cX7_readAddress 60 = .ok (.istore_n 3, 1) := by decide +kernel
theorem dX7_readAddress_61 : decode cX7_readAddress 61 = .ok (.aload_n 0, 1) := by decide +kernel
theorem dX7_readAddress_62 : decode cX7_readAddress 62 = .ok (.iload_n 3, 1) := by decide +kernel
theorem dX7_readAddress_63 : decode cX7_readAddress 63 = .ok (.ifCond .eq 7, 3) := by decide +kernel
theorem dX7_readAddress_66 : decode cX7_readAddress 66 = .ok (.iconst (-1), 1) := by decide +kernel
theorem dX7_readAddress_67 : decode cX7_readAddress 67 = .ok (.goto 7, 3) := by decide +kernel
theorem dX7_readAddress_59 : decode cX7_readAddress 59 = .ok (.iconst 0, 1) := by decide +kernel
theorem dX7_readAddress_0 : decode cX7_readAddress 0 = .ok (.aload_n 0, 1) := by decide +kernel
theorem dX7_readAddress_1 : decode cX7_readAddress 1 = .ok (.aload_n 1, 1) := by decide +kernel
theorem dX7_readAddress_2 : decode cX7_readAddress 2 = .ok (.invokevirtual 22, 3) := by decide +kernel
theorem dX7_readAddress_5 : decode cX7_readAddress 5 = .ok (.aload_n 0, 1) := by decide +kernel
theorem dX7_readAddress_6 : decode cX7_readAddress 6 = .ok (.invokevirtual 54, 3) := by decide +kernel
theorem dX7_readAddress_9 : decode cX7_readAddress 9 = .ok (.ifCond .eq 50, 3) := by decide +kernel
theorem dX7_readAddress_12 : decode cX7_readAddress 12 = .ok (.aload_n 0, 1) := by decide +kernel
theorem dX7_readAddress_13 : decode cX7_readAddress 13 = .ok (.invokevirtual 58, 3) := by decide +kernel
theorem dX7_readAddress_16 : decode cX7_readAddress 16 = .ok (.ifCond .eq 43, 3) := by decide +kernel
theorem dX7_readAddress_19 : decode cX7_readAddress 19 = .ok (.aload_n 0, 1) := by decide +kernel
theorem dX7_readAddress_20 : decode cX7_readAddress 20 = .ok (.invokevirtual 61, 3) := by decide +kernel
theorem dX7_readAddress_23 : decode cX7_readAddress 23 = .ok (.ifCond .eq 36, 3) := by decide +kernel
theorem dX7_readAddress_26 : decode cX7_readAddress 26 = .ok (.aload_n 0, 1) := by decide +kernel
theorem dX7_readAddress_27 : decode cX7_readAddress 27 = .ok (.bipush 44, 2) := by decide +kernel
theorem dX7_readAddress_29 : decode cX7_readAddress 29 = .ok (.invokevirtual 38, 3) := by decide +kernel
theorem dX7_readAddress_32 : decode cX7_readAddress 32 = .ok (.ifCond .eq 27, 3) := by decide +kernel
theorem dX7_readAddress_35 : decode cX7_readAddress 35 = .ok (.aload_n 0, 1) := by decide +kernel
theorem dX7_readAddress_36 : decode cX7_readAddress 36 = .ok (.bipush 32, 2) := by decide +kernel
theorem dX7_readAddress_38 : decode cX7_readAddress 38 = .ok (.invokevirtual 38, 3) := by decide +kernel
theorem dX7_readAddress_41 : decode cX7_readAddress 41 = .ok (.ifCond .eq 18, 3) := by decide +kernel
theorem dX7_readAddress_44 : decode cX7_readAddress 44 = .ok (.aload_n 0, 1) := by decide +kernel
theorem dX7_readAddress_45 : decode cX7_readAddress 45 = .ok (.aload_n 0, 1) := by decide +kernel
theorem dX7_readAddress_46 : decode cX7_readAddress 46 = .ok (.getfield 15, 3) := by decide +kernel
theorem dX7_readAddress_49 : decode cX7_readAddress 49 = .ok (.invokevirtual 26, 3) := by decide +kernel
theorem dX7_readAddress_52 : decode cX7_readAddress 52 = .ok (.ifCond .eq 7, 3) := by decide +kernel
theorem dX7_readAddress_55 : decode cX7_readAddress 55 = .ok (.iconst 1, 1) := by decide +kernel
theorem dX7_readAddress_56 : decode cX7_readAddress 56 = .ok (.goto 4, 3) := by decide +kernel
theorem dX11_readAddress_0 : decode cX11_readAddress 0 = .ok (.aload_n 0, 1) := by decide +kernel
theorem dX11_readAddress_1 : decode cX11_readAddress 1 = .ok (.getfield 33, 3) := by decide +kernel
theorem dX11_readAddress_4 : decode cX11_readAddress 4 = .ok (.aload_n 0, 1) := by decide +kernel
theorem dX11_readAddress_5 : decode cX11_readAddress 5 = .ok (.getfield 12, 3) := by decide +kernel
theorem dX11_readAddress_8 : decode cX11_readAddress 8 = .ok (.aload_n 0, 1) := by decide +kernel
theorem dX11_readAddress_9 : decode cX11_readAddress 9 = .ok (.getfield 22, 3) := by decide +kernel
theorem dX11_readAddress_12 : decode cX11_readAddress 12 = .ok (.getfield 126, 3) := by decide +kernel
theorem dX11_readAddress_15 : decode cX11_readAddress 15 = .ok (.invokevirtual 527, 3) := by decide +kernel
theorem dX11_readAddress_18 : decode cX11_readAddress 18 = .ok (.istore_n 1, 1) := by decide +kernel
theorem dX11_readAddress_19 : decode cX11_readAddress 19 = .ok (.aload_n 0, 1) := by decide +kernel
theorem dX11_readAddress_20 : decode cX11_readAddress 20 = .ok (.getfield 12, 3) := by decide +kernel
theorem dX11_readAddress_23 : decode cX11_readAddress 23 = .ok (.iconst 0, 1) := by decide +kernel
theorem dX11_readAddress_24 : decode cX11_readAddress 24 = .ok (.putfield 58, 3) := by decide +kernel
theorem dX11_readAddress_27 : decode cX11_readAddress 27 = .ok (.aload_n 0, 1) := by decide +kernel
theorem dX11_readAddress_28 : decode cX11_readAddress 28 = .ok (.getfield 22, 3) := by decide +kernel
theorem dX11_readAddress_31 : decode cX11_readAddress 31 = .ok (.getfield 396, 3) := by decide +kernel
theorem dX11_readAddress_34 : decode cX11_readAddress 34 = .ok (.aload_n 0, 1) := by decide +kernel
theorem dX11_readAddress_35 : decode cX11_readAddress 35 = .ok (.getfield 33, 3) := by decide +kernel
theorem dX11_readAddress_38 : decode cX11_readAddress 38 = .ok (.getfield 529, 3) := by decide +kernel
theorem dX11_readAddress_41 : decode cX11_readAddress 41 = .ok (.putfield 422, 3) := by decide +kernel
theorem dX11_readAddress_44 : decode cX11_readAddress 44 = .ok (.iload_n 1, 1) := by decide +kernel
theorem dX11_readAddress_45 : decode cX11_readAddress 45 = .ok (.ireturn, 1) := by decide +kernel
theorem dX3_streetOn_60 : decode cX3_streetOn 60 = .ok (.iconst (-1), 1) := by decide +kernel
theorem dX3_streetOn_61 : decode cX3_streetOn 61 = .ok (.ireturn, 1) := by decide +kernel
theorem dX3_streetOn_54 : decode cX3_streetOn 54 = .ok (.iinc 5 1, 3) := by decide +kernel
theorem dX3_streetOn_57 : decode cX3_streetOn 57 = .ok (.goto (-54), 3) := by decide +kernel
theorem dX3_streetOn_3 : decode cX3_streetOn 3 = .ok (.iload 5, 2) := by decide +kernel
theorem dX3_streetOn_5 : decode cX3_streetOn 5 = .ok (.aload_n 0, 1) := by decide +kernel
theorem dX3_streetOn_6 : decode cX3_streetOn 6 = .ok (.getfield 28, 3) := by decide +kernel
theorem dX3_streetOn_9 : decode cX3_streetOn 9 = .ok (.if_icmp .ge 51, 3) := by decide +kernel
theorem dX3_streetOn_12 : decode cX3_streetOn 12 = .ok (.aload_n 0, 1) := by decide +kernel
theorem dX3_streetOn_13 : decode cX3_streetOn 13 = .ok (.iload 5, 2) := by decide +kernel
theorem dX3_streetOn_15 : decode cX3_streetOn 15 = .ok (.aload_n 1, 1) := by decide +kernel
theorem dX3_streetOn_16 : decode cX3_streetOn 16 = .ok (.iload_n 2, 1) := by decide +kernel
theorem dX3_streetOn_17 : decode cX3_streetOn 17 = .ok (.invokevirtual 52, 3) := by decide +kernel
theorem dX3_streetOn_20 : decode cX3_streetOn 20 = .ok (.ifCond .eq 34, 3) := by decide +kernel
theorem dX3_streetOn_23 : decode cX3_streetOn 23 = .ok (.aload 4, 2) := by decide +kernel
theorem dX3_streetOn_25 : decode cX3_streetOn 25 = .ok (.aload_n 0, 1) := by decide +kernel
theorem dX3_streetOn_26 : decode cX3_streetOn 26 = .ok (.getfield 18, 3) := by decide +kernel
theorem dX3_streetOn_29 : decode cX3_streetOn 29 = .ok (.iload 5, 2) := by decide +kernel
theorem dX3_streetOn_31 : decode cX3_streetOn 31 = .ok (.iaload, 1) := by decide +kernel
theorem dX3_streetOn_32 : decode cX3_streetOn 32 = .ok (.aload_n 0, 1) := by decide +kernel
theorem dX3_streetOn_33 : decode cX3_streetOn 33 = .ok (.getfield 21, 3) := by decide +kernel
theorem dX3_streetOn_36 : decode cX3_streetOn 36 = .ok (.iload 5, 2) := by decide +kernel
theorem dX3_streetOn_38 : decode cX3_streetOn 38 = .ok (.iaload, 1) := by decide +kernel
theorem dX3_streetOn_39 : decode cX3_streetOn 39 = .ok (.iload_n 3, 1) := by decide +kernel
theorem dX3_streetOn_40 : decode cX3_streetOn 40 = .ok (.invokevirtual 42, 3) := by decide +kernel
theorem dX3_streetOn_43 : decode cX3_streetOn 43 = .ok (.ifCond .eq 11, 3) := by decide +kernel
theorem dX3_streetOn_46 : decode cX3_streetOn 46 = .ok (.aload_n 0, 1) := by decide +kernel
theorem dX3_streetOn_47 : decode cX3_streetOn 47 = .ok (.getfield 9, 3) := by decide +kernel
theorem dX3_streetOn_50 : decode cX3_streetOn 50 = .ok (.iload 5, 2) := by decide +kernel
theorem dX3_streetOn_52 : decode cX3_streetOn 52 = .ok (.iaload, 1) := by decide +kernel
theorem dX3_streetOn_53 : decode cX3_streetOn 53 = .ok (.ireturn, 1) := by decide +kernel
theorem dX3_streetOn_0 : decode cX3_streetOn 0 = .ok (.iconst 0, 1) := by decide +kernel
theorem dX3_streetOn_1 : decode cX3_streetOn 1 = .ok (.istore 5, 2) := by decide +kernel
theorem dX11_viewStreetOfAddress_52 : decode cX11_viewStreetOfAddress 52 = .ok (.aload_n 0, 1) := by decide +kernel
theorem dX11_viewStreetOfAddress_53 : decode cX11_viewStreetOfAddress 53 = .ok (.getfield 40, 3) := by decide +kernel
theorem dX11_viewStreetOfAddress_56 : decode cX11_viewStreetOfAddress 56 = .ok (.aload_n 0, 1) := by decide +kernel
theorem dX11_viewStreetOfAddress_57 : decode cX11_viewStreetOfAddress 57 = .ok (.getfield 22, 3) := by decide +kernel
theorem dX11_viewStreetOfAddress_60 : decode cX11_viewStreetOfAddress 60 = .ok (.iload_n 3, 1) := by decide +kernel
theorem dX11_viewStreetOfAddress_61 : decode cX11_viewStreetOfAddress 61 = .ok (.iload_n 1, 1) := by decide +kernel
theorem dX11_viewStreetOfAddress_62 : decode cX11_viewStreetOfAddress 62 = .ok (.aload_n 0, 1) := by decide +kernel
theorem dX11_viewStreetOfAddress_63 : decode cX11_viewStreetOfAddress 63 = .ok (.getfield 22, 3) := by decide +kernel
theorem dX11_viewStreetOfAddress_66 : decode cX11_viewStreetOfAddress 66 = .ok (.getfield 89, 3) := by decide +kernel
theorem dX11_viewStreetOfAddress_69 : decode cX11_viewStreetOfAddress 69 = .ok (.iload_n 3, 1) := by decide +kernel
theorem dX11_viewStreetOfAddress_70 : decode cX11_viewStreetOfAddress 70 = .ok (.invokevirtual 273, 3) := by decide +kernel
theorem dX11_viewStreetOfAddress_73 : decode cX11_viewStreetOfAddress 73 = .ok (.invokestatic 253, 3) := by decide +kernel
theorem dX11_viewStreetOfAddress_76 : decode cX11_viewStreetOfAddress 76 = .ok (.invokevirtual 256, 3) := by decide +kernel
theorem dX11_viewStreetOfAddress_79 : decode cX11_viewStreetOfAddress 79 = .ok (.iconst 1, 1) := by decide +kernel
theorem dX11_viewStreetOfAddress_80 : decode cX11_viewStreetOfAddress 80 = .ok (.ireturn, 1) := by decide +kernel
theorem dX11_viewStreetOfAddress_0 : decode cX11_viewStreetOfAddress 0 = .ok (.aload_n 0, 1) := by decide +kernel
theorem dX11_viewStreetOfAddress_1 : decode cX11_viewStreetOfAddress 1 = .ok (.getfield 22, 3) := by decide +kernel
theorem dX11_viewStreetOfAddress_4 : decode cX11_viewStreetOfAddress 4 = .ok (.getfield 89, 3) := by decide +kernel
theorem dX11_viewStreetOfAddress_7 : decode cX11_viewStreetOfAddress 7 = .ok (.aload_n 0, 1) := by decide +kernel
theorem dX11_viewStreetOfAddress_8 : decode cX11_viewStreetOfAddress 8 = .ok (.getfield 33, 3) := by decide +kernel
theorem dX11_viewStreetOfAddress_11 : decode cX11_viewStreetOfAddress 11 = .ok (.getfield 578, 3) := by decide +kernel
theorem dX11_viewStreetOfAddress_14 : decode cX11_viewStreetOfAddress 14 = .ok (.invokevirtual 97, 3) := by decide +kernel
theorem dX11_viewStreetOfAddress_17 : decode cX11_viewStreetOfAddress 17 = .ok (.istore_n 2, 1) := by decide +kernel
theorem dX11_viewStreetOfAddress_18 : decode cX11_viewStreetOfAddress 18 = .ok (.aload_n 0, 1) := by decide +kernel
theorem dX11_viewStreetOfAddress_19 : decode cX11_viewStreetOfAddress 19 = .ok (.getfield 22, 3) := by decide +kernel
theorem dX11_viewStreetOfAddress_22 : decode cX11_viewStreetOfAddress 22 = .ok (.getfield 117, 3) := by decide +kernel
theorem dX11_viewStreetOfAddress_25 : decode cX11_viewStreetOfAddress 25 = .ok (.aload_n 0, 1) := by decide +kernel
theorem dX11_viewStreetOfAddress_26 : decode cX11_viewStreetOfAddress 26 = .ok (.getfield 33, 3) := by decide +kernel
theorem dX11_viewStreetOfAddress_29 : decode cX11_viewStreetOfAddress 29 = .ok (.getfield 93, 3) := by decide +kernel
theorem dX11_viewStreetOfAddress_32 : decode cX11_viewStreetOfAddress 32 = .ok (.iload_n 2, 1) := by decide +kernel
theorem dX11_viewStreetOfAddress_33 : decode cX11_viewStreetOfAddress 33 = .ok (.iload_n 1, 1) := by decide +kernel
theorem dX11_viewStreetOfAddress_34 : decode cX11_viewStreetOfAddress 34 = .ok (.aload_n 0, 1) := by decide +kernel
theorem dX11_viewStreetOfAddress_35 : decode cX11_viewStreetOfAddress 35 = .ok (.getfield 22, 3) := by decide +kernel
theorem dX11_viewStreetOfAddress_38 : decode cX11_viewStreetOfAddress 38 = .ok (.getfield 73, 3) := by decide +kernel
theorem dX11_viewStreetOfAddress_41 : decode cX11_viewStreetOfAddress 41 = .ok (.invokevirtual 580, 3) := by decide +kernel
theorem dX11_viewStreetOfAddress_44 : decode cX11_viewStreetOfAddress 44 = .ok (.istore_n 3, 1) := by decide +kernel
theorem dX11_viewStreetOfAddress_45 : decode cX11_viewStreetOfAddress 45 = .ok (.iload_n 3, 1) := by decide +kernel
theorem dX11_viewStreetOfAddress_46 : decode cX11_viewStreetOfAddress 46 = .ok (.iconst (-1), 1) := by decide +kernel
theorem dX11_viewStreetOfAddress_47 : decode cX11_viewStreetOfAddress 47 = .ok (.if_icmp .ne 5, 3) := by decide +kernel
theorem dX11_viewStreetOfAddress_50 : decode cX11_viewStreetOfAddress 50 = .ok (.iconst 0, 1) := by decide +kernel
theorem dX11_viewStreetOfAddress_51 : decode cX11_viewStreetOfAddress 51 = .ok (.ireturn, 1) := by decide +kernel
theorem dX9_couldHave_79 : decode cX9_couldHave 79 = .ok (.ireturn, 1) := by decide +kernel
theorem dX9_couldHave_78 : decode cX9_couldHave 78 = .ok (.iconst 0, 1) := by decide +kernel
theorem dX9_couldHave_34 : decode cX9_couldHave 34 = .ok (.iload_n 2, 1) := by decide +kernel
theorem dX9_couldHave_35 : decode cX9_couldHave 35 = .ok (.aload_n 0, 1) := by decide +kernel
theorem dX9_couldHave_36 : decode cX9_couldHave 36 = .ok (.aload_n 0, 1) := by decide +kernel
theorem dX9_couldHave_37 : decode cX9_couldHave 37 = .ok (.getfield 21, 3) := by decide +kernel
theorem dX9_couldHave_40 : decode cX9_couldHave 40 = .ok (.iload_n 1, 1) := by decide +kernel
theorem dX9_couldHave_41 : decode cX9_couldHave 41 = .ok (.iaload, 1) := by decide +kernel
theorem dX9_couldHave_42 : decode cX9_couldHave 42 = .ok (.aload_n 0, 1) := by decide +kernel
theorem dX9_couldHave_43 : decode cX9_couldHave 43 = .ok (.getfield 27, 3) := by decide +kernel
theorem dX9_couldHave_46 : decode cX9_couldHave 46 = .ok (.iload_n 1, 1) := by decide +kernel
theorem dX9_couldHave_47 : decode cX9_couldHave 47 = .ok (.iaload, 1) := by decide +kernel
theorem dX9_couldHave_48 : decode cX9_couldHave 48 = .ok (.invokevirtual 109, 3) := by decide +kernel
theorem dX9_couldHave_51 : decode cX9_couldHave 51 = .ok (.if_icmp .le 27, 3) := by decide +kernel
theorem dX9_couldHave_54 : decode cX9_couldHave 54 = .ok (.iload_n 2, 1) := by decide +kernel
theorem dX9_couldHave_55 : decode cX9_couldHave 55 = .ok (.aload_n 0, 1) := by decide +kernel
theorem dX9_couldHave_56 : decode cX9_couldHave 56 = .ok (.aload_n 0, 1) := by decide +kernel
theorem dX9_couldHave_57 : decode cX9_couldHave 57 = .ok (.getfield 21, 3) := by decide +kernel
theorem dX9_couldHave_60 : decode cX9_couldHave 60 = .ok (.iload_n 1, 1) := by decide +kernel
theorem dX9_couldHave_61 : decode cX9_couldHave 61 = .ok (.iaload, 1) := by decide +kernel
theorem dX9_couldHave_62 : decode cX9_couldHave 62 = .ok (.aload_n 0, 1) := by decide +kernel
theorem dX9_couldHave_63 : decode cX9_couldHave 63 = .ok (.getfield 27, 3) := by decide +kernel
theorem dX9_couldHave_66 : decode cX9_couldHave 66 = .ok (.iload_n 1, 1) := by decide +kernel
theorem dX9_couldHave_67 : decode cX9_couldHave 67 = .ok (.iaload, 1) := by decide +kernel
theorem dX9_couldHave_68 : decode cX9_couldHave 68 = .ok (.invokevirtual 112, 3) := by decide +kernel
theorem dX9_couldHave_71 : decode cX9_couldHave 71 = .ok (.if_icmp .ge 7, 3) := by decide +kernel
theorem dX9_couldHave_74 : decode cX9_couldHave 74 = .ok (.iconst 1, 1) := by decide +kernel
theorem dX9_couldHave_75 : decode cX9_couldHave 75 = .ok (.goto 4, 3) := by decide +kernel
theorem dX9_couldHave_32 : decode cX9_couldHave 32 = .ok (.iconst 0, 1) := by decide +kernel
theorem dX9_couldHave_33 : decode cX9_couldHave 33 = .ok (.ireturn, 1) := by decide +kernel
theorem dX9_couldHave_0 : decode cX9_couldHave 0 = .ok (.aload_n 0, 1) := by decide +kernel
theorem dX9_couldHave_1 : decode cX9_couldHave 1 = .ok (.getfield 18, 3) := by decide +kernel
theorem dX9_couldHave_4 : decode cX9_couldHave 4 = .ok (.iload_n 1, 1) := by decide +kernel
theorem dX9_couldHave_5 : decode cX9_couldHave 5 = .ok (.iaload, 1) := by decide +kernel
theorem dX9_couldHave_6 : decode cX9_couldHave 6 = .ok (.ifCond .ne 26, 3) := by decide +kernel
theorem dX9_couldHave_9 : decode cX9_couldHave 9 = .ok (.aload_n 0, 1) := by decide +kernel
theorem dX9_couldHave_10 : decode cX9_couldHave 10 = .ok (.getfield 46, 3) := by decide +kernel
theorem dX9_couldHave_13 : decode cX9_couldHave 13 = .ok (.ifCond .ne 21, 3) := by decide +kernel
theorem dX9_couldHave_16 : decode cX9_couldHave 16 = .ok (.iload_n 2, 1) := by decide +kernel
theorem dX9_couldHave_17 : decode cX9_couldHave 17 = .ok (.bipush 16, 2) := by decide +kernel
theorem dX9_couldHave_19 : decode cX9_couldHave 19 = .ok (.idiv, 1) := by decide +kernel
theorem dX9_couldHave_20 : decode cX9_couldHave 20 = .ok (.aload_n 0, 1) := by decide +kernel
theorem dX9_couldHave_21 : decode cX9_couldHave 21 = .ok (.getfield 21, 3) := by decide +kernel
theorem dX9_couldHave_24 : decode cX9_couldHave 24 = .ok (.iload_n 1, 1) := by decide +kernel
theorem dX9_couldHave_25 : decode cX9_couldHave 25 = .ok (.iaload, 1) := by decide +kernel
theorem dX9_couldHave_26 : decode cX9_couldHave 26 = .ok (.invokestatic 129, 3) := by decide +kernel
theorem dX9_couldHave_29 : decode cX9_couldHave 29 = .ok (.ifCond .ne 5, 3) := by decide +kernel
theorem dX9_isInGap_28 : decode cX9_isInGap 28 = .ok (.ireturn, 1) := by decide +kernel
theorem dX9_isInGap_27 : decode cX9_isInGap 27 = .ok (.iconst 0, 1) := by decide +kernel
theorem dX9_isInGap_0 : decode cX9_isInGap 0 = .ok (.aload_n 0, 1) := by decide +kernel
theorem dX9_isInGap_1 : decode cX9_isInGap 1 = .ok (.getfield 18, 3) := by decide +kernel
theorem dX9_isInGap_4 : decode cX9_isInGap 4 = .ok (.iload_n 1, 1) := by decide +kernel
theorem dX9_isInGap_5 : decode cX9_isInGap 5 = .ok (.iaload, 1) := by decide +kernel
theorem dX9_isInGap_6 : decode cX9_isInGap 6 = .ok (.ifCond .ne 21, 3) := by decide +kernel
theorem dX9_isInGap_9 : decode cX9_isInGap 9 = .ok (.aload_n 0, 1) := by decide +kernel
theorem dX9_isInGap_10 : decode cX9_isInGap 10 = .ok (.iload_n 1, 1) := by decide +kernel
theorem dX9_isInGap_11 : decode cX9_isInGap 11 = .ok (.aload_n 0, 1) := by decide +kernel
theorem dX9_isInGap_12 : decode cX9_isInGap 12 = .ok (.getfield 21, 3) := by decide +kernel
theorem dX9_isInGap_15 : decode cX9_isInGap 15 = .ok (.iload_n 2, 1) := by decide +kernel
theorem dX9_isInGap_16 : decode cX9_isInGap 16 = .ok (.iaload, 1) := by decide +kernel
theorem dX9_isInGap_17 : decode cX9_isInGap 17 = .ok (.invokevirtual 104, 3) := by decide +kernel
theorem dX9_isInGap_20 : decode cX9_isInGap 20 = .ok (.ifCond .eq 7, 3) := by decide +kernel
theorem dX9_isInGap_23 : decode cX9_isInGap 23 = .ok (.iconst 1, 1) := by decide +kernel
theorem dX9_isInGap_24 : decode cX9_isInGap 24 = .ok (.goto 4, 3) := by decide +kernel
theorem dX9_unknownInGapOf_58 : decode cX9_unknownInGapOf 58 = .ok (.iload_n 2, 1) := by decide +kernel
theorem dX9_unknownInGapOf_59 : decode cX9_unknownInGapOf 59 = .ok (.ireturn, 1) := by decide +kernel
theorem dX9_unknownInGapOf_32 : decode cX9_unknownInGapOf 32 = .ok (.iload_n 3, 1) := by decide +kernel
theorem dX9_unknownInGapOf_33 : decode cX9_unknownInGapOf 33 = .ok (.aload_n 0, 1) := by decide +kernel
theorem dX9_unknownInGapOf_34 : decode cX9_unknownInGapOf 34 = .ok (.getfield 30, 3) := by decide +kernel
theorem dX9_unknownInGapOf_37 : decode cX9_unknownInGapOf 37 = .ok (.if_icmp .ge 21, 3) := by decide +kernel
theorem dX9_unknownInGapOf_40 : decode cX9_unknownInGapOf 40 = .ok (.aload_n 0, 1) := by decide +kernel
theorem dX9_unknownInGapOf_41 : decode cX9_unknownInGapOf 41 = .ok (.iload_n 3, 1) := by decide +kernel
theorem dX9_unknownInGapOf_42 : decode cX9_unknownInGapOf 42 = .ok (.iload_n 1, 1) := by decide +kernel
theorem dX9_unknownInGapOf_43 : decode cX9_unknownInGapOf 43 = .ok (.invokevirtual 138, 3) := by decide +kernel
theorem dX9_unknownInGapOf_46 : decode cX9_unknownInGapOf 46 = .ok (.ifCond .eq 12, 3) := by decide +kernel
theorem dX9_unknownInGapOf_49 : decode cX9_unknownInGapOf 49 = .ok (.iinc 2 1, 3) := by decide +kernel
theorem dX9_unknownInGapOf_52 : decode cX9_unknownInGapOf 52 = .ok (.iinc 3 1, 3) := by decide +kernel
theorem dX9_unknownInGapOf_55 : decode cX9_unknownInGapOf 55 = .ok (.goto (-23), 3) := by decide +kernel
theorem dX9_unknownInGapOf_28 : decode cX9_unknownInGapOf 28 = .ok (.iload_n 1, 1) := by decide +kernel
theorem dX9_unknownInGapOf_29 : decode cX9_unknownInGapOf 29 = .ok (.iconst 1, 1) := by decide +kernel
theorem dX9_unknownInGapOf_30 : decode cX9_unknownInGapOf 30 = .ok (.iadd, 1) := by decide +kernel
theorem dX9_unknownInGapOf_31 : decode cX9_unknownInGapOf 31 = .ok (.istore_n 3, 1) := by decide +kernel
theorem dX9_unknownInGapOf_6 : decode cX9_unknownInGapOf 6 = .ok (.iload_n 3, 1) := by decide +kernel
theorem dX9_unknownInGapOf_7 : decode cX9_unknownInGapOf 7 = .ok (.ifCond .lt 21, 3) := by decide +kernel
theorem dX9_unknownInGapOf_10 : decode cX9_unknownInGapOf 10 = .ok (.aload_n 0, 1) := by decide +kernel
theorem dX9_unknownInGapOf_11 : decode cX9_unknownInGapOf 11 = .ok (.iload_n 3, 1) := by decide +kernel
theorem dX9_unknownInGapOf_12 : decode cX9_unknownInGapOf 12 = .ok (.iload_n 1, 1) := by decide +kernel
theorem dX9_unknownInGapOf_13 : decode cX9_unknownInGapOf 13 = .ok (.invokevirtual 138, 3) := by decide +kernel
theorem dX9_unknownInGapOf_16 : decode cX9_unknownInGapOf 16 = .ok (.ifCond .eq 12, 3) := by decide +kernel
theorem dX9_unknownInGapOf_19 : decode cX9_unknownInGapOf 19 = .ok (.iinc 2 1, 3) := by decide +kernel
theorem dX9_unknownInGapOf_22 : decode cX9_unknownInGapOf 22 = .ok (.iinc 3 (-1), 3) := by decide +kernel
theorem dX9_unknownInGapOf_25 : decode cX9_unknownInGapOf 25 = .ok (.goto (-19), 3) := by decide +kernel
theorem dX9_unknownInGapOf_0 : decode cX9_unknownInGapOf 0 = .ok (.iconst 1, 1) := by decide +kernel
theorem dX9_unknownInGapOf_1 : decode cX9_unknownInGapOf 1 = .ok (.istore_n 2, 1) := by decide +kernel
theorem dX9_unknownInGapOf_2 : decode cX9_unknownInGapOf 2 = .ok (.iload_n 1, 1) := by decide +kernel
theorem dX9_unknownInGapOf_3 : decode cX9_unknownInGapOf 3 = .ok (.iconst 1, 1) := by decide +kernel
theorem dX9_unknownInGapOf_4 : decode cX9_unknownInGapOf 4 = .ok (.isub, 1) := by decide +kernel
theorem dX9_unknownInGapOf_5 : decode cX9_unknownInGapOf 5 = .ok (.istore_n 3, 1) := by decide +kernel
theorem dX9_likelyRankOf_0 : decode cX9_likelyRankOf 0 = .ok (.iconst 2, 1) := by decide +kernel
theorem dX9_likelyRankOf_1 : decode cX9_likelyRankOf 1 = .ok (.aload_n 0, 1) := by decide +kernel
theorem dX9_likelyRankOf_2 : decode cX9_likelyRankOf 2 = .ok (.iload_n 1, 1) := by decide +kernel
theorem dX9_likelyRankOf_3 : decode cX9_likelyRankOf 3 = .ok (.invokevirtual 135, 3) := by decide +kernel
theorem dX9_likelyRankOf_6 : decode cX9_likelyRankOf 6 = .ok (.imul, 1) := by decide +kernel
theorem dX9_likelyRankOf_7 : decode cX9_likelyRankOf 7 = .ok (.aload_n 0, 1) := by decide +kernel
theorem dX9_likelyRankOf_8 : decode cX9_likelyRankOf 8 = .ok (.getfield 21, 3) := by decide +kernel
theorem dX9_likelyRankOf_11 : decode cX9_likelyRankOf 11 = .ok (.iload_n 1, 1) := by decide +kernel
theorem dX9_likelyRankOf_12 : decode cX9_likelyRankOf 12 = .ok (.iaload, 1) := by decide +kernel
theorem dX9_likelyRankOf_13 : decode cX9_likelyRankOf 13 = .ok (.iadd, 1) := by decide +kernel
theorem dX9_likelyRankOf_14 : decode cX9_likelyRankOf 14 = .ok (.sipush 20000, 3) := by decide +kernel
theorem dX9_likelyRankOf_17 : decode cX9_likelyRankOf 17 = .ok (.imul, 1) := by decide +kernel
theorem dX9_likelyRankOf_18 : decode cX9_likelyRankOf 18 = .ok (.aload_n 0, 1) := by decide +kernel
theorem dX9_likelyRankOf_19 : decode cX9_likelyRankOf 19 = .ok (.getfield 24, 3) := by decide +kernel
theorem dX9_likelyRankOf_22 : decode cX9_likelyRankOf 22 = .ok (.iload_n 1, 1) := by decide +kernel
theorem dX9_likelyRankOf_23 : decode cX9_likelyRankOf 23 = .ok (.iaload, 1) := by decide +kernel
theorem dX9_likelyRankOf_24 : decode cX9_likelyRankOf 24 = .ok (.iadd, 1) := by decide +kernel
theorem dX9_likelyRankOf_25 : decode cX9_likelyRankOf 25 = .ok (.ireturn, 1) := by decide +kernel
theorem dX11_isTold_86 : decode cX11_isTold 86 = .ok (.ireturn, 1) := by decide +kernel
theorem dX11_isTold_85 : decode cX11_isTold 85 = .ok (.iconst 0, 1) := by decide +kernel
theorem dX11_isTold_22 : decode cX11_isTold 22 = .ok (.aload_n 0, 1) := by decide +kernel
theorem dX11_isTold_23 : decode cX11_isTold 23 = .ok (.getfield 22, 3) := by decide +kernel
theorem dX11_isTold_26 : decode cX11_isTold 26 = .ok (.getfield 185, 3) := by decide +kernel
theorem dX11_isTold_29 : decode cX11_isTold 29 = .ok (.getfield 330, 3) := by decide +kernel
theorem dX11_isTold_32 : decode cX11_isTold 32 = .ok (.iload_n 1, 1) := by decide +kernel
theorem dX11_isTold_33 : decode cX11_isTold 33 = .ok (.iaload, 1) := by decide +kernel
theorem dX11_isTold_34 : decode cX11_isTold 34 = .ok (.iload_n 2, 1) := by decide +kernel
theorem dX11_isTold_35 : decode cX11_isTold 35 = .ok (.if_icmp .ne 50, 3) := by decide +kernel
theorem dX11_isTold_38 : decode cX11_isTold 38 = .ok (.aload_n 0, 1) := by decide +kernel
theorem dX11_isTold_39 : decode cX11_isTold 39 = .ok (.getfield 22, 3) := by decide +kernel
theorem dX11_isTold_42 : decode cX11_isTold 42 = .ok (.getfield 185, 3) := by decide +kernel
theorem dX11_isTold_45 : decode cX11_isTold 45 = .ok (.iload_n 1, 1) := by decide +kernel
theorem dX11_isTold_46 : decode cX11_isTold 46 = .ok (.invokevirtual 214, 3) := by decide +kernel
theorem dX11_isTold_49 : decode cX11_isTold 49 = .ok (.aload_n 0, 1) := by decide +kernel
theorem dX11_isTold_50 : decode cX11_isTold 50 = .ok (.getfield 33, 3) := by decide +kernel
theorem dX11_isTold_53 : decode cX11_isTold 53 = .ok (.getfield 590, 3) := by decide +kernel
theorem dX11_isTold_56 : decode cX11_isTold 56 = .ok (.if_icmp .ne 29, 3) := by decide +kernel
theorem dX11_isTold_59 : decode cX11_isTold 59 = .ok (.aload_n 0, 1) := by decide +kernel
theorem dX11_isTold_60 : decode cX11_isTold 60 = .ok (.getfield 22, 3) := by decide +kernel
theorem dX11_isTold_63 : decode cX11_isTold 63 = .ok (.getfield 185, 3) := by decide +kernel
theorem dX11_isTold_66 : decode cX11_isTold 66 = .ok (.getfield 342, 3) := by decide +kernel
theorem dX11_isTold_69 : decode cX11_isTold 69 = .ok (.iload_n 1, 1) := by decide +kernel
theorem dX11_isTold_70 : decode cX11_isTold 70 = .ok (.iaload, 1) := by decide +kernel
theorem dX11_isTold_71 : decode cX11_isTold 71 = .ok (.aload_n 0, 1) := by decide +kernel
theorem dX11_isTold_72 : decode cX11_isTold 72 = .ok (.getfield 33, 3) := by decide +kernel
theorem dX11_isTold_75 : decode cX11_isTold 75 = .ok (.getfield 593, 3) := by decide +kernel
theorem dX11_isTold_78 : decode cX11_isTold 78 = .ok (.if_icmp .ne 7, 3) := by decide +kernel
theorem dX11_isTold_81 : decode cX11_isTold 81 = .ok (.iconst 1, 1) := by decide +kernel
theorem dX11_isTold_82 : decode cX11_isTold 82 = .ok (.goto 4, 3) := by decide +kernel
theorem dX11_isTold_21 : decode cX11_isTold 21 = .ok (.ireturn, 1) := by decide +kernel
theorem dX11_isTold_20 : decode cX11_isTold 20 = .ok (.iconst 0, 1) := by decide +kernel
theorem dX11_isTold_0 : decode cX11_isTold 0 = .ok (.aload_n 0, 1) := by decide +kernel
theorem dX11_isTold_1 : decode cX11_isTold 1 = .ok (.getfield 33, 3) := by decide +kernel
theorem dX11_isTold_4 : decode cX11_isTold 4 = .ok (.getfield 590, 3) := by decide +kernel
theorem dX11_isTold_7 : decode cX11_isTold 7 = .ok (.iconst (-1), 1) := by decide +kernel
theorem dX11_isTold_8 : decode cX11_isTold 8 = .ok (.if_icmp .ne 14, 3) := by decide +kernel
theorem dX11_isTold_11 : decode cX11_isTold 11 = .ok (.iload_n 1, 1) := by decide +kernel
theorem dX11_isTold_12 : decode cX11_isTold 12 = .ok (.iload_n 2, 1) := by decide +kernel
theorem dX11_isTold_13 : decode cX11_isTold 13 = .ok (.if_icmp .ne 7, 3) := by decide +kernel
theorem dX11_isTold_16 : decode cX11_isTold 16 = .ok (.iconst 1, 1) := by decide +kernel
theorem dX11_isTold_17 : decode cX11_isTold 17 = .ok (.goto 4, 3) := by decide +kernel
theorem dX11_toldOf_55 : decode cX11_toldOf 55 = .ok (.iconst (-1), 1) := by decide +kernel
theorem dX11_toldOf_56 : decode cX11_toldOf 56 = .ok (.ireturn, 1) := by decide +kernel
theorem dX11_toldOf_49 : decode cX11_toldOf 49 = .ok (.iinc 3 1, 3) := by decide +kernel
theorem dX11_toldOf_52 : decode cX11_toldOf 52 = .ok (.goto (-50), 3) := by decide +kernel
theorem dX11_toldOf_2 : decode cX11_toldOf 2 = .ok (.iload_n 3, 1) := by decide +kernel
theorem dX11_toldOf_3 : decode cX11_toldOf 3 = .ok (.aload_n 0, 1) := by decide +kernel
theorem dX11_toldOf_4 : decode cX11_toldOf 4 = .ok (.getfield 22, 3) := by decide +kernel
theorem dX11_toldOf_7 : decode cX11_toldOf 7 = .ok (.getfield 185, 3) := by decide +kernel
theorem dX11_toldOf_10 : decode cX11_toldOf 10 = .ok (.getfield 189, 3) := by decide +kernel
theorem dX11_toldOf_13 : decode cX11_toldOf 13 = .ok (.if_icmp .ge 42, 3) := by decide +kernel
theorem dX11_toldOf_16 : decode cX11_toldOf 16 = .ok (.aload_n 0, 1) := by decide +kernel
theorem dX11_toldOf_17 : decode cX11_toldOf 17 = .ok (.iload_n 3, 1) := by decide +kernel
theorem dX11_toldOf_18 : decode cX11_toldOf 18 = .ok (.iload_n 1, 1) := by decide +kernel
theorem dX11_toldOf_19 : decode cX11_toldOf 19 = .ok (.invokevirtual 587, 3) := by decide +kernel
theorem dX11_toldOf_22 : decode cX11_toldOf 22 = .ok (.ifCond .eq 27, 3) := by decide +kernel
theorem dX11_toldOf_25 : decode cX11_toldOf 25 = .ok (.aload_n 0, 1) := by decide +kernel
theorem dX11_toldOf_26 : decode cX11_toldOf 26 = .ok (.getfield 22, 3) := by decide +kernel
theorem dX11_toldOf_29 : decode cX11_toldOf 29 = .ok (.getfield 185, 3) := by decide +kernel
theorem dX11_toldOf_32 : decode cX11_toldOf 32 = .ok (.iload_n 3, 1) := by decide +kernel
theorem dX11_toldOf_33 : decode cX11_toldOf 33 = .ok (.iload_n 2, 1) := by decide +kernel
theorem dX11_toldOf_34 : decode cX11_toldOf 34 = .ok (.aload_n 0, 1) := by decide +kernel
theorem dX11_toldOf_35 : decode cX11_toldOf 35 = .ok (.getfield 22, 3) := by decide +kernel
theorem dX11_toldOf_38 : decode cX11_toldOf 38 = .ok (.getfield 73, 3) := by decide +kernel
theorem dX11_toldOf_41 : decode cX11_toldOf 41 = .ok (.invokevirtual 348, 3) := by decide +kernel
theorem dX11_toldOf_44 : decode cX11_toldOf 44 = .ok (.ifCond .eq 5, 3) := by decide +kernel
theorem dX11_toldOf_47 : decode cX11_toldOf 47 = .ok (.iload_n 3, 1) := by decide +kernel
theorem dX11_toldOf_48 : decode cX11_toldOf 48 = .ok (.ireturn, 1) := by decide +kernel
theorem dX11_toldOf_0 : decode cX11_toldOf 0 = .ok (.iconst 0, 1) := by decide +kernel
theorem dX11_toldOf_1 : decode cX11_toldOf 1 = .ok (.istore_n 3, 1) := by decide +kernel
theorem dX1_addFound_88 : decode cX1_addFound 88 = .ok (.aload_n 0, 1) := by decide +kernel
theorem dX1_addFound_89 : decode cX1_addFound 89 = .ok (.getfield 18, 3) := by decide +kernel
theorem dX1_addFound_92 : decode cX1_addFound 92 = .ok (.iload 4, 2) := by decide +kernel
theorem dX1_addFound_94 : decode cX1_addFound 94 = .ok (.iload_n 1, 1) := by decide +kernel
theorem dX1_addFound_95 : decode cX1_addFound 95 = .ok (.iastore, 1) := by decide +kernel
theorem dX1_addFound_96 : decode cX1_addFound 96 = .ok (.aload_n 0, 1) := by decide +kernel
theorem dX1_addFound_97 : decode cX1_addFound 97 = .ok (.getfield 22, 3) := by decide +kernel
theorem dX1_addFound_100 : decode cX1_addFound 100 = .ok (.iload 4, 2) := by decide +kernel
theorem dX1_addFound_102 : decode cX1_addFound 102 = .ok (.iload_n 2, 1) := by decide +kernel
theorem dX1_addFound_103 : decode cX1_addFound 103 = .ok (.iastore, 1) := by decide +kernel
theorem dX1_addFound_104 : decode cX1_addFound 104 = .ok (.aload_n 0, 1) := by decide +kernel
theorem dX1_addFound_105 : decode cX1_addFound 105 = .ok (.getfield 25, 3) := by decide +kernel
theorem dX1_addFound_108 : decode cX1_addFound 108 = .ok (.iload 4, 2) := by decide +kernel
theorem dX1_addFound_110 : decode cX1_addFound 110 = .ok (.iload_n 3, 1) := by decide +kernel
theorem dX1_addFound_111 : decode cX1_addFound 111 = .ok (.iastore, 1) := by decide +kernel
theorem dX1_addFound_112 : decode cX1_addFound 112 = .ok (.aload_n 0, 1) := by decide +kernel
theorem dX1_addFound_113 : decode cX1_addFound 113 = .ok (.dup, 1) := by decide +kernel
theorem dX1_addFound_114 : decode cX1_addFound 114 = .ok (.getfield 55, 3) := by decide +kernel
theorem dX1_addFound_117 : decode cX1_addFound 117 = .ok (.iconst 1, 1) := by decide +kernel
theorem dX1_addFound_118 : decode cX1_addFound 118 = .ok (.iadd, 1) := by decide +kernel
theorem dX1_addFound_119 : decode cX1_addFound 119 = .ok (.putfield 55, 3) := by decide +kernel
theorem dX1_addFound_122 : decode cX1_addFound 122 = .ok (.return_, 1) := by decide +kernel
theorem dX1_addFound_16 : decode cX1_addFound 16 = .ok (.iload 4, 2) := by decide +kernel
theorem dX1_addFound_18 : decode cX1_addFound 18 = .ok (.ifCond .le 70, 3) := by decide +kernel
theorem dX1_addFound_21 : decode cX1_addFound 21 = .ok (.aload_n 0, 1) := by decide +kernel
theorem dX1_addFound_22 : decode cX1_addFound 22 = .ok (.getfield 25, 3) := by decide +kernel
theorem dX1_addFound_25 : decode cX1_addFound 25 = .ok (.iload 4, 2) := by decide +kernel
theorem dX1_addFound_27 : decode cX1_addFound 27 = .ok (.iconst 1, 1) := by decide +kernel
theorem dX1_addFound_28 : decode cX1_addFound 28 = .ok (.isub, 1) := by decide +kernel
theorem dX1_addFound_29 : decode cX1_addFound 29 = .ok (.iaload, 1) := by decide +kernel
theorem dX1_addFound_30 : decode cX1_addFound 30 = .ok (.iload_n 3, 1) := by decide +kernel
theorem dX1_addFound_31 : decode cX1_addFound 31 = .ok (.if_icmp .le 57, 3) := by decide +kernel
theorem dX1_addFound_34 : decode cX1_addFound 34 = .ok (.aload_n 0, 1) := by decide +kernel
theorem dX1_addFound_35 : decode cX1_addFound 35 = .ok (.getfield 18, 3) := by decide +kernel
theorem dX1_addFound_38 : decode cX1_addFound 38 = .ok (.iload 4, 2) := by decide +kernel
theorem dX1_addFound_40 : decode cX1_addFound 40 = .ok (.aload_n 0, 1) := by decide +kernel
theorem dX1_addFound_41 : decode cX1_addFound 41 = .ok (.getfield 18, 3) := by decide +kernel
theorem dX1_addFound_44 : decode cX1_addFound 44 = .ok (.iload 4, 2) := by decide +kernel
theorem dX1_addFound_46 : decode cX1_addFound 46 = .ok (.iconst 1, 1) := by decide +kernel
theorem dX1_addFound_47 : decode cX1_addFound 47 = .ok (.isub, 1) := by decide +kernel
theorem dX1_addFound_48 : decode cX1_addFound 48 = .ok (.iaload, 1) := by decide +kernel
theorem dX1_addFound_49 : decode cX1_addFound 49 = .ok (.iastore, 1) := by decide +kernel
theorem dX1_addFound_50 : decode cX1_addFound 50 = .ok (.aload_n 0, 1) := by decide +kernel
theorem dX1_addFound_51 : decode cX1_addFound 51 = .ok (.getfield 22, 3) := by decide +kernel
theorem dX1_addFound_54 : decode cX1_addFound 54 = .ok (.iload 4, 2) := by decide +kernel
theorem dX1_addFound_56 : decode cX1_addFound 56 = .ok (.aload_n 0, 1) := by decide +kernel
theorem dX1_addFound_57 : decode cX1_addFound 57 = .ok (.getfield 22, 3) := by decide +kernel
theorem dX1_addFound_60 : decode cX1_addFound 60 = .ok (.iload 4, 2) := by decide +kernel
theorem dX1_addFound_62 : decode cX1_addFound 62 = .ok (.iconst 1, 1) := by decide +kernel
theorem dX1_addFound_63 : decode cX1_addFound 63 = .ok (.isub, 1) := by decide +kernel
theorem dX1_addFound_64 : decode cX1_addFound 64 = .ok (.iaload, 1) := by decide +kernel
theorem dX1_addFound_65 : decode cX1_addFound 65 = .ok (.iastore, 1) := by decide +kernel
theorem dX1_addFound_66 : decode cX1_addFound 66 = .ok (.aload_n 0, 1) := by decide +kernel
theorem dX1_addFound_67 : decode cX1_addFound 67 = .ok (.getfield 25, 3) := by decide +kernel
theorem dX1_addFound_70 : decode cX1_addFound 70 = .ok (.iload 4, 2) := by decide +kernel
theorem dX1_addFound_72 : decode cX1_addFound 72 = .ok (.aload_n 0, 1) := by decide +kernel
theorem dX1_addFound_73 : decode cX1_addFound 73 = .ok (.getfield 25, 3) := by decide +kernel
theorem dX1_addFound_76 : decode cX1_addFound 76 = .ok (.iload 4, 2) := by decide +kernel
theorem dX1_addFound_78 : decode cX1_addFound 78 = .ok (.iconst 1, 1) := by decide +kernel
theorem dX1_addFound_79 : decode cX1_addFound 79 = .ok (.isub, 1) := by decide +kernel
theorem dX1_addFound_80 : decode cX1_addFound 80 = .ok (.iaload, 1) := by decide +kernel
theorem dX1_addFound_81 : decode cX1_addFound 81 = .ok (.iastore, 1) := by decide +kernel
theorem dX1_addFound_82 : decode cX1_addFound 82 = .ok (.iinc 4 (-1), 3) := by decide +kernel
theorem dX1_addFound_85 : decode cX1_addFound 85 = .ok (.goto (-69), 3) := by decide +kernel
theorem dX1_addFound_10 : decode cX1_addFound 10 = .ok (.aload_n 0, 1) := by decide +kernel
theorem dX1_addFound_11 : decode cX1_addFound 11 = .ok (.getfield 55, 3) := by decide +kernel
theorem dX1_addFound_14 : decode cX1_addFound 14 = .ok (.istore 4, 2) := by decide +kernel
theorem dX1_addFound_0 : decode cX1_addFound 0 = .ok (.aload_n 0, 1) := by decide +kernel
theorem dX1_addFound_1 : decode cX1_addFound 1 = .ok (.getfield 55, 3) := by decide +kernel
theorem dX1_addFound_4 : decode cX1_addFound 4 = .ok (.bipush 100, 2) := by decide +kernel
theorem dX1_addFound_6 : decode cX1_addFound 6 = .ok (.if_icmp .lt 4, 3) := by decide +kernel
theorem dX1_addFound_9 : decode cX1_addFound 9 = .ok (.return_, 1) := by decide +kernel
theorem dX11_findOne_29 : decode cX11_findOne 29 = .ok (.return_, 1) := by decide +kernel
theorem dX11_findOne_0 : decode cX11_findOne 0 = .ok (.aload_n 0, 1) := by decide +kernel
theorem dX11_findOne_1 : decode cX11_findOne 1 = .ok (.iload_n 1, 1) := by decide +kernel
theorem dX11_findOne_2 : decode cX11_findOne 2 = .ok (.iload_n 2, 1) := by decide +kernel
theorem dX11_findOne_3 : decode cX11_findOne 3 = .ok (.invokevirtual 584, 3) := by decide +kernel
theorem dX11_findOne_6 : decode cX11_findOne 6 = .ok (.istore 5, 2) := by decide +kernel
theorem dX11_findOne_8 : decode cX11_findOne 8 = .ok (.iload 5, 2) := by decide +kernel
theorem dX11_findOne_10 : decode cX11_findOne 10 = .ok (.iconst (-1), 1) := by decide +kernel
theorem dX11_findOne_11 : decode cX11_findOne 11 = .ok (.if_icmp .eq 18, 3) := by decide +kernel
theorem dX11_findOne_14 : decode cX11_findOne 14 = .ok (.aload_n 0, 1) := by decide +kernel
theorem dX11_findOne_15 : decode cX11_findOne 15 = .ok (.getfield 22, 3) := by decide +kernel
theorem dX11_findOne_18 : decode cX11_findOne 18 = .ok (.getfield 396, 3) := by decide +kernel
theorem dX11_findOne_21 : decode cX11_findOne 21 = .ok (.iload 5, 2) := by decide +kernel
theorem dX11_findOne_23 : decode cX11_findOne 23 = .ok (.iload_n 3, 1) := by decide +kernel
theorem dX11_findOne_24 : decode cX11_findOne 24 = .ok (.iload 4, 2) := by decide +kernel
theorem dX11_findOne_26 : decode cX11_findOne 26 = .ok (.invokevirtual 596, 3) := by decide +kernel
theorem dX11_findLikely_62 : decode cX11_findLikely 62 = .ok (.return_, 1) := by decide +kernel
theorem dX11_findLikely_56 : decode cX11_findLikely 56 = .ok (.iinc 2 1, 3) := by decide +kernel
theorem dX11_findLikely_59 : decode cX11_findLikely 59 = .ok (.goto (-57), 3) := by decide +kernel
theorem dX11_findLikely_2 : decode cX11_findLikely 2 = .ok (.iload_n 2, 1) := by decide +kernel
theorem dX11_findLikely_3 : decode cX11_findLikely 3 = .ok (.aload_n 0, 1) := by decide +kernel
theorem dX11_findLikely_4 : decode cX11_findLikely 4 = .ok (.getfield 40, 3) := by decide +kernel
theorem dX11_findLikely_7 : decode cX11_findLikely 7 = .ok (.getfield 455, 3) := by decide +kernel
theorem dX11_findLikely_10 : decode cX11_findLikely 10 = .ok (.if_icmp .ge 52, 3) := by decide +kernel
theorem dX11_findLikely_13 : decode cX11_findLikely 13 = .ok (.aload_n 0, 1) := by decide +kernel
theorem dX11_findLikely_14 : decode cX11_findLikely 14 = .ok (.getfield 40, 3) := by decide +kernel
theorem dX11_findLikely_17 : decode cX11_findLikely 17 = .ok (.iload_n 2, 1) := by decide +kernel
theorem dX11_findLikely_18 : decode cX11_findLikely 18 = .ok (.aload_n 0, 1) := by decide +kernel
theorem dX11_findLikely_19 : decode cX11_findLikely 19 = .ok (.getfield 33, 3) := by decide +kernel
theorem dX11_findLikely_22 : decode cX11_findLikely 22 = .ok (.getfield 408, 3) := by decide +kernel
theorem dX11_findLikely_25 : decode cX11_findLikely 25 = .ok (.invokevirtual 599, 3) := by decide +kernel
theorem dX11_findLikely_28 : decode cX11_findLikely 28 = .ok (.ifCond .eq 28, 3) := by decide +kernel
theorem dX11_findLikely_31 : decode cX11_findLikely 31 = .ok (.aload_n 0, 1) := by decide +kernel
theorem dX11_findLikely_32 : decode cX11_findLikely 32 = .ok (.aload_n 0, 1) := by decide +kernel
theorem dX11_findLikely_33 : decode cX11_findLikely 33 = .ok (.getfield 40, 3) := by decide +kernel
theorem dX11_findLikely_36 : decode cX11_findLikely 36 = .ok (.getfield 416, 3) := by decide +kernel
theorem dX11_findLikely_39 : decode cX11_findLikely 39 = .ok (.iload_n 2, 1) := by decide +kernel
theorem dX11_findLikely_40 : decode cX11_findLikely 40 = .ok (.iaload, 1) := by decide +kernel
theorem dX11_findLikely_41 : decode cX11_findLikely 41 = .ok (.iconst 2, 1) := by decide +kernel
theorem dX11_findLikely_42 : decode cX11_findLikely 42 = .ok (.idiv, 1) := by decide +kernel
theorem dX11_findLikely_43 : decode cX11_findLikely 43 = .ok (.iload_n 1, 1) := by decide +kernel
theorem dX11_findLikely_44 : decode cX11_findLikely 44 = .ok (.iconst 0, 1) := by decide +kernel
theorem dX11_findLikely_45 : decode cX11_findLikely 45 = .ok (.aload_n 0, 1) := by decide +kernel
theorem dX11_findLikely_46 : decode cX11_findLikely 46 = .ok (.getfield 40, 3) := by decide +kernel
theorem dX11_findLikely_49 : decode cX11_findLikely 49 = .ok (.iload_n 2, 1) := by decide +kernel
theorem dX11_findLikely_50 : decode cX11_findLikely 50 = .ok (.invokevirtual 602, 3) := by decide +kernel
theorem dX11_findLikely_53 : decode cX11_findLikely 53 = .ok (.invokevirtual 419, 3) := by decide +kernel
theorem dX11_findLikely_0 : decode cX11_findLikely 0 = .ok (.iconst 0, 1) := by decide +kernel
theorem dX11_findLikely_1 : decode cX11_findLikely 1 = .ok (.istore_n 2, 1) := by decide +kernel
theorem dX11_means_84 : decode cX11_means 84 = .ok (.aload_n 0, 1) := by decide +kernel
theorem dX11_means_85 : decode cX11_means 85 = .ok (.getfield 22, 3) := by decide +kernel
theorem dX11_means_88 : decode cX11_means 88 = .ok (.getfield 396, 3) := by decide +kernel
theorem dX11_means_91 : decode cX11_means 91 = .ok (.getfield 400, 3) := by decide +kernel
theorem dX11_means_94 : decode cX11_means 94 = .ok (.ireturn, 1) := by decide +kernel
theorem dX11_means_66 : decode cX11_means 66 = .ok (.aload_n 0, 1) := by decide +kernel
theorem dX11_means_67 : decode cX11_means 67 = .ok (.aload_n 0, 1) := by decide +kernel
theorem dX11_means_68 : decode cX11_means 68 = .ok (.getfield 40, 3) := by decide +kernel
theorem dX11_means_71 : decode cX11_means 71 = .ok (.getfield 416, 3) := by decide +kernel
theorem dX11_means_74 : decode cX11_means 74 = .ok (.iload_n 2, 1) := by decide +kernel
theorem dX11_means_75 : decode cX11_means 75 = .ok (.iaload, 1) := by decide +kernel
theorem dX11_means_76 : decode cX11_means 76 = .ok (.iconst 2, 1) := by decide +kernel
theorem dX11_means_77 : decode cX11_means 77 = .ok (.idiv, 1) := by decide +kernel
theorem dX11_means_78 : decode cX11_means 78 = .ok (.iload_n 1, 1) := by decide +kernel
theorem dX11_means_79 : decode cX11_means 79 = .ok (.iconst 1, 1) := by decide +kernel
theorem dX11_means_80 : decode cX11_means 80 = .ok (.iconst 0, 1) := by decide +kernel
theorem dX11_means_81 : decode cX11_means 81 = .ok (.invokevirtual 419, 3) := by decide +kernel
theorem dX11_means_38 : decode cX11_means 38 = .ok (.aload_n 0, 1) := by decide +kernel
theorem dX11_means_39 : decode cX11_means 39 = .ok (.getfield 40, 3) := by decide +kernel
theorem dX11_means_42 : decode cX11_means 42 = .ok (.aload_n 0, 1) := by decide +kernel
theorem dX11_means_43 : decode cX11_means 43 = .ok (.getfield 33, 3) := by decide +kernel
theorem dX11_means_46 : decode cX11_means 46 = .ok (.getfield 408, 3) := by decide +kernel
theorem dX11_means_49 : decode cX11_means 49 = .ok (.invokevirtual 410, 3) := by decide +kernel
theorem dX11_means_52 : decode cX11_means 52 = .ok (.istore_n 2, 1) := by decide +kernel
theorem dX11_means_53 : decode cX11_means 53 = .ok (.iload_n 2, 1) := by decide +kernel
theorem dX11_means_54 : decode cX11_means 54 = .ok (.iconst (-1), 1) := by decide +kernel
theorem dX11_means_55 : decode cX11_means 55 = .ok (.if_icmp .ne 11, 3) := by decide +kernel
theorem dX11_means_58 : decode cX11_means 58 = .ok (.aload_n 0, 1) := by decide +kernel
theorem dX11_means_59 : decode cX11_means 59 = .ok (.iload_n 1, 1) := by decide +kernel
theorem dX11_means_60 : decode cX11_means 60 = .ok (.invokevirtual 413, 3) := by decide +kernel
theorem dX11_means_63 : decode cX11_means 63 = .ok (.goto 21, 3) := by decide +kernel
theorem dX11_means_17 : decode cX11_means 17 = .ok (.aload_n 0, 1) := by decide +kernel
theorem dX11_means_18 : decode cX11_means 18 = .ok (.getfield 22, 3) := by decide +kernel
theorem dX11_means_21 : decode cX11_means 21 = .ok (.getfield 396, 3) := by decide +kernel
theorem dX11_means_24 : decode cX11_means 24 = .ok (.iconst 0, 1) := by decide +kernel
theorem dX11_means_25 : decode cX11_means 25 = .ok (.putfield 400, 3) := by decide +kernel
theorem dX11_means_28 : decode cX11_means 28 = .ok (.aload_n 0, 1) := by decide +kernel
theorem dX11_means_29 : decode cX11_means 29 = .ok (.iload_n 1, 1) := by decide +kernel
theorem dX11_means_30 : decode cX11_means 30 = .ok (.invokevirtual 405, 3) := by decide +kernel
theorem dX11_means_33 : decode cX11_means 33 = .ok (.ifCond .ne 5, 3) := by decide +kernel
theorem dX11_means_36 : decode cX11_means 36 = .ok (.iconst 0, 1) := by decide +kernel
theorem dX11_means_37 : decode cX11_means 37 = .ok (.ireturn, 1) := by decide +kernel
theorem dX11_means_14 : decode cX11_means 14 = .ok (.bipush (-2), 2) := by decide +kernel
theorem dX11_means_16 : decode cX11_means 16 = .ok (.ireturn, 1) := by decide +kernel
theorem dX11_means_0 : decode cX11_means 0 = .ok (.aload_n 0, 1) := by decide +kernel
theorem dX11_means_1 : decode cX11_means 1 = .ok (.invokevirtual 393, 3) := by decide +kernel
theorem dX11_means_4 : decode cX11_means 4 = .ok (.ifCond .eq 10, 3) := by decide +kernel
theorem dX11_means_7 : decode cX11_means 7 = .ok (.iload_n 1, 1) := by decide +kernel
theorem dX11_means_8 : decode cX11_means 8 = .ok (.invokestatic 69, 3) := by decide +kernel
theorem dX11_means_11 : decode cX11_means 11 = .ok (.ifCond .ne 6, 3) := by decide +kernel
theorem dX11_fault_0 : decode cX11_fault 0 = .ok (.aload_n 0, 1) := by decide +kernel
theorem dX11_fault_1 : decode cX11_fault 1 = .ok (.getfield 22, 3) := by decide +kernel
theorem dX11_fault_4 : decode cX11_fault 4 = .ok (.getfield 396, 3) := by decide +kernel
theorem dX11_fault_7 : decode cX11_fault 7 = .ok (.getfield 422, 3) := by decide +kernel
theorem dX11_fault_10 : decode cX11_fault 10 = .ok (.ireturn, 1) := by decide +kernel
theorem dX11_found_58 : decode cX11_found 58 = .ok (.ireturn, 1) := by decide +kernel
theorem dX11_found_57 : decode cX11_found 57 = .ok (.iconst (-1), 1) := by decide +kernel
theorem dX11_found_37 : decode cX11_found 37 = .ok (.iload_n 2, 1) := by decide +kernel
theorem dX11_found_38 : decode cX11_found 38 = .ok (.iconst 1, 1) := by decide +kernel
theorem dX11_found_39 : decode cX11_found 39 = .ok (.if_icmp .ne 18, 3) := by decide +kernel
theorem dX11_found_42 : decode cX11_found 42 = .ok (.aload_n 0, 1) := by decide +kernel
theorem dX11_found_43 : decode cX11_found 43 = .ok (.getfield 22, 3) := by decide +kernel
theorem dX11_found_46 : decode cX11_found 46 = .ok (.getfield 396, 3) := by decide +kernel
theorem dX11_found_49 : decode cX11_found 49 = .ok (.getfield 428, 3) := by decide +kernel
theorem dX11_found_52 : decode cX11_found 52 = .ok (.iload_n 1, 1) := by decide +kernel
theorem dX11_found_53 : decode cX11_found 53 = .ok (.iaload, 1) := by decide +kernel
theorem dX11_found_54 : decode cX11_found 54 = .ok (.goto 4, 3) := by decide +kernel
theorem dX11_found_20 : decode cX11_found 20 = .ok (.iload_n 2, 1) := by decide +kernel
theorem dX11_found_21 : decode cX11_found 21 = .ok (.ifCond .ne 16, 3) := by decide +kernel
theorem dX11_found_24 : decode cX11_found 24 = .ok (.aload_n 0, 1) := by decide +kernel
theorem dX11_found_25 : decode cX11_found 25 = .ok (.getfield 22, 3) := by decide +kernel
theorem dX11_found_28 : decode cX11_found 28 = .ok (.getfield 396, 3) := by decide +kernel
theorem dX11_found_31 : decode cX11_found 31 = .ok (.getfield 425, 3) := by decide +kernel
theorem dX11_found_34 : decode cX11_found 34 = .ok (.iload_n 1, 1) := by decide +kernel
theorem dX11_found_35 : decode cX11_found 35 = .ok (.iaload, 1) := by decide +kernel
theorem dX11_found_36 : decode cX11_found 36 = .ok (.ireturn, 1) := by decide +kernel
theorem dX11_found_18 : decode cX11_found 18 = .ok (.iconst (-1), 1) := by decide +kernel
theorem dX11_found_19 : decode cX11_found 19 = .ok (.ireturn, 1) := by decide +kernel
theorem dX11_found_0 : decode cX11_found 0 = .ok (.iload_n 1, 1) := by decide +kernel
theorem dX11_found_1 : decode cX11_found 1 = .ok (.ifCond .lt 17, 3) := by decide +kernel
theorem dX11_found_4 : decode cX11_found 4 = .ok (.iload_n 1, 1) := by decide +kernel
theorem dX11_found_5 : decode cX11_found 5 = .ok (.aload_n 0, 1) := by decide +kernel
theorem dX11_found_6 : decode cX11_found 6 = .ok (.getfield 22, 3) := by decide +kernel
theorem dX11_found_9 : decode cX11_found 9 = .ok (.getfield 396, 3) := by decide +kernel
theorem dX11_found_12 : decode cX11_found 12 = .ok (.getfield 400, 3) := by decide +kernel
theorem dX11_found_15 : decode cX11_found 15 = .ok (.if_icmp .lt 5, 3) := by decide +kernel
theorem dX11_sureDoor_50 : decode cX11_sureDoor 50 = .ok (.ireturn, 1) := by decide +kernel
theorem dX11_sureDoor_34 : decode cX11_sureDoor 34 = .ok (.aload_n 0, 1) := by decide +kernel
theorem dX11_sureDoor_35 : decode cX11_sureDoor 35 = .ok (.aload_n 0, 1) := by decide +kernel
theorem dX11_sureDoor_36 : decode cX11_sureDoor 36 = .ok (.getfield 40, 3) := by decide +kernel
theorem dX11_sureDoor_39 : decode cX11_sureDoor 39 = .ok (.getfield 416, 3) := by decide +kernel
theorem dX11_sureDoor_42 : decode cX11_sureDoor 42 = .ok (.iload_n 2, 1) := by decide +kernel
theorem dX11_sureDoor_43 : decode cX11_sureDoor 43 = .ok (.iaload, 1) := by decide +kernel
theorem dX11_sureDoor_44 : decode cX11_sureDoor 44 = .ok (.iconst 2, 1) := by decide +kernel
theorem dX11_sureDoor_45 : decode cX11_sureDoor 45 = .ok (.idiv, 1) := by decide +kernel
theorem dX11_sureDoor_46 : decode cX11_sureDoor 46 = .ok (.iload_n 1, 1) := by decide +kernel
theorem dX11_sureDoor_47 : decode cX11_sureDoor 47 = .ok (.invokevirtual 584, 3) := by decide +kernel
theorem dX11_sureDoor_10 : decode cX11_sureDoor 10 = .ok (.aload_n 0, 1) := by decide +kernel
theorem dX11_sureDoor_11 : decode cX11_sureDoor 11 = .ok (.getfield 40, 3) := by decide +kernel
theorem dX11_sureDoor_14 : decode cX11_sureDoor 14 = .ok (.aload_n 0, 1) := by decide +kernel
theorem dX11_sureDoor_15 : decode cX11_sureDoor 15 = .ok (.getfield 33, 3) := by decide +kernel
theorem dX11_sureDoor_18 : decode cX11_sureDoor 18 = .ok (.getfield 408, 3) := by decide +kernel
theorem dX11_sureDoor_21 : decode cX11_sureDoor 21 = .ok (.invokevirtual 410, 3) := by decide +kernel
theorem dX11_sureDoor_24 : decode cX11_sureDoor 24 = .ok (.istore_n 2, 1) := by decide +kernel
theorem dX11_sureDoor_25 : decode cX11_sureDoor 25 = .ok (.iload_n 2, 1) := by decide +kernel
theorem dX11_sureDoor_26 : decode cX11_sureDoor 26 = .ok (.iconst (-1), 1) := by decide +kernel
theorem dX11_sureDoor_27 : decode cX11_sureDoor 27 = .ok (.if_icmp .ne 7, 3) := by decide +kernel
theorem dX11_sureDoor_30 : decode cX11_sureDoor 30 = .ok (.iconst (-1), 1) := by decide +kernel
theorem dX11_sureDoor_31 : decode cX11_sureDoor 31 = .ok (.goto 19, 3) := by decide +kernel
theorem dX11_sureDoor_0 : decode cX11_sureDoor 0 = .ok (.aload_n 0, 1) := by decide +kernel
theorem dX11_sureDoor_1 : decode cX11_sureDoor 1 = .ok (.iload_n 1, 1) := by decide +kernel
theorem dX11_sureDoor_2 : decode cX11_sureDoor 2 = .ok (.invokevirtual 405, 3) := by decide +kernel
theorem dX11_sureDoor_5 : decode cX11_sureDoor 5 = .ok (.ifCond .ne 5, 3) := by decide +kernel
theorem dX11_sureDoor_8 : decode cX11_sureDoor 8 = .ok (.iconst (-1), 1) := by decide +kernel
theorem dX11_sureDoor_9 : decode cX11_sureDoor 9 = .ok (.ireturn, 1) := by decide +kernel
theorem dX11_seekOldAt_148 : decode cX11_seekOldAt 148 = .ok (.return_, 1) := by decide +kernel
theorem dX11_seekOldAt_142 : decode cX11_seekOldAt 142 = .ok (.iinc 4 1, 3) := by decide +kernel
theorem dX11_seekOldAt_145 : decode cX11_seekOldAt 145 = .ok (.goto (-142), 3) := by decide +kernel
theorem dX11_seekOldAt_3 : decode cX11_seekOldAt 3 = .ok (.iload 4, 2) := by decide +kernel
theorem dX11_seekOldAt_5 : decode cX11_seekOldAt 5 = .ok (.aload_n 0, 1) := by decide +kernel
theorem dX11_seekOldAt_6 : decode cX11_seekOldAt 6 = .ok (.getfield 22, 3) := by decide +kernel
theorem dX11_seekOldAt_9 : decode cX11_seekOldAt 9 = .ok (.getfield 185, 3) := by decide +kernel
theorem dX11_seekOldAt_12 : decode cX11_seekOldAt 12 = .ok (.getfield 189, 3) := by decide +kernel
theorem dX11_seekOldAt_15 : decode cX11_seekOldAt 15 = .ok (.if_icmp .ge 133, 3) := by decide +kernel
theorem dX11_seekOldAt_18 : decode cX11_seekOldAt 18 = .ok (.aload_n 0, 1) := by decide +kernel
theorem dX11_seekOldAt_19 : decode cX11_seekOldAt 19 = .ok (.iload 4, 2) := by decide +kernel
theorem dX11_seekOldAt_21 : decode cX11_seekOldAt 21 = .ok (.iload_n 1, 1) := by decide +kernel
theorem dX11_seekOldAt_22 : decode cX11_seekOldAt 22 = .ok (.invokevirtual 587, 3) := by decide +kernel
theorem dX11_seekOldAt_25 : decode cX11_seekOldAt 25 = .ok (.ifCond .eq 117, 3) := by decide +kernel
theorem dX11_seekOldAt_28 : decode cX11_seekOldAt 28 = .ok (.aload_n 0, 1) := by decide +kernel
theorem dX11_seekOldAt_29 : decode cX11_seekOldAt 29 = .ok (.getfield 22, 3) := by decide +kernel
theorem dX11_seekOldAt_32 : decode cX11_seekOldAt 32 = .ok (.getfield 73, 3) := by decide +kernel
theorem dX11_seekOldAt_35 : decode cX11_seekOldAt 35 = .ok (.aload_n 0, 1) := by decide +kernel
theorem dX11_seekOldAt_36 : decode cX11_seekOldAt 36 = .ok (.getfield 22, 3) := by decide +kernel
theorem dX11_seekOldAt_39 : decode cX11_seekOldAt 39 = .ok (.getfield 185, 3) := by decide +kernel
theorem dX11_seekOldAt_42 : decode cX11_seekOldAt 42 = .ok (.getfield 622, 3) := by decide +kernel
theorem dX11_seekOldAt_45 : decode cX11_seekOldAt 45 = .ok (.iload 4, 2) := by decide +kernel
theorem dX11_seekOldAt_47 : decode cX11_seekOldAt 47 = .ok (.iaload, 1) := by decide +kernel
theorem dX11_seekOldAt_48 : decode cX11_seekOldAt 48 = .ok (.invokevirtual 611, 3) := by decide +kernel
theorem dX11_seekOldAt_51 : decode cX11_seekOldAt 51 = .ok (.ifCond .eq 91, 3) := by decide +kernel
theorem dX11_seekOldAt_54 : decode cX11_seekOldAt 54 = .ok (.iload_n 2, 1) := by decide +kernel
theorem dX11_seekOldAt_55 : decode cX11_seekOldAt 55 = .ok (.aload_n 0, 1) := by decide +kernel
theorem dX11_seekOldAt_56 : decode cX11_seekOldAt 56 = .ok (.getfield 22, 3) := by decide +kernel
theorem dX11_seekOldAt_59 : decode cX11_seekOldAt 59 = .ok (.getfield 73, 3) := by decide +kernel
theorem dX11_seekOldAt_62 : decode cX11_seekOldAt 62 = .ok (.aload_n 0, 1) := by decide +kernel
theorem dX11_seekOldAt_63 : decode cX11_seekOldAt 63 = .ok (.getfield 22, 3) := by decide +kernel
theorem dX11_seekOldAt_66 : decode cX11_seekOldAt 66 = .ok (.getfield 185, 3) := by decide +kernel
theorem dX11_seekOldAt_69 : decode cX11_seekOldAt 69 = .ok (.getfield 622, 3) := by decide +kernel
theorem dX11_seekOldAt_72 : decode cX11_seekOldAt 72 = .ok (.iload 4, 2) := by decide +kernel
theorem dX11_seekOldAt_74 : decode cX11_seekOldAt 74 = .ok (.iaload, 1) := by decide +kernel
theorem dX11_seekOldAt_75 : decode cX11_seekOldAt 75 = .ok (.invokevirtual 362, 3) := by decide +kernel
theorem dX11_seekOldAt_78 : decode cX11_seekOldAt 78 = .ok (.invokestatic 220, 3) := by decide +kernel
theorem dX11_seekOldAt_81 : decode cX11_seekOldAt 81 = .ok (.istore 5, 2) := by decide +kernel
theorem dX11_seekOldAt_83 : decode cX11_seekOldAt 83 = .ok (.iload_n 3, 1) := by decide +kernel
theorem dX11_seekOldAt_84 : decode cX11_seekOldAt 84 = .ok (.aload_n 0, 1) := by decide +kernel
theorem dX11_seekOldAt_85 : decode cX11_seekOldAt 85 = .ok (.getfield 22, 3) := by decide +kernel
theorem dX11_seekOldAt_88 : decode cX11_seekOldAt 88 = .ok (.getfield 73, 3) := by decide +kernel
theorem dX11_seekOldAt_91 : decode cX11_seekOldAt 91 = .ok (.aload_n 0, 1) := by decide +kernel
theorem dX11_seekOldAt_92 : decode cX11_seekOldAt 92 = .ok (.getfield 22, 3) := by decide +kernel
theorem dX11_seekOldAt_95 : decode cX11_seekOldAt 95 = .ok (.getfield 185, 3) := by decide +kernel
theorem dX11_seekOldAt_98 : decode cX11_seekOldAt 98 = .ok (.getfield 623, 3) := by decide +kernel
theorem dX11_seekOldAt_101 : decode cX11_seekOldAt 101 = .ok (.iload 4, 2) := by decide +kernel
theorem dX11_seekOldAt_103 : decode cX11_seekOldAt 103 = .ok (.iaload, 1) := by decide +kernel
theorem dX11_seekOldAt_104 : decode cX11_seekOldAt 104 = .ok (.invokevirtual 366, 3) := by decide +kernel
theorem dX11_seekOldAt_107 : decode cX11_seekOldAt 107 = .ok (.invokestatic 315, 3) := by decide +kernel
theorem dX11_seekOldAt_110 : decode cX11_seekOldAt 110 = .ok (.iconst 1, 1) := by decide +kernel
theorem dX11_seekOldAt_111 : decode cX11_seekOldAt 111 = .ok (.isub, 1) := by decide +kernel
theorem dX11_seekOldAt_112 : decode cX11_seekOldAt 112 = .ok (.istore 6, 2) := by decide +kernel
theorem dX11_seekOldAt_114 : decode cX11_seekOldAt 114 = .ok (.iload 6, 2) := by decide +kernel
theorem dX11_seekOldAt_116 : decode cX11_seekOldAt 116 = .ok (.iload 5, 2) := by decide +kernel
theorem dX11_seekOldAt_118 : decode cX11_seekOldAt 118 = .ok (.if_icmp .lt 24, 3) := by decide +kernel
theorem dX11_seekOldAt_121 : decode cX11_seekOldAt 121 = .ok (.iload 6, 2) := by decide +kernel
theorem dX11_seekOldAt_123 : decode cX11_seekOldAt 123 = .ok (.aload_n 0, 1) := by decide +kernel
theorem dX11_seekOldAt_124 : decode cX11_seekOldAt 124 = .ok (.getfield 51, 3) := by decide +kernel
theorem dX11_seekOldAt_127 : decode cX11_seekOldAt 127 = .ok (.if_icmp .le 15, 3) := by decide +kernel
theorem dX11_seekOldAt_130 : decode cX11_seekOldAt 130 = .ok (.aload_n 0, 1) := by decide +kernel
theorem dX11_seekOldAt_131 : decode cX11_seekOldAt 131 = .ok (.iload 6, 2) := by decide +kernel
theorem dX11_seekOldAt_133 : decode cX11_seekOldAt 133 = .ok (.putfield 51, 3) := by decide +kernel
theorem dX11_seekOldAt_136 : decode cX11_seekOldAt 136 = .ok (.aload_n 0, 1) := by decide +kernel
theorem dX11_seekOldAt_137 : decode cX11_seekOldAt 137 = .ok (.iload 4, 2) := by decide +kernel
theorem dX11_seekOldAt_139 : decode cX11_seekOldAt 139 = .ok (.putfield 55, 3) := by decide +kernel
theorem dX11_seekOldAt_0 : decode cX11_seekOldAt 0 = .ok (.iconst 0, 1) := by decide +kernel
theorem dX11_seekOldAt_1 : decode cX11_seekOldAt 1 = .ok (.istore 4, 2) := by decide +kernel

theorem dX11_walkView_63 : decode cX11_walkView 63 = .ok (.return_, 1) := by decide +kernel
theorem dX11_walkView_57 : decode cX11_walkView 57 = .ok (.iinc 2 1, 3) := by decide +kernel
theorem dX11_walkView_60 : decode cX11_walkView 60 = .ok (.goto (-58), 3) := by decide +kernel
theorem dX11_walkView_2 : decode cX11_walkView 2 = .ok (.iload_n 2, 1) := by decide +kernel
theorem dX11_walkView_3 : decode cX11_walkView 3 = .ok (.aload_n 0, 1) := by decide +kernel
theorem dX11_walkView_4 : decode cX11_walkView 4 = .ok (.getfield 40, 3) := by decide +kernel
theorem dX11_walkView_7 : decode cX11_walkView 7 = .ok (.getfield 455, 3) := by decide +kernel
theorem dX11_walkView_10 : decode cX11_walkView 10 = .ok (.if_icmp .ge 53, 3) := by decide +kernel
theorem dX11_walkView_13 : decode cX11_walkView 13 = .ok (.aload_n 0, 1) := by decide +kernel
theorem dX11_walkView_14 : decode cX11_walkView 14 = .ok (.getfield 40, 3) := by decide +kernel
theorem dX11_walkView_17 : decode cX11_walkView 17 = .ok (.getfield 416, 3) := by decide +kernel
theorem dX11_walkView_20 : decode cX11_walkView 20 = .ok (.iload_n 2, 1) := by decide +kernel
theorem dX11_walkView_21 : decode cX11_walkView 21 = .ok (.iaload, 1) := by decide +kernel
theorem dX11_walkView_22 : decode cX11_walkView 22 = .ok (.iconst 2, 1) := by decide +kernel
theorem dX11_walkView_23 : decode cX11_walkView 23 = .ok (.idiv, 1) := by decide +kernel
theorem dX11_walkView_24 : decode cX11_walkView 24 = .ok (.istore_n 3, 1) := by decide +kernel
theorem dX11_walkView_25 : decode cX11_walkView 25 = .ok (.aload_n 0, 1) := by decide +kernel
theorem dX11_walkView_26 : decode cX11_walkView 26 = .ok (.getfield 22, 3) := by decide +kernel
theorem dX11_walkView_29 : decode cX11_walkView 29 = .ok (.getfield 396, 3) := by decide +kernel
theorem dX11_walkView_32 : decode cX11_walkView 32 = .ok (.iload_n 3, 1) := by decide +kernel
theorem dX11_walkView_33 : decode cX11_walkView 33 = .ok (.invokevirtual 636, 3) := by decide +kernel
theorem dX11_walkView_36 : decode cX11_walkView 36 = .ok (.iconst (-1), 1) := by decide +kernel
theorem dX11_walkView_37 : decode cX11_walkView 37 = .ok (.if_icmp .ne 20, 3) := by decide +kernel
theorem dX11_walkView_40 : decode cX11_walkView 40 = .ok (.aload_n 0, 1) := by decide +kernel
theorem dX11_walkView_41 : decode cX11_walkView 41 = .ok (.getfield 22, 3) := by decide +kernel
theorem dX11_walkView_44 : decode cX11_walkView 44 = .ok (.getfield 396, 3) := by decide +kernel
theorem dX11_walkView_47 : decode cX11_walkView 47 = .ok (.iload_n 3, 1) := by decide +kernel
theorem dX11_walkView_48 : decode cX11_walkView 48 = .ok (.invokevirtual 639, 3) := by decide +kernel
theorem dX11_walkView_51 : decode cX11_walkView 51 = .ok (.aload_n 0, 1) := by decide +kernel
theorem dX11_walkView_52 : decode cX11_walkView 52 = .ok (.iload_n 3, 1) := by decide +kernel
theorem dX11_walkView_53 : decode cX11_walkView 53 = .ok (.iload_n 1, 1) := by decide +kernel
theorem dX11_walkView_54 : decode cX11_walkView 54 = .ok (.invokevirtual 642, 3) := by decide +kernel
theorem dX11_walkView_0 : decode cX11_walkView 0 = .ok (.iconst 0, 1) := by decide +kernel
theorem dX11_walkView_1 : decode cX11_walkView 1 = .ok (.istore_n 2, 1) := by decide +kernel
theorem dX11_walk_109 : decode cX11_walk 109 = .ok (.aload_n 0, 1) := by decide +kernel
theorem dX11_walk_110 : decode cX11_walk 110 = .ok (.getfield 22, 3) := by decide +kernel
theorem dX11_walk_113 : decode cX11_walk 113 = .ok (.getfield 396, 3) := by decide +kernel
theorem dX11_walk_116 : decode cX11_walk 116 = .ok (.getfield 466, 3) := by decide +kernel
theorem dX11_walk_119 : decode cX11_walk 119 = .ok (.ireturn, 1) := by decide +kernel
theorem dX11_walk_103 : decode cX11_walk 103 = .ok (.iinc 2 1, 3) := by decide +kernel
theorem dX11_walk_106 : decode cX11_walk 106 = .ok (.goto (-83), 3) := by decide +kernel
theorem dX11_walk_23 : decode cX11_walk 23 = .ok (.iload_n 2, 1) := by decide +kernel
theorem dX11_walk_24 : decode cX11_walk 24 = .ok (.aload_n 0, 1) := by decide +kernel
theorem dX11_walk_25 : decode cX11_walk 25 = .ok (.getfield 22, 3) := by decide +kernel
theorem dX11_walk_28 : decode cX11_walk 28 = .ok (.getfield 396, 3) := by decide +kernel
theorem dX11_walk_31 : decode cX11_walk 31 = .ok (.getfield 460, 3) := by decide +kernel
theorem dX11_walk_34 : decode cX11_walk 34 = .ok (.if_icmp .ge 75, 3) := by decide +kernel
theorem dX11_walk_37 : decode cX11_walk 37 = .ok (.aload_n 0, 1) := by decide +kernel
theorem dX11_walk_38 : decode cX11_walk 38 = .ok (.getfield 22, 3) := by decide +kernel
theorem dX11_walk_41 : decode cX11_walk 41 = .ok (.getfield 89, 3) := by decide +kernel
theorem dX11_walk_44 : decode cX11_walk 44 = .ok (.aload_n 0, 1) := by decide +kernel
theorem dX11_walk_45 : decode cX11_walk 45 = .ok (.getfield 22, 3) := by decide +kernel
theorem dX11_walk_48 : decode cX11_walk 48 = .ok (.getfield 396, 3) := by decide +kernel
theorem dX11_walk_51 : decode cX11_walk 51 = .ok (.getfield 469, 3) := by decide +kernel
theorem dX11_walk_54 : decode cX11_walk 54 = .ok (.iload_n 2, 1) := by decide +kernel
theorem dX11_walk_55 : decode cX11_walk 55 = .ok (.iaload, 1) := by decide +kernel
theorem dX11_walk_56 : decode cX11_walk 56 = .ok (.invokevirtual 167, 3) := by decide +kernel
theorem dX11_walk_59 : decode cX11_walk 59 = .ok (.ifCond .eq 44, 3) := by decide +kernel
theorem dX11_walk_62 : decode cX11_walk 62 = .ok (.aload_n 0, 1) := by decide +kernel
theorem dX11_walk_63 : decode cX11_walk 63 = .ok (.getfield 40, 3) := by decide +kernel
theorem dX11_walk_66 : decode cX11_walk 66 = .ok (.aload_n 0, 1) := by decide +kernel
theorem dX11_walk_67 : decode cX11_walk 67 = .ok (.getfield 22, 3) := by decide +kernel
theorem dX11_walk_70 : decode cX11_walk 70 = .ok (.aload_n 0, 1) := by decide +kernel
theorem dX11_walk_71 : decode cX11_walk 71 = .ok (.getfield 22, 3) := by decide +kernel
theorem dX11_walk_74 : decode cX11_walk 74 = .ok (.getfield 396, 3) := by decide +kernel
theorem dX11_walk_77 : decode cX11_walk 77 = .ok (.getfield 469, 3) := by decide +kernel
theorem dX11_walk_80 : decode cX11_walk 80 = .ok (.iload_n 2, 1) := by decide +kernel
theorem dX11_walk_81 : decode cX11_walk 81 = .ok (.iaload, 1) := by decide +kernel
theorem dX11_walk_82 : decode cX11_walk 82 = .ok (.iload_n 1, 1) := by decide +kernel
theorem dX11_walk_83 : decode cX11_walk 83 = .ok (.aload_n 0, 1) := by decide +kernel
theorem dX11_walk_84 : decode cX11_walk 84 = .ok (.getfield 22, 3) := by decide +kernel
theorem dX11_walk_87 : decode cX11_walk 87 = .ok (.getfield 396, 3) := by decide +kernel
theorem dX11_walk_90 : decode cX11_walk 90 = .ok (.getfield 472, 3) := by decide +kernel
theorem dX11_walk_93 : decode cX11_walk 93 = .ok (.iload_n 2, 1) := by decide +kernel
theorem dX11_walk_94 : decode cX11_walk 94 = .ok (.iaload, 1) := by decide +kernel
theorem dX11_walk_95 : decode cX11_walk 95 = .ok (.invokevirtual 256, 3) := by decide +kernel
theorem dX11_walk_98 : decode cX11_walk 98 = .ok (.aload_n 0, 1) := by decide +kernel
theorem dX11_walk_99 : decode cX11_walk 99 = .ok (.iload_n 1, 1) := by decide +kernel
theorem dX11_walk_100 : decode cX11_walk 100 = .ok (.invokevirtual 475, 3) := by decide +kernel
theorem dX11_walk_10 : decode cX11_walk 10 = .ok (.aload_n 0, 1) := by decide +kernel
theorem dX11_walk_11 : decode cX11_walk 11 = .ok (.getfield 22, 3) := by decide +kernel
theorem dX11_walk_14 : decode cX11_walk 14 = .ok (.getfield 396, 3) := by decide +kernel
theorem dX11_walk_17 : decode cX11_walk 17 = .ok (.iconst 0, 1) := by decide +kernel
theorem dX11_walk_18 : decode cX11_walk 18 = .ok (.putfield 466, 3) := by decide +kernel
theorem dX11_walk_21 : decode cX11_walk 21 = .ok (.iconst 0, 1) := by decide +kernel
theorem dX11_walk_22 : decode cX11_walk 22 = .ok (.istore_n 2, 1) := by decide +kernel
theorem dX11_walk_0 : decode cX11_walk 0 = .ok (.iload_n 1, 1) := by decide +kernel
theorem dX11_walk_1 : decode cX11_walk 1 = .ok (.invokestatic 69, 3) := by decide +kernel
theorem dX11_walk_4 : decode cX11_walk 4 = .ok (.ifCond .ne 6, 3) := by decide +kernel
theorem dX11_walk_7 : decode cX11_walk 7 = .ok (.bipush (-2), 2) := by decide +kernel
theorem dX11_walk_9 : decode cX11_walk 9 = .ok (.ireturn, 1) := by decide +kernel
theorem dX11_walked_34 : decode cX11_walked 34 = .ok (.ireturn, 1) := by decide +kernel
theorem dX11_walked_33 : decode cX11_walked 33 = .ok (.iconst (-1), 1) := by decide +kernel
theorem dX11_walked_0 : decode cX11_walked 0 = .ok (.iload_n 1, 1) := by decide +kernel
theorem dX11_walked_1 : decode cX11_walked 1 = .ok (.ifCond .lt 32, 3) := by decide +kernel
theorem dX11_walked_4 : decode cX11_walked 4 = .ok (.iload_n 1, 1) := by decide +kernel
theorem dX11_walked_5 : decode cX11_walked 5 = .ok (.aload_n 0, 1) := by decide +kernel
theorem dX11_walked_6 : decode cX11_walked 6 = .ok (.getfield 22, 3) := by decide +kernel
theorem dX11_walked_9 : decode cX11_walked 9 = .ok (.getfield 396, 3) := by decide +kernel
theorem dX11_walked_12 : decode cX11_walked 12 = .ok (.getfield 466, 3) := by decide +kernel
theorem dX11_walked_15 : decode cX11_walked 15 = .ok (.if_icmp .ge 18, 3) := by decide +kernel
theorem dX11_walked_18 : decode cX11_walked 18 = .ok (.aload_n 0, 1) := by decide +kernel
theorem dX11_walked_19 : decode cX11_walked 19 = .ok (.getfield 22, 3) := by decide +kernel
theorem dX11_walked_22 : decode cX11_walked 22 = .ok (.getfield 396, 3) := by decide +kernel
theorem dX11_walked_25 : decode cX11_walked 25 = .ok (.getfield 478, 3) := by decide +kernel
theorem dX11_walked_28 : decode cX11_walked 28 = .ok (.iload_n 1, 1) := by decide +kernel
theorem dX11_walked_29 : decode cX11_walked 29 = .ok (.iaload, 1) := by decide +kernel
theorem dX11_walked_30 : decode cX11_walked 30 = .ok (.goto 4, 3) := by decide +kernel
theorem dX1_addLetter_29 : decode cX1_addLetter 29 = .ok (.aload_n 0, 1) := by decide +kernel
theorem dX1_addLetter_30 : decode cX1_addLetter 30 = .ok (.getfield 67, 3) := by decide +kernel
theorem dX1_addLetter_33 : decode cX1_addLetter 33 = .ok (.ireturn, 1) := by decide +kernel
theorem dX1_addLetter_0 : decode cX1_addLetter 0 = .ok (.aload_n 0, 1) := by decide +kernel
theorem dX1_addLetter_1 : decode cX1_addLetter 1 = .ok (.getfield 67, 3) := by decide +kernel
theorem dX1_addLetter_4 : decode cX1_addLetter 4 = .ok (.bipush 60, 2) := by decide +kernel
theorem dX1_addLetter_6 : decode cX1_addLetter 6 = .ok (.if_icmp .ge 23, 3) := by decide +kernel
theorem dX1_addLetter_9 : decode cX1_addLetter 9 = .ok (.aload_n 0, 1) := by decide +kernel
theorem dX1_addLetter_10 : decode cX1_addLetter 10 = .ok (.getfield 46, 3) := by decide +kernel
theorem dX1_addLetter_13 : decode cX1_addLetter 13 = .ok (.aload_n 0, 1) := by decide +kernel
theorem dX1_addLetter_14 : decode cX1_addLetter 14 = .ok (.getfield 67, 3) := by decide +kernel
theorem dX1_addLetter_17 : decode cX1_addLetter 17 = .ok (.iload_n 1, 1) := by decide +kernel
theorem dX1_addLetter_18 : decode cX1_addLetter 18 = .ok (.iastore, 1) := by decide +kernel
theorem dX1_addLetter_19 : decode cX1_addLetter 19 = .ok (.aload_n 0, 1) := by decide +kernel
theorem dX1_addLetter_20 : decode cX1_addLetter 20 = .ok (.dup, 1) := by decide +kernel
theorem dX1_addLetter_21 : decode cX1_addLetter 21 = .ok (.getfield 67, 3) := by decide +kernel
theorem dX1_addLetter_24 : decode cX1_addLetter 24 = .ok (.iconst 1, 1) := by decide +kernel
theorem dX1_addLetter_25 : decode cX1_addLetter 25 = .ok (.iadd, 1) := by decide +kernel
theorem dX1_addLetter_26 : decode cX1_addLetter 26 = .ok (.putfield 67, 3) := by decide +kernel
theorem dX11_letter_48 : decode cX11_letter 48 = .ok (.aload_n 0, 1) := by decide +kernel
theorem dX11_letter_49 : decode cX11_letter 49 = .ok (.getfield 22, 3) := by decide +kernel
theorem dX11_letter_52 : decode cX11_letter 52 = .ok (.getfield 396, 3) := by decide +kernel
theorem dX11_letter_55 : decode cX11_letter 55 = .ok (.iload_n 2, 1) := by decide +kernel
theorem dX11_letter_56 : decode cX11_letter 56 = .ok (.invokevirtual 484, 3) := by decide +kernel
theorem dX11_letter_59 : decode cX11_letter 59 = .ok (.ireturn, 1) := by decide +kernel
theorem dX11_letter_30 : decode cX11_letter 30 = .ok (.aload_n 0, 1) := by decide +kernel
theorem dX11_letter_31 : decode cX11_letter 31 = .ok (.getfield 22, 3) := by decide +kernel
theorem dX11_letter_34 : decode cX11_letter 34 = .ok (.getfield 396, 3) := by decide +kernel
theorem dX11_letter_37 : decode cX11_letter 37 = .ok (.getfield 481, 3) := by decide +kernel
theorem dX11_letter_40 : decode cX11_letter 40 = .ok (.bipush 60, 2) := by decide +kernel
theorem dX11_letter_42 : decode cX11_letter 42 = .ok (.if_icmp .lt 6, 3) := by decide +kernel
theorem dX11_letter_45 : decode cX11_letter 45 = .ok (.bipush (-6), 2) := by decide +kernel
theorem dX11_letter_47 : decode cX11_letter 47 = .ok (.ireturn, 1) := by decide +kernel
theorem dX11_letter_17 : decode cX11_letter 17 = .ok (.aload_n 0, 1) := by decide +kernel
theorem dX11_letter_18 : decode cX11_letter 18 = .ok (.iload_n 1, 1) := by decide +kernel
theorem dX11_letter_19 : decode cX11_letter 19 = .ok (.invokevirtual 431, 3) := by decide +kernel
theorem dX11_letter_22 : decode cX11_letter 22 = .ok (.istore_n 2, 1) := by decide +kernel
theorem dX11_letter_23 : decode cX11_letter 23 = .ok (.iload_n 2, 1) := by decide +kernel
theorem dX11_letter_24 : decode cX11_letter 24 = .ok (.iconst (-1), 1) := by decide +kernel
theorem dX11_letter_25 : decode cX11_letter 25 = .ok (.if_icmp .ne 5, 3) := by decide +kernel
theorem dX11_letter_28 : decode cX11_letter 28 = .ok (.iconst (-1), 1) := by decide +kernel
theorem dX11_letter_29 : decode cX11_letter 29 = .ok (.ireturn, 1) := by decide +kernel
theorem dX11_letter_14 : decode cX11_letter 14 = .ok (.bipush (-2), 2) := by decide +kernel
theorem dX11_letter_16 : decode cX11_letter 16 = .ok (.ireturn, 1) := by decide +kernel
theorem dX11_letter_0 : decode cX11_letter 0 = .ok (.aload_n 0, 1) := by decide +kernel
theorem dX11_letter_1 : decode cX11_letter 1 = .ok (.invokevirtual 393, 3) := by decide +kernel
theorem dX11_letter_4 : decode cX11_letter 4 = .ok (.ifCond .eq 10, 3) := by decide +kernel
theorem dX11_letter_7 : decode cX11_letter 7 = .ok (.iload_n 1, 1) := by decide +kernel
theorem dX11_letter_8 : decode cX11_letter 8 = .ok (.invokestatic 69, 3) := by decide +kernel
theorem dX11_letter_11 : decode cX11_letter 11 = .ok (.ifCond .ne 6, 3) := by decide +kernel
theorem dX1_addSorted_44 : decode cX1_addSorted 44 = .ok (.return_, 1) := by decide +kernel
theorem dX1_addSorted_0 : decode cX1_addSorted 0 = .ok (.aload_n 0, 1) := by decide +kernel
theorem dX1_addSorted_1 : decode cX1_addSorted 1 = .ok (.getfield 70, 3) := by decide +kernel
theorem dX1_addSorted_4 : decode cX1_addSorted 4 = .ok (.bipush 60, 2) := by decide +kernel
theorem dX1_addSorted_6 : decode cX1_addSorted 6 = .ok (.if_icmp .ge 38, 3) := by decide +kernel
theorem dX1_addSorted_9 : decode cX1_addSorted 9 = .ok (.aload_n 0, 1) := by decide +kernel
theorem dX1_addSorted_10 : decode cX1_addSorted 10 = .ok (.getfield 49, 3) := by decide +kernel
theorem dX1_addSorted_13 : decode cX1_addSorted 13 = .ok (.aload_n 0, 1) := by decide +kernel
theorem dX1_addSorted_14 : decode cX1_addSorted 14 = .ok (.getfield 70, 3) := by decide +kernel
theorem dX1_addSorted_17 : decode cX1_addSorted 17 = .ok (.iload_n 1, 1) := by decide +kernel
theorem dX1_addSorted_18 : decode cX1_addSorted 18 = .ok (.iastore, 1) := by decide +kernel
theorem dX1_addSorted_19 : decode cX1_addSorted 19 = .ok (.aload_n 0, 1) := by decide +kernel
theorem dX1_addSorted_20 : decode cX1_addSorted 20 = .ok (.getfield 52, 3) := by decide +kernel
theorem dX1_addSorted_23 : decode cX1_addSorted 23 = .ok (.aload_n 0, 1) := by decide +kernel
theorem dX1_addSorted_24 : decode cX1_addSorted 24 = .ok (.getfield 70, 3) := by decide +kernel
theorem dX1_addSorted_27 : decode cX1_addSorted 27 = .ok (.aload_n 0, 1) := by decide +kernel
theorem dX1_addSorted_28 : decode cX1_addSorted 28 = .ok (.getfield 46, 3) := by decide +kernel
theorem dX1_addSorted_31 : decode cX1_addSorted 31 = .ok (.iload_n 1, 1) := by decide +kernel
theorem dX1_addSorted_32 : decode cX1_addSorted 32 = .ok (.iaload, 1) := by decide +kernel
theorem dX1_addSorted_33 : decode cX1_addSorted 33 = .ok (.iastore, 1) := by decide +kernel
theorem dX1_addSorted_34 : decode cX1_addSorted 34 = .ok (.aload_n 0, 1) := by decide +kernel
theorem dX1_addSorted_35 : decode cX1_addSorted 35 = .ok (.dup, 1) := by decide +kernel
theorem dX1_addSorted_36 : decode cX1_addSorted 36 = .ok (.getfield 70, 3) := by decide +kernel
theorem dX1_addSorted_39 : decode cX1_addSorted 39 = .ok (.iconst 1, 1) := by decide +kernel
theorem dX1_addSorted_40 : decode cX1_addSorted 40 = .ok (.iadd, 1) := by decide +kernel
theorem dX1_addSorted_41 : decode cX1_addSorted 41 = .ok (.putfield 70, 3) := by decide +kernel
theorem dX1_sortLettersOf_31 : decode cX1_sortLettersOf 31 = .ok (.return_, 1) := by decide +kernel
theorem dX1_sortLettersOf_25 : decode cX1_sortLettersOf 25 = .ok (.iinc 2 1, 3) := by decide +kernel
theorem dX1_sortLettersOf_28 : decode cX1_sortLettersOf 28 = .ok (.goto (-26), 3) := by decide +kernel
theorem dX1_sortLettersOf_2 : decode cX1_sortLettersOf 2 = .ok (.iload_n 2, 1) := by decide +kernel
theorem dX1_sortLettersOf_3 : decode cX1_sortLettersOf 3 = .ok (.aload_n 0, 1) := by decide +kernel
theorem dX1_sortLettersOf_4 : decode cX1_sortLettersOf 4 = .ok (.getfield 67, 3) := by decide +kernel
theorem dX1_sortLettersOf_7 : decode cX1_sortLettersOf 7 = .ok (.if_icmp .ge 24, 3) := by decide +kernel
theorem dX1_sortLettersOf_10 : decode cX1_sortLettersOf 10 = .ok (.aload_n 0, 1) := by decide +kernel
theorem dX1_sortLettersOf_11 : decode cX1_sortLettersOf 11 = .ok (.getfield 46, 3) := by decide +kernel
theorem dX1_sortLettersOf_14 : decode cX1_sortLettersOf 14 = .ok (.iload_n 2, 1) := by decide +kernel
theorem dX1_sortLettersOf_15 : decode cX1_sortLettersOf 15 = .ok (.iaload, 1) := by decide +kernel
theorem dX1_sortLettersOf_16 : decode cX1_sortLettersOf 16 = .ok (.iload_n 1, 1) := by decide +kernel
theorem dX1_sortLettersOf_17 : decode cX1_sortLettersOf 17 = .ok (.if_icmp .ne 8, 3) := by decide +kernel
theorem dX1_sortLettersOf_20 : decode cX1_sortLettersOf 20 = .ok (.aload_n 0, 1) := by decide +kernel
theorem dX1_sortLettersOf_21 : decode cX1_sortLettersOf 21 = .ok (.iload_n 2, 1) := by decide +kernel
theorem dX1_sortLettersOf_22 : decode cX1_sortLettersOf 22 = .ok (.invokevirtual 87, 3) := by decide +kernel
theorem dX1_sortLettersOf_0 : decode cX1_sortLettersOf 0 = .ok (.iconst 0, 1) := by decide +kernel
theorem dX1_sortLettersOf_1 : decode cX1_sortLettersOf 1 = .ok (.istore_n 2, 1) := by decide +kernel
theorem dX1_sortLetters_66 : decode cX1_sortLetters 66 = .ok (.aload_n 0, 1) := by decide +kernel
theorem dX1_sortLetters_67 : decode cX1_sortLetters 67 = .ok (.iconst 0, 1) := by decide +kernel
theorem dX1_sortLetters_68 : decode cX1_sortLetters 68 = .ok (.putfield 67, 3) := by decide +kernel
theorem dX1_sortLetters_71 : decode cX1_sortLetters 71 = .ok (.aload_n 0, 1) := by decide +kernel
theorem dX1_sortLetters_72 : decode cX1_sortLetters 72 = .ok (.getfield 70, 3) := by decide +kernel
theorem dX1_sortLetters_75 : decode cX1_sortLetters 75 = .ok (.ireturn, 1) := by decide +kernel
theorem dX1_sortLetters_60 : decode cX1_sortLetters 60 = .ok (.iinc 1 1, 3) := by decide +kernel
theorem dX1_sortLetters_63 : decode cX1_sortLetters 63 = .ok (.goto (-30), 3) := by decide +kernel
theorem dX1_sortLetters_33 : decode cX1_sortLetters 33 = .ok (.iload_n 1, 1) := by decide +kernel
theorem dX1_sortLetters_34 : decode cX1_sortLetters 34 = .ok (.aload_n 0, 1) := by decide +kernel
theorem dX1_sortLetters_35 : decode cX1_sortLetters 35 = .ok (.getfield 67, 3) := by decide +kernel
theorem dX1_sortLetters_38 : decode cX1_sortLetters 38 = .ok (.if_icmp .ge 28, 3) := by decide +kernel
theorem dX1_sortLetters_41 : decode cX1_sortLetters 41 = .ok (.aload_n 0, 1) := by decide +kernel
theorem dX1_sortLetters_42 : decode cX1_sortLetters 42 = .ok (.aload_n 0, 1) := by decide +kernel
theorem dX1_sortLetters_43 : decode cX1_sortLetters 43 = .ok (.getfield 46, 3) := by decide +kernel
theorem dX1_sortLetters_46 : decode cX1_sortLetters 46 = .ok (.iload_n 1, 1) := by decide +kernel
theorem dX1_sortLetters_47 : decode cX1_sortLetters 47 = .ok (.iaload, 1) := by decide +kernel
theorem dX1_sortLetters_48 : decode cX1_sortLetters 48 = .ok (.invokevirtual 83, 3) := by decide +kernel
theorem dX1_sortLetters_51 : decode cX1_sortLetters 51 = .ok (.iconst (-1), 1) := by decide +kernel
theorem dX1_sortLetters_52 : decode cX1_sortLetters 52 = .ok (.if_icmp .ne 8, 3) := by decide +kernel
theorem dX1_sortLetters_55 : decode cX1_sortLetters 55 = .ok (.aload_n 0, 1) := by decide +kernel
theorem dX1_sortLetters_56 : decode cX1_sortLetters 56 = .ok (.iload_n 1, 1) := by decide +kernel
theorem dX1_sortLetters_57 : decode cX1_sortLetters 57 = .ok (.invokevirtual 87, 3) := by decide +kernel
theorem dX1_sortLetters_31 : decode cX1_sortLetters 31 = .ok (.iconst 0, 1) := by decide +kernel
theorem dX1_sortLetters_32 : decode cX1_sortLetters 32 = .ok (.istore_n 1, 1) := by decide +kernel
theorem dX1_sortLetters_7 : decode cX1_sortLetters 7 = .ok (.iload_n 1, 1) := by decide +kernel
theorem dX1_sortLetters_8 : decode cX1_sortLetters 8 = .ok (.aload_n 0, 1) := by decide +kernel
theorem dX1_sortLetters_9 : decode cX1_sortLetters 9 = .ok (.getfield 64, 3) := by decide +kernel
theorem dX1_sortLetters_12 : decode cX1_sortLetters 12 = .ok (.if_icmp .ge 19, 3) := by decide +kernel
theorem dX1_sortLetters_15 : decode cX1_sortLetters 15 = .ok (.aload_n 0, 1) := by decide +kernel
theorem dX1_sortLetters_16 : decode cX1_sortLetters 16 = .ok (.aload_n 0, 1) := by decide +kernel
theorem dX1_sortLetters_17 : decode cX1_sortLetters 17 = .ok (.getfield 43, 3) := by decide +kernel
theorem dX1_sortLetters_20 : decode cX1_sortLetters 20 = .ok (.iload_n 1, 1) := by decide +kernel
theorem dX1_sortLetters_21 : decode cX1_sortLetters 21 = .ok (.iaload, 1) := by decide +kernel
theorem dX1_sortLetters_22 : decode cX1_sortLetters 22 = .ok (.invokevirtual 79, 3) := by decide +kernel
theorem dX1_sortLetters_25 : decode cX1_sortLetters 25 = .ok (.iinc 1 1, 3) := by decide +kernel
theorem dX1_sortLetters_28 : decode cX1_sortLetters 28 = .ok (.goto (-21), 3) := by decide +kernel
theorem dX1_sortLetters_0 : decode cX1_sortLetters 0 = .ok (.aload_n 0, 1) := by decide +kernel
theorem dX1_sortLetters_1 : decode cX1_sortLetters 1 = .ok (.iconst 0, 1) := by decide +kernel
theorem dX1_sortLetters_2 : decode cX1_sortLetters 2 = .ok (.putfield 70, 3) := by decide +kernel
theorem dX1_sortLetters_5 : decode cX1_sortLetters 5 = .ok (.iconst 0, 1) := by decide +kernel
theorem dX1_sortLetters_6 : decode cX1_sortLetters 6 = .ok (.istore_n 1, 1) := by decide +kernel
theorem dX11_sort_0 : decode cX11_sort 0 = .ok (.aload_n 0, 1) := by decide +kernel
theorem dX11_sort_1 : decode cX11_sort 1 = .ok (.getfield 22, 3) := by decide +kernel
theorem dX11_sort_4 : decode cX11_sort 4 = .ok (.getfield 396, 3) := by decide +kernel
theorem dX11_sort_7 : decode cX11_sort 7 = .ok (.invokevirtual 487, 3) := by decide +kernel
theorem dX11_sort_10 : decode cX11_sort 10 = .ok (.ireturn, 1) := by decide +kernel
theorem dX11_sorted_58 : decode cX11_sorted 58 = .ok (.ireturn, 1) := by decide +kernel
theorem dX11_sorted_57 : decode cX11_sorted 57 = .ok (.iconst (-1), 1) := by decide +kernel
theorem dX11_sorted_37 : decode cX11_sorted 37 = .ok (.iload_n 2, 1) := by decide +kernel
theorem dX11_sorted_38 : decode cX11_sorted 38 = .ok (.iconst 1, 1) := by decide +kernel
theorem dX11_sorted_39 : decode cX11_sorted 39 = .ok (.if_icmp .ne 18, 3) := by decide +kernel
theorem dX11_sorted_42 : decode cX11_sorted 42 = .ok (.aload_n 0, 1) := by decide +kernel
theorem dX11_sorted_43 : decode cX11_sorted 43 = .ok (.getfield 22, 3) := by decide +kernel
theorem dX11_sorted_46 : decode cX11_sorted 46 = .ok (.getfield 396, 3) := by decide +kernel
theorem dX11_sorted_49 : decode cX11_sorted 49 = .ok (.getfield 496, 3) := by decide +kernel
theorem dX11_sorted_52 : decode cX11_sorted 52 = .ok (.iload_n 1, 1) := by decide +kernel
theorem dX11_sorted_53 : decode cX11_sorted 53 = .ok (.iaload, 1) := by decide +kernel
theorem dX11_sorted_54 : decode cX11_sorted 54 = .ok (.goto 4, 3) := by decide +kernel
theorem dX11_sorted_20 : decode cX11_sorted 20 = .ok (.iload_n 2, 1) := by decide +kernel
theorem dX11_sorted_21 : decode cX11_sorted 21 = .ok (.ifCond .ne 16, 3) := by decide +kernel
theorem dX11_sorted_24 : decode cX11_sorted 24 = .ok (.aload_n 0, 1) := by decide +kernel
theorem dX11_sorted_25 : decode cX11_sorted 25 = .ok (.getfield 22, 3) := by decide +kernel
theorem dX11_sorted_28 : decode cX11_sorted 28 = .ok (.getfield 396, 3) := by decide +kernel
theorem dX11_sorted_31 : decode cX11_sorted 31 = .ok (.getfield 493, 3) := by decide +kernel
theorem dX11_sorted_34 : decode cX11_sorted 34 = .ok (.iload_n 1, 1) := by decide +kernel
theorem dX11_sorted_35 : decode cX11_sorted 35 = .ok (.iaload, 1) := by decide +kernel
theorem dX11_sorted_36 : decode cX11_sorted 36 = .ok (.ireturn, 1) := by decide +kernel
theorem dX11_sorted_18 : decode cX11_sorted 18 = .ok (.iconst (-1), 1) := by decide +kernel
theorem dX11_sorted_19 : decode cX11_sorted 19 = .ok (.ireturn, 1) := by decide +kernel
theorem dX11_sorted_0 : decode cX11_sorted 0 = .ok (.iload_n 1, 1) := by decide +kernel
theorem dX11_sorted_1 : decode cX11_sorted 1 = .ok (.ifCond .lt 17, 3) := by decide +kernel
theorem dX11_sorted_4 : decode cX11_sorted 4 = .ok (.iload_n 1, 1) := by decide +kernel
theorem dX11_sorted_5 : decode cX11_sorted 5 = .ok (.aload_n 0, 1) := by decide +kernel
theorem dX11_sorted_6 : decode cX11_sorted 6 = .ok (.getfield 22, 3) := by decide +kernel
theorem dX11_sorted_9 : decode cX11_sorted 9 = .ok (.getfield 396, 3) := by decide +kernel
theorem dX11_sorted_12 : decode cX11_sorted 12 = .ok (.getfield 490, 3) := by decide +kernel
theorem dX11_sorted_15 : decode cX11_sorted 15 = .ok (.if_icmp .lt 5, 3) := by decide +kernel
theorem dJ7_fill_53178_20 : decode cJ7_fill_53178 20 = .ok (.return_, 1) := by decide +kernel
theorem dJ7_fill_53178_5 : decode cJ7_fill_53178 5 = .ok (.iload_n 2, 1) := by decide +kernel
theorem dJ7_fill_53178_6 : decode cJ7_fill_53178 6 = .ok (.iload_n 3, 1) := by decide +kernel
theorem dJ7_fill_53178_7 : decode cJ7_fill_53178 7 = .ok (.if_icmp .ge 13, 3) := by decide +kernel
theorem dJ7_fill_53178_10 : decode cJ7_fill_53178 10 = .ok (.aload_n 0, 1) := by decide +kernel
theorem dJ7_fill_53178_11 : decode cJ7_fill_53178 11 = .ok (.iload_n 2, 1) := by decide +kernel
theorem dJ7_fill_53178_12 : decode cJ7_fill_53178 12 = .ok (.iload_n 1, 1) := by decide +kernel
theorem dJ7_fill_53178_13 : decode cJ7_fill_53178 13 = .ok (.iastore, 1) := by decide +kernel
theorem dJ7_fill_53178_14 : decode cJ7_fill_53178 14 = .ok (.iinc 2 1, 3) := by decide +kernel
theorem dJ7_fill_53178_17 : decode cJ7_fill_53178 17 = .ok (.goto (-12), 3) := by decide +kernel
theorem dJ7_fill_53178_0 : decode cJ7_fill_53178 0 = .ok (.iconst 0, 1) := by decide +kernel
theorem dJ7_fill_53178_1 : decode cJ7_fill_53178 1 = .ok (.istore_n 2, 1) := by decide +kernel
theorem dJ7_fill_53178_2 : decode cJ7_fill_53178 2 = .ok (.aload_n 0, 1) := by decide +kernel
theorem dJ7_fill_53178_3 : decode cJ7_fill_53178 3 = .ok (.arraylength, 1) := by decide +kernel
theorem dJ7_fill_53178_4 : decode cJ7_fill_53178 4 = .ok (.istore_n 3, 1) := by decide +kernel
theorem dX5_setWholesOn_93 : decode cX5_setWholesOn 93 = .ok (.return_, 1) := by decide +kernel
theorem dX5_setWholesOn_87 : decode cX5_setWholesOn 87 = .ok (.iinc 3 1, 3) := by decide +kernel
theorem dX5_setWholesOn_90 : decode cX5_setWholesOn 90 = .ok (.goto (-83), 3) := by decide +kernel
theorem dX5_setWholesOn_7 : decode cX5_setWholesOn 7 = .ok (.iload_n 3, 1) := by decide +kernel
theorem dX5_setWholesOn_8 : decode cX5_setWholesOn 8 = .ok (.aload_n 0, 1) := by decide +kernel
theorem dX5_setWholesOn_9 : decode cX5_setWholesOn 9 = .ok (.getfield 21, 3) := by decide +kernel
theorem dX5_setWholesOn_12 : decode cX5_setWholesOn 12 = .ok (.getfield 86, 3) := by decide +kernel
theorem dX5_setWholesOn_15 : decode cX5_setWholesOn 15 = .ok (.if_icmp .ge 78, 3) := by decide +kernel
theorem dX5_setWholesOn_18 : decode cX5_setWholesOn 18 = .ok (.aload_n 0, 1) := by decide +kernel
theorem dX5_setWholesOn_19 : decode cX5_setWholesOn 19 = .ok (.getfield 21, 3) := by decide +kernel
theorem dX5_setWholesOn_22 : decode cX5_setWholesOn 22 = .ok (.getfield 131, 3) := by decide +kernel
theorem dX5_setWholesOn_25 : decode cX5_setWholesOn 25 = .ok (.iload_n 3, 1) := by decide +kernel
theorem dX5_setWholesOn_26 : decode cX5_setWholesOn 26 = .ok (.iaload, 1) := by decide +kernel
theorem dX5_setWholesOn_27 : decode cX5_setWholesOn 27 = .ok (.istore 4, 2) := by decide +kernel
theorem dX5_setWholesOn_29 : decode cX5_setWholesOn 29 = .ok (.aload_n 0, 1) := by decide +kernel
theorem dX5_setWholesOn_30 : decode cX5_setWholesOn 30 = .ok (.getfield 12, 3) := by decide +kernel
theorem dX5_setWholesOn_33 : decode cX5_setWholesOn 33 = .ok (.aload_n 0, 1) := by decide +kernel
theorem dX5_setWholesOn_34 : decode cX5_setWholesOn 34 = .ok (.getfield 21, 3) := by decide +kernel
theorem dX5_setWholesOn_37 : decode cX5_setWholesOn 37 = .ok (.getfield 140, 3) := by decide +kernel
theorem dX5_setWholesOn_40 : decode cX5_setWholesOn 40 = .ok (.iload_n 3, 1) := by decide +kernel
theorem dX5_setWholesOn_41 : decode cX5_setWholesOn 41 = .ok (.iaload, 1) := by decide +kernel
theorem dX5_setWholesOn_42 : decode cX5_setWholesOn 42 = .ok (.aload_n 0, 1) := by decide +kernel
theorem dX5_setWholesOn_43 : decode cX5_setWholesOn 43 = .ok (.getfield 21, 3) := by decide +kernel
theorem dX5_setWholesOn_46 : decode cX5_setWholesOn 46 = .ok (.getfield 125, 3) := by decide +kernel
theorem dX5_setWholesOn_49 : decode cX5_setWholesOn 49 = .ok (.iload_n 3, 1) := by decide +kernel
theorem dX5_setWholesOn_50 : decode cX5_setWholesOn 50 = .ok (.iaload, 1) := by decide +kernel
theorem dX5_setWholesOn_51 : decode cX5_setWholesOn 51 = .ok (.iload_n 1, 1) := by decide +kernel
theorem dX5_setWholesOn_52 : decode cX5_setWholesOn 52 = .ok (.invokevirtual 143, 3) := by decide +kernel
theorem dX5_setWholesOn_55 : decode cX5_setWholesOn 55 = .ok (.istore 5, 2) := by decide +kernel
theorem dX5_setWholesOn_57 : decode cX5_setWholesOn 57 = .ok (.iload 5, 2) := by decide +kernel
theorem dX5_setWholesOn_59 : decode cX5_setWholesOn 59 = .ok (.ifCond .eq 28, 3) := by decide +kernel
theorem dX5_setWholesOn_62 : decode cX5_setWholesOn 62 = .ok (.iload 4, 2) := by decide +kernel
theorem dX5_setWholesOn_64 : decode cX5_setWholesOn 64 = .ok (.ifCond .lt 23, 3) := by decide +kernel
theorem dX5_setWholesOn_67 : decode cX5_setWholesOn 67 = .ok (.iload 4, 2) := by decide +kernel
theorem dX5_setWholesOn_69 : decode cX5_setWholesOn 69 = .ok (.aload_n 2, 1) := by decide +kernel
theorem dX5_setWholesOn_70 : decode cX5_setWholesOn 70 = .ok (.arraylength, 1) := by decide +kernel
theorem dX5_setWholesOn_71 : decode cX5_setWholesOn 71 = .ok (.if_icmp .ge 16, 3) := by decide +kernel
theorem dX5_setWholesOn_74 : decode cX5_setWholesOn 74 = .ok (.aload_n 2, 1) := by decide +kernel
theorem dX5_setWholesOn_75 : decode cX5_setWholesOn 75 = .ok (.iload 4, 2) := by decide +kernel
theorem dX5_setWholesOn_77 : decode cX5_setWholesOn 77 = .ok (.aload_n 0, 1) := by decide +kernel
theorem dX5_setWholesOn_78 : decode cX5_setWholesOn 78 = .ok (.getfield 21, 3) := by decide +kernel
theorem dX5_setWholesOn_81 : decode cX5_setWholesOn 81 = .ok (.getfield 128, 3) := by decide +kernel
theorem dX5_setWholesOn_84 : decode cX5_setWholesOn 84 = .ok (.iload_n 3, 1) := by decide +kernel
theorem dX5_setWholesOn_85 : decode cX5_setWholesOn 85 = .ok (.iaload, 1) := by decide +kernel
theorem dX5_setWholesOn_86 : decode cX5_setWholesOn 86 = .ok (.iastore, 1) := by decide +kernel
theorem dX5_setWholesOn_0 : decode cX5_setWholesOn 0 = .ok (.aload_n 2, 1) := by decide +kernel
theorem dX5_setWholesOn_1 : decode cX5_setWholesOn 1 = .ok (.iconst (-1), 1) := by decide +kernel
theorem dX5_setWholesOn_2 : decode cX5_setWholesOn 2 = .ok (.invokestatic 134, 3) := by decide +kernel
theorem dX5_setWholesOn_5 : decode cX5_setWholesOn 5 = .ok (.iconst 0, 1) := by decide +kernel
theorem dX5_setWholesOn_6 : decode cX5_setWholesOn 6 = .ok (.istore_n 3, 1) := by decide +kernel
theorem dX11_putRecord_0 : decode cX11_putRecord 0 = .ok (.aload_n 0, 1) := by decide +kernel
theorem dX11_putRecord_1 : decode cX11_putRecord 1 = .ok (.getfield 16, 3) := by decide +kernel
theorem dX11_putRecord_4 : decode cX11_putRecord 4 = .ok (.iload_n 1, 1) := by decide +kernel
theorem dX11_putRecord_5 : decode cX11_putRecord 5 = .ok (.iconst 2, 1) := by decide +kernel
theorem dX11_putRecord_6 : decode cX11_putRecord 6 = .ok (.idiv, 1) := by decide +kernel
theorem dX11_putRecord_7 : decode cX11_putRecord 7 = .ok (.invokevirtual 381, 3) := by decide +kernel
theorem dX11_putRecord_10 : decode cX11_putRecord 10 = .ok (.aload_n 0, 1) := by decide +kernel
theorem dX11_putRecord_11 : decode cX11_putRecord 11 = .ok (.getfield 16, 3) := by decide +kernel
theorem dX11_putRecord_14 : decode cX11_putRecord 14 = .ok (.aload_n 0, 1) := by decide +kernel
theorem dX11_putRecord_15 : decode cX11_putRecord 15 = .ok (.getfield 22, 3) := by decide +kernel
theorem dX11_putRecord_18 : decode cX11_putRecord 18 = .ok (.getfield 185, 3) := by decide +kernel
theorem dX11_putRecord_21 : decode cX11_putRecord 21 = .ok (.iload_n 1, 1) := by decide +kernel
theorem dX11_putRecord_22 : decode cX11_putRecord 22 = .ok (.invokevirtual 217, 3) := by decide +kernel
theorem dX11_putRecord_25 : decode cX11_putRecord 25 = .ok (.invokevirtual 381, 3) := by decide +kernel
theorem dX11_putRecord_28 : decode cX11_putRecord 28 = .ok (.aload_n 0, 1) := by decide +kernel
theorem dX11_putRecord_29 : decode cX11_putRecord 29 = .ok (.getfield 16, 3) := by decide +kernel
theorem dX11_putRecord_32 : decode cX11_putRecord 32 = .ok (.iload_n 1, 1) := by decide +kernel
theorem dX11_putRecord_33 : decode cX11_putRecord 33 = .ok (.iconst 2, 1) := by decide +kernel
theorem dX11_putRecord_34 : decode cX11_putRecord 34 = .ok (.irem, 1) := by decide +kernel
theorem dX11_putRecord_35 : decode cX11_putRecord 35 = .ok (.invokevirtual 381, 3) := by decide +kernel
theorem dX11_putRecord_38 : decode cX11_putRecord 38 = .ok (.aload_n 0, 1) := by decide +kernel
theorem dX11_putRecord_39 : decode cX11_putRecord 39 = .ok (.getfield 16, 3) := by decide +kernel
theorem dX11_putRecord_42 : decode cX11_putRecord 42 = .ok (.aload_n 0, 1) := by decide +kernel
theorem dX11_putRecord_43 : decode cX11_putRecord 43 = .ok (.getfield 48, 3) := by decide +kernel
theorem dX11_putRecord_46 : decode cX11_putRecord 46 = .ok (.iload_n 1, 1) := by decide +kernel
theorem dX11_putRecord_47 : decode cX11_putRecord 47 = .ok (.iaload, 1) := by decide +kernel
theorem dX11_putRecord_48 : decode cX11_putRecord 48 = .ok (.bipush 16, 2) := by decide +kernel
theorem dX11_putRecord_50 : decode cX11_putRecord 50 = .ok (.ishr, 1) := by decide +kernel
theorem dX11_putRecord_51 : decode cX11_putRecord 51 = .ok (.invokevirtual 381, 3) := by decide +kernel
theorem dX11_putRecord_54 : decode cX11_putRecord 54 = .ok (.aload_n 0, 1) := by decide +kernel
theorem dX11_putRecord_55 : decode cX11_putRecord 55 = .ok (.getfield 16, 3) := by decide +kernel
theorem dX11_putRecord_58 : decode cX11_putRecord 58 = .ok (.aload_n 0, 1) := by decide +kernel
theorem dX11_putRecord_59 : decode cX11_putRecord 59 = .ok (.getfield 48, 3) := by decide +kernel
theorem dX11_putRecord_62 : decode cX11_putRecord 62 = .ok (.iload_n 1, 1) := by decide +kernel
theorem dX11_putRecord_63 : decode cX11_putRecord 63 = .ok (.iaload, 1) := by decide +kernel
theorem dX11_putRecord_64 : decode cX11_putRecord 64 = .ok (.bipush 8, 2) := by decide +kernel
theorem dX11_putRecord_66 : decode cX11_putRecord 66 = .ok (.ishr, 1) := by decide +kernel
theorem dX11_putRecord_67 : decode cX11_putRecord 67 = .ok (.invokevirtual 381, 3) := by decide +kernel
theorem dX11_putRecord_70 : decode cX11_putRecord 70 = .ok (.aload_n 0, 1) := by decide +kernel
theorem dX11_putRecord_71 : decode cX11_putRecord 71 = .ok (.getfield 16, 3) := by decide +kernel
theorem dX11_putRecord_74 : decode cX11_putRecord 74 = .ok (.aload_n 0, 1) := by decide +kernel
theorem dX11_putRecord_75 : decode cX11_putRecord 75 = .ok (.getfield 48, 3) := by decide +kernel
theorem dX11_putRecord_78 : decode cX11_putRecord 78 = .ok (.iload_n 1, 1) := by decide +kernel
theorem dX11_putRecord_79 : decode cX11_putRecord 79 = .ok (.iaload, 1) := by decide +kernel
theorem dX11_putRecord_80 : decode cX11_putRecord 80 = .ok (.invokevirtual 381, 3) := by decide +kernel
theorem dX11_putRecord_83 : decode cX11_putRecord 83 = .ok (.return_, 1) := by decide +kernel
theorem dX11_list_69 : decode cX11_list 69 = .ok (.aload_n 0, 1) := by decide +kernel
theorem dX11_list_70 : decode cX11_list 70 = .ok (.getfield 16, 3) := by decide +kernel
theorem dX11_list_73 : decode cX11_list 73 = .ok (.getfield 58, 3) := by decide +kernel
theorem dX11_list_76 : decode cX11_list 76 = .ok (.ireturn, 1) := by decide +kernel
theorem dX11_list_63 : decode cX11_list 63 = .ok (.iinc 2 1, 3) := by decide +kernel
theorem dX11_list_66 : decode cX11_list 66 = .ok (.goto (-34), 3) := by decide +kernel
theorem dX11_list_32 : decode cX11_list 32 = .ok (.iload_n 2, 1) := by decide +kernel
theorem dX11_list_33 : decode cX11_list 33 = .ok (.iconst 2, 1) := by decide +kernel
theorem dX11_list_34 : decode cX11_list 34 = .ok (.aload_n 0, 1) := by decide +kernel
theorem dX11_list_35 : decode cX11_list 35 = .ok (.getfield 22, 3) := by decide +kernel
theorem dX11_list_38 : decode cX11_list 38 = .ok (.getfield 185, 3) := by decide +kernel
theorem dX11_list_41 : decode cX11_list 41 = .ok (.getfield 189, 3) := by decide +kernel
theorem dX11_list_44 : decode cX11_list 44 = .ok (.imul, 1) := by decide +kernel
theorem dX11_list_45 : decode cX11_list 45 = .ok (.if_icmp .ge 24, 3) := by decide +kernel
theorem dX11_list_48 : decode cX11_list 48 = .ok (.aload_n 0, 1) := by decide +kernel
theorem dX11_list_49 : decode cX11_list 49 = .ok (.getfield 48, 3) := by decide +kernel
theorem dX11_list_52 : decode cX11_list 52 = .ok (.iload_n 2, 1) := by decide +kernel
theorem dX11_list_53 : decode cX11_list 53 = .ok (.iaload, 1) := by decide +kernel
theorem dX11_list_54 : decode cX11_list 54 = .ok (.iconst (-1), 1) := by decide +kernel
theorem dX11_list_55 : decode cX11_list 55 = .ok (.if_icmp .eq 8, 3) := by decide +kernel
theorem dX11_list_58 : decode cX11_list 58 = .ok (.aload_n 0, 1) := by decide +kernel
theorem dX11_list_59 : decode cX11_list 59 = .ok (.iload_n 2, 1) := by decide +kernel
theorem dX11_list_60 : decode cX11_list 60 = .ok (.invokevirtual 503, 3) := by decide +kernel
theorem dX11_list_10 : decode cX11_list 10 = .ok (.aload_n 0, 1) := by decide +kernel
theorem dX11_list_11 : decode cX11_list 11 = .ok (.getfield 22, 3) := by decide +kernel
theorem dX11_list_14 : decode cX11_list 14 = .ok (.iload_n 1, 1) := by decide +kernel
theorem dX11_list_15 : decode cX11_list 15 = .ok (.aload_n 0, 1) := by decide +kernel
theorem dX11_list_16 : decode cX11_list 16 = .ok (.getfield 48, 3) := by decide +kernel
theorem dX11_list_19 : decode cX11_list 19 = .ok (.invokevirtual 499, 3) := by decide +kernel
theorem dX11_list_22 : decode cX11_list 22 = .ok (.aload_n 0, 1) := by decide +kernel
theorem dX11_list_23 : decode cX11_list 23 = .ok (.getfield 16, 3) := by decide +kernel
theorem dX11_list_26 : decode cX11_list 26 = .ok (.iconst 0, 1) := by decide +kernel
theorem dX11_list_27 : decode cX11_list 27 = .ok (.putfield 58, 3) := by decide +kernel
theorem dX11_list_30 : decode cX11_list 30 = .ok (.iconst 0, 1) := by decide +kernel
theorem dX11_list_31 : decode cX11_list 31 = .ok (.istore_n 2, 1) := by decide +kernel
theorem dX11_list_0 : decode cX11_list 0 = .ok (.iload_n 1, 1) := by decide +kernel
theorem dX11_list_1 : decode cX11_list 1 = .ok (.invokestatic 69, 3) := by decide +kernel
theorem dX11_list_4 : decode cX11_list 4 = .ok (.ifCond .ne 6, 3) := by decide +kernel
theorem dX11_list_7 : decode cX11_list 7 = .ok (.bipush (-2), 2) := by decide +kernel
theorem dX11_list_9 : decode cX11_list 9 = .ok (.ireturn, 1) := by decide +kernel
theorem dX11_slotOfRecord_173 : decode cX11_slotOfRecord 173 = .ok (.ireturn, 1) := by decide +kernel
theorem dX11_slotOfRecord_172 : decode cX11_slotOfRecord 172 = .ok (.iconst (-1), 1) := by decide +kernel
theorem dX11_slotOfRecord_161 : decode cX11_slotOfRecord 161 = .ok (.istore 4, 2) := by decide +kernel
theorem dX11_slotOfRecord_163 : decode cX11_slotOfRecord 163 = .ok (.iload 4, 2) := by decide +kernel
theorem dX11_slotOfRecord_165 : decode cX11_slotOfRecord 165 = .ok (.ifCond .eq 7, 3) := by decide +kernel
theorem dX11_slotOfRecord_168 : decode cX11_slotOfRecord 168 = .ok (.iload_n 2, 1) := by decide +kernel
theorem dX11_slotOfRecord_169 : decode cX11_slotOfRecord 169 = .ok (.goto 4, 3) := by decide +kernel
theorem dX11_slotOfRecord_160 : decode cX11_slotOfRecord 160 = .ok (.iconst 0, 1) := by decide +kernel
theorem dX11_slotOfRecord_53 : decode cX11_slotOfRecord 53 = .ok (.iconst 2, 1) := by decide +kernel
theorem dX11_slotOfRecord_54 : decode cX11_slotOfRecord 54 = .ok (.aload_n 0, 1) := by decide +kernel
theorem dX11_slotOfRecord_55 : decode cX11_slotOfRecord 55 = .ok (.getfield 12, 3) := by decide +kernel
theorem dX11_slotOfRecord_58 : decode cX11_slotOfRecord 58 = .ok (.getfield 530, 3) := by decide +kernel
theorem dX11_slotOfRecord_61 : decode cX11_slotOfRecord 61 = .ok (.iload_n 1, 1) := by decide +kernel
theorem dX11_slotOfRecord_62 : decode cX11_slotOfRecord 62 = .ok (.iaload, 1) := by decide +kernel
theorem dX11_slotOfRecord_63 : decode cX11_slotOfRecord 63 = .ok (.imul, 1) := by decide +kernel
theorem dX11_slotOfRecord_64 : decode cX11_slotOfRecord 64 = .ok (.aload_n 0, 1) := by decide +kernel
theorem dX11_slotOfRecord_65 : decode cX11_slotOfRecord 65 = .ok (.getfield 12, 3) := by decide +kernel
theorem dX11_slotOfRecord_68 : decode cX11_slotOfRecord 68 = .ok (.getfield 530, 3) := by decide +kernel
theorem dX11_slotOfRecord_71 : decode cX11_slotOfRecord 71 = .ok (.iload_n 1, 1) := by decide +kernel
theorem dX11_slotOfRecord_72 : decode cX11_slotOfRecord 72 = .ok (.iconst 2, 1) := by decide +kernel
theorem dX11_slotOfRecord_73 : decode cX11_slotOfRecord 73 = .ok (.iadd, 1) := by decide +kernel
theorem dX11_slotOfRecord_74 : decode cX11_slotOfRecord 74 = .ok (.iaload, 1) := by decide +kernel
theorem dX11_slotOfRecord_75 : decode cX11_slotOfRecord 75 = .ok (.iadd, 1) := by decide +kernel
theorem dX11_slotOfRecord_76 : decode cX11_slotOfRecord 76 = .ok (.istore_n 2, 1) := by decide +kernel
theorem dX11_slotOfRecord_77 : decode cX11_slotOfRecord 77 = .ok (.aload_n 0, 1) := by decide +kernel
theorem dX11_slotOfRecord_78 : decode cX11_slotOfRecord 78 = .ok (.getfield 12, 3) := by decide +kernel
theorem dX11_slotOfRecord_81 : decode cX11_slotOfRecord 81 = .ok (.getfield 530, 3) := by decide +kernel
theorem dX11_slotOfRecord_84 : decode cX11_slotOfRecord 84 = .ok (.iload_n 1, 1) := by decide +kernel
theorem dX11_slotOfRecord_85 : decode cX11_slotOfRecord 85 = .ok (.iconst 3, 1) := by decide +kernel
theorem dX11_slotOfRecord_86 : decode cX11_slotOfRecord 86 = .ok (.iadd, 1) := by decide +kernel
theorem dX11_slotOfRecord_87 : decode cX11_slotOfRecord 87 = .ok (.iaload, 1) := by decide +kernel
theorem dX11_slotOfRecord_88 : decode cX11_slotOfRecord 88 = .ok (.ldc_w 651, 3) := by decide +kernel
theorem dX11_slotOfRecord_91 : decode cX11_slotOfRecord 91 = .ok (.imul, 1) := by decide +kernel
theorem dX11_slotOfRecord_92 : decode cX11_slotOfRecord 92 = .ok (.aload_n 0, 1) := by decide +kernel
theorem dX11_slotOfRecord_93 : decode cX11_slotOfRecord 93 = .ok (.getfield 12, 3) := by decide +kernel
theorem dX11_slotOfRecord_96 : decode cX11_slotOfRecord 96 = .ok (.getfield 530, 3) := by decide +kernel
theorem dX11_slotOfRecord_99 : decode cX11_slotOfRecord 99 = .ok (.iload_n 1, 1) := by decide +kernel
theorem dX11_slotOfRecord_100 : decode cX11_slotOfRecord 100 = .ok (.iconst 4, 1) := by decide +kernel
theorem dX11_slotOfRecord_101 : decode cX11_slotOfRecord 101 = .ok (.iadd, 1) := by decide +kernel
theorem dX11_slotOfRecord_102 : decode cX11_slotOfRecord 102 = .ok (.iaload, 1) := by decide +kernel
theorem dX11_slotOfRecord_103 : decode cX11_slotOfRecord 103 = .ok (.sipush 256, 3) := by decide +kernel
theorem dX11_slotOfRecord_106 : decode cX11_slotOfRecord 106 = .ok (.imul, 1) := by decide +kernel
theorem dX11_slotOfRecord_107 : decode cX11_slotOfRecord 107 = .ok (.iadd, 1) := by decide +kernel
theorem dX11_slotOfRecord_108 : decode cX11_slotOfRecord 108 = .ok (.aload_n 0, 1) := by decide +kernel
theorem dX11_slotOfRecord_109 : decode cX11_slotOfRecord 109 = .ok (.getfield 12, 3) := by decide +kernel
theorem dX11_slotOfRecord_112 : decode cX11_slotOfRecord 112 = .ok (.getfield 530, 3) := by decide +kernel
theorem dX11_slotOfRecord_115 : decode cX11_slotOfRecord 115 = .ok (.iload_n 1, 1) := by decide +kernel
theorem dX11_slotOfRecord_116 : decode cX11_slotOfRecord 116 = .ok (.iconst 5, 1) := by decide +kernel
theorem dX11_slotOfRecord_117 : decode cX11_slotOfRecord 117 = .ok (.iadd, 1) := by decide +kernel
theorem dX11_slotOfRecord_118 : decode cX11_slotOfRecord 118 = .ok (.iaload, 1) := by decide +kernel
theorem dX11_slotOfRecord_119 : decode cX11_slotOfRecord 119 = .ok (.iadd, 1) := by decide +kernel
theorem dX11_slotOfRecord_120 : decode cX11_slotOfRecord 120 = .ok (.istore_n 3, 1) := by decide +kernel
theorem dX11_slotOfRecord_121 : decode cX11_slotOfRecord 121 = .ok (.aload_n 0, 1) := by decide +kernel
theorem dX11_slotOfRecord_122 : decode cX11_slotOfRecord 122 = .ok (.getfield 48, 3) := by decide +kernel
theorem dX11_slotOfRecord_125 : decode cX11_slotOfRecord 125 = .ok (.iload_n 2, 1) := by decide +kernel
theorem dX11_slotOfRecord_126 : decode cX11_slotOfRecord 126 = .ok (.iaload, 1) := by decide +kernel
theorem dX11_slotOfRecord_127 : decode cX11_slotOfRecord 127 = .ok (.iload_n 3, 1) := by decide +kernel
theorem dX11_slotOfRecord_128 : decode cX11_slotOfRecord 128 = .ok (.if_icmp .ne 32, 3) := by decide +kernel
theorem dX11_slotOfRecord_131 : decode cX11_slotOfRecord 131 = .ok (.aload_n 0, 1) := by decide +kernel
theorem dX11_slotOfRecord_132 : decode cX11_slotOfRecord 132 = .ok (.getfield 22, 3) := by decide +kernel
theorem dX11_slotOfRecord_135 : decode cX11_slotOfRecord 135 = .ok (.getfield 185, 3) := by decide +kernel
theorem dX11_slotOfRecord_138 : decode cX11_slotOfRecord 138 = .ok (.iload_n 2, 1) := by decide +kernel
theorem dX11_slotOfRecord_139 : decode cX11_slotOfRecord 139 = .ok (.invokevirtual 217, 3) := by decide +kernel
theorem dX11_slotOfRecord_142 : decode cX11_slotOfRecord 142 = .ok (.aload_n 0, 1) := by decide +kernel
theorem dX11_slotOfRecord_143 : decode cX11_slotOfRecord 143 = .ok (.getfield 12, 3) := by decide +kernel
theorem dX11_slotOfRecord_146 : decode cX11_slotOfRecord 146 = .ok (.getfield 530, 3) := by decide +kernel
theorem dX11_slotOfRecord_149 : decode cX11_slotOfRecord 149 = .ok (.iload_n 1, 1) := by decide +kernel
theorem dX11_slotOfRecord_150 : decode cX11_slotOfRecord 150 = .ok (.iconst 1, 1) := by decide +kernel
theorem dX11_slotOfRecord_151 : decode cX11_slotOfRecord 151 = .ok (.iadd, 1) := by decide +kernel
theorem dX11_slotOfRecord_152 : decode cX11_slotOfRecord 152 = .ok (.iaload, 1) := by decide +kernel
theorem dX11_slotOfRecord_153 : decode cX11_slotOfRecord 153 = .ok (.if_icmp .ne 7, 3) := by decide +kernel
theorem dX11_slotOfRecord_156 : decode cX11_slotOfRecord 156 = .ok (.iconst 1, 1) := by decide +kernel
theorem dX11_slotOfRecord_157 : decode cX11_slotOfRecord 157 = .ok (.goto 4, 3) := by decide +kernel
theorem dX11_slotOfRecord_51 : decode cX11_slotOfRecord 51 = .ok (.iconst (-1), 1) := by decide +kernel
theorem dX11_slotOfRecord_52 : decode cX11_slotOfRecord 52 = .ok (.ireturn, 1) := by decide +kernel
theorem dX11_slotOfRecord_0 : decode cX11_slotOfRecord 0 = .ok (.iload_n 1, 1) := by decide +kernel
theorem dX11_slotOfRecord_1 : decode cX11_slotOfRecord 1 = .ok (.bipush 6, 2) := by decide +kernel
theorem dX11_slotOfRecord_3 : decode cX11_slotOfRecord 3 = .ok (.iadd, 1) := by decide +kernel
theorem dX11_slotOfRecord_4 : decode cX11_slotOfRecord 4 = .ok (.aload_n 0, 1) := by decide +kernel
theorem dX11_slotOfRecord_5 : decode cX11_slotOfRecord 5 = .ok (.getfield 12, 3) := by decide +kernel
theorem dX11_slotOfRecord_8 : decode cX11_slotOfRecord 8 = .ok (.getfield 58, 3) := by decide +kernel
theorem dX11_slotOfRecord_11 : decode cX11_slotOfRecord 11 = .ok (.if_icmp .gt 40, 3) := by decide +kernel
theorem dX11_slotOfRecord_14 : decode cX11_slotOfRecord 14 = .ok (.aload_n 0, 1) := by decide +kernel
theorem dX11_slotOfRecord_15 : decode cX11_slotOfRecord 15 = .ok (.getfield 12, 3) := by decide +kernel
theorem dX11_slotOfRecord_18 : decode cX11_slotOfRecord 18 = .ok (.getfield 530, 3) := by decide +kernel
theorem dX11_slotOfRecord_21 : decode cX11_slotOfRecord 21 = .ok (.iload_n 1, 1) := by decide +kernel
theorem dX11_slotOfRecord_22 : decode cX11_slotOfRecord 22 = .ok (.iaload, 1) := by decide +kernel
theorem dX11_slotOfRecord_23 : decode cX11_slotOfRecord 23 = .ok (.aload_n 0, 1) := by decide +kernel
theorem dX11_slotOfRecord_24 : decode cX11_slotOfRecord 24 = .ok (.getfield 22, 3) := by decide +kernel
theorem dX11_slotOfRecord_27 : decode cX11_slotOfRecord 27 = .ok (.getfield 185, 3) := by decide +kernel
theorem dX11_slotOfRecord_30 : decode cX11_slotOfRecord 30 = .ok (.getfield 189, 3) := by decide +kernel
theorem dX11_slotOfRecord_33 : decode cX11_slotOfRecord 33 = .ok (.if_icmp .ge 18, 3) := by decide +kernel
theorem dX11_slotOfRecord_36 : decode cX11_slotOfRecord 36 = .ok (.aload_n 0, 1) := by decide +kernel
theorem dX11_slotOfRecord_37 : decode cX11_slotOfRecord 37 = .ok (.getfield 12, 3) := by decide +kernel
theorem dX11_slotOfRecord_40 : decode cX11_slotOfRecord 40 = .ok (.getfield 530, 3) := by decide +kernel
theorem dX11_slotOfRecord_43 : decode cX11_slotOfRecord 43 = .ok (.iload_n 1, 1) := by decide +kernel
theorem dX11_slotOfRecord_44 : decode cX11_slotOfRecord 44 = .ok (.iconst 2, 1) := by decide +kernel
theorem dX11_slotOfRecord_45 : decode cX11_slotOfRecord 45 = .ok (.iadd, 1) := by decide +kernel
theorem dX11_slotOfRecord_46 : decode cX11_slotOfRecord 46 = .ok (.iaload, 1) := by decide +kernel
theorem dX11_slotOfRecord_47 : decode cX11_slotOfRecord 47 = .ok (.iconst 1, 1) := by decide +kernel
theorem dX11_slotOfRecord_48 : decode cX11_slotOfRecord 48 = .ok (.if_icmp .le 5, 3) := by decide +kernel
theorem dX11_checkRecords_96 : decode cX11_checkRecords 96 = .ok (.iconst (-1), 1) := by decide +kernel
theorem dX11_checkRecords_97 : decode cX11_checkRecords 97 = .ok (.ireturn, 1) := by decide +kernel
theorem dX11_checkRecords_90 : decode cX11_checkRecords 90 = .ok (.iinc 2 1, 3) := by decide +kernel
theorem dX11_checkRecords_93 : decode cX11_checkRecords 93 = .ok (.goto (-37), 3) := by decide +kernel
theorem dX11_checkRecords_56 : decode cX11_checkRecords 56 = .ok (.iload_n 2, 1) := by decide +kernel
theorem dX11_checkRecords_57 : decode cX11_checkRecords 57 = .ok (.iconst 2, 1) := by decide +kernel
theorem dX11_checkRecords_58 : decode cX11_checkRecords 58 = .ok (.aload_n 0, 1) := by decide +kernel
theorem dX11_checkRecords_59 : decode cX11_checkRecords 59 = .ok (.getfield 22, 3) := by decide +kernel
theorem dX11_checkRecords_62 : decode cX11_checkRecords 62 = .ok (.getfield 185, 3) := by decide +kernel
theorem dX11_checkRecords_65 : decode cX11_checkRecords 65 = .ok (.getfield 189, 3) := by decide +kernel
theorem dX11_checkRecords_68 : decode cX11_checkRecords 68 = .ok (.imul, 1) := by decide +kernel
theorem dX11_checkRecords_69 : decode cX11_checkRecords 69 = .ok (.if_icmp .ge 27, 3) := by decide +kernel
theorem dX11_checkRecords_72 : decode cX11_checkRecords 72 = .ok (.aload_n 0, 1) := by decide +kernel
theorem dX11_checkRecords_73 : decode cX11_checkRecords 73 = .ok (.getfield 48, 3) := by decide +kernel
theorem dX11_checkRecords_76 : decode cX11_checkRecords 76 = .ok (.iload_n 2, 1) := by decide +kernel
theorem dX11_checkRecords_77 : decode cX11_checkRecords 77 = .ok (.iaload, 1) := by decide +kernel
theorem dX11_checkRecords_78 : decode cX11_checkRecords 78 = .ok (.iconst (-1), 1) := by decide +kernel
theorem dX11_checkRecords_79 : decode cX11_checkRecords 79 = .ok (.if_icmp .eq 11, 3) := by decide +kernel
theorem dX11_checkRecords_82 : decode cX11_checkRecords 82 = .ok (.sipush 1000, 3) := by decide +kernel
theorem dX11_checkRecords_85 : decode cX11_checkRecords 85 = .ok (.iload_n 2, 1) := by decide +kernel
theorem dX11_checkRecords_86 : decode cX11_checkRecords 86 = .ok (.iconst 2, 1) := by decide +kernel
theorem dX11_checkRecords_87 : decode cX11_checkRecords 87 = .ok (.idiv, 1) := by decide +kernel
theorem dX11_checkRecords_88 : decode cX11_checkRecords 88 = .ok (.iadd, 1) := by decide +kernel
theorem dX11_checkRecords_89 : decode cX11_checkRecords 89 = .ok (.ireturn, 1) := by decide +kernel
theorem dX11_checkRecords_54 : decode cX11_checkRecords 54 = .ok (.iconst 0, 1) := by decide +kernel
theorem dX11_checkRecords_55 : decode cX11_checkRecords 55 = .ok (.istore_n 2, 1) := by decide +kernel
theorem dX11_checkRecords_41 : decode cX11_checkRecords 41 = .ok (.aload_n 0, 1) := by decide +kernel
theorem dX11_checkRecords_42 : decode cX11_checkRecords 42 = .ok (.getfield 48, 3) := by decide +kernel
theorem dX11_checkRecords_45 : decode cX11_checkRecords 45 = .ok (.iload_n 3, 1) := by decide +kernel
theorem dX11_checkRecords_46 : decode cX11_checkRecords 46 = .ok (.iconst (-1), 1) := by decide +kernel
theorem dX11_checkRecords_47 : decode cX11_checkRecords 47 = .ok (.iastore, 1) := by decide +kernel
theorem dX11_checkRecords_48 : decode cX11_checkRecords 48 = .ok (.iinc 2 6, 3) := by decide +kernel
theorem dX11_checkRecords_51 : decode cX11_checkRecords 51 = .ok (.goto (-37), 3) := by decide +kernel
theorem dX11_checkRecords_14 : decode cX11_checkRecords 14 = .ok (.iload_n 2, 1) := by decide +kernel
theorem dX11_checkRecords_15 : decode cX11_checkRecords 15 = .ok (.aload_n 0, 1) := by decide +kernel
theorem dX11_checkRecords_16 : decode cX11_checkRecords 16 = .ok (.getfield 12, 3) := by decide +kernel
theorem dX11_checkRecords_19 : decode cX11_checkRecords 19 = .ok (.getfield 58, 3) := by decide +kernel
theorem dX11_checkRecords_22 : decode cX11_checkRecords 22 = .ok (.if_icmp .ge 32, 3) := by decide +kernel
theorem dX11_checkRecords_25 : decode cX11_checkRecords 25 = .ok (.aload_n 0, 1) := by decide +kernel
theorem dX11_checkRecords_26 : decode cX11_checkRecords 26 = .ok (.iload_n 2, 1) := by decide +kernel
theorem dX11_checkRecords_27 : decode cX11_checkRecords 27 = .ok (.invokevirtual 648, 3) := by decide +kernel
theorem dX11_checkRecords_30 : decode cX11_checkRecords 30 = .ok (.istore_n 3, 1) := by decide +kernel
theorem dX11_checkRecords_31 : decode cX11_checkRecords 31 = .ok (.iload_n 3, 1) := by decide +kernel
theorem dX11_checkRecords_32 : decode cX11_checkRecords 32 = .ok (.iconst (-1), 1) := by decide +kernel
theorem dX11_checkRecords_33 : decode cX11_checkRecords 33 = .ok (.if_icmp .ne 8, 3) := by decide +kernel
theorem dX11_checkRecords_36 : decode cX11_checkRecords 36 = .ok (.iload_n 2, 1) := by decide +kernel
theorem dX11_checkRecords_37 : decode cX11_checkRecords 37 = .ok (.bipush 6, 2) := by decide +kernel
theorem dX11_checkRecords_39 : decode cX11_checkRecords 39 = .ok (.idiv, 1) := by decide +kernel
theorem dX11_checkRecords_40 : decode cX11_checkRecords 40 = .ok (.ireturn, 1) := by decide +kernel
theorem dX11_checkRecords_0 : decode cX11_checkRecords 0 = .ok (.aload_n 0, 1) := by decide +kernel
theorem dX11_checkRecords_1 : decode cX11_checkRecords 1 = .ok (.getfield 22, 3) := by decide +kernel
theorem dX11_checkRecords_4 : decode cX11_checkRecords 4 = .ok (.iload_n 1, 1) := by decide +kernel
theorem dX11_checkRecords_5 : decode cX11_checkRecords 5 = .ok (.aload_n 0, 1) := by decide +kernel
theorem dX11_checkRecords_6 : decode cX11_checkRecords 6 = .ok (.getfield 48, 3) := by decide +kernel
theorem dX11_checkRecords_9 : decode cX11_checkRecords 9 = .ok (.invokevirtual 499, 3) := by decide +kernel
theorem dX11_checkRecords_12 : decode cX11_checkRecords 12 = .ok (.iconst 0, 1) := by decide +kernel
theorem dX11_checkRecords_13 : decode cX11_checkRecords 13 = .ok (.istore_n 2, 1) := by decide +kernel
theorem dX11_check_17 : decode cX11_check 17 = .ok (.istore_n 2, 1) := by decide +kernel
theorem dX11_check_18 : decode cX11_check 18 = .ok (.aload_n 0, 1) := by decide +kernel
theorem dX11_check_19 : decode cX11_check 19 = .ok (.getfield 12, 3) := by decide +kernel
theorem dX11_check_22 : decode cX11_check 22 = .ok (.iconst 0, 1) := by decide +kernel
theorem dX11_check_23 : decode cX11_check 23 = .ok (.putfield 58, 3) := by decide +kernel
theorem dX11_check_26 : decode cX11_check 26 = .ok (.iload_n 2, 1) := by decide +kernel
theorem dX11_check_27 : decode cX11_check 27 = .ok (.ireturn, 1) := by decide +kernel
theorem dX11_check_15 : decode cX11_check 15 = .ok (.bipush (-2), 2) := by decide +kernel
theorem dX11_check_0 : decode cX11_check 0 = .ok (.iload_n 1, 1) := by decide +kernel
theorem dX11_check_1 : decode cX11_check 1 = .ok (.invokestatic 69, 3) := by decide +kernel
theorem dX11_check_4 : decode cX11_check 4 = .ok (.ifCond .eq 11, 3) := by decide +kernel
theorem dX11_check_7 : decode cX11_check 7 = .ok (.aload_n 0, 1) := by decide +kernel
theorem dX11_check_8 : decode cX11_check 8 = .ok (.iload_n 1, 1) := by decide +kernel
theorem dX11_check_9 : decode cX11_check 9 = .ok (.invokevirtual 506, 3) := by decide +kernel
theorem dX11_check_12 : decode cX11_check 12 = .ok (.goto 5, 3) := by decide +kernel
theorem dX0_byteAt_22 : decode cX0_byteAt 22 = .ok (.ireturn, 1) := by decide +kernel
theorem dX0_byteAt_21 : decode cX0_byteAt 21 = .ok (.iconst (-1), 1) := by decide +kernel
theorem dX0_byteAt_0 : decode cX0_byteAt 0 = .ok (.iload_n 1, 1) := by decide +kernel
theorem dX0_byteAt_1 : decode cX0_byteAt 1 = .ok (.ifCond .lt 20, 3) := by decide +kernel
theorem dX0_byteAt_4 : decode cX0_byteAt 4 = .ok (.iload_n 1, 1) := by decide +kernel
theorem dX0_byteAt_5 : decode cX0_byteAt 5 = .ok (.aload_n 0, 1) := by decide +kernel
theorem dX0_byteAt_6 : decode cX0_byteAt 6 = .ok (.getfield 15, 3) := by decide +kernel
theorem dX0_byteAt_9 : decode cX0_byteAt 9 = .ok (.if_icmp .ge 12, 3) := by decide +kernel
theorem dX0_byteAt_12 : decode cX0_byteAt 12 = .ok (.aload_n 0, 1) := by decide +kernel
theorem dX0_byteAt_13 : decode cX0_byteAt 13 = .ok (.getfield 9, 3) := by decide +kernel
theorem dX0_byteAt_16 : decode cX0_byteAt 16 = .ok (.iload_n 1, 1) := by decide +kernel
theorem dX0_byteAt_17 : decode cX0_byteAt 17 = .ok (.iaload, 1) := by decide +kernel
theorem dX0_byteAt_18 : decode cX0_byteAt 18 = .ok (.goto 4, 3) := by decide +kernel
theorem dX11_out_0 : decode cX11_out 0 = .ok (.aload_n 0, 1) := by decide +kernel
theorem dX11_out_1 : decode cX11_out 1 = .ok (.getfield 16, 3) := by decide +kernel
theorem dX11_out_4 : decode cX11_out 4 = .ok (.iload_n 1, 1) := by decide +kernel
theorem dX11_out_5 : decode cX11_out 5 = .ok (.invokevirtual 509, 3) := by decide +kernel
theorem dX11_out_8 : decode cX11_out 8 = .ok (.ireturn, 1) := by decide +kernel
theorem dX11_count_202 : decode cX11_count 202 = .ok (.ireturn, 1) := by decide +kernel
theorem dX11_count_201 : decode cX11_count 201 = .ok (.iconst (-1), 1) := by decide +kernel
theorem dX11_count_178 : decode cX11_count 178 = .ok (.iload_n 1, 1) := by decide +kernel
theorem dX11_count_179 : decode cX11_count 179 = .ok (.bipush 100, 2) := by decide +kernel
theorem dX11_count_181 : decode cX11_count 181 = .ok (.if_icmp .lt 20, 3) := by decide +kernel
theorem dX11_count_184 : decode cX11_count 184 = .ok (.aload_n 0, 1) := by decide +kernel
theorem dX11_count_185 : decode cX11_count 185 = .ok (.getfield 22, 3) := by decide +kernel
theorem dX11_count_188 : decode cX11_count 188 = .ok (.getfield 89, 3) := by decide +kernel
theorem dX11_count_191 : decode cX11_count 191 = .ok (.iload_n 1, 1) := by decide +kernel
theorem dX11_count_192 : decode cX11_count 192 = .ok (.bipush 100, 2) := by decide +kernel
theorem dX11_count_194 : decode cX11_count 194 = .ok (.isub, 1) := by decide +kernel
theorem dX11_count_195 : decode cX11_count 195 = .ok (.invokevirtual 273, 3) := by decide +kernel
theorem dX11_count_198 : decode cX11_count 198 = .ok (.goto 4, 3) := by decide +kernel
theorem dX11_count_170 : decode cX11_count 170 = .ok (.aload_n 0, 1) := by decide +kernel
theorem dX11_count_171 : decode cX11_count 171 = .ok (.getfield 12, 3) := by decide +kernel
theorem dX11_count_174 : decode cX11_count 174 = .ok (.getfield 58, 3) := by decide +kernel
theorem dX11_count_177 : decode cX11_count 177 = .ok (.ireturn, 1) := by decide +kernel
theorem dX11_count_159 : decode cX11_count 159 = .ok (.aload_n 0, 1) := by decide +kernel
theorem dX11_count_160 : decode cX11_count 160 = .ok (.getfield 22, 3) := by decide +kernel
theorem dX11_count_163 : decode cX11_count 163 = .ok (.getfield 396, 3) := by decide +kernel
theorem dX11_count_166 : decode cX11_count 166 = .ok (.getfield 400, 3) := by decide +kernel
theorem dX11_count_169 : decode cX11_count 169 = .ok (.ireturn, 1) := by decide +kernel
theorem dX11_count_148 : decode cX11_count 148 = .ok (.aload_n 0, 1) := by decide +kernel
theorem dX11_count_149 : decode cX11_count 149 = .ok (.getfield 22, 3) := by decide +kernel
theorem dX11_count_152 : decode cX11_count 152 = .ok (.getfield 396, 3) := by decide +kernel
theorem dX11_count_155 : decode cX11_count 155 = .ok (.getfield 481, 3) := by decide +kernel
theorem dX11_count_158 : decode cX11_count 158 = .ok (.ireturn, 1) := by decide +kernel
theorem dX11_count_137 : decode cX11_count 137 = .ok (.aload_n 0, 1) := by decide +kernel
theorem dX11_count_138 : decode cX11_count 138 = .ok (.getfield 22, 3) := by decide +kernel
theorem dX11_count_141 : decode cX11_count 141 = .ok (.getfield 396, 3) := by decide +kernel
theorem dX11_count_144 : decode cX11_count 144 = .ok (.getfield 460, 3) := by decide +kernel
theorem dX11_count_147 : decode cX11_count 147 = .ok (.ireturn, 1) := by decide +kernel
theorem dX11_count_126 : decode cX11_count 126 = .ok (.aload_n 0, 1) := by decide +kernel
theorem dX11_count_127 : decode cX11_count 127 = .ok (.getfield 22, 3) := by decide +kernel
theorem dX11_count_130 : decode cX11_count 130 = .ok (.getfield 126, 3) := by decide +kernel
theorem dX11_count_133 : decode cX11_count 133 = .ok (.getfield 136, 3) := by decide +kernel
theorem dX11_count_136 : decode cX11_count 136 = .ok (.ireturn, 1) := by decide +kernel
theorem dX11_count_115 : decode cX11_count 115 = .ok (.aload_n 0, 1) := by decide +kernel
theorem dX11_count_116 : decode cX11_count 116 = .ok (.getfield 22, 3) := by decide +kernel
theorem dX11_count_119 : decode cX11_count 119 = .ok (.getfield 73, 3) := by decide +kernel
theorem dX11_count_122 : decode cX11_count 122 = .ok (.getfield 77, 3) := by decide +kernel
theorem dX11_count_125 : decode cX11_count 125 = .ok (.ireturn, 1) := by decide +kernel
theorem dX11_count_104 : decode cX11_count 104 = .ok (.aload_n 0, 1) := by decide +kernel
theorem dX11_count_105 : decode cX11_count 105 = .ok (.getfield 22, 3) := by decide +kernel
theorem dX11_count_108 : decode cX11_count 108 = .ok (.getfield 202, 3) := by decide +kernel
theorem dX11_count_111 : decode cX11_count 111 = .ok (.getfield 513, 3) := by decide +kernel
theorem dX11_count_114 : decode cX11_count 114 = .ok (.ireturn, 1) := by decide +kernel
theorem dX11_count_93 : decode cX11_count 93 = .ok (.aload_n 0, 1) := by decide +kernel
theorem dX11_count_94 : decode cX11_count 94 = .ok (.getfield 22, 3) := by decide +kernel
theorem dX11_count_97 : decode cX11_count 97 = .ok (.getfield 73, 3) := by decide +kernel
theorem dX11_count_100 : decode cX11_count 100 = .ok (.getfield 512, 3) := by decide +kernel
theorem dX11_count_103 : decode cX11_count 103 = .ok (.ireturn, 1) := by decide +kernel
theorem dX11_count_82 : decode cX11_count 82 = .ok (.aload_n 0, 1) := by decide +kernel
theorem dX11_count_83 : decode cX11_count 83 = .ok (.getfield 22, 3) := by decide +kernel
theorem dX11_count_86 : decode cX11_count 86 = .ok (.getfield 185, 3) := by decide +kernel
theorem dX11_count_89 : decode cX11_count 89 = .ok (.getfield 189, 3) := by decide +kernel
theorem dX11_count_92 : decode cX11_count 92 = .ok (.ireturn, 1) := by decide +kernel
theorem dX11_count_71 : decode cX11_count 71 = .ok (.aload_n 0, 1) := by decide +kernel
theorem dX11_count_72 : decode cX11_count 72 = .ok (.getfield 22, 3) := by decide +kernel
theorem dX11_count_75 : decode cX11_count 75 = .ok (.getfield 89, 3) := by decide +kernel
theorem dX11_count_78 : decode cX11_count 78 = .ok (.getfield 151, 3) := by decide +kernel
theorem dX11_count_81 : decode cX11_count 81 = .ok (.ireturn, 1) := by decide +kernel
theorem dX11_count_60 : decode cX11_count 60 = .ok (.aload_n 0, 1) := by decide +kernel
theorem dX11_count_61 : decode cX11_count 61 = .ok (.getfield 22, 3) := by decide +kernel
theorem dX11_count_64 : decode cX11_count 64 = .ok (.getfield 89, 3) := by decide +kernel
theorem dX11_count_67 : decode cX11_count 67 = .ok (.getfield 103, 3) := by decide +kernel
theorem dX11_count_70 : decode cX11_count 70 = .ok (.ireturn, 1) := by decide +kernel
theorem dX11_count_0 : decode cX11_count 0 = .ok (.iload_n 1, 1) := by decide +kernel
theorem dX11_count_1 : decode cX11_count 1 = .ok (.tableswitch 177 0 10 #[59, 70, 81, 92, 103, 114, 125, 136, 147, 158, 169], 59) := by decide +kernel
theorem dX12_init_234 : decode cX12_init 234 = .ok (.return_, 1) := by decide +kernel
theorem dX12_init_207 : decode cX12_init 207 = .ok (.iload_n 1, 1) := by decide +kernel
theorem dX12_init_208 : decode cX12_init 208 = .ok (.bipush 48, 2) := by decide +kernel
theorem dX12_init_210 : decode cX12_init 210 = .ok (.if_icmp .ge 24, 3) := by decide +kernel
theorem dX12_init_213 : decode cX12_init 213 = .ok (.aload_n 0, 1) := by decide +kernel
theorem dX12_init_214 : decode cX12_init 214 = .ok (.getfield 10, 3) := by decide +kernel
theorem dX12_init_217 : decode cX12_init 217 = .ok (.sipush 30632, 3) := by decide +kernel
theorem dX12_init_220 : decode cX12_init 220 = .ok (.sipush 601, 3) := by decide +kernel
theorem dX12_init_223 : decode cX12_init 223 = .ok (.iload_n 1, 1) := by decide +kernel
theorem dX12_init_224 : decode cX12_init 224 = .ok (.imul, 1) := by decide +kernel
theorem dX12_init_225 : decode cX12_init 225 = .ok (.iadd, 1) := by decide +kernel
theorem dX12_init_226 : decode cX12_init 226 = .ok (.iconst (-1), 1) := by decide +kernel
theorem dX12_init_227 : decode cX12_init 227 = .ok (.iastore, 1) := by decide +kernel
theorem dX12_init_228 : decode cX12_init 228 = .ok (.iinc 1 1, 3) := by decide +kernel
theorem dX12_init_231 : decode cX12_init 231 = .ok (.goto (-24), 3) := by decide +kernel
theorem dX12_init_0 : decode cX12_init 0 = .ok (.aload_n 0, 1) := by decide +kernel
theorem dX12_init_1 : decode cX12_init 1 = .ok (.invokespecial 3, 3) := by decide +kernel
theorem dX12_init_4 : decode cX12_init 4 = .ok (.aload_n 0, 1) := by decide +kernel
theorem dX12_init_5 : decode cX12_init 5 = .ok (.ldc 9, 2) := by decide +kernel
theorem dX12_init_7 : decode cX12_init 7 = .ok (.newarray .int, 2) := by decide +kernel
theorem dX12_init_9 : decode cX12_init 9 = .ok (.putfield 10, 3) := by decide +kernel
theorem dX12_init_12 : decode cX12_init 12 = .ok (.aload_n 0, 1) := by decide +kernel
theorem dX12_init_13 : decode cX12_init 13 = .ok (.ldc 14, 2) := by decide +kernel
theorem dX12_init_15 : decode cX12_init 15 = .ok (.newarray .int, 2) := by decide +kernel
theorem dX12_init_17 : decode cX12_init 17 = .ok (.putfield 15, 3) := by decide +kernel
theorem dX12_init_20 : decode cX12_init 20 = .ok (.aload_n 0, 1) := by decide +kernel
theorem dX12_init_21 : decode cX12_init 21 = .ok (.iconst 3, 1) := by decide +kernel
theorem dX12_init_22 : decode cX12_init 22 = .ok (.newarray .boolean, 2) := by decide +kernel
theorem dX12_init_24 : decode cX12_init 24 = .ok (.putfield 18, 3) := by decide +kernel
theorem dX12_init_27 : decode cX12_init 27 = .ok (.aload_n 0, 1) := by decide +kernel
theorem dX12_init_28 : decode cX12_init 28 = .ok (.sipush 1200, 3) := by decide +kernel
theorem dX12_init_31 : decode cX12_init 31 = .ok (.newarray .byte, 2) := by decide +kernel
theorem dX12_init_33 : decode cX12_init 33 = .ok (.putfield 22, 3) := by decide +kernel
theorem dX12_init_36 : decode cX12_init 36 = .ok (.aload_n 0, 1) := by decide +kernel
theorem dX12_init_37 : decode cX12_init 37 = .ok (.iconst 0, 1) := by decide +kernel
theorem dX12_init_38 : decode cX12_init 38 = .ok (.putfield 26, 3) := by decide +kernel
theorem dX12_init_41 : decode cX12_init 41 = .ok (.aload_n 0, 1) := by decide +kernel
theorem dX12_init_42 : decode cX12_init 42 = .ok (.sipush 1200, 3) := by decide +kernel
theorem dX12_init_45 : decode cX12_init 45 = .ok (.newarray .byte, 2) := by decide +kernel
theorem dX12_init_47 : decode cX12_init 47 = .ok (.putfield 30, 3) := by decide +kernel
theorem dX12_init_50 : decode cX12_init 50 = .ok (.aload_n 0, 1) := by decide +kernel
theorem dX12_init_51 : decode cX12_init 51 = .ok (.iconst 0, 1) := by decide +kernel
theorem dX12_init_52 : decode cX12_init 52 = .ok (.putfield 33, 3) := by decide +kernel
theorem dX12_init_55 : decode cX12_init 55 = .ok (.aload_n 0, 1) := by decide +kernel
theorem dX12_init_56 : decode cX12_init 56 = .ok (.sipush 1300, 3) := by decide +kernel
theorem dX12_init_59 : decode cX12_init 59 = .ok (.newarray .byte, 2) := by decide +kernel
theorem dX12_init_61 : decode cX12_init 61 = .ok (.putfield 36, 3) := by decide +kernel
theorem dX12_init_64 : decode cX12_init 64 = .ok (.aload_n 0, 1) := by decide +kernel
theorem dX12_init_65 : decode cX12_init 65 = .ok (.iconst 0, 1) := by decide +kernel
theorem dX12_init_66 : decode cX12_init 66 = .ok (.putfield 39, 3) := by decide +kernel
theorem dX12_init_69 : decode cX12_init 69 = .ok (.aload_n 0, 1) := by decide +kernel
theorem dX12_init_70 : decode cX12_init 70 = .ok (.bipush 36, 2) := by decide +kernel
theorem dX12_init_72 : decode cX12_init 72 = .ok (.newarray .int, 2) := by decide +kernel
theorem dX12_init_74 : decode cX12_init 74 = .ok (.putfield 42, 3) := by decide +kernel
theorem dX12_init_77 : decode cX12_init 77 = .ok (.aload_n 0, 1) := by decide +kernel
theorem dX12_init_78 : decode cX12_init 78 = .ok (.iconst 0, 1) := by decide +kernel
theorem dX12_init_79 : decode cX12_init 79 = .ok (.putfield 45, 3) := by decide +kernel
theorem dX12_init_82 : decode cX12_init 82 = .ok (.aload_n 0, 1) := by decide +kernel
theorem dX12_init_83 : decode cX12_init 83 = .ok (.iconst 0, 1) := by decide +kernel
theorem dX12_init_84 : decode cX12_init 84 = .ok (.putfield 48, 3) := by decide +kernel
theorem dX12_init_87 : decode cX12_init 87 = .ok (.aload_n 0, 1) := by decide +kernel
theorem dX12_init_88 : decode cX12_init 88 = .ok (.sipush 200, 3) := by decide +kernel
theorem dX12_init_91 : decode cX12_init 91 = .ok (.newarray .int, 2) := by decide +kernel
theorem dX12_init_93 : decode cX12_init 93 = .ok (.putfield 51, 3) := by decide +kernel
theorem dX12_init_96 : decode cX12_init 96 = .ok (.aload_n 0, 1) := by decide +kernel
theorem dX12_init_97 : decode cX12_init 97 = .ok (.iconst 0, 1) := by decide +kernel
theorem dX12_init_98 : decode cX12_init 98 = .ok (.putfield 54, 3) := by decide +kernel
theorem dX12_init_101 : decode cX12_init 101 = .ok (.aload_n 0, 1) := by decide +kernel
theorem dX12_init_102 : decode cX12_init 102 = .ok (.sipush 200, 3) := by decide +kernel
theorem dX12_init_105 : decode cX12_init 105 = .ok (.newarray .int, 2) := by decide +kernel
theorem dX12_init_107 : decode cX12_init 107 = .ok (.putfield 57, 3) := by decide +kernel
theorem dX12_init_110 : decode cX12_init 110 = .ok (.aload_n 0, 1) := by decide +kernel
theorem dX12_init_111 : decode cX12_init 111 = .ok (.iconst 2, 1) := by decide +kernel
theorem dX12_init_112 : decode cX12_init 112 = .ok (.newarray .int, 2) := by decide +kernel
theorem dX12_init_114 : decode cX12_init 114 = .ok (.putfield 60, 3) := by decide +kernel
theorem dX12_init_117 : decode cX12_init 117 = .ok (.aload_n 0, 1) := by decide +kernel
theorem dX12_init_118 : decode cX12_init 118 = .ok (.bipush 36, 2) := by decide +kernel
theorem dX12_init_120 : decode cX12_init 120 = .ok (.newarray .int, 2) := by decide +kernel
theorem dX12_init_122 : decode cX12_init 122 = .ok (.putfield 63, 3) := by decide +kernel
theorem dX12_init_125 : decode cX12_init 125 = .ok (.aload_n 0, 1) := by decide +kernel
theorem dX12_init_126 : decode cX12_init 126 = .ok (.iconst 0, 1) := by decide +kernel
theorem dX12_init_127 : decode cX12_init 127 = .ok (.putfield 66, 3) := by decide +kernel
theorem dX12_init_130 : decode cX12_init 130 = .ok (.aload_n 0, 1) := by decide +kernel
theorem dX12_init_131 : decode cX12_init 131 = .ok (.iconst 0, 1) := by decide +kernel
theorem dX12_init_132 : decode cX12_init 132 = .ok (.putfield 69, 3) := by decide +kernel
theorem dX12_init_135 : decode cX12_init 135 = .ok (.aload_n 0, 1) := by decide +kernel
theorem dX12_init_136 : decode cX12_init 136 = .ok (.iconst 0, 1) := by decide +kernel
theorem dX12_init_137 : decode cX12_init 137 = .ok (.putfield 72, 3) := by decide +kernel
theorem dX12_init_140 : decode cX12_init 140 = .ok (.aload_n 0, 1) := by decide +kernel
theorem dX12_init_141 : decode cX12_init 141 = .ok (.iconst 0, 1) := by decide +kernel
theorem dX12_init_142 : decode cX12_init 142 = .ok (.putfield 75, 3) := by decide +kernel
theorem dX12_init_145 : decode cX12_init 145 = .ok (.aload_n 0, 1) := by decide +kernel
theorem dX12_init_146 : decode cX12_init 146 = .ok (.iconst 0, 1) := by decide +kernel
theorem dX12_init_147 : decode cX12_init 147 = .ok (.putfield 78, 3) := by decide +kernel
theorem dX12_init_150 : decode cX12_init 150 = .ok (.aload_n 0, 1) := by decide +kernel
theorem dX12_init_151 : decode cX12_init 151 = .ok (.iconst 0, 1) := by decide +kernel
theorem dX12_init_152 : decode cX12_init 152 = .ok (.putfield 82, 3) := by decide +kernel
theorem dX12_init_155 : decode cX12_init 155 = .ok (.aload_n 0, 1) := by decide +kernel
theorem dX12_init_156 : decode cX12_init 156 = .ok (.sipush 200, 3) := by decide +kernel
theorem dX12_init_159 : decode cX12_init 159 = .ok (.newarray .int, 2) := by decide +kernel
theorem dX12_init_161 : decode cX12_init 161 = .ok (.putfield 85, 3) := by decide +kernel
theorem dX12_init_164 : decode cX12_init 164 = .ok (.aload_n 0, 1) := by decide +kernel
theorem dX12_init_165 : decode cX12_init 165 = .ok (.sipush 200, 3) := by decide +kernel
theorem dX12_init_168 : decode cX12_init 168 = .ok (.newarray .int, 2) := by decide +kernel
theorem dX12_init_170 : decode cX12_init 170 = .ok (.putfield 88, 3) := by decide +kernel
theorem dX12_init_173 : decode cX12_init 173 = .ok (.aload_n 0, 1) := by decide +kernel
theorem dX12_init_174 : decode cX12_init 174 = .ok (.sipush 200, 3) := by decide +kernel
theorem dX12_init_177 : decode cX12_init 177 = .ok (.newarray .boolean, 2) := by decide +kernel
theorem dX12_init_179 : decode cX12_init 179 = .ok (.putfield 91, 3) := by decide +kernel
theorem dX12_init_182 : decode cX12_init 182 = .ok (.aload_n 0, 1) := by decide +kernel
theorem dX12_init_183 : decode cX12_init 183 = .ok (.getfield 10, 3) := by decide +kernel
theorem dX12_init_186 : decode cX12_init 186 = .ok (.iconst 1, 1) := by decide +kernel
theorem dX12_init_187 : decode cX12_init 187 = .ok (.iconst (-1), 1) := by decide +kernel
theorem dX12_init_188 : decode cX12_init 188 = .ok (.iastore, 1) := by decide +kernel
theorem dX12_init_189 : decode cX12_init 189 = .ok (.aload_n 0, 1) := by decide +kernel
theorem dX12_init_190 : decode cX12_init 190 = .ok (.getfield 10, 3) := by decide +kernel
theorem dX12_init_193 : decode cX12_init 193 = .ok (.bipush 15, 2) := by decide +kernel
theorem dX12_init_195 : decode cX12_init 195 = .ok (.iconst (-1), 1) := by decide +kernel
theorem dX12_init_196 : decode cX12_init 196 = .ok (.iastore, 1) := by decide +kernel
theorem dX12_init_197 : decode cX12_init 197 = .ok (.aload_n 0, 1) := by decide +kernel
theorem dX12_init_198 : decode cX12_init 198 = .ok (.getfield 10, 3) := by decide +kernel
theorem dX12_init_201 : decode cX12_init 201 = .ok (.bipush 16, 2) := by decide +kernel
theorem dX12_init_203 : decode cX12_init 203 = .ok (.iconst (-1), 1) := by decide +kernel
theorem dX12_init_204 : decode cX12_init 204 = .ok (.iastore, 1) := by decide +kernel
theorem dX12_init_205 : decode cX12_init 205 = .ok (.iconst 0, 1) := by decide +kernel
theorem dX12_init_206 : decode cX12_init 206 = .ok (.istore_n 1, 1) := by decide +kernel

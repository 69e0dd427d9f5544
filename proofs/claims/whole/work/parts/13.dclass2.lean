theorem dX4_readNumber_33 : decode cX4_readNumber 33 = .ok (.istore_n 1, 1) := by decide +kernel
theorem dX4_readNumber_34 : decode cX4_readNumber 34 = .ok (.iload_n 1, 1) := by decide +kernel
theorem dX4_readNumber_35 : decode cX4_readNumber 35 = .ok (.ifCond .eq 13, 3) := by decide +kernel
theorem dX4_readNumber_38 : decode cX4_readNumber 38 = .ok (.aload_n 0, 1) := by decide +kernel
theorem dX4_readNumber_39 : decode cX4_readNumber 39 = .ok (.dup, 1) := by decide +kernel
theorem dX4_readNumber_40 : decode cX4_readNumber 40 = .ok (.getfield 25, 3) := by decide +kernel
theorem dX4_readNumber_43 : decode cX4_readNumber 43 = .ok (.iconst 1, 1) := by decide +kernel
theorem dX4_readNumber_44 : decode cX4_readNumber 44 = .ok (.iadd, 1) := by decide +kernel
theorem dX4_readNumber_45 : decode cX4_readNumber 45 = .ok (.putfield 25, 3) := by decide +kernel
theorem dX4_readNumber_48 : decode cX4_readNumber 48 = .ok (.aload_n 0, 1) := by decide +kernel
theorem dX4_readNumber_49 : decode cX4_readNumber 49 = .ok (.iconst 2, 1) := by decide +kernel
theorem dX4_readNumber_50 : decode cX4_readNumber 50 = .ok (.invokevirtual 97, 3) := by decide +kernel
theorem dX4_readNumber_53 : decode cX4_readNumber 53 = .ok (.istore_n 2, 1) := by decide +kernel
theorem dX4_readNumber_54 : decode cX4_readNumber 54 = .ok (.iload_n 1, 1) := by decide +kernel
theorem dX4_readNumber_55 : decode cX4_readNumber 55 = .ok (.ifCond .eq 8, 3) := by decide +kernel
theorem dX4_readNumber_58 : decode cX4_readNumber 58 = .ok (.iload_n 2, 1) := by decide +kernel
theorem dX4_readNumber_59 : decode cX4_readNumber 59 = .ok (.ineg, 1) := by decide +kernel
theorem dX4_readNumber_60 : decode cX4_readNumber 60 = .ok (.goto 4, 3) := by decide +kernel
theorem dX4_readNumber_63 : decode cX4_readNumber 63 = .ok (.iload_n 2, 1) := by decide +kernel
theorem dX4_readNumber_64 : decode cX4_readNumber 64 = .ok (.ireturn, 1) := by decide +kernel
theorem dX4_readStatement_0 : decode cX4_readStatement 0 = .ok (.aload_n 0, 1) := by decide +kernel
theorem dX4_readStatement_1 : decode cX4_readStatement 1 = .ok (.invokevirtual 42, 3) := by decide +kernel
theorem dX4_readStatement_4 : decode cX4_readStatement 4 = .ok (.istore_n 1, 1) := by decide +kernel
theorem dX4_readStatement_5 : decode cX4_readStatement 5 = .ok (.iload_n 1, 1) := by decide +kernel
theorem dX4_readStatement_6 : decode cX4_readStatement 6 = .ok (.bipush 8, 2) := by decide +kernel
theorem dX4_readStatement_8 : decode cX4_readStatement 8 = .ok (.if_icmp .ne 10, 3) := by decide +kernel
theorem dX4_readStatement_11 : decode cX4_readStatement 11 = .ok (.aload_n 0, 1) := by decide +kernel
theorem dX4_readStatement_12 : decode cX4_readStatement 12 = .ok (.invokevirtual 46, 3) := by decide +kernel
theorem dX4_readStatement_15 : decode cX4_readStatement 15 = .ok (.goto 17, 3) := by decide +kernel
theorem dX4_readStatement_18 : decode cX4_readStatement 18 = .ok (.aload_n 0, 1) := by decide +kernel
theorem dX4_readStatement_19 : decode cX4_readStatement 19 = .ok (.iload_n 1, 1) := by decide +kernel
theorem dX4_readStatement_20 : decode cX4_readStatement 20 = .ok (.iconst 4, 1) := by decide +kernel
theorem dX4_readStatement_21 : decode cX4_readStatement 21 = .ok (.if_icmp .gt 7, 3) := by decide +kernel
theorem dX4_readStatement_24 : decode cX4_readStatement 24 = .ok (.iconst 3, 1) := by decide +kernel
theorem dX4_readStatement_25 : decode cX4_readStatement 25 = .ok (.goto 4, 3) := by decide +kernel
theorem dX4_readStatement_28 : decode cX4_readStatement 28 = .ok (.iconst 4, 1) := by decide +kernel
theorem dX4_readStatement_29 : decode cX4_readStatement 29 = .ok (.invokevirtual 49, 3) := by decide +kernel
theorem dX4_readStatement_32 : decode cX4_readStatement 32 = .ok (.istore_n 2, 1) := by decide +kernel
theorem dX4_readStatement_33 : decode cX4_readStatement 33 = .ok (.iload_n 1, 1) := by decide +kernel
theorem dX4_readStatement_34 : decode cX4_readStatement 34 = .ok (.iconst 5, 1) := by decide +kernel
theorem dX4_readStatement_35 : decode cX4_readStatement 35 = .ok (.if_icmp .eq 15, 3) := by decide +kernel
theorem dX4_readStatement_38 : decode cX4_readStatement 38 = .ok (.iload_n 1, 1) := by decide +kernel
theorem dX4_readStatement_39 : decode cX4_readStatement 39 = .ok (.bipush 6, 2) := by decide +kernel
theorem dX4_readStatement_41 : decode cX4_readStatement 41 = .ok (.if_icmp .eq 9, 3) := by decide +kernel
theorem dX4_readStatement_44 : decode cX4_readStatement 44 = .ok (.iload_n 1, 1) := by decide +kernel
theorem dX4_readStatement_45 : decode cX4_readStatement 45 = .ok (.bipush 7, 2) := by decide +kernel
theorem dX4_readStatement_47 : decode cX4_readStatement 47 = .ok (.if_icmp .ne 10, 3) := by decide +kernel
theorem dX4_readStatement_50 : decode cX4_readStatement 50 = .ok (.aload_n 0, 1) := by decide +kernel
theorem dX4_readStatement_51 : decode cX4_readStatement 51 = .ok (.invokevirtual 52, 3) := by decide +kernel
theorem dX4_readStatement_54 : decode cX4_readStatement 54 = .ok (.goto 4, 3) := by decide +kernel
theorem dX4_readStatement_57 : decode cX4_readStatement 57 = .ok (.iconst 0, 1) := by decide +kernel
theorem dX4_readStatement_58 : decode cX4_readStatement 58 = .ok (.istore_n 3, 1) := by decide +kernel
theorem dX4_readStatement_59 : decode cX4_readStatement 59 = .ok (.iload_n 1, 1) := by decide +kernel
theorem dX4_readStatement_60 : decode cX4_readStatement 60 = .ok (.bipush 7, 2) := by decide +kernel
theorem dX4_readStatement_62 : decode cX4_readStatement 62 = .ok (.if_icmp .ne 10, 3) := by decide +kernel
theorem dX4_readStatement_65 : decode cX4_readStatement 65 = .ok (.aload_n 0, 1) := by decide +kernel
theorem dX4_readStatement_66 : decode cX4_readStatement 66 = .ok (.invokevirtual 46, 3) := by decide +kernel
theorem dX4_readStatement_69 : decode cX4_readStatement 69 = .ok (.goto 4, 3) := by decide +kernel
theorem dX4_readStatement_72 : decode cX4_readStatement 72 = .ok (.iconst 0, 1) := by decide +kernel
theorem dX4_readStatement_73 : decode cX4_readStatement 73 = .ok (.istore 4, 2) := by decide +kernel
theorem dX4_readStatement_75 : decode cX4_readStatement 75 = .ok (.aload_n 0, 1) := by decide +kernel
theorem dX4_readStatement_76 : decode cX4_readStatement 76 = .ok (.getfield 29, 3) := by decide +kernel
theorem dX4_readStatement_79 : decode cX4_readStatement 79 = .ok (.iconst (-1), 1) := by decide +kernel
theorem dX4_readStatement_80 : decode cX4_readStatement 80 = .ok (.if_icmp .ne 15, 3) := by decide +kernel
theorem dX4_readStatement_83 : decode cX4_readStatement 83 = .ok (.aload_n 0, 1) := by decide +kernel
theorem dX4_readStatement_84 : decode cX4_readStatement 84 = .ok (.getfield 21, 3) := by decide +kernel
theorem dX4_readStatement_87 : decode cX4_readStatement 87 = .ok (.iload_n 1, 1) := by decide +kernel
theorem dX4_readStatement_88 : decode cX4_readStatement 88 = .ok (.iload_n 2, 1) := by decide +kernel
theorem dX4_readStatement_89 : decode cX4_readStatement 89 = .ok (.iload_n 3, 1) := by decide +kernel
theorem dX4_readStatement_90 : decode cX4_readStatement 90 = .ok (.iload 4, 2) := by decide +kernel
theorem dX4_readStatement_92 : decode cX4_readStatement 92 = .ok (.invokevirtual 55, 3) := by decide +kernel
theorem dX4_readStatement_95 : decode cX4_readStatement 95 = .ok (.return_, 1) := by decide +kernel
theorem dX4_readTarget_0 : decode cX4_readTarget 0 = .ok (.aload_n 0, 1) := by decide +kernel
theorem dX4_readTarget_1 : decode cX4_readTarget 1 = .ok (.invokevirtual 94, 3) := by decide +kernel
theorem dX4_readTarget_4 : decode cX4_readTarget 4 = .ok (.aload_n 0, 1) := by decide +kernel
theorem dX4_readTarget_5 : decode cX4_readTarget 5 = .ok (.getfield 25, 3) := by decide +kernel
theorem dX4_readTarget_8 : decode cX4_readTarget 8 = .ok (.istore_n 1, 1) := by decide +kernel
theorem dX4_readTarget_9 : decode cX4_readTarget 9 = .ok (.aload_n 0, 1) := by decide +kernel
theorem dX4_readTarget_10 : decode cX4_readTarget 10 = .ok (.iconst 2, 1) := by decide +kernel
theorem dX4_readTarget_11 : decode cX4_readTarget 11 = .ok (.invokevirtual 97, 3) := by decide +kernel
theorem dX4_readTarget_14 : decode cX4_readTarget 14 = .ok (.istore_n 2, 1) := by decide +kernel
theorem dX4_readTarget_15 : decode cX4_readTarget 15 = .ok (.aload_n 0, 1) := by decide +kernel
theorem dX4_readTarget_16 : decode cX4_readTarget 16 = .ok (.iload_n 2, 1) := by decide +kernel
theorem dX4_readTarget_17 : decode cX4_readTarget 17 = .ok (.bipush 12, 2) := by decide +kernel
theorem dX4_readTarget_19 : decode cX4_readTarget 19 = .ok (.iload_n 1, 1) := by decide +kernel
theorem dX4_readTarget_20 : decode cX4_readTarget 20 = .ok (.invokevirtual 100, 3) := by decide +kernel
theorem dX4_readTarget_23 : decode cX4_readTarget 23 = .ok (.ireturn, 1) := by decide +kernel
theorem dX4_readWord_0 : decode cX4_readWord 0 = .ok (.aload_n 0, 1) := by decide +kernel
theorem dX4_readWord_1 : decode cX4_readWord 1 = .ok (.getfield 25, 3) := by decide +kernel
theorem dX4_readWord_4 : decode cX4_readWord 4 = .ok (.istore_n 1, 1) := by decide +kernel
theorem dX4_readWord_5 : decode cX4_readWord 5 = .ok (.iconst 0, 1) := by decide +kernel
theorem dX4_readWord_6 : decode cX4_readWord 6 = .ok (.istore_n 2, 1) := by decide +kernel
theorem dX4_readWord_7 : decode cX4_readWord 7 = .ok (.iload_n 2, 1) := by decide +kernel
theorem dX4_readWord_8 : decode cX4_readWord 8 = .ok (.bipush 120, 2) := by decide +kernel
theorem dX4_readWord_10 : decode cX4_readWord 10 = .ok (.if_icmp .ge 51, 3) := by decide +kernel
theorem dX4_readWord_13 : decode cX4_readWord 13 = .ok (.aload_n 0, 1) := by decide +kernel
theorem dX4_readWord_14 : decode cX4_readWord 14 = .ok (.getfield 12, 3) := by decide +kernel
theorem dX4_readWord_17 : decode cX4_readWord 17 = .ok (.aload_n 0, 1) := by decide +kernel
theorem dX4_readWord_18 : decode cX4_readWord 18 = .ok (.getfield 25, 3) := by decide +kernel
theorem dX4_readWord_21 : decode cX4_readWord 21 = .ok (.invokevirtual 38, 3) := by decide +kernel
theorem dX4_readWord_24 : decode cX4_readWord 24 = .ok (.bipush 97, 2) := by decide +kernel
theorem dX4_readWord_26 : decode cX4_readWord 26 = .ok (.if_icmp .lt 35, 3) := by decide +kernel
theorem dX4_readWord_29 : decode cX4_readWord 29 = .ok (.aload_n 0, 1) := by decide +kernel
theorem dX4_readWord_30 : decode cX4_readWord 30 = .ok (.getfield 12, 3) := by decide +kernel
theorem dX4_readWord_33 : decode cX4_readWord 33 = .ok (.aload_n 0, 1) := by decide +kernel
theorem dX4_readWord_34 : decode cX4_readWord 34 = .ok (.getfield 25, 3) := by decide +kernel
theorem dX4_readWord_37 : decode cX4_readWord 37 = .ok (.invokevirtual 38, 3) := by decide +kernel
theorem dX4_readWord_40 : decode cX4_readWord 40 = .ok (.bipush 122, 2) := by decide +kernel
theorem dX4_readWord_42 : decode cX4_readWord 42 = .ok (.if_icmp .gt 19, 3) := by decide +kernel
theorem dX4_readWord_45 : decode cX4_readWord 45 = .ok (.aload_n 0, 1) := by decide +kernel
theorem dX4_readWord_46 : decode cX4_readWord 46 = .ok (.dup, 1) := by decide +kernel
theorem dX4_readWord_47 : decode cX4_readWord 47 = .ok (.getfield 25, 3) := by decide +kernel
theorem dX4_readWord_50 : decode cX4_readWord 50 = .ok (.iconst 1, 1) := by decide +kernel
theorem dX4_readWord_51 : decode cX4_readWord 51 = .ok (.iadd, 1) := by decide +kernel
theorem dX4_readWord_52 : decode cX4_readWord 52 = .ok (.putfield 25, 3) := by decide +kernel
theorem dX4_readWord_55 : decode cX4_readWord 55 = .ok (.iinc 2 1, 3) := by decide +kernel
theorem dX4_readWord_58 : decode cX4_readWord 58 = .ok (.goto (-51), 3) := by decide +kernel
theorem dX4_readWord_61 : decode cX4_readWord 61 = .ok (.iconst 0, 1) := by decide +kernel
theorem dX4_readWord_62 : decode cX4_readWord 62 = .ok (.istore_n 2, 1) := by decide +kernel
theorem dX4_readWord_63 : decode cX4_readWord 63 = .ok (.iload_n 2, 1) := by decide +kernel
theorem dX4_readWord_64 : decode cX4_readWord 64 = .ok (.bipush 9, 2) := by decide +kernel
theorem dX4_readWord_66 : decode cX4_readWord 66 = .ok (.if_icmp .ge 23, 3) := by decide +kernel
theorem dX4_readWord_69 : decode cX4_readWord 69 = .ok (.aload_n 0, 1) := by decide +kernel
theorem dX4_readWord_70 : decode cX4_readWord 70 = .ok (.iload_n 2, 1) := by decide +kernel
theorem dX4_readWord_71 : decode cX4_readWord 71 = .ok (.invokestatic 59, 3) := by decide +kernel
theorem dX4_readWord_74 : decode cX4_readWord 74 = .ok (.iload_n 1, 1) := by decide +kernel
theorem dX4_readWord_75 : decode cX4_readWord 75 = .ok (.invokevirtual 63, 3) := by decide +kernel
theorem dX4_readWord_78 : decode cX4_readWord 78 = .ok (.ifCond .eq 5, 3) := by decide +kernel
theorem dX4_readWord_81 : decode cX4_readWord 81 = .ok (.iload_n 2, 1) := by decide +kernel
theorem dX4_readWord_82 : decode cX4_readWord 82 = .ok (.ireturn, 1) := by decide +kernel
theorem dX4_readWord_83 : decode cX4_readWord 83 = .ok (.iinc 2 1, 3) := by decide +kernel
theorem dX4_readWord_86 : decode cX4_readWord 86 = .ok (.goto (-23), 3) := by decide +kernel
theorem dX4_readWord_89 : decode cX4_readWord 89 = .ok (.aload_n 0, 1) := by decide +kernel
theorem dX4_readWord_90 : decode cX4_readWord 90 = .ok (.iload_n 1, 1) := by decide +kernel
theorem dX4_readWord_91 : decode cX4_readWord 91 = .ok (.putfield 29, 3) := by decide +kernel
theorem dX4_readWord_94 : decode cX4_readWord 94 = .ok (.iconst (-1), 1) := by decide +kernel
theorem dX4_readWord_95 : decode cX4_readWord 95 = .ok (.ireturn, 1) := by decide +kernel
theorem dX4_takeFigures_0 : decode cX4_takeFigures 0 = .ok (.aload_n 0, 1) := by decide +kernel
theorem dX4_takeFigures_1 : decode cX4_takeFigures 1 = .ok (.getfield 25, 3) := by decide +kernel
theorem dX4_takeFigures_4 : decode cX4_takeFigures 4 = .ok (.istore_n 2, 1) := by decide +kernel
theorem dX4_takeFigures_5 : decode cX4_takeFigures 5 = .ok (.iconst 0, 1) := by decide +kernel
theorem dX4_takeFigures_6 : decode cX4_takeFigures 6 = .ok (.istore_n 3, 1) := by decide +kernel
theorem dX4_takeFigures_7 : decode cX4_takeFigures 7 = .ok (.iconst 0, 1) := by decide +kernel
theorem dX4_takeFigures_8 : decode cX4_takeFigures 8 = .ok (.istore 4, 2) := by decide +kernel
theorem dX4_takeFigures_10 : decode cX4_takeFigures 10 = .ok (.iload 4, 2) := by decide +kernel
theorem dX4_takeFigures_12 : decode cX4_takeFigures 12 = .ok (.iload_n 1, 1) := by decide +kernel
theorem dX4_takeFigures_13 : decode cX4_takeFigures 13 = .ok (.if_icmp .ge 79, 3) := by decide +kernel
theorem dX4_takeFigures_16 : decode cX4_takeFigures 16 = .ok (.aload_n 0, 1) := by decide +kernel
theorem dX4_takeFigures_17 : decode cX4_takeFigures 17 = .ok (.getfield 29, 3) := by decide +kernel
theorem dX4_takeFigures_20 : decode cX4_takeFigures 20 = .ok (.iconst (-1), 1) := by decide +kernel
theorem dX4_takeFigures_21 : decode cX4_takeFigures 21 = .ok (.if_icmp .ne 71, 3) := by decide +kernel
theorem dX4_takeFigures_24 : decode cX4_takeFigures 24 = .ok (.aload_n 0, 1) := by decide +kernel
theorem dX4_takeFigures_25 : decode cX4_takeFigures 25 = .ok (.getfield 12, 3) := by decide +kernel
theorem dX4_takeFigures_28 : decode cX4_takeFigures 28 = .ok (.aload_n 0, 1) := by decide +kernel
theorem dX4_takeFigures_29 : decode cX4_takeFigures 29 = .ok (.getfield 25, 3) := by decide +kernel
theorem dX4_takeFigures_32 : decode cX4_takeFigures 32 = .ok (.invokevirtual 38, 3) := by decide +kernel
theorem dX4_takeFigures_35 : decode cX4_takeFigures 35 = .ok (.bipush 48, 2) := by decide +kernel
theorem dX4_takeFigures_37 : decode cX4_takeFigures 37 = .ok (.if_icmp .lt 55, 3) := by decide +kernel
theorem dX4_takeFigures_40 : decode cX4_takeFigures 40 = .ok (.aload_n 0, 1) := by decide +kernel
theorem dX4_takeFigures_41 : decode cX4_takeFigures 41 = .ok (.getfield 12, 3) := by decide +kernel
theorem dX4_takeFigures_44 : decode cX4_takeFigures 44 = .ok (.aload_n 0, 1) := by decide +kernel
theorem dX4_takeFigures_45 : decode cX4_takeFigures 45 = .ok (.getfield 25, 3) := by decide +kernel
theorem dX4_takeFigures_48 : decode cX4_takeFigures 48 = .ok (.invokevirtual 38, 3) := by decide +kernel
theorem dX4_takeFigures_51 : decode cX4_takeFigures 51 = .ok (.bipush 57, 2) := by decide +kernel
theorem dX4_takeFigures_53 : decode cX4_takeFigures 53 = .ok (.if_icmp .gt 39, 3) := by decide +kernel
theorem dX4_takeFigures_56 : decode cX4_takeFigures 56 = .ok (.iload_n 3, 1) := by decide +kernel
theorem dX4_takeFigures_57 : decode cX4_takeFigures 57 = .ok (.bipush 10, 2) := by decide +kernel
theorem dX4_takeFigures_59 : decode cX4_takeFigures 59 = .ok (.imul, 1) := by decide +kernel
theorem dX4_takeFigures_60 : decode cX4_takeFigures 60 = .ok (.aload_n 0, 1) := by decide +kernel
theorem dX4_takeFigures_61 : decode cX4_takeFigures 61 = .ok (.getfield 12, 3) := by decide +kernel
theorem dX4_takeFigures_64 : decode cX4_takeFigures 64 = .ok (.aload_n 0, 1) := by decide +kernel
theorem dX4_takeFigures_65 : decode cX4_takeFigures 65 = .ok (.getfield 25, 3) := by decide +kernel
theorem dX4_takeFigures_68 : decode cX4_takeFigures 68 = .ok (.invokevirtual 38, 3) := by decide +kernel
theorem dX4_takeFigures_71 : decode cX4_takeFigures 71 = .ok (.iadd, 1) := by decide +kernel
theorem dX4_takeFigures_72 : decode cX4_takeFigures 72 = .ok (.bipush 48, 2) := by decide +kernel
theorem dX4_takeFigures_74 : decode cX4_takeFigures 74 = .ok (.isub, 1) := by decide +kernel
theorem dX4_takeFigures_75 : decode cX4_takeFigures 75 = .ok (.istore_n 3, 1) := by decide +kernel
theorem dX4_takeFigures_76 : decode cX4_takeFigures 76 = .ok (.aload_n 0, 1) := by decide +kernel
theorem dX4_takeFigures_77 : decode cX4_takeFigures 77 = .ok (.dup, 1) := by decide +kernel
theorem dX4_takeFigures_78 : decode cX4_takeFigures 78 = .ok (.getfield 25, 3) := by decide +kernel
theorem dX4_takeFigures_81 : decode cX4_takeFigures 81 = .ok (.iconst 1, 1) := by decide +kernel
theorem dX4_takeFigures_82 : decode cX4_takeFigures 82 = .ok (.iadd, 1) := by decide +kernel
theorem dX4_takeFigures_83 : decode cX4_takeFigures 83 = .ok (.putfield 25, 3) := by decide +kernel
theorem dX4_takeFigures_86 : decode cX4_takeFigures 86 = .ok (.iinc 4 1, 3) := by decide +kernel
theorem dX4_takeFigures_89 : decode cX4_takeFigures 89 = .ok (.goto (-79), 3) := by decide +kernel
theorem dX4_takeFigures_92 : decode cX4_takeFigures 92 = .ok (.aload_n 0, 1) := by decide +kernel
theorem dX4_takeFigures_93 : decode cX4_takeFigures 93 = .ok (.getfield 25, 3) := by decide +kernel
theorem dX4_takeFigures_96 : decode cX4_takeFigures 96 = .ok (.iload_n 2, 1) := by decide +kernel
theorem dX4_takeFigures_97 : decode cX4_takeFigures 97 = .ok (.if_icmp .ne 19, 3) := by decide +kernel
theorem dX4_takeFigures_100 : decode cX4_takeFigures 100 = .ok (.aload_n 0, 1) := by decide +kernel
theorem dX4_takeFigures_101 : decode cX4_takeFigures 101 = .ok (.getfield 29, 3) := by decide +kernel
theorem dX4_takeFigures_104 : decode cX4_takeFigures 104 = .ok (.iconst (-1), 1) := by decide +kernel
theorem dX4_takeFigures_105 : decode cX4_takeFigures 105 = .ok (.if_icmp .ne 11, 3) := by decide +kernel
theorem dX4_takeFigures_108 : decode cX4_takeFigures 108 = .ok (.aload_n 0, 1) := by decide +kernel
theorem dX4_takeFigures_109 : decode cX4_takeFigures 109 = .ok (.aload_n 0, 1) := by decide +kernel
theorem dX4_takeFigures_110 : decode cX4_takeFigures 110 = .ok (.getfield 25, 3) := by decide +kernel
theorem dX4_takeFigures_113 : decode cX4_takeFigures 113 = .ok (.putfield 29, 3) := by decide +kernel
theorem dX4_takeFigures_116 : decode cX4_takeFigures 116 = .ok (.iload_n 3, 1) := by decide +kernel
theorem dX4_takeFigures_117 : decode cX4_takeFigures 117 = .ok (.ireturn, 1) := by decide +kernel
theorem dX4_wordOf_0 : decode cX4_wordOf 0 = .ok (.iload_n 0, 1) := by decide +kernel
theorem dX4_wordOf_1 : decode cX4_wordOf 1 = .ok (.tableswitch 71 0 7 #[47, 50, 53, 56, 59, 62, 65, 68], 47) := by decide +kernel
theorem dX4_wordOf_48 : decode cX4_wordOf 48 = .ok (.ldc 76, 2) := by decide +kernel
theorem dX4_wordOf_50 : decode cX4_wordOf 50 = .ok (.areturn, 1) := by decide +kernel
theorem dX4_wordOf_51 : decode cX4_wordOf 51 = .ok (.ldc 78, 2) := by decide +kernel
theorem dX4_wordOf_53 : decode cX4_wordOf 53 = .ok (.areturn, 1) := by decide +kernel
theorem dX4_wordOf_54 : decode cX4_wordOf 54 = .ok (.ldc 80, 2) := by decide +kernel
theorem dX4_wordOf_56 : decode cX4_wordOf 56 = .ok (.areturn, 1) := by decide +kernel
theorem dX4_wordOf_57 : decode cX4_wordOf 57 = .ok (.ldc 82, 2) := by decide +kernel
theorem dX4_wordOf_59 : decode cX4_wordOf 59 = .ok (.areturn, 1) := by decide +kernel
theorem dX4_wordOf_60 : decode cX4_wordOf 60 = .ok (.ldc 84, 2) := by decide +kernel
theorem dX4_wordOf_62 : decode cX4_wordOf 62 = .ok (.areturn, 1) := by decide +kernel
theorem dX4_wordOf_63 : decode cX4_wordOf 63 = .ok (.ldc 86, 2) := by decide +kernel
theorem dX4_wordOf_65 : decode cX4_wordOf 65 = .ok (.areturn, 1) := by decide +kernel
theorem dX4_wordOf_66 : decode cX4_wordOf 66 = .ok (.ldc 88, 2) := by decide +kernel
theorem dX4_wordOf_68 : decode cX4_wordOf 68 = .ok (.areturn, 1) := by decide +kernel
theorem dX4_wordOf_69 : decode cX4_wordOf 69 = .ok (.ldc 90, 2) := by decide +kernel
theorem dX4_wordOf_71 : decode cX4_wordOf 71 = .ok (.areturn, 1) := by decide +kernel
theorem dX4_wordOf_72 : decode cX4_wordOf 72 = .ok (.ldc 92, 2) := by decide +kernel
theorem dX4_wordOf_74 : decode cX4_wordOf 74 = .ok (.areturn, 1) := by decide +kernel
theorem dX5_at_0 : decode cX5_at 0 = .ok (.iload_n 1, 1) := by decide +kernel
theorem dX5_at_1 : decode cX5_at 1 = .ok (.ifCond .lt 8, 3) := by decide +kernel
theorem dX5_at_4 : decode cX5_at 4 = .ok (.iload_n 1, 1) := by decide +kernel
theorem dX5_at_5 : decode cX5_at 5 = .ok (.iconst 4, 1) := by decide +kernel
theorem dX5_at_6 : decode cX5_at 6 = .ok (.if_icmp .lt 7, 3) := by decide +kernel
theorem dX5_at_9 : decode cX5_at 9 = .ok (.iconst (-1), 1) := by decide +kernel
theorem dX5_at_10 : decode cX5_at 10 = .ok (.goto 13, 3) := by decide +kernel
theorem dX5_at_13 : decode cX5_at 13 = .ok (.iload_n 0, 1) := by decide +kernel
theorem dX5_at_14 : decode cX5_at 14 = .ok (.iconst 3, 1) := by decide +kernel
theorem dX5_at_15 : decode cX5_at 15 = .ok (.iload_n 1, 1) := by decide +kernel
theorem dX5_at_16 : decode cX5_at 16 = .ok (.imul, 1) := by decide +kernel
theorem dX5_at_17 : decode cX5_at 17 = .ok (.iushr, 1) := by decide +kernel
theorem dX5_at_18 : decode cX5_at 18 = .ok (.bipush 7, 2) := by decide +kernel
theorem dX5_at_20 : decode cX5_at 20 = .ok (.iand, 1) := by decide +kernel
theorem dX5_at_21 : decode cX5_at 21 = .ok (.iconst 1, 1) := by decide +kernel
theorem dX5_at_22 : decode cX5_at 22 = .ok (.isub, 1) := by decide +kernel
theorem dX5_at_23 : decode cX5_at 23 = .ok (.ireturn, 1) := by decide +kernel
theorem dX5_has_0 : decode cX5_has 0 = .ok (.iconst 0, 1) := by decide +kernel
theorem dX5_has_1 : decode cX5_has 1 = .ok (.istore_n 2, 1) := by decide +kernel
theorem dX5_has_2 : decode cX5_has 2 = .ok (.iload_n 2, 1) := by decide +kernel
theorem dX5_has_3 : decode cX5_has 3 = .ok (.iconst 4, 1) := by decide +kernel
theorem dX5_has_4 : decode cX5_has 4 = .ok (.if_icmp .ge 25, 3) := by decide +kernel
theorem dX5_has_7 : decode cX5_has 7 = .ok (.iload_n 0, 1) := by decide +kernel
theorem dX5_has_8 : decode cX5_has 8 = .ok (.iconst 3, 1) := by decide +kernel
theorem dX5_has_9 : decode cX5_has 9 = .ok (.iload_n 2, 1) := by decide +kernel
theorem dX5_has_10 : decode cX5_has 10 = .ok (.imul, 1) := by decide +kernel
theorem dX5_has_11 : decode cX5_has 11 = .ok (.iushr, 1) := by decide +kernel
theorem dX5_has_12 : decode cX5_has 12 = .ok (.bipush 7, 2) := by decide +kernel
theorem dX5_has_14 : decode cX5_has 14 = .ok (.iand, 1) := by decide +kernel
theorem dX5_has_15 : decode cX5_has 15 = .ok (.iload_n 1, 1) := by decide +kernel
theorem dX5_has_16 : decode cX5_has 16 = .ok (.iconst 1, 1) := by decide +kernel
theorem dX5_has_17 : decode cX5_has 17 = .ok (.iadd, 1) := by decide +kernel
theorem dX5_has_18 : decode cX5_has 18 = .ok (.if_icmp .ne 5, 3) := by decide +kernel
theorem dX5_has_21 : decode cX5_has 21 = .ok (.iconst 1, 1) := by decide +kernel
theorem dX5_has_22 : decode cX5_has 22 = .ok (.ireturn, 1) := by decide +kernel
theorem dX5_has_23 : decode cX5_has 23 = .ok (.iinc 2 1, 3) := by decide +kernel
theorem dX5_has_26 : decode cX5_has 26 = .ok (.goto (-24), 3) := by decide +kernel
theorem dX5_has_29 : decode cX5_has 29 = .ok (.iconst 0, 1) := by decide +kernel
theorem dX5_has_30 : decode cX5_has 30 = .ok (.ireturn, 1) := by decide +kernel
theorem dX5_length_0 : decode cX5_length 0 = .ok (.iconst 0, 1) := by decide +kernel
theorem dX5_length_1 : decode cX5_length 1 = .ok (.istore_n 1, 1) := by decide +kernel
theorem dX5_length_2 : decode cX5_length 2 = .ok (.iconst 0, 1) := by decide +kernel
theorem dX5_length_3 : decode cX5_length 3 = .ok (.istore_n 2, 1) := by decide +kernel
theorem dX5_length_4 : decode cX5_length 4 = .ok (.iload_n 2, 1) := by decide +kernel
theorem dX5_length_5 : decode cX5_length 5 = .ok (.iconst 4, 1) := by decide +kernel
theorem dX5_length_6 : decode cX5_length 6 = .ok (.if_icmp .ge 23, 3) := by decide +kernel
theorem dX5_length_9 : decode cX5_length 9 = .ok (.iload_n 0, 1) := by decide +kernel
theorem dX5_length_10 : decode cX5_length 10 = .ok (.iconst 3, 1) := by decide +kernel
theorem dX5_length_11 : decode cX5_length 11 = .ok (.iload_n 2, 1) := by decide +kernel
theorem dX5_length_12 : decode cX5_length 12 = .ok (.imul, 1) := by decide +kernel
theorem dX5_length_13 : decode cX5_length 13 = .ok (.iushr, 1) := by decide +kernel
theorem dX5_length_14 : decode cX5_length 14 = .ok (.bipush 7, 2) := by decide +kernel
theorem dX5_length_16 : decode cX5_length 16 = .ok (.iand, 1) := by decide +kernel
theorem dX5_length_17 : decode cX5_length 17 = .ok (.ifCond .eq 6, 3) := by decide +kernel
theorem dX5_length_20 : decode cX5_length 20 = .ok (.iinc 1 1, 3) := by decide +kernel
theorem dX5_length_23 : decode cX5_length 23 = .ok (.iinc 2 1, 3) := by decide +kernel
theorem dX5_length_26 : decode cX5_length 26 = .ok (.goto (-22), 3) := by decide +kernel
theorem dX5_length_29 : decode cX5_length 29 = .ok (.iload_n 1, 1) := by decide +kernel
theorem dX5_length_30 : decode cX5_length 30 = .ok (.ireturn, 1) := by decide +kernel
theorem dX5_withLast_0 : decode cX5_withLast 0 = .ok (.iconst 0, 1) := by decide +kernel
theorem dX5_withLast_1 : decode cX5_withLast 1 = .ok (.istore_n 2, 1) := by decide +kernel
theorem dX5_withLast_2 : decode cX5_withLast 2 = .ok (.iload_n 2, 1) := by decide +kernel
theorem dX5_withLast_3 : decode cX5_withLast 3 = .ok (.bipush 12, 2) := by decide +kernel
theorem dX5_withLast_5 : decode cX5_withLast 5 = .ok (.if_icmp .ge 26, 3) := by decide +kernel
theorem dX5_withLast_8 : decode cX5_withLast 8 = .ok (.iload_n 0, 1) := by decide +kernel
theorem dX5_withLast_9 : decode cX5_withLast 9 = .ok (.iload_n 2, 1) := by decide +kernel
theorem dX5_withLast_10 : decode cX5_withLast 10 = .ok (.iushr, 1) := by decide +kernel
theorem dX5_withLast_11 : decode cX5_withLast 11 = .ok (.bipush 7, 2) := by decide +kernel
theorem dX5_withLast_13 : decode cX5_withLast 13 = .ok (.iand, 1) := by decide +kernel
theorem dX5_withLast_14 : decode cX5_withLast 14 = .ok (.ifCond .ne 11, 3) := by decide +kernel
theorem dX5_withLast_17 : decode cX5_withLast 17 = .ok (.iload_n 0, 1) := by decide +kernel
theorem dX5_withLast_18 : decode cX5_withLast 18 = .ok (.iload_n 1, 1) := by decide +kernel
theorem dX5_withLast_19 : decode cX5_withLast 19 = .ok (.iconst 1, 1) := by decide +kernel
theorem dX5_withLast_20 : decode cX5_withLast 20 = .ok (.iadd, 1) := by decide +kernel
theorem dX5_withLast_21 : decode cX5_withLast 21 = .ok (.iload_n 2, 1) := by decide +kernel
theorem dX5_withLast_22 : decode cX5_withLast 22 = .ok (.ishl, 1) := by decide +kernel
theorem dX5_withLast_23 : decode cX5_withLast 23 = .ok (.ior, 1) := by decide +kernel
theorem dX5_withLast_24 : decode cX5_withLast 24 = .ok (.ireturn, 1) := by decide +kernel
theorem dX5_withLast_25 : decode cX5_withLast 25 = .ok (.iinc 2 3, 3) := by decide +kernel
theorem dX5_withLast_28 : decode cX5_withLast 28 = .ok (.goto (-26), 3) := by decide +kernel
theorem dX5_withLast_31 : decode cX5_withLast 31 = .ok (.iload_n 0, 1) := by decide +kernel
theorem dX5_withLast_32 : decode cX5_withLast 32 = .ok (.ireturn, 1) := by decide +kernel
theorem dX5_withoutFirst_0 : decode cX5_withoutFirst 0 = .ok (.iload_n 0, 1) := by decide +kernel
theorem dX5_withoutFirst_1 : decode cX5_withoutFirst 1 = .ok (.iconst 3, 1) := by decide +kernel
theorem dX5_withoutFirst_2 : decode cX5_withoutFirst 2 = .ok (.iushr, 1) := by decide +kernel
theorem dX5_withoutFirst_3 : decode cX5_withoutFirst 3 = .ok (.ireturn, 1) := by decide +kernel
theorem dX6_begin_0 : decode cX6_begin 0 = .ok (.aload_n 0, 1) := by decide +kernel
theorem dX6_begin_1 : decode cX6_begin 1 = .ok (.getfield 18, 3) := by decide +kernel
theorem dX6_begin_4 : decode cX6_begin 4 = .ok (.aload_n 1, 1) := by decide +kernel
theorem dX6_begin_5 : decode cX6_begin 5 = .ok (.invokevirtual 96, 3) := by decide +kernel
theorem dX6_begin_8 : decode cX6_begin 8 = .ok (.aload_n 0, 1) := by decide +kernel
theorem dX6_begin_9 : decode cX6_begin 9 = .ok (.getfield 25, 3) := by decide +kernel
theorem dX6_begin_12 : decode cX6_begin 12 = .ok (.invokevirtual 99, 3) := by decide +kernel
theorem dX6_begin_15 : decode cX6_begin 15 = .ok (.aload_n 0, 1) := by decide +kernel
theorem dX6_begin_16 : decode cX6_begin 16 = .ok (.getfield 42, 3) := by decide +kernel
theorem dX6_begin_19 : decode cX6_begin 19 = .ok (.iconst 0, 1) := by decide +kernel
theorem dX6_begin_20 : decode cX6_begin 20 = .ok (.invokestatic 102, 3) := by decide +kernel
theorem dX6_begin_23 : decode cX6_begin 23 = .ok (.aload_n 0, 1) := by decide +kernel
theorem dX6_begin_24 : decode cX6_begin 24 = .ok (.iconst 1, 1) := by decide +kernel
theorem dX6_begin_25 : decode cX6_begin 25 = .ok (.putfield 45, 3) := by decide +kernel
theorem dX6_begin_28 : decode cX6_begin 28 = .ok (.aload_n 0, 1) := by decide +kernel
theorem dX6_begin_29 : decode cX6_begin 29 = .ok (.iconst 0, 1) := by decide +kernel
theorem dX6_begin_30 : decode cX6_begin 30 = .ok (.putfield 48, 3) := by decide +kernel
theorem dX6_begin_33 : decode cX6_begin 33 = .ok (.aload_n 0, 1) := by decide +kernel
theorem dX6_begin_34 : decode cX6_begin 34 = .ok (.iconst (-1), 1) := by decide +kernel
theorem dX6_begin_35 : decode cX6_begin 35 = .ok (.putfield 51, 3) := by decide +kernel
theorem dX6_begin_38 : decode cX6_begin 38 = .ok (.aload_n 0, 1) := by decide +kernel
theorem dX6_begin_39 : decode cX6_begin 39 = .ok (.iconst (-1), 1) := by decide +kernel
theorem dX6_begin_40 : decode cX6_begin 40 = .ok (.putfield 55, 3) := by decide +kernel
theorem dX6_begin_43 : decode cX6_begin 43 = .ok (.aload_n 0, 1) := by decide +kernel
theorem dX6_begin_44 : decode cX6_begin 44 = .ok (.iconst 0, 1) := by decide +kernel
theorem dX6_begin_45 : decode cX6_begin 45 = .ok (.putfield 58, 3) := by decide +kernel
theorem dX6_begin_48 : decode cX6_begin 48 = .ok (.aload_n 0, 1) := by decide +kernel
theorem dX6_begin_49 : decode cX6_begin 49 = .ok (.iconst 0, 1) := by decide +kernel
theorem dX6_begin_50 : decode cX6_begin 50 = .ok (.putfield 61, 3) := by decide +kernel
theorem dX6_begin_53 : decode cX6_begin 53 = .ok (.aload_n 0, 1) := by decide +kernel
theorem dX6_begin_54 : decode cX6_begin 54 = .ok (.iconst 0, 1) := by decide +kernel
theorem dX6_begin_55 : decode cX6_begin 55 = .ok (.putfield 64, 3) := by decide +kernel
theorem dX6_begin_58 : decode cX6_begin 58 = .ok (.return_, 1) := by decide +kernel
theorem dX6_cellOfOutcome_0 : decode cX6_cellOfOutcome 0 = .ok (.iload_n 1, 1) := by decide +kernel
theorem dX6_cellOfOutcome_1 : decode cX6_cellOfOutcome 1 = .ok (.ifCond .lt 11, 3) := by decide +kernel
theorem dX6_cellOfOutcome_4 : decode cX6_cellOfOutcome 4 = .ok (.iload_n 1, 1) := by decide +kernel
theorem dX6_cellOfOutcome_5 : decode cX6_cellOfOutcome 5 = .ok (.aload_n 0, 1) := by decide +kernel
theorem dX6_cellOfOutcome_6 : decode cX6_cellOfOutcome 6 = .ok (.getfield 64, 3) := by decide +kernel
theorem dX6_cellOfOutcome_9 : decode cX6_cellOfOutcome 9 = .ok (.if_icmp .lt 8, 3) := by decide +kernel
theorem dX6_cellOfOutcome_12 : decode cX6_cellOfOutcome 12 = .ok (.bipush (-100), 2) := by decide +kernel
theorem dX6_cellOfOutcome_14 : decode cX6_cellOfOutcome 14 = .ok (.goto 13, 3) := by decide +kernel
theorem dX6_cellOfOutcome_17 : decode cX6_cellOfOutcome 17 = .ok (.aload_n 0, 1) := by decide +kernel
theorem dX6_cellOfOutcome_18 : decode cX6_cellOfOutcome 18 = .ok (.getfield 39, 3) := by decide +kernel
theorem dX6_cellOfOutcome_21 : decode cX6_cellOfOutcome 21 = .ok (.iload_n 1, 1) := by decide +kernel
theorem dX6_cellOfOutcome_22 : decode cX6_cellOfOutcome 22 = .ok (.iaload, 1) := by decide +kernel
theorem dX6_cellOfOutcome_23 : decode cX6_cellOfOutcome 23 = .ok (.iload_n 2, 1) := by decide +kernel
theorem dX6_cellOfOutcome_24 : decode cX6_cellOfOutcome 24 = .ok (.invokestatic 151, 3) := by decide +kernel
theorem dX6_cellOfOutcome_27 : decode cX6_cellOfOutcome 27 = .ok (.ireturn, 1) := by decide +kernel
theorem dX6_depthOf_0 : decode cX6_depthOf 0 = .ok (.aload_n 0, 1) := by decide +kernel
theorem dX6_depthOf_1 : decode cX6_depthOf 1 = .ok (.iload_n 1, 1) := by decide +kernel
theorem dX6_depthOf_2 : decode cX6_depthOf 2 = .ok (.invokevirtual 147, 3) := by decide +kernel
theorem dX6_depthOf_5 : decode cX6_depthOf 5 = .ok (.ifCond .eq 12, 3) := by decide +kernel
theorem dX6_depthOf_8 : decode cX6_depthOf 8 = .ok (.aload_n 0, 1) := by decide +kernel
theorem dX6_depthOf_9 : decode cX6_depthOf 9 = .ok (.getfield 36, 3) := by decide +kernel
theorem dX6_depthOf_12 : decode cX6_depthOf 12 = .ok (.iload_n 1, 1) := by decide +kernel
theorem dX6_depthOf_13 : decode cX6_depthOf 13 = .ok (.iaload, 1) := by decide +kernel
theorem dX6_depthOf_14 : decode cX6_depthOf 14 = .ok (.goto 5, 3) := by decide +kernel
theorem dX6_depthOf_17 : decode cX6_depthOf 17 = .ok (.bipush (-5), 2) := by decide +kernel
theorem dX6_depthOf_19 : decode cX6_depthOf 19 = .ok (.ireturn, 1) := by decide +kernel
theorem dX6_explore_0 : decode cX6_explore 0 = .ok (.aload_n 0, 1) := by decide +kernel
theorem dX6_explore_1 : decode cX6_explore 1 = .ok (.getfield 9, 3) := by decide +kernel
theorem dX6_explore_4 : decode cX6_explore 4 = .ok (.ifCond .eq 4, 3) := by decide +kernel
theorem dX6_explore_7 : decode cX6_explore 7 = .ok (.return_, 1) := by decide +kernel
theorem dX6_explore_8 : decode cX6_explore 8 = .ok (.aload_n 0, 1) := by decide +kernel
theorem dX6_explore_9 : decode cX6_explore 9 = .ok (.aload_n 1, 1) := by decide +kernel
theorem dX6_explore_10 : decode cX6_explore 10 = .ok (.invokevirtual 67, 3) := by decide +kernel
theorem dX6_explore_13 : decode cX6_explore 13 = .ok (.aload_n 0, 1) := by decide +kernel
theorem dX6_explore_14 : decode cX6_explore 14 = .ok (.aload_n 0, 1) := by decide +kernel
theorem dX6_explore_15 : decode cX6_explore 15 = .ok (.getfield 25, 3) := by decide +kernel
theorem dX6_explore_18 : decode cX6_explore 18 = .ok (.aload_n 0, 1) := by decide +kernel
theorem dX6_explore_19 : decode cX6_explore 19 = .ok (.getfield 18, 3) := by decide +kernel
theorem dX6_explore_22 : decode cX6_explore 22 = .ok (.invokevirtual 71, 3) := by decide +kernel
theorem dX6_explore_25 : decode cX6_explore 25 = .ok (.iconst 0, 1) := by decide +kernel
theorem dX6_explore_26 : decode cX6_explore 26 = .ok (.iconst (-1), 1) := by decide +kernel
theorem dX6_explore_27 : decode cX6_explore 27 = .ok (.aload_n 2, 1) := by decide +kernel
theorem dX6_explore_28 : decode cX6_explore 28 = .ok (.invokevirtual 75, 3) := by decide +kernel
theorem dX6_explore_31 : decode cX6_explore 31 = .ok (.iconst 0, 1) := by decide +kernel
theorem dX6_explore_32 : decode cX6_explore 32 = .ok (.istore_n 3, 1) := by decide +kernel
theorem dX6_explore_33 : decode cX6_explore 33 = .ok (.iload_n 3, 1) := by decide +kernel
theorem dX6_explore_34 : decode cX6_explore 34 = .ok (.sipush 600, 3) := by decide +kernel
theorem dX6_explore_37 : decode cX6_explore 37 = .ok (.if_icmp .ge 108, 3) := by decide +kernel
theorem dX6_explore_40 : decode cX6_explore 40 = .ok (.iload_n 3, 1) := by decide +kernel
theorem dX6_explore_41 : decode cX6_explore 41 = .ok (.aload_n 0, 1) := by decide +kernel
theorem dX6_explore_42 : decode cX6_explore 42 = .ok (.getfield 25, 3) := by decide +kernel
theorem dX6_explore_45 : decode cX6_explore 45 = .ok (.getfield 79, 3) := by decide +kernel
theorem dX6_explore_48 : decode cX6_explore 48 = .ok (.if_icmp .ge 97, 3) := by decide +kernel
theorem dX6_explore_51 : decode cX6_explore 51 = .ok (.aload_n 0, 1) := by decide +kernel
theorem dX6_explore_52 : decode cX6_explore 52 = .ok (.getfield 45, 3) := by decide +kernel
theorem dX6_explore_55 : decode cX6_explore 55 = .ok (.ifCond .eq 90, 3) := by decide +kernel
theorem dX6_explore_58 : decode cX6_explore 58 = .ok (.iconst 0, 1) := by decide +kernel
theorem dX6_explore_59 : decode cX6_explore 59 = .ok (.istore 4, 2) := by decide +kernel
theorem dX6_explore_61 : decode cX6_explore 61 = .ok (.iload 4, 2) := by decide +kernel
theorem dX6_explore_63 : decode cX6_explore 63 = .ok (.aload_n 0, 1) := by decide +kernel
theorem dX6_explore_64 : decode cX6_explore 64 = .ok (.getfield 18, 3) := by decide +kernel
theorem dX6_explore_67 : decode cX6_explore 67 = .ok (.getfield 82, 3) := by decide +kernel
theorem dX6_explore_70 : decode cX6_explore 70 = .ok (.if_icmp .ge 69, 3) := by decide +kernel
theorem dX6_explore_73 : decode cX6_explore 73 = .ok (.aload_n 0, 1) := by decide +kernel
theorem dX6_explore_74 : decode cX6_explore 74 = .ok (.getfield 45, 3) := by decide +kernel
theorem dX6_explore_77 : decode cX6_explore 77 = .ok (.ifCond .eq 62, 3) := by decide +kernel
theorem dX6_explore_80 : decode cX6_explore 80 = .ok (.aload_n 0, 1) := by decide +kernel
theorem dX6_explore_81 : decode cX6_explore 81 = .ok (.getfield 25, 3) := by decide +kernel
theorem dX6_explore_84 : decode cX6_explore 84 = .ok (.iload_n 3, 1) := by decide +kernel
theorem dX6_explore_85 : decode cX6_explore 85 = .ok (.aload_n 0, 1) := by decide +kernel
theorem dX6_explore_86 : decode cX6_explore 86 = .ok (.getfield 18, 3) := by decide +kernel
theorem dX6_explore_89 : decode cX6_explore 89 = .ok (.invokevirtual 85, 3) := by decide +kernel
theorem dX6_explore_92 : decode cX6_explore 92 = .ok (.aload_n 0, 1) := by decide +kernel
theorem dX6_explore_93 : decode cX6_explore 93 = .ok (.getfield 18, 3) := by decide +kernel
theorem dX6_explore_96 : decode cX6_explore 96 = .ok (.getfield 89, 3) := by decide +kernel
theorem dX6_explore_99 : decode cX6_explore 99 = .ok (.iload 4, 2) := by decide +kernel
theorem dX6_explore_101 : decode cX6_explore 101 = .ok (.iaload, 1) := by decide +kernel
theorem dX6_explore_102 : decode cX6_explore 102 = .ok (.ifCond .ne 31, 3) := by decide +kernel
theorem dX6_explore_105 : decode cX6_explore 105 = .ok (.aload_n 0, 1) := by decide +kernel
theorem dX6_explore_106 : decode cX6_explore 106 = .ok (.getfield 18, 3) := by decide +kernel
theorem dX6_explore_109 : decode cX6_explore 109 = .ok (.iload 4, 2) := by decide +kernel
theorem dX6_explore_111 : decode cX6_explore 111 = .ok (.invokevirtual 92, 3) := by decide +kernel
theorem dX6_explore_114 : decode cX6_explore 114 = .ok (.aload_n 0, 1) := by decide +kernel
theorem dX6_explore_115 : decode cX6_explore 115 = .ok (.aload_n 0, 1) := by decide +kernel
theorem dX6_explore_116 : decode cX6_explore 116 = .ok (.getfield 25, 3) := by decide +kernel
theorem dX6_explore_119 : decode cX6_explore 119 = .ok (.aload_n 0, 1) := by decide +kernel
theorem dX6_explore_120 : decode cX6_explore 120 = .ok (.getfield 18, 3) := by decide +kernel
theorem dX6_explore_123 : decode cX6_explore 123 = .ok (.invokevirtual 71, 3) := by decide +kernel
theorem dX6_explore_126 : decode cX6_explore 126 = .ok (.iload_n 3, 1) := by decide +kernel
theorem dX6_explore_127 : decode cX6_explore 127 = .ok (.iload 4, 2) := by decide +kernel
theorem dX6_explore_129 : decode cX6_explore 129 = .ok (.aload_n 2, 1) := by decide +kernel
theorem dX6_explore_130 : decode cX6_explore 130 = .ok (.invokevirtual 75, 3) := by decide +kernel
theorem dX6_explore_133 : decode cX6_explore 133 = .ok (.iinc 4 1, 3) := by decide +kernel
theorem dX6_explore_136 : decode cX6_explore 136 = .ok (.goto (-75), 3) := by decide +kernel
theorem dX6_explore_139 : decode cX6_explore 139 = .ok (.iinc 3 1, 3) := by decide +kernel
theorem dX6_explore_142 : decode cX6_explore 142 = .ok (.goto (-109), 3) := by decide +kernel
theorem dX6_explore_145 : decode cX6_explore 145 = .ok (.aload_n 0, 1) := by decide +kernel
theorem dX6_explore_146 : decode cX6_explore 146 = .ok (.iconst 1, 1) := by decide +kernel
theorem dX6_explore_147 : decode cX6_explore 147 = .ok (.putfield 9, 3) := by decide +kernel
theorem dX6_explore_150 : decode cX6_explore 150 = .ok (.return_, 1) := by decide +kernel
theorem dX6_forget_0 : decode cX6_forget 0 = .ok (.aload_n 0, 1) := by decide +kernel
theorem dX6_forget_1 : decode cX6_forget 1 = .ok (.iconst 0, 1) := by decide +kernel
theorem dX6_forget_2 : decode cX6_forget 2 = .ok (.putfield 9, 3) := by decide +kernel
theorem dX6_forget_5 : decode cX6_forget 5 = .ok (.return_, 1) := by decide +kernel
theorem dX6_goesRound_0 : decode cX6_goesRound 0 = .ok (.iconst 0, 1) := by decide +kernel
theorem dX6_goesRound_1 : decode cX6_goesRound 1 = .ok (.istore_n 1, 1) := by decide +kernel
theorem dX6_goesRound_2 : decode cX6_goesRound 2 = .ok (.iconst 0, 1) := by decide +kernel
theorem dX6_goesRound_3 : decode cX6_goesRound 3 = .ok (.istore_n 2, 1) := by decide +kernel
theorem dX6_goesRound_4 : decode cX6_goesRound 4 = .ok (.iload_n 2, 1) := by decide +kernel
theorem dX6_goesRound_5 : decode cX6_goesRound 5 = .ok (.iconst 3, 1) := by decide +kernel
theorem dX6_goesRound_6 : decode cX6_goesRound 6 = .ok (.if_icmp .ge 89, 3) := by decide +kernel
theorem dX6_goesRound_9 : decode cX6_goesRound 9 = .ok (.aload_n 0, 1) := by decide +kernel
theorem dX6_goesRound_10 : decode cX6_goesRound 10 = .ok (.getfield 42, 3) := by decide +kernel
theorem dX6_goesRound_13 : decode cX6_goesRound 13 = .ok (.iload_n 2, 1) := by decide +kernel
theorem dX6_goesRound_14 : decode cX6_goesRound 14 = .ok (.iaload, 1) := by decide +kernel
theorem dX6_goesRound_15 : decode cX6_goesRound 15 = .ok (.istore_n 3, 1) := by decide +kernel
theorem dX6_goesRound_16 : decode cX6_goesRound 16 = .ok (.iconst 0, 1) := by decide +kernel
theorem dX6_goesRound_17 : decode cX6_goesRound 17 = .ok (.istore 4, 2) := by decide +kernel
theorem dX6_goesRound_19 : decode cX6_goesRound 19 = .ok (.iload 4, 2) := by decide +kernel
theorem dX6_goesRound_21 : decode cX6_goesRound 21 = .ok (.iconst 3, 1) := by decide +kernel
theorem dX6_goesRound_22 : decode cX6_goesRound 22 = .ok (.if_icmp .ge 48, 3) := by decide +kernel
theorem dX6_goesRound_25 : decode cX6_goesRound 25 = .ok (.iconst 0, 1) := by decide +kernel
theorem dX6_goesRound_26 : decode cX6_goesRound 26 = .ok (.istore 5, 2) := by decide +kernel
theorem dX6_goesRound_28 : decode cX6_goesRound 28 = .ok (.iload 5, 2) := by decide +kernel
theorem dX6_goesRound_30 : decode cX6_goesRound 30 = .ok (.iconst 3, 1) := by decide +kernel
theorem dX6_goesRound_31 : decode cX6_goesRound 31 = .ok (.if_icmp .ge 33, 3) := by decide +kernel
theorem dX6_goesRound_34 : decode cX6_goesRound 34 = .ok (.iload_n 3, 1) := by decide +kernel
theorem dX6_goesRound_35 : decode cX6_goesRound 35 = .ok (.iload_n 3, 1) := by decide +kernel
theorem dX6_goesRound_36 : decode cX6_goesRound 36 = .ok (.iload 5, 2) := by decide +kernel
theorem dX6_goesRound_38 : decode cX6_goesRound 38 = .ok (.iushr, 1) := by decide +kernel
theorem dX6_goesRound_39 : decode cX6_goesRound 39 = .ok (.iconst 1, 1) := by decide +kernel
theorem dX6_goesRound_40 : decode cX6_goesRound 40 = .ok (.iand, 1) := by decide +kernel
theorem dX6_goesRound_41 : decode cX6_goesRound 41 = .ok (.iconst 1, 1) := by decide +kernel
theorem dX6_goesRound_42 : decode cX6_goesRound 42 = .ok (.if_icmp .ne 13, 3) := by decide +kernel
theorem dX6_goesRound_45 : decode cX6_goesRound 45 = .ok (.aload_n 0, 1) := by decide +kernel
theorem dX6_goesRound_46 : decode cX6_goesRound 46 = .ok (.getfield 42, 3) := by decide +kernel
theorem dX6_goesRound_49 : decode cX6_goesRound 49 = .ok (.iload 5, 2) := by decide +kernel
theorem dX6_goesRound_51 : decode cX6_goesRound 51 = .ok (.iaload, 1) := by decide +kernel
theorem dX6_goesRound_52 : decode cX6_goesRound 52 = .ok (.goto 4, 3) := by decide +kernel
theorem dX6_goesRound_55 : decode cX6_goesRound 55 = .ok (.iconst 0, 1) := by decide +kernel
theorem dX6_goesRound_56 : decode cX6_goesRound 56 = .ok (.ior, 1) := by decide +kernel
theorem dX6_goesRound_57 : decode cX6_goesRound 57 = .ok (.istore_n 3, 1) := by decide +kernel
theorem dX6_goesRound_58 : decode cX6_goesRound 58 = .ok (.iinc 5 1, 3) := by decide +kernel
theorem dX6_goesRound_61 : decode cX6_goesRound 61 = .ok (.goto (-33), 3) := by decide +kernel
theorem dX6_goesRound_64 : decode cX6_goesRound 64 = .ok (.iinc 4 1, 3) := by decide +kernel
theorem dX6_goesRound_67 : decode cX6_goesRound 67 = .ok (.goto (-48), 3) := by decide +kernel
theorem dX6_goesRound_70 : decode cX6_goesRound 70 = .ok (.iload_n 1, 1) := by decide +kernel
theorem dX6_goesRound_71 : decode cX6_goesRound 71 = .ok (.ifCond .ne 12, 3) := by decide +kernel
theorem dX6_goesRound_74 : decode cX6_goesRound 74 = .ok (.iload_n 3, 1) := by decide +kernel
theorem dX6_goesRound_75 : decode cX6_goesRound 75 = .ok (.iload_n 2, 1) := by decide +kernel
theorem dX6_goesRound_76 : decode cX6_goesRound 76 = .ok (.iushr, 1) := by decide +kernel
theorem dX6_goesRound_77 : decode cX6_goesRound 77 = .ok (.iconst 1, 1) := by decide +kernel
theorem dX6_goesRound_78 : decode cX6_goesRound 78 = .ok (.iand, 1) := by decide +kernel
theorem dX6_goesRound_79 : decode cX6_goesRound 79 = .ok (.iconst 1, 1) := by decide +kernel
theorem dX6_goesRound_80 : decode cX6_goesRound 80 = .ok (.if_icmp .ne 7, 3) := by decide +kernel
theorem dX6_goesRound_83 : decode cX6_goesRound 83 = .ok (.iconst 1, 1) := by decide +kernel
theorem dX6_goesRound_84 : decode cX6_goesRound 84 = .ok (.goto 4, 3) := by decide +kernel
theorem dX6_goesRound_87 : decode cX6_goesRound 87 = .ok (.iconst 0, 1) := by decide +kernel
theorem dX6_goesRound_88 : decode cX6_goesRound 88 = .ok (.istore_n 1, 1) := by decide +kernel
theorem dX6_goesRound_89 : decode cX6_goesRound 89 = .ok (.iinc 2 1, 3) := by decide +kernel
theorem dX6_goesRound_92 : decode cX6_goesRound 92 = .ok (.goto (-88), 3) := by decide +kernel
theorem dX6_goesRound_95 : decode cX6_goesRound 95 = .ok (.iload_n 1, 1) := by decide +kernel
theorem dX6_goesRound_96 : decode cX6_goesRound 96 = .ok (.ireturn, 1) := by decide +kernel
theorem dX6_greatestDepth_0 : decode cX6_greatestDepth 0 = .ok (.aload_n 0, 1) := by decide +kernel
theorem dX6_greatestDepth_1 : decode cX6_greatestDepth 1 = .ok (.aload_n 0, 1) := by decide +kernel
theorem dX6_greatestDepth_2 : decode cX6_greatestDepth 2 = .ok (.getfield 25, 3) := by decide +kernel
theorem dX6_greatestDepth_5 : decode cX6_greatestDepth 5 = .ok (.getfield 79, 3) := by decide +kernel
theorem dX6_greatestDepth_8 : decode cX6_greatestDepth 8 = .ok (.iconst 1, 1) := by decide +kernel
theorem dX6_greatestDepth_9 : decode cX6_greatestDepth 9 = .ok (.isub, 1) := by decide +kernel
theorem dX6_greatestDepth_10 : decode cX6_greatestDepth 10 = .ok (.invokevirtual 144, 3) := by decide +kernel
theorem dX6_greatestDepth_13 : decode cX6_greatestDepth 13 = .ok (.ireturn, 1) := by decide +kernel
theorem dX6_init_0 : decode cX6_init 0 = .ok (.aload_n 0, 1) := by decide +kernel
theorem dX6_init_1 : decode cX6_init 1 = .ok (.invokespecial 3, 3) := by decide +kernel
theorem dX6_init_4 : decode cX6_init 4 = .ok (.aload_n 0, 1) := by decide +kernel
theorem dX6_init_5 : decode cX6_init 5 = .ok (.iconst 0, 1) := by decide +kernel
theorem dX6_init_6 : decode cX6_init 6 = .ok (.putfield 9, 3) := by decide +kernel
theorem dX6_init_9 : decode cX6_init 9 = .ok (.aload_n 0, 1) := by decide +kernel
theorem dX6_init_10 : decode cX6_init 10 = .ok (.new 15, 3) := by decide +kernel
theorem dX6_init_13 : decode cX6_init 13 = .ok (.dup, 1) := by decide +kernel
theorem dX6_init_14 : decode cX6_init 14 = .ok (.invokespecial 17, 3) := by decide +kernel
theorem dX6_init_17 : decode cX6_init 17 = .ok (.putfield 18, 3) := by decide +kernel
theorem dX6_init_20 : decode cX6_init 20 = .ok (.aload_n 0, 1) := by decide +kernel
theorem dX6_init_21 : decode cX6_init 21 = .ok (.new 22, 3) := by decide +kernel
theorem dX6_init_24 : decode cX6_init 24 = .ok (.dup, 1) := by decide +kernel
theorem dX6_init_25 : decode cX6_init 25 = .ok (.invokespecial 24, 3) := by decide +kernel
theorem dX6_init_28 : decode cX6_init 28 = .ok (.putfield 25, 3) := by decide +kernel
theorem dX6_init_31 : decode cX6_init 31 = .ok (.aload_n 0, 1) := by decide +kernel
theorem dX6_init_32 : decode cX6_init 32 = .ok (.sipush 600, 3) := by decide +kernel
theorem dX6_init_35 : decode cX6_init 35 = .ok (.newarray .int, 2) := by decide +kernel
theorem dX6_init_37 : decode cX6_init 37 = .ok (.putfield 29, 3) := by decide +kernel
theorem dX6_init_40 : decode cX6_init 40 = .ok (.aload_n 0, 1) := by decide +kernel
theorem dX6_init_41 : decode cX6_init 41 = .ok (.sipush 600, 3) := by decide +kernel
theorem dX6_init_44 : decode cX6_init 44 = .ok (.newarray .int, 2) := by decide +kernel
theorem dX6_init_46 : decode cX6_init 46 = .ok (.putfield 33, 3) := by decide +kernel
theorem dX6_init_49 : decode cX6_init 49 = .ok (.aload_n 0, 1) := by decide +kernel
theorem dX6_init_50 : decode cX6_init 50 = .ok (.sipush 600, 3) := by decide +kernel
theorem dX6_init_53 : decode cX6_init 53 = .ok (.newarray .int, 2) := by decide +kernel
theorem dX6_init_55 : decode cX6_init 55 = .ok (.putfield 36, 3) := by decide +kernel
theorem dX6_init_58 : decode cX6_init 58 = .ok (.aload_n 0, 1) := by decide +kernel
theorem dX6_init_59 : decode cX6_init 59 = .ok (.sipush 600, 3) := by decide +kernel
theorem dX6_init_62 : decode cX6_init 62 = .ok (.newarray .int, 2) := by decide +kernel
theorem dX6_init_64 : decode cX6_init 64 = .ok (.putfield 39, 3) := by decide +kernel
theorem dX6_init_67 : decode cX6_init 67 = .ok (.aload_n 0, 1) := by decide +kernel
theorem dX6_init_68 : decode cX6_init 68 = .ok (.iconst 3, 1) := by decide +kernel
theorem dX6_init_69 : decode cX6_init 69 = .ok (.newarray .int, 2) := by decide +kernel
theorem dX6_init_71 : decode cX6_init 71 = .ok (.putfield 42, 3) := by decide +kernel
theorem dX6_init_74 : decode cX6_init 74 = .ok (.aload_n 0, 1) := by decide +kernel
theorem dX6_init_75 : decode cX6_init 75 = .ok (.iconst 1, 1) := by decide +kernel
theorem dX6_init_76 : decode cX6_init 76 = .ok (.putfield 45, 3) := by decide +kernel
theorem dX6_init_79 : decode cX6_init 79 = .ok (.aload_n 0, 1) := by decide +kernel
theorem dX6_init_80 : decode cX6_init 80 = .ok (.iconst 0, 1) := by decide +kernel
theorem dX6_init_81 : decode cX6_init 81 = .ok (.putfield 48, 3) := by decide +kernel
theorem dX6_init_84 : decode cX6_init 84 = .ok (.aload_n 0, 1) := by decide +kernel
theorem dX6_init_85 : decode cX6_init 85 = .ok (.iconst (-1), 1) := by decide +kernel
theorem dX6_init_86 : decode cX6_init 86 = .ok (.putfield 51, 3) := by decide +kernel
theorem dX6_init_89 : decode cX6_init 89 = .ok (.aload_n 0, 1) := by decide +kernel
theorem dX6_init_90 : decode cX6_init 90 = .ok (.iconst (-1), 1) := by decide +kernel
theorem dX6_init_91 : decode cX6_init 91 = .ok (.putfield 55, 3) := by decide +kernel
theorem dX6_init_94 : decode cX6_init 94 = .ok (.aload_n 0, 1) := by decide +kernel
theorem dX6_init_95 : decode cX6_init 95 = .ok (.iconst 0, 1) := by decide +kernel
theorem dX6_init_96 : decode cX6_init 96 = .ok (.putfield 58, 3) := by decide +kernel
theorem dX6_init_99 : decode cX6_init 99 = .ok (.aload_n 0, 1) := by decide +kernel
theorem dX6_init_100 : decode cX6_init 100 = .ok (.iconst 0, 1) := by decide +kernel
theorem dX6_init_101 : decode cX6_init 101 = .ok (.putfield 61, 3) := by decide +kernel
theorem dX6_init_104 : decode cX6_init 104 = .ok (.aload_n 0, 1) := by decide +kernel
theorem dX6_init_105 : decode cX6_init 105 = .ok (.iconst 0, 1) := by decide +kernel
theorem dX6_init_106 : decode cX6_init 106 = .ok (.putfield 64, 3) := by decide +kernel
theorem dX6_init_109 : decode cX6_init 109 = .ok (.return_, 1) := by decide +kernel
theorem dX6_isFound_0 : decode cX6_isFound 0 = .ok (.iload_n 1, 1) := by decide +kernel
theorem dX6_isFound_1 : decode cX6_isFound 1 = .ok (.ifCond .lt 18, 3) := by decide +kernel
theorem dX6_isFound_4 : decode cX6_isFound 4 = .ok (.iload_n 1, 1) := by decide +kernel
theorem dX6_isFound_5 : decode cX6_isFound 5 = .ok (.aload_n 0, 1) := by decide +kernel
theorem dX6_isFound_6 : decode cX6_isFound 6 = .ok (.getfield 25, 3) := by decide +kernel
theorem dX6_isFound_9 : decode cX6_isFound 9 = .ok (.getfield 79, 3) := by decide +kernel
theorem dX6_isFound_12 : decode cX6_isFound 12 = .ok (.if_icmp .ge 7, 3) := by decide +kernel
theorem dX6_isFound_15 : decode cX6_isFound 15 = .ok (.iconst 1, 1) := by decide +kernel
theorem dX6_isFound_16 : decode cX6_isFound 16 = .ok (.goto 4, 3) := by decide +kernel
theorem dX6_isFound_19 : decode cX6_isFound 19 = .ok (.iconst 0, 1) := by decide +kernel
theorem dX6_isFound_20 : decode cX6_isFound 20 = .ok (.ireturn, 1) := by decide +kernel
theorem dX6_moverOf_0 : decode cX6_moverOf 0 = .ok (.aload_n 0, 1) := by decide +kernel
theorem dX6_moverOf_1 : decode cX6_moverOf 1 = .ok (.iload_n 1, 1) := by decide +kernel
theorem dX6_moverOf_2 : decode cX6_moverOf 2 = .ok (.invokevirtual 144, 3) := by decide +kernel
theorem dX6_moverOf_5 : decode cX6_moverOf 5 = .ok (.istore_n 3, 1) := by decide +kernel
theorem dX6_moverOf_6 : decode cX6_moverOf 6 = .ok (.iload_n 2, 1) := by decide +kernel
theorem dX6_moverOf_7 : decode cX6_moverOf 7 = .ok (.ifCond .lt 8, 3) := by decide +kernel
theorem dX6_moverOf_10 : decode cX6_moverOf 10 = .ok (.iload_n 2, 1) := by decide +kernel
theorem dX6_moverOf_11 : decode cX6_moverOf 11 = .ok (.iload_n 3, 1) := by decide +kernel
theorem dX6_moverOf_12 : decode cX6_moverOf 12 = .ok (.if_icmp .lt 5, 3) := by decide +kernel
theorem dX6_moverOf_15 : decode cX6_moverOf 15 = .ok (.iconst (-1), 1) := by decide +kernel
theorem dX6_moverOf_16 : decode cX6_moverOf 16 = .ok (.ireturn, 1) := by decide +kernel
theorem dX6_moverOf_17 : decode cX6_moverOf 17 = .ok (.iload_n 1, 1) := by decide +kernel
theorem dX6_moverOf_18 : decode cX6_moverOf 18 = .ok (.istore 4, 2) := by decide +kernel
theorem dX6_moverOf_20 : decode cX6_moverOf 20 = .ok (.iload_n 3, 1) := by decide +kernel
theorem dX6_moverOf_21 : decode cX6_moverOf 21 = .ok (.iconst 1, 1) := by decide +kernel
theorem dX6_moverOf_22 : decode cX6_moverOf 22 = .ok (.isub, 1) := by decide +kernel
theorem dX6_moverOf_23 : decode cX6_moverOf 23 = .ok (.istore 5, 2) := by decide +kernel
theorem dX6_moverOf_25 : decode cX6_moverOf 25 = .ok (.iload 5, 2) := by decide +kernel
theorem dX6_moverOf_27 : decode cX6_moverOf 27 = .ok (.iload_n 2, 1) := by decide +kernel
theorem dX6_moverOf_28 : decode cX6_moverOf 28 = .ok (.if_icmp .le 27, 3) := by decide +kernel
theorem dX6_moverOf_31 : decode cX6_moverOf 31 = .ok (.aload_n 0, 1) := by decide +kernel
theorem dX6_moverOf_32 : decode cX6_moverOf 32 = .ok (.iload 4, 2) := by decide +kernel
theorem dX6_moverOf_34 : decode cX6_moverOf 34 = .ok (.invokevirtual 147, 3) := by decide +kernel
theorem dX6_moverOf_37 : decode cX6_moverOf 37 = .ok (.ifCond .eq 18, 3) := by decide +kernel
theorem dX6_moverOf_40 : decode cX6_moverOf 40 = .ok (.aload_n 0, 1) := by decide +kernel
theorem dX6_moverOf_41 : decode cX6_moverOf 41 = .ok (.getfield 29, 3) := by decide +kernel
theorem dX6_moverOf_44 : decode cX6_moverOf 44 = .ok (.iload 4, 2) := by decide +kernel
theorem dX6_moverOf_46 : decode cX6_moverOf 46 = .ok (.iaload, 1) := by decide +kernel
theorem dX6_moverOf_47 : decode cX6_moverOf 47 = .ok (.istore 4, 2) := by decide +kernel
theorem dX6_moverOf_49 : decode cX6_moverOf 49 = .ok (.iinc 5 (-1), 3) := by decide +kernel
theorem dX6_moverOf_52 : decode cX6_moverOf 52 = .ok (.goto (-27), 3) := by decide +kernel
theorem dX6_moverOf_55 : decode cX6_moverOf 55 = .ok (.aload_n 0, 1) := by decide +kernel
theorem dX6_moverOf_56 : decode cX6_moverOf 56 = .ok (.iload 4, 2) := by decide +kernel
theorem dX6_moverOf_58 : decode cX6_moverOf 58 = .ok (.invokevirtual 147, 3) := by decide +kernel
theorem dX6_moverOf_61 : decode cX6_moverOf 61 = .ok (.ifCond .eq 13, 3) := by decide +kernel
theorem dX6_moverOf_64 : decode cX6_moverOf 64 = .ok (.aload_n 0, 1) := by decide +kernel
theorem dX6_moverOf_65 : decode cX6_moverOf 65 = .ok (.getfield 33, 3) := by decide +kernel
theorem dX6_moverOf_68 : decode cX6_moverOf 68 = .ok (.iload 4, 2) := by decide +kernel
theorem dX6_moverOf_70 : decode cX6_moverOf 70 = .ok (.iaload, 1) := by decide +kernel
theorem dX6_moverOf_71 : decode cX6_moverOf 71 = .ok (.goto 4, 3) := by decide +kernel
theorem dX6_moverOf_74 : decode cX6_moverOf 74 = .ok (.iconst (-1), 1) := by decide +kernel
theorem dX6_moverOf_75 : decode cX6_moverOf 75 = .ok (.ireturn, 1) := by decide +kernel
theorem dX6_note_0 : decode cX6_note 0 = .ok (.iload_n 1, 1) := by decide +kernel
theorem dX6_note_1 : decode cX6_note 1 = .ok (.bipush (-2), 2) := by decide +kernel
theorem dX6_note_3 : decode cX6_note 3 = .ok (.if_icmp .ne 8, 3) := by decide +kernel
theorem dX6_note_6 : decode cX6_note 6 = .ok (.aload_n 0, 1) := by decide +kernel
theorem dX6_note_7 : decode cX6_note 7 = .ok (.iconst 0, 1) := by decide +kernel
theorem dX6_note_8 : decode cX6_note 8 = .ok (.putfield 45, 3) := by decide +kernel
theorem dX6_note_11 : decode cX6_note 11 = .ok (.iload_n 1, 1) := by decide +kernel
theorem dX6_note_12 : decode cX6_note 12 = .ok (.ifCond .lt 10, 3) := by decide +kernel
theorem dX6_note_15 : decode cX6_note 15 = .ok (.iload_n 1, 1) := by decide +kernel
theorem dX6_note_16 : decode cX6_note 16 = .ok (.sipush 600, 3) := by decide +kernel
theorem dX6_note_19 : decode cX6_note 19 = .ok (.if_icmp .lt 4, 3) := by decide +kernel
theorem dX6_note_22 : decode cX6_note 22 = .ok (.return_, 1) := by decide +kernel
theorem dX6_note_23 : decode cX6_note 23 = .ok (.aload_n 0, 1) := by decide +kernel
theorem dX6_note_24 : decode cX6_note 24 = .ok (.getfield 29, 3) := by decide +kernel
theorem dX6_note_27 : decode cX6_note 27 = .ok (.iload_n 1, 1) := by decide +kernel
theorem dX6_note_28 : decode cX6_note 28 = .ok (.iload_n 2, 1) := by decide +kernel
theorem dX6_note_29 : decode cX6_note 29 = .ok (.iastore, 1) := by decide +kernel
theorem dX6_note_30 : decode cX6_note 30 = .ok (.aload_n 0, 1) := by decide +kernel
theorem dX6_note_31 : decode cX6_note 31 = .ok (.getfield 33, 3) := by decide +kernel
theorem dX6_note_34 : decode cX6_note 34 = .ok (.iload_n 1, 1) := by decide +kernel
theorem dX6_note_35 : decode cX6_note 35 = .ok (.iload_n 3, 1) := by decide +kernel
theorem dX6_note_36 : decode cX6_note 36 = .ok (.iastore, 1) := by decide +kernel
theorem dX6_note_37 : decode cX6_note 37 = .ok (.aload_n 0, 1) := by decide +kernel
theorem dX6_note_38 : decode cX6_note 38 = .ok (.getfield 36, 3) := by decide +kernel
theorem dX6_note_41 : decode cX6_note 41 = .ok (.iload_n 1, 1) := by decide +kernel
theorem dX6_note_42 : decode cX6_note 42 = .ok (.iload_n 3, 1) := by decide +kernel
theorem dX6_note_43 : decode cX6_note 43 = .ok (.iconst (-1), 1) := by decide +kernel
theorem dX6_note_44 : decode cX6_note 44 = .ok (.if_icmp .ne 7, 3) := by decide +kernel
theorem dX6_note_47 : decode cX6_note 47 = .ok (.iconst 0, 1) := by decide +kernel
theorem dX6_note_48 : decode cX6_note 48 = .ok (.goto 11, 3) := by decide +kernel
theorem dX6_note_51 : decode cX6_note 51 = .ok (.aload_n 0, 1) := by decide +kernel
theorem dX6_note_52 : decode cX6_note 52 = .ok (.getfield 36, 3) := by decide +kernel
theorem dX6_note_55 : decode cX6_note 55 = .ok (.iload_n 2, 1) := by decide +kernel
theorem dX6_note_56 : decode cX6_note 56 = .ok (.iaload, 1) := by decide +kernel
theorem dX6_note_57 : decode cX6_note 57 = .ok (.iconst 1, 1) := by decide +kernel
theorem dX6_note_58 : decode cX6_note 58 = .ok (.iadd, 1) := by decide +kernel
theorem dX6_note_59 : decode cX6_note 59 = .ok (.iastore, 1) := by decide +kernel
theorem dX6_note_60 : decode cX6_note 60 = .ok (.aload_n 0, 1) := by decide +kernel
theorem dX6_note_61 : decode cX6_note 61 = .ok (.getfield 18, 3) := by decide +kernel
theorem dX6_note_64 : decode cX6_note 64 = .ok (.invokevirtual 108, 3) := by decide +kernel
theorem dX6_note_67 : decode cX6_note 67 = .ok (.ifCond .eq 33, 3) := by decide +kernel
theorem dX6_note_70 : decode cX6_note 70 = .ok (.aload_n 0, 1) := by decide +kernel
theorem dX6_note_71 : decode cX6_note 71 = .ok (.dup, 1) := by decide +kernel
theorem dX6_note_72 : decode cX6_note 72 = .ok (.getfield 58, 3) := by decide +kernel
theorem dX6_note_75 : decode cX6_note 75 = .ok (.iconst 1, 1) := by decide +kernel
theorem dX6_note_76 : decode cX6_note 76 = .ok (.iadd, 1) := by decide +kernel
theorem dX6_note_77 : decode cX6_note 77 = .ok (.putfield 58, 3) := by decide +kernel
theorem dX6_note_80 : decode cX6_note 80 = .ok (.aload_n 0, 1) := by decide +kernel
theorem dX6_note_81 : decode cX6_note 81 = .ok (.aload_n 0, 1) := by decide +kernel
theorem dX6_note_82 : decode cX6_note 82 = .ok (.getfield 51, 3) := by decide +kernel
theorem dX6_note_85 : decode cX6_note 85 = .ok (.iconst (-1), 1) := by decide +kernel
theorem dX6_note_86 : decode cX6_note 86 = .ok (.if_icmp .ne 7, 3) := by decide +kernel
theorem dX6_note_89 : decode cX6_note 89 = .ok (.iload_n 1, 1) := by decide +kernel
theorem dX6_note_90 : decode cX6_note 90 = .ok (.goto 7, 3) := by decide +kernel
theorem dX6_note_93 : decode cX6_note 93 = .ok (.aload_n 0, 1) := by decide +kernel
theorem dX6_note_94 : decode cX6_note 94 = .ok (.getfield 51, 3) := by decide +kernel
theorem dX6_note_97 : decode cX6_note 97 = .ok (.putfield 51, 3) := by decide +kernel
theorem dX6_note_100 : decode cX6_note 100 = .ok (.aload_n 0, 1) := by decide +kernel
theorem dX6_note_101 : decode cX6_note 101 = .ok (.getfield 55, 3) := by decide +kernel
theorem dX6_note_104 : decode cX6_note 104 = .ok (.iconst (-1), 1) := by decide +kernel
theorem dX6_note_105 : decode cX6_note 105 = .ok (.if_icmp .ne 23, 3) := by decide +kernel
theorem dX6_note_108 : decode cX6_note 108 = .ok (.aload 4, 2) := by decide +kernel
theorem dX6_note_110 : decode cX6_note 110 = .ok (.aload_n 0, 1) := by decide +kernel
theorem dX6_note_111 : decode cX6_note 111 = .ok (.getfield 18, 3) := by decide +kernel
theorem dX6_note_114 : decode cX6_note 114 = .ok (.getfield 112, 3) := by decide +kernel
theorem dX6_note_117 : decode cX6_note 117 = .ok (.invokevirtual 115, 3) := by decide +kernel
theorem dX6_note_120 : decode cX6_note 120 = .ok (.ifCond .ne 8, 3) := by decide +kernel
theorem dX6_note_123 : decode cX6_note 123 = .ok (.aload_n 0, 1) := by decide +kernel
theorem dX6_note_124 : decode cX6_note 124 = .ok (.iload_n 1, 1) := by decide +kernel
theorem dX6_note_125 : decode cX6_note 125 = .ok (.putfield 55, 3) := by decide +kernel
theorem dX6_note_128 : decode cX6_note 128 = .ok (.aload_n 0, 1) := by decide +kernel
theorem dX6_note_129 : decode cX6_note 129 = .ok (.getfield 18, 3) := by decide +kernel
theorem dX6_note_132 : decode cX6_note 132 = .ok (.invokevirtual 121, 3) := by decide +kernel
theorem dX6_note_135 : decode cX6_note 135 = .ok (.ifCond .eq 17, 3) := by decide +kernel
theorem dX6_note_138 : decode cX6_note 138 = .ok (.aload_n 0, 1) := by decide +kernel
theorem dX6_note_139 : decode cX6_note 139 = .ok (.dup, 1) := by decide +kernel
theorem dX6_note_140 : decode cX6_note 140 = .ok (.getfield 61, 3) := by decide +kernel
theorem dX6_note_143 : decode cX6_note 143 = .ok (.iconst 1, 1) := by decide +kernel
theorem dX6_note_144 : decode cX6_note 144 = .ok (.iadd, 1) := by decide +kernel
theorem dX6_note_145 : decode cX6_note 145 = .ok (.putfield 61, 3) := by decide +kernel
theorem dX6_note_148 : decode cX6_note 148 = .ok (.aload_n 0, 1) := by decide +kernel
theorem dX6_note_149 : decode cX6_note 149 = .ok (.invokevirtual 124, 3) := by decide +kernel
theorem dX6_note_152 : decode cX6_note 152 = .ok (.aload_n 0, 1) := by decide +kernel
theorem dX6_note_153 : decode cX6_note 153 = .ok (.invokevirtual 127, 3) := by decide +kernel
theorem dX6_note_156 : decode cX6_note 156 = .ok (.return_, 1) := by decide +kernel
theorem dX6_noteMonitors_0 : decode cX6_noteMonitors 0 = .ok (.iconst 0, 1) := by decide +kernel
theorem dX6_noteMonitors_1 : decode cX6_noteMonitors 1 = .ok (.istore_n 1, 1) := by decide +kernel
theorem dX6_noteMonitors_2 : decode cX6_noteMonitors 2 = .ok (.iload_n 1, 1) := by decide +kernel
theorem dX6_noteMonitors_3 : decode cX6_noteMonitors 3 = .ok (.iconst 3, 1) := by decide +kernel
theorem dX6_noteMonitors_4 : decode cX6_noteMonitors 4 = .ok (.if_icmp .ge 38, 3) := by decide +kernel
theorem dX6_noteMonitors_7 : decode cX6_noteMonitors 7 = .ok (.aload_n 0, 1) := by decide +kernel
theorem dX6_noteMonitors_8 : decode cX6_noteMonitors 8 = .ok (.aload_n 0, 1) := by decide +kernel
theorem dX6_noteMonitors_9 : decode cX6_noteMonitors 9 = .ok (.getfield 48, 3) := by decide +kernel
theorem dX6_noteMonitors_12 : decode cX6_noteMonitors 12 = .ok (.ifCond .ne 16, 3) := by decide +kernel
theorem dX6_noteMonitors_15 : decode cX6_noteMonitors 15 = .ok (.aload_n 0, 1) := by decide +kernel
theorem dX6_noteMonitors_16 : decode cX6_noteMonitors 16 = .ok (.getfield 18, 3) := by decide +kernel
theorem dX6_noteMonitors_19 : decode cX6_noteMonitors 19 = .ok (.getfield 134, 3) := by decide +kernel
theorem dX6_noteMonitors_22 : decode cX6_noteMonitors 22 = .ok (.iload_n 1, 1) := by decide +kernel
theorem dX6_noteMonitors_23 : decode cX6_noteMonitors 23 = .ok (.iaload, 1) := by decide +kernel
theorem dX6_noteMonitors_24 : decode cX6_noteMonitors 24 = .ok (.iconst 2, 1) := by decide +kernel
theorem dX6_noteMonitors_25 : decode cX6_noteMonitors 25 = .ok (.if_icmp .lt 7, 3) := by decide +kernel
theorem dX6_noteMonitors_28 : decode cX6_noteMonitors 28 = .ok (.iconst 1, 1) := by decide +kernel
theorem dX6_noteMonitors_29 : decode cX6_noteMonitors 29 = .ok (.goto 4, 3) := by decide +kernel
theorem dX6_noteMonitors_32 : decode cX6_noteMonitors 32 = .ok (.iconst 0, 1) := by decide +kernel
theorem dX6_noteMonitors_33 : decode cX6_noteMonitors 33 = .ok (.putfield 48, 3) := by decide +kernel
theorem dX6_noteMonitors_36 : decode cX6_noteMonitors 36 = .ok (.iinc 1 1, 3) := by decide +kernel
theorem dX6_noteMonitors_39 : decode cX6_noteMonitors 39 = .ok (.goto (-37), 3) := by decide +kernel
theorem dX6_noteMonitors_42 : decode cX6_noteMonitors 42 = .ok (.iconst 0, 1) := by decide +kernel
theorem dX6_noteMonitors_43 : decode cX6_noteMonitors 43 = .ok (.istore_n 1, 1) := by decide +kernel
theorem dX6_noteMonitors_44 : decode cX6_noteMonitors 44 = .ok (.iload_n 1, 1) := by decide +kernel
theorem dX6_noteMonitors_45 : decode cX6_noteMonitors 45 = .ok (.aload_n 0, 1) := by decide +kernel
theorem dX6_noteMonitors_46 : decode cX6_noteMonitors 46 = .ok (.getfield 18, 3) := by decide +kernel
theorem dX6_noteMonitors_49 : decode cX6_noteMonitors 49 = .ok (.getfield 82, 3) := by decide +kernel
theorem dX6_noteMonitors_52 : decode cX6_noteMonitors 52 = .ok (.if_icmp .ge 61, 3) := by decide +kernel
theorem dX6_noteMonitors_55 : decode cX6_noteMonitors 55 = .ok (.aload_n 0, 1) := by decide +kernel
theorem dX6_noteMonitors_56 : decode cX6_noteMonitors 56 = .ok (.getfield 18, 3) := by decide +kernel
theorem dX6_noteMonitors_59 : decode cX6_noteMonitors 59 = .ok (.iload_n 1, 1) := by decide +kernel
theorem dX6_noteMonitors_60 : decode cX6_noteMonitors 60 = .ok (.invokevirtual 137, 3) := by decide +kernel
theorem dX6_noteMonitors_63 : decode cX6_noteMonitors 63 = .ok (.istore_n 2, 1) := by decide +kernel
theorem dX6_noteMonitors_64 : decode cX6_noteMonitors 64 = .ok (.iconst 0, 1) := by decide +kernel
theorem dX6_noteMonitors_65 : decode cX6_noteMonitors 65 = .ok (.istore_n 3, 1) := by decide +kernel
theorem dX6_noteMonitors_66 : decode cX6_noteMonitors 66 = .ok (.iload_n 3, 1) := by decide +kernel
theorem dX6_noteMonitors_67 : decode cX6_noteMonitors 67 = .ok (.iconst 3, 1) := by decide +kernel
theorem dX6_noteMonitors_68 : decode cX6_noteMonitors 68 = .ok (.if_icmp .ge 39, 3) := by decide +kernel
theorem dX6_noteMonitors_71 : decode cX6_noteMonitors 71 = .ok (.iload_n 2, 1) := by decide +kernel
theorem dX6_noteMonitors_72 : decode cX6_noteMonitors 72 = .ok (.iconst (-1), 1) := by decide +kernel
theorem dX6_noteMonitors_73 : decode cX6_noteMonitors 73 = .ok (.if_icmp .eq 34, 3) := by decide +kernel
theorem dX6_noteMonitors_76 : decode cX6_noteMonitors 76 = .ok (.aload_n 0, 1) := by decide +kernel
theorem dX6_noteMonitors_77 : decode cX6_noteMonitors 77 = .ok (.getfield 18, 3) := by decide +kernel
theorem dX6_noteMonitors_80 : decode cX6_noteMonitors 80 = .ok (.getfield 141, 3) := by decide +kernel
theorem dX6_noteMonitors_83 : decode cX6_noteMonitors 83 = .ok (.iload_n 3, 1) := by decide +kernel
theorem dX6_noteMonitors_84 : decode cX6_noteMonitors 84 = .ok (.iaload, 1) := by decide +kernel
theorem dX6_noteMonitors_85 : decode cX6_noteMonitors 85 = .ok (.iload_n 1, 1) := by decide +kernel
theorem dX6_noteMonitors_86 : decode cX6_noteMonitors 86 = .ok (.if_icmp .ne 15, 3) := by decide +kernel
theorem dX6_noteMonitors_89 : decode cX6_noteMonitors 89 = .ok (.aload_n 0, 1) := by decide +kernel
theorem dX6_noteMonitors_90 : decode cX6_noteMonitors 90 = .ok (.getfield 42, 3) := by decide +kernel
theorem dX6_noteMonitors_93 : decode cX6_noteMonitors 93 = .ok (.iload_n 3, 1) := by decide +kernel
theorem dX6_noteMonitors_94 : decode cX6_noteMonitors 94 = .ok (.dup2, 1) := by decide +kernel
theorem dX6_noteMonitors_95 : decode cX6_noteMonitors 95 = .ok (.iaload, 1) := by decide +kernel
theorem dX6_noteMonitors_96 : decode cX6_noteMonitors 96 = .ok (.iconst 1, 1) := by decide +kernel
theorem dX6_noteMonitors_97 : decode cX6_noteMonitors 97 = .ok (.iload_n 2, 1) := by decide +kernel
theorem dX6_noteMonitors_98 : decode cX6_noteMonitors 98 = .ok (.ishl, 1) := by decide +kernel
theorem dX6_noteMonitors_99 : decode cX6_noteMonitors 99 = .ok (.ior, 1) := by decide +kernel
theorem dX6_noteMonitors_100 : decode cX6_noteMonitors 100 = .ok (.iastore, 1) := by decide +kernel
theorem dX6_noteMonitors_101 : decode cX6_noteMonitors 101 = .ok (.iinc 3 1, 3) := by decide +kernel
theorem dX6_noteMonitors_104 : decode cX6_noteMonitors 104 = .ok (.goto (-38), 3) := by decide +kernel
theorem dX6_noteMonitors_107 : decode cX6_noteMonitors 107 = .ok (.iinc 1 1, 3) := by decide +kernel
theorem dX6_noteMonitors_110 : decode cX6_noteMonitors 110 = .ok (.goto (-66), 3) := by decide +kernel
theorem dX6_noteMonitors_113 : decode cX6_noteMonitors 113 = .ok (.return_, 1) := by decide +kernel
theorem dX6_noteOutcome_0 : decode cX6_noteOutcome 0 = .ok (.aload_n 0, 1) := by decide +kernel
theorem dX6_noteOutcome_1 : decode cX6_noteOutcome 1 = .ok (.getfield 18, 3) := by decide +kernel
theorem dX6_noteOutcome_4 : decode cX6_noteOutcome 4 = .ok (.getfield 112, 3) := by decide +kernel
theorem dX6_noteOutcome_7 : decode cX6_noteOutcome 7 = .ok (.invokestatic 130, 3) := by decide +kernel
theorem dX6_noteOutcome_10 : decode cX6_noteOutcome 10 = .ok (.istore_n 1, 1) := by decide +kernel
theorem dX6_noteOutcome_11 : decode cX6_noteOutcome 11 = .ok (.iconst 0, 1) := by decide +kernel
theorem dX6_noteOutcome_12 : decode cX6_noteOutcome 12 = .ok (.istore_n 2, 1) := by decide +kernel
theorem dX6_noteOutcome_13 : decode cX6_noteOutcome 13 = .ok (.iload_n 2, 1) := by decide +kernel
theorem dX6_noteOutcome_14 : decode cX6_noteOutcome 14 = .ok (.aload_n 0, 1) := by decide +kernel
theorem dX6_noteOutcome_15 : decode cX6_noteOutcome 15 = .ok (.getfield 64, 3) := by decide +kernel
theorem dX6_noteOutcome_18 : decode cX6_noteOutcome 18 = .ok (.if_icmp .ge 20, 3) := by decide +kernel
theorem dX6_noteOutcome_21 : decode cX6_noteOutcome 21 = .ok (.aload_n 0, 1) := by decide +kernel
theorem dX6_noteOutcome_22 : decode cX6_noteOutcome 22 = .ok (.getfield 39, 3) := by decide +kernel
theorem dX6_noteOutcome_25 : decode cX6_noteOutcome 25 = .ok (.iload_n 2, 1) := by decide +kernel
theorem dX6_noteOutcome_26 : decode cX6_noteOutcome 26 = .ok (.iaload, 1) := by decide +kernel
theorem dX6_noteOutcome_27 : decode cX6_noteOutcome 27 = .ok (.iload_n 1, 1) := by decide +kernel
theorem dX6_noteOutcome_28 : decode cX6_noteOutcome 28 = .ok (.if_icmp .ne 4, 3) := by decide +kernel
theorem dX6_noteOutcome_31 : decode cX6_noteOutcome 31 = .ok (.return_, 1) := by decide +kernel
theorem dX6_noteOutcome_32 : decode cX6_noteOutcome 32 = .ok (.iinc 2 1, 3) := by decide +kernel
theorem dX6_noteOutcome_35 : decode cX6_noteOutcome 35 = .ok (.goto (-22), 3) := by decide +kernel
theorem dX6_noteOutcome_38 : decode cX6_noteOutcome 38 = .ok (.aload_n 0, 1) := by decide +kernel
theorem dX6_noteOutcome_39 : decode cX6_noteOutcome 39 = .ok (.getfield 64, 3) := by decide +kernel
theorem dX6_noteOutcome_42 : decode cX6_noteOutcome 42 = .ok (.sipush 600, 3) := by decide +kernel
theorem dX6_noteOutcome_45 : decode cX6_noteOutcome 45 = .ok (.if_icmp .ge 23, 3) := by decide +kernel
theorem dX6_noteOutcome_48 : decode cX6_noteOutcome 48 = .ok (.aload_n 0, 1) := by decide +kernel
theorem dX6_noteOutcome_49 : decode cX6_noteOutcome 49 = .ok (.getfield 39, 3) := by decide +kernel
theorem dX6_noteOutcome_52 : decode cX6_noteOutcome 52 = .ok (.aload_n 0, 1) := by decide +kernel
theorem dX6_noteOutcome_53 : decode cX6_noteOutcome 53 = .ok (.getfield 64, 3) := by decide +kernel
theorem dX6_noteOutcome_56 : decode cX6_noteOutcome 56 = .ok (.iload_n 1, 1) := by decide +kernel
theorem dX6_noteOutcome_57 : decode cX6_noteOutcome 57 = .ok (.iastore, 1) := by decide +kernel
theorem dX6_noteOutcome_58 : decode cX6_noteOutcome 58 = .ok (.aload_n 0, 1) := by decide +kernel
theorem dX6_noteOutcome_59 : decode cX6_noteOutcome 59 = .ok (.dup, 1) := by decide +kernel
theorem dX6_noteOutcome_60 : decode cX6_noteOutcome 60 = .ok (.getfield 64, 3) := by decide +kernel
theorem dX6_noteOutcome_63 : decode cX6_noteOutcome 63 = .ok (.iconst 1, 1) := by decide +kernel
theorem dX6_noteOutcome_64 : decode cX6_noteOutcome 64 = .ok (.iadd, 1) := by decide +kernel
theorem dX6_noteOutcome_65 : decode cX6_noteOutcome 65 = .ok (.putfield 64, 3) := by decide +kernel
theorem dX6_noteOutcome_68 : decode cX6_noteOutcome 68 = .ok (.return_, 1) := by decide +kernel
theorem dX7_empty_0 : decode cX7_empty 0 = .ok (.aload_n 0, 1) := by decide +kernel
theorem dX7_empty_1 : decode cX7_empty 1 = .ok (.iconst 0, 1) := by decide +kernel
theorem dX7_empty_2 : decode cX7_empty 2 = .ok (.putfield 9, 3) := by decide +kernel
theorem dX7_empty_5 : decode cX7_empty 5 = .ok (.aload_n 0, 1) := by decide +kernel
theorem dX7_empty_6 : decode cX7_empty 6 = .ok (.getfield 22, 3) := by decide +kernel
theorem dX7_empty_9 : decode cX7_empty 9 = .ok (.iconst 0, 1) := by decide +kernel
theorem dX7_empty_10 : decode cX7_empty 10 = .ok (.invokestatic 25, 3) := by decide +kernel
theorem dX7_empty_13 : decode cX7_empty 13 = .ok (.return_, 1) := by decide +kernel
theorem dX7_firstSlot_0 : decode cX7_firstSlot 0 = .ok (.iconst 0, 1) := by decide +kernel
theorem dX7_firstSlot_1 : decode cX7_firstSlot 1 = .ok (.istore_n 1, 1) := by decide +kernel
theorem dX7_firstSlot_2 : decode cX7_firstSlot 2 = .ok (.iconst 0, 1) := by decide +kernel
theorem dX7_firstSlot_3 : decode cX7_firstSlot 3 = .ok (.istore_n 2, 1) := by decide +kernel
theorem dX7_firstSlot_4 : decode cX7_firstSlot 4 = .ok (.iload_n 2, 1) := by decide +kernel
theorem dX7_firstSlot_5 : decode cX7_firstSlot 5 = .ok (.bipush 6, 2) := by decide +kernel
theorem dX7_firstSlot_7 : decode cX7_firstSlot 7 = .ok (.if_icmp .ge 28, 3) := by decide +kernel
theorem dX7_firstSlot_10 : decode cX7_firstSlot 10 = .ok (.iload_n 1, 1) := by decide +kernel
theorem dX7_firstSlot_11 : decode cX7_firstSlot 11 = .ok (.aload_n 0, 1) := by decide +kernel
theorem dX7_firstSlot_12 : decode cX7_firstSlot 12 = .ok (.getfield 19, 3) := by decide +kernel
theorem dX7_firstSlot_15 : decode cX7_firstSlot 15 = .ok (.iload_n 2, 1) := by decide +kernel
theorem dX7_firstSlot_16 : decode cX7_firstSlot 16 = .ok (.iaload, 1) := by decide +kernel
theorem dX7_firstSlot_17 : decode cX7_firstSlot 17 = .ok (.ixor, 1) := by decide +kernel
theorem dX7_firstSlot_18 : decode cX7_firstSlot 18 = .ok (.ldc 49, 2) := by decide +kernel
theorem dX7_firstSlot_20 : decode cX7_firstSlot 20 = .ok (.imul, 1) := by decide +kernel
theorem dX7_firstSlot_21 : decode cX7_firstSlot 21 = .ok (.istore_n 1, 1) := by decide +kernel
theorem dX7_firstSlot_22 : decode cX7_firstSlot 22 = .ok (.iload_n 1, 1) := by decide +kernel
theorem dX7_firstSlot_23 : decode cX7_firstSlot 23 = .ok (.iload_n 1, 1) := by decide +kernel
theorem dX7_firstSlot_24 : decode cX7_firstSlot 24 = .ok (.bipush 15, 2) := by decide +kernel
theorem dX7_firstSlot_26 : decode cX7_firstSlot 26 = .ok (.iushr, 1) := by decide +kernel
theorem dX7_firstSlot_27 : decode cX7_firstSlot 27 = .ok (.ixor, 1) := by decide +kernel
theorem dX7_firstSlot_28 : decode cX7_firstSlot 28 = .ok (.istore_n 1, 1) := by decide +kernel
theorem dX7_firstSlot_29 : decode cX7_firstSlot 29 = .ok (.iinc 2 1, 3) := by decide +kernel
theorem dX7_firstSlot_32 : decode cX7_firstSlot 32 = .ok (.goto (-28), 3) := by decide +kernel
theorem dX7_firstSlot_35 : decode cX7_firstSlot 35 = .ok (.iload_n 1, 1) := by decide +kernel
theorem dX7_firstSlot_36 : decode cX7_firstSlot 36 = .ok (.sipush 2047, 3) := by decide +kernel
theorem dX7_firstSlot_39 : decode cX7_firstSlot 39 = .ok (.iand, 1) := by decide +kernel
theorem dX7_firstSlot_40 : decode cX7_firstSlot 40 = .ok (.ireturn, 1) := by decide +kernel
theorem dX7_init_0 : decode cX7_init 0 = .ok (.aload_n 0, 1) := by decide +kernel
theorem dX7_init_1 : decode cX7_init 1 = .ok (.invokespecial 3, 3) := by decide +kernel
theorem dX7_init_4 : decode cX7_init 4 = .ok (.aload_n 0, 1) := by decide +kernel
theorem dX7_init_5 : decode cX7_init 5 = .ok (.iconst 0, 1) := by decide +kernel
theorem dX7_init_6 : decode cX7_init 6 = .ok (.putfield 9, 3) := by decide +kernel
theorem dX7_init_9 : decode cX7_init 9 = .ok (.aload_n 0, 1) := by decide +kernel
theorem dX7_init_10 : decode cX7_init 10 = .ok (.sipush 3600, 3) := by decide +kernel
theorem dX7_init_13 : decode cX7_init 13 = .ok (.newarray .int, 2) := by decide +kernel
theorem dX7_init_15 : decode cX7_init 15 = .ok (.putfield 15, 3) := by decide +kernel
theorem dX7_init_18 : decode cX7_init 18 = .ok (.aload_n 0, 1) := by decide +kernel
theorem dX7_init_19 : decode cX7_init 19 = .ok (.bipush 6, 2) := by decide +kernel
theorem dX7_init_21 : decode cX7_init 21 = .ok (.newarray .int, 2) := by decide +kernel
theorem dX7_init_23 : decode cX7_init 23 = .ok (.putfield 19, 3) := by decide +kernel
theorem dX7_init_26 : decode cX7_init 26 = .ok (.aload_n 0, 1) := by decide +kernel
theorem dX7_init_27 : decode cX7_init 27 = .ok (.sipush 2048, 3) := by decide +kernel
theorem dX7_init_30 : decode cX7_init 30 = .ok (.newarray .int, 2) := by decide +kernel
theorem dX7_init_32 : decode cX7_init 32 = .ok (.putfield 22, 3) := by decide +kernel
theorem dX7_init_35 : decode cX7_init 35 = .ok (.return_, 1) := by decide +kernel
theorem dX7_isDraft_0 : decode cX7_isDraft 0 = .ok (.iconst 0, 1) := by decide +kernel
theorem dX7_isDraft_1 : decode cX7_isDraft 1 = .ok (.istore_n 2, 1) := by decide +kernel
theorem dX7_isDraft_2 : decode cX7_isDraft 2 = .ok (.iload_n 2, 1) := by decide +kernel
theorem dX7_isDraft_3 : decode cX7_isDraft 3 = .ok (.bipush 6, 2) := by decide +kernel
theorem dX7_isDraft_5 : decode cX7_isDraft 5 = .ok (.if_icmp .ge 31, 3) := by decide +kernel
theorem dX7_isDraft_8 : decode cX7_isDraft 8 = .ok (.aload_n 0, 1) := by decide +kernel
theorem dX7_isDraft_9 : decode cX7_isDraft 9 = .ok (.getfield 15, 3) := by decide +kernel
theorem dX7_isDraft_12 : decode cX7_isDraft 12 = .ok (.iload_n 1, 1) := by decide +kernel
theorem dX7_isDraft_13 : decode cX7_isDraft 13 = .ok (.bipush 6, 2) := by decide +kernel
theorem dX7_isDraft_15 : decode cX7_isDraft 15 = .ok (.imul, 1) := by decide +kernel
theorem dX7_isDraft_16 : decode cX7_isDraft 16 = .ok (.iload_n 2, 1) := by decide +kernel
theorem dX7_isDraft_17 : decode cX7_isDraft 17 = .ok (.iadd, 1) := by decide +kernel
theorem dX7_isDraft_18 : decode cX7_isDraft 18 = .ok (.iaload, 1) := by decide +kernel
theorem dX7_isDraft_19 : decode cX7_isDraft 19 = .ok (.aload_n 0, 1) := by decide +kernel
theorem dX7_isDraft_20 : decode cX7_isDraft 20 = .ok (.getfield 19, 3) := by decide +kernel
theorem dX7_isDraft_23 : decode cX7_isDraft 23 = .ok (.iload_n 2, 1) := by decide +kernel
theorem dX7_isDraft_24 : decode cX7_isDraft 24 = .ok (.iaload, 1) := by decide +kernel
theorem dX7_isDraft_25 : decode cX7_isDraft 25 = .ok (.if_icmp .eq 5, 3) := by decide +kernel
theorem dX7_isDraft_28 : decode cX7_isDraft 28 = .ok (.iconst 0, 1) := by decide +kernel
theorem dX7_isDraft_29 : decode cX7_isDraft 29 = .ok (.ireturn, 1) := by decide +kernel
theorem dX7_isDraft_30 : decode cX7_isDraft 30 = .ok (.iinc 2 1, 3) := by decide +kernel
theorem dX7_isDraft_33 : decode cX7_isDraft 33 = .ok (.goto (-31), 3) := by decide +kernel
theorem dX7_isDraft_36 : decode cX7_isDraft 36 = .ok (.iconst 1, 1) := by decide +kernel
theorem dX7_isDraft_37 : decode cX7_isDraft 37 = .ok (.ireturn, 1) := by decide +kernel
theorem dX7_keep_0 : decode cX7_keep 0 = .ok (.aload_n 0, 1) := by decide +kernel
theorem dX7_keep_1 : decode cX7_keep 1 = .ok (.aload_n 1, 1) := by decide +kernel
theorem dX7_keep_2 : decode cX7_keep 2 = .ok (.invokevirtual 31, 3) := by decide +kernel
theorem dX7_keep_5 : decode cX7_keep 5 = .ok (.aload_n 0, 1) := by decide +kernel
theorem dX7_keep_6 : decode cX7_keep 6 = .ok (.invokevirtual 35, 3) := by decide +kernel
theorem dX7_keep_9 : decode cX7_keep 9 = .ok (.istore_n 2, 1) := by decide +kernel
theorem dX7_keep_10 : decode cX7_keep 10 = .ok (.iconst 0, 1) := by decide +kernel
theorem dX7_keep_11 : decode cX7_keep 11 = .ok (.istore_n 3, 1) := by decide +kernel
theorem dX7_keep_12 : decode cX7_keep 12 = .ok (.iload_n 3, 1) := by decide +kernel
theorem dX7_keep_13 : decode cX7_keep 13 = .ok (.sipush 2048, 3) := by decide +kernel
theorem dX7_keep_16 : decode cX7_keep 16 = .ok (.if_icmp .ge 43, 3) := by decide +kernel
theorem dX7_keep_19 : decode cX7_keep 19 = .ok (.aload_n 0, 1) := by decide +kernel
theorem dX7_keep_20 : decode cX7_keep 20 = .ok (.getfield 22, 3) := by decide +kernel
theorem dX7_keep_23 : decode cX7_keep 23 = .ok (.iload_n 2, 1) := by decide +kernel
theorem dX7_keep_24 : decode cX7_keep 24 = .ok (.iaload, 1) := by decide +kernel
theorem dX7_keep_25 : decode cX7_keep 25 = .ok (.ifCond .eq 34, 3) := by decide +kernel
theorem dX7_keep_28 : decode cX7_keep 28 = .ok (.aload_n 0, 1) := by decide +kernel
theorem dX7_keep_29 : decode cX7_keep 29 = .ok (.aload_n 0, 1) := by decide +kernel
theorem dX7_keep_30 : decode cX7_keep 30 = .ok (.getfield 22, 3) := by decide +kernel
theorem dX7_keep_33 : decode cX7_keep 33 = .ok (.iload_n 2, 1) := by decide +kernel
theorem dX7_keep_34 : decode cX7_keep 34 = .ok (.iaload, 1) := by decide +kernel
theorem dX7_keep_35 : decode cX7_keep 35 = .ok (.iconst 1, 1) := by decide +kernel
theorem dX7_keep_36 : decode cX7_keep 36 = .ok (.isub, 1) := by decide +kernel
theorem dX7_keep_37 : decode cX7_keep 37 = .ok (.invokevirtual 39, 3) := by decide +kernel
theorem dX7_keep_40 : decode cX7_keep 40 = .ok (.ifCond .eq 5, 3) := by decide +kernel
theorem dX7_keep_43 : decode cX7_keep 43 = .ok (.iconst (-1), 1) := by decide +kernel
theorem dX7_keep_44 : decode cX7_keep 44 = .ok (.ireturn, 1) := by decide +kernel
theorem dX7_keep_45 : decode cX7_keep 45 = .ok (.iload_n 2, 1) := by decide +kernel
theorem dX7_keep_46 : decode cX7_keep 46 = .ok (.iconst 1, 1) := by decide +kernel
theorem dX7_keep_47 : decode cX7_keep 47 = .ok (.iadd, 1) := by decide +kernel
theorem dX7_keep_48 : decode cX7_keep 48 = .ok (.sipush 2047, 3) := by decide +kernel
theorem dX7_keep_51 : decode cX7_keep 51 = .ok (.iand, 1) := by decide +kernel
theorem dX7_keep_52 : decode cX7_keep 52 = .ok (.istore_n 2, 1) := by decide +kernel
theorem dX7_keep_53 : decode cX7_keep 53 = .ok (.iinc 3 1, 3) := by decide +kernel
theorem dX7_keep_56 : decode cX7_keep 56 = .ok (.goto (-44), 3) := by decide +kernel
theorem dX7_keep_59 : decode cX7_keep 59 = .ok (.aload_n 0, 1) := by decide +kernel
theorem dX7_keep_60 : decode cX7_keep 60 = .ok (.getfield 9, 3) := by decide +kernel
theorem dX7_keep_63 : decode cX7_keep 63 = .ok (.sipush 600, 3) := by decide +kernel
theorem dX7_keep_66 : decode cX7_keep 66 = .ok (.if_icmp .lt 6, 3) := by decide +kernel
theorem dX7_keep_69 : decode cX7_keep 69 = .ok (.bipush (-2), 2) := by decide +kernel
theorem dX7_keep_71 : decode cX7_keep 71 = .ok (.ireturn, 1) := by decide +kernel
theorem dX7_keep_72 : decode cX7_keep 72 = .ok (.aload_n 0, 1) := by decide +kernel
theorem dX7_keep_73 : decode cX7_keep 73 = .ok (.getfield 19, 3) := by decide +kernel
theorem dX7_keep_76 : decode cX7_keep 76 = .ok (.iconst 0, 1) := by decide +kernel
theorem dX7_keep_77 : decode cX7_keep 77 = .ok (.aload_n 0, 1) := by decide +kernel
theorem dX7_keep_78 : decode cX7_keep 78 = .ok (.getfield 15, 3) := by decide +kernel
theorem dX7_keep_81 : decode cX7_keep 81 = .ok (.aload_n 0, 1) := by decide +kernel
theorem dX7_keep_82 : decode cX7_keep 82 = .ok (.getfield 9, 3) := by decide +kernel
theorem dX7_keep_85 : decode cX7_keep 85 = .ok (.bipush 6, 2) := by decide +kernel
theorem dX7_keep_87 : decode cX7_keep 87 = .ok (.imul, 1) := by decide +kernel
theorem dX7_keep_88 : decode cX7_keep 88 = .ok (.bipush 6, 2) := by decide +kernel
theorem dX7_keep_90 : decode cX7_keep 90 = .ok (.invokestatic 43, 3) := by decide +kernel
theorem dX7_keep_93 : decode cX7_keep 93 = .ok (.aload_n 0, 1) := by decide +kernel
theorem dX7_keep_94 : decode cX7_keep 94 = .ok (.dup, 1) := by decide +kernel
theorem dX7_keep_95 : decode cX7_keep 95 = .ok (.getfield 9, 3) := by decide +kernel
theorem dX7_keep_98 : decode cX7_keep 98 = .ok (.iconst 1, 1) := by decide +kernel
theorem dX7_keep_99 : decode cX7_keep 99 = .ok (.iadd, 1) := by decide +kernel
theorem dX7_keep_100 : decode cX7_keep 100 = .ok (.putfield 9, 3) := by decide +kernel
theorem dX7_keep_103 : decode cX7_keep 103 = .ok (.aload_n 0, 1) := by decide +kernel
theorem dX7_keep_104 : decode cX7_keep 104 = .ok (.getfield 22, 3) := by decide +kernel
theorem dX7_keep_107 : decode cX7_keep 107 = .ok (.iload_n 2, 1) := by decide +kernel
theorem dX7_keep_108 : decode cX7_keep 108 = .ok (.aload_n 0, 1) := by decide +kernel
theorem dX7_keep_109 : decode cX7_keep 109 = .ok (.getfield 9, 3) := by decide +kernel
theorem dX7_keep_112 : decode cX7_keep 112 = .ok (.iastore, 1) := by decide +kernel
theorem dX7_keep_113 : decode cX7_keep 113 = .ok (.aload_n 0, 1) := by decide +kernel
theorem dX7_keep_114 : decode cX7_keep 114 = .ok (.getfield 9, 3) := by decide +kernel
theorem dX7_keep_117 : decode cX7_keep 117 = .ok (.iconst 1, 1) := by decide +kernel
theorem dX7_keep_118 : decode cX7_keep 118 = .ok (.isub, 1) := by decide +kernel
theorem dX7_keep_119 : decode cX7_keep 119 = .ok (.ireturn, 1) := by decide +kernel
theorem dX7_pack_0 : decode cX7_pack 0 = .ok (.aload_n 0, 1) := by decide +kernel
theorem dX7_pack_1 : decode cX7_pack 1 = .ok (.getfield 19, 3) := by decide +kernel
theorem dX7_pack_4 : decode cX7_pack 4 = .ok (.iconst 0, 1) := by decide +kernel
theorem dX7_pack_5 : decode cX7_pack 5 = .ok (.aload_n 1, 1) := by decide +kernel
theorem dX7_pack_6 : decode cX7_pack 6 = .ok (.iconst 0, 1) := by decide +kernel
theorem dX7_pack_7 : decode cX7_pack 7 = .ok (.invokestatic 50, 3) := by decide +kernel
theorem dX7_pack_10 : decode cX7_pack 10 = .ok (.aload_n 1, 1) := by decide +kernel
theorem dX7_pack_11 : decode cX7_pack 11 = .ok (.iconst 1, 1) := by decide +kernel
theorem dX7_pack_12 : decode cX7_pack 12 = .ok (.invokestatic 50, 3) := by decide +kernel
theorem dX7_pack_15 : decode cX7_pack 15 = .ok (.bipush 11, 2) := by decide +kernel
theorem dX7_pack_17 : decode cX7_pack 17 = .ok (.ishl, 1) := by decide +kernel
theorem dX7_pack_18 : decode cX7_pack 18 = .ok (.ior, 1) := by decide +kernel
theorem dX7_pack_19 : decode cX7_pack 19 = .ok (.iastore, 1) := by decide +kernel
theorem dX7_pack_20 : decode cX7_pack 20 = .ok (.aload_n 0, 1) := by decide +kernel
theorem dX7_pack_21 : decode cX7_pack 21 = .ok (.getfield 19, 3) := by decide +kernel
theorem dX7_pack_24 : decode cX7_pack 24 = .ok (.iconst 1, 1) := by decide +kernel
theorem dX7_pack_25 : decode cX7_pack 25 = .ok (.aload_n 1, 1) := by decide +kernel
theorem dX7_pack_26 : decode cX7_pack 26 = .ok (.iconst 2, 1) := by decide +kernel
theorem dX7_pack_27 : decode cX7_pack 27 = .ok (.invokestatic 50, 3) := by decide +kernel
theorem dX7_pack_30 : decode cX7_pack 30 = .ok (.aload_n 1, 1) := by decide +kernel
theorem dX7_pack_31 : decode cX7_pack 31 = .ok (.iconst 3, 1) := by decide +kernel
theorem dX7_pack_32 : decode cX7_pack 32 = .ok (.invokestatic 50, 3) := by decide +kernel
theorem dX7_pack_35 : decode cX7_pack 35 = .ok (.bipush 11, 2) := by decide +kernel
theorem dX7_pack_37 : decode cX7_pack 37 = .ok (.ishl, 1) := by decide +kernel
theorem dX7_pack_38 : decode cX7_pack 38 = .ok (.ior, 1) := by decide +kernel
theorem dX7_pack_39 : decode cX7_pack 39 = .ok (.iastore, 1) := by decide +kernel
theorem dX7_pack_40 : decode cX7_pack 40 = .ok (.iconst 0, 1) := by decide +kernel
theorem dX7_pack_41 : decode cX7_pack 41 = .ok (.istore_n 2, 1) := by decide +kernel
theorem dX7_pack_42 : decode cX7_pack 42 = .ok (.iload_n 2, 1) := by decide +kernel
theorem dX7_pack_43 : decode cX7_pack 43 = .ok (.iconst 3, 1) := by decide +kernel
theorem dX7_pack_44 : decode cX7_pack 44 = .ok (.if_icmp .ge 54, 3) := by decide +kernel
theorem dX7_pack_47 : decode cX7_pack 47 = .ok (.aload_n 0, 1) := by decide +kernel
theorem dX7_pack_48 : decode cX7_pack 48 = .ok (.getfield 19, 3) := by decide +kernel
theorem dX7_pack_51 : decode cX7_pack 51 = .ok (.iconst 2, 1) := by decide +kernel
theorem dX7_pack_52 : decode cX7_pack 52 = .ok (.iload_n 2, 1) := by decide +kernel
theorem dX7_pack_53 : decode cX7_pack 53 = .ok (.iadd, 1) := by decide +kernel
theorem dX7_pack_54 : decode cX7_pack 54 = .ok (.aload_n 1, 1) := by decide +kernel
theorem dX7_pack_55 : decode cX7_pack 55 = .ok (.getfield 54, 3) := by decide +kernel
theorem dX7_pack_58 : decode cX7_pack 58 = .ok (.iload_n 2, 1) := by decide +kernel
theorem dX7_pack_59 : decode cX7_pack 59 = .ok (.iaload, 1) := by decide +kernel
theorem dX7_pack_60 : decode cX7_pack 60 = .ok (.iconst 1, 1) := by decide +kernel
theorem dX7_pack_61 : decode cX7_pack 61 = .ok (.iadd, 1) := by decide +kernel
theorem dX7_pack_62 : decode cX7_pack 62 = .ok (.aload_n 1, 1) := by decide +kernel
theorem dX7_pack_63 : decode cX7_pack 63 = .ok (.getfield 59, 3) := by decide +kernel
theorem dX7_pack_66 : decode cX7_pack 66 = .ok (.iload_n 2, 1) := by decide +kernel
theorem dX7_pack_67 : decode cX7_pack 67 = .ok (.iaload, 1) := by decide +kernel
theorem dX7_pack_68 : decode cX7_pack 68 = .ok (.iconst 3, 1) := by decide +kernel
theorem dX7_pack_69 : decode cX7_pack 69 = .ok (.ishl, 1) := by decide +kernel
theorem dX7_pack_70 : decode cX7_pack 70 = .ok (.ior, 1) := by decide +kernel
theorem dX7_pack_71 : decode cX7_pack 71 = .ok (.aload_n 1, 1) := by decide +kernel
theorem dX7_pack_72 : decode cX7_pack 72 = .ok (.getfield 62, 3) := by decide +kernel
theorem dX7_pack_75 : decode cX7_pack 75 = .ok (.iload_n 2, 1) := by decide +kernel
theorem dX7_pack_76 : decode cX7_pack 76 = .ok (.iaload, 1) := by decide +kernel
theorem dX7_pack_77 : decode cX7_pack 77 = .ok (.bipush 7, 2) := by decide +kernel
theorem dX7_pack_79 : decode cX7_pack 79 = .ok (.ishl, 1) := by decide +kernel
theorem dX7_pack_80 : decode cX7_pack 80 = .ok (.ior, 1) := by decide +kernel
theorem dX7_pack_81 : decode cX7_pack 81 = .ok (.aload_n 1, 1) := by decide +kernel
theorem dX7_pack_82 : decode cX7_pack 82 = .ok (.getfield 65, 3) := by decide +kernel
theorem dX7_pack_85 : decode cX7_pack 85 = .ok (.iload_n 2, 1) := by decide +kernel
theorem dX7_pack_86 : decode cX7_pack 86 = .ok (.iaload, 1) := by decide +kernel
theorem dX7_pack_87 : decode cX7_pack 87 = .ok (.bipush 19, 2) := by decide +kernel
theorem dX7_pack_89 : decode cX7_pack 89 = .ok (.ishl, 1) := by decide +kernel
theorem dX7_pack_90 : decode cX7_pack 90 = .ok (.ior, 1) := by decide +kernel
theorem dX7_pack_91 : decode cX7_pack 91 = .ok (.iastore, 1) := by decide +kernel
theorem dX7_pack_92 : decode cX7_pack 92 = .ok (.iinc 2 1, 3) := by decide +kernel
theorem dX7_pack_95 : decode cX7_pack 95 = .ok (.goto (-53), 3) := by decide +kernel
theorem dX7_pack_98 : decode cX7_pack 98 = .ok (.aload_n 0, 1) := by decide +kernel
theorem dX7_pack_99 : decode cX7_pack 99 = .ok (.getfield 19, 3) := by decide +kernel
theorem dX7_pack_102 : decode cX7_pack 102 = .ok (.iconst 5, 1) := by decide +kernel
theorem dX7_pack_103 : decode cX7_pack 103 = .ok (.aload_n 1, 1) := by decide +kernel
theorem dX7_pack_104 : decode cX7_pack 104 = .ok (.getfield 68, 3) := by decide +kernel
theorem dX7_pack_107 : decode cX7_pack 107 = .ok (.invokestatic 71, 3) := by decide +kernel
theorem dX7_pack_110 : decode cX7_pack 110 = .ok (.iastore, 1) := by decide +kernel
theorem dX7_pack_111 : decode cX7_pack 111 = .ok (.return_, 1) := by decide +kernel
theorem dX7_packedCells_0 : decode cX7_packedCells 0 = .ok (.iconst 0, 1) := by decide +kernel
theorem dX7_packedCells_1 : decode cX7_packedCells 1 = .ok (.istore_n 1, 1) := by decide +kernel
theorem dX7_packedCells_2 : decode cX7_packedCells 2 = .ok (.iconst 0, 1) := by decide +kernel
theorem dX7_packedCells_3 : decode cX7_packedCells 3 = .ok (.istore_n 2, 1) := by decide +kernel
theorem dX7_packedCells_4 : decode cX7_packedCells 4 = .ok (.iload_n 2, 1) := by decide +kernel
theorem dX7_packedCells_5 : decode cX7_packedCells 5 = .ok (.iconst 4, 1) := by decide +kernel
theorem dX7_packedCells_6 : decode cX7_packedCells 6 = .ok (.if_icmp .ge 23, 3) := by decide +kernel
theorem dX7_packedCells_9 : decode cX7_packedCells 9 = .ok (.iload_n 1, 1) := by decide +kernel
theorem dX7_packedCells_10 : decode cX7_packedCells 10 = .ok (.aload_n 0, 1) := by decide +kernel
theorem dX7_packedCells_11 : decode cX7_packedCells 11 = .ok (.iload_n 2, 1) := by decide +kernel
theorem dX7_packedCells_12 : decode cX7_packedCells 12 = .ok (.iaload, 1) := by decide +kernel
theorem dX7_packedCells_13 : decode cX7_packedCells 13 = .ok (.bipush 99, 2) := by decide +kernel
theorem dX7_packedCells_15 : decode cX7_packedCells 15 = .ok (.iadd, 1) := by decide +kernel
theorem dX7_packedCells_16 : decode cX7_packedCells 16 = .ok (.bipush 8, 2) := by decide +kernel
theorem dX7_packedCells_18 : decode cX7_packedCells 18 = .ok (.iload_n 2, 1) := by decide +kernel
theorem dX7_packedCells_19 : decode cX7_packedCells 19 = .ok (.imul, 1) := by decide +kernel
theorem dX7_packedCells_20 : decode cX7_packedCells 20 = .ok (.ishl, 1) := by decide +kernel
theorem dX7_packedCells_21 : decode cX7_packedCells 21 = .ok (.ior, 1) := by decide +kernel
theorem dX7_packedCells_22 : decode cX7_packedCells 22 = .ok (.istore_n 1, 1) := by decide +kernel
theorem dX7_packedCells_23 : decode cX7_packedCells 23 = .ok (.iinc 2 1, 3) := by decide +kernel
theorem dX7_packedCells_26 : decode cX7_packedCells 26 = .ok (.goto (-22), 3) := by decide +kernel
theorem dX7_packedCells_29 : decode cX7_packedCells 29 = .ok (.iload_n 1, 1) := by decide +kernel
theorem dX7_packedCells_30 : decode cX7_packedCells 30 = .ok (.ireturn, 1) := by decide +kernel
theorem dX7_packedTask_0 : decode cX7_packedTask 0 = .ok (.aload_n 0, 1) := by decide +kernel
theorem dX7_packedTask_1 : decode cX7_packedTask 1 = .ok (.getfield 75, 3) := by decide +kernel
theorem dX7_packedTask_4 : decode cX7_packedTask 4 = .ok (.iload_n 1, 1) := by decide +kernel
theorem dX7_packedTask_5 : decode cX7_packedTask 5 = .ok (.iaload, 1) := by decide +kernel
theorem dX7_packedTask_6 : decode cX7_packedTask 6 = .ok (.aload_n 0, 1) := by decide +kernel
theorem dX7_packedTask_7 : decode cX7_packedTask 7 = .ok (.getfield 78, 3) := by decide +kernel
theorem dX7_packedTask_10 : decode cX7_packedTask 10 = .ok (.iload_n 1, 1) := by decide +kernel
theorem dX7_packedTask_11 : decode cX7_packedTask 11 = .ok (.iaload, 1) := by decide +kernel
theorem dX7_packedTask_12 : decode cX7_packedTask 12 = .ok (.iconst 4, 1) := by decide +kernel
theorem dX7_packedTask_13 : decode cX7_packedTask 13 = .ok (.ishl, 1) := by decide +kernel
theorem dX7_packedTask_14 : decode cX7_packedTask 14 = .ok (.ior, 1) := by decide +kernel
theorem dX7_packedTask_15 : decode cX7_packedTask 15 = .ok (.aload_n 0, 1) := by decide +kernel
theorem dX7_packedTask_16 : decode cX7_packedTask 16 = .ok (.getfield 81, 3) := by decide +kernel
theorem dX7_packedTask_19 : decode cX7_packedTask 19 = .ok (.iload_n 1, 1) := by decide +kernel
theorem dX7_packedTask_20 : decode cX7_packedTask 20 = .ok (.iaload, 1) := by decide +kernel
theorem dX7_packedTask_21 : decode cX7_packedTask 21 = .ok (.bipush 7, 2) := by decide +kernel
theorem dX7_packedTask_23 : decode cX7_packedTask 23 = .ok (.ishl, 1) := by decide +kernel
theorem dX7_packedTask_24 : decode cX7_packedTask 24 = .ok (.ior, 1) := by decide +kernel
theorem dX7_packedTask_25 : decode cX7_packedTask 25 = .ok (.ireturn, 1) := by decide +kernel
theorem dX7_unpack_0 : decode cX7_unpack 0 = .ok (.iload_n 1, 1) := by decide +kernel
theorem dX7_unpack_1 : decode cX7_unpack 1 = .ok (.ifCond .lt 11, 3) := by decide +kernel
theorem dX7_unpack_4 : decode cX7_unpack 4 = .ok (.iload_n 1, 1) := by decide +kernel
theorem dX7_unpack_5 : decode cX7_unpack 5 = .ok (.aload_n 0, 1) := by decide +kernel
theorem dX7_unpack_6 : decode cX7_unpack 6 = .ok (.getfield 9, 3) := by decide +kernel
theorem dX7_unpack_9 : decode cX7_unpack 9 = .ok (.if_icmp .lt 4, 3) := by decide +kernel
theorem dX7_unpack_12 : decode cX7_unpack 12 = .ok (.return_, 1) := by decide +kernel
theorem dX7_unpack_13 : decode cX7_unpack 13 = .ok (.iload_n 1, 1) := by decide +kernel
theorem dX7_unpack_14 : decode cX7_unpack 14 = .ok (.bipush 6, 2) := by decide +kernel
theorem dX7_unpack_16 : decode cX7_unpack 16 = .ok (.imul, 1) := by decide +kernel
theorem dX7_unpack_17 : decode cX7_unpack 17 = .ok (.istore_n 3, 1) := by decide +kernel
theorem dX7_unpack_18 : decode cX7_unpack 18 = .ok (.iconst 0, 1) := by decide +kernel
theorem dX7_unpack_19 : decode cX7_unpack 19 = .ok (.istore 4, 2) := by decide +kernel
theorem dX7_unpack_21 : decode cX7_unpack 21 = .ok (.iload 4, 2) := by decide +kernel
theorem dX7_unpack_23 : decode cX7_unpack 23 = .ok (.iconst 4, 1) := by decide +kernel
theorem dX7_unpack_24 : decode cX7_unpack 24 = .ok (.if_icmp .ge 71, 3) := by decide +kernel
theorem dX7_unpack_27 : decode cX7_unpack 27 = .ok (.aload_n 0, 1) := by decide +kernel
theorem dX7_unpack_28 : decode cX7_unpack 28 = .ok (.getfield 15, 3) := by decide +kernel
theorem dX7_unpack_31 : decode cX7_unpack 31 = .ok (.iload_n 3, 1) := by decide +kernel
theorem dX7_unpack_32 : decode cX7_unpack 32 = .ok (.iload 4, 2) := by decide +kernel
theorem dX7_unpack_34 : decode cX7_unpack 34 = .ok (.iconst 1, 1) := by decide +kernel
theorem dX7_unpack_35 : decode cX7_unpack 35 = .ok (.ishr, 1) := by decide +kernel
theorem dX7_unpack_36 : decode cX7_unpack 36 = .ok (.iadd, 1) := by decide +kernel
theorem dX7_unpack_37 : decode cX7_unpack 37 = .ok (.iaload, 1) := by decide +kernel
theorem dX7_unpack_38 : decode cX7_unpack 38 = .ok (.bipush 11, 2) := by decide +kernel
theorem dX7_unpack_40 : decode cX7_unpack 40 = .ok (.iload 4, 2) := by decide +kernel
theorem dX7_unpack_42 : decode cX7_unpack 42 = .ok (.iconst 1, 1) := by decide +kernel
theorem dX7_unpack_43 : decode cX7_unpack 43 = .ok (.iand, 1) := by decide +kernel
theorem dX7_unpack_44 : decode cX7_unpack 44 = .ok (.imul, 1) := by decide +kernel
theorem dX7_unpack_45 : decode cX7_unpack 45 = .ok (.iushr, 1) := by decide +kernel
theorem dX7_unpack_46 : decode cX7_unpack 46 = .ok (.istore 5, 2) := by decide +kernel
theorem dX7_unpack_48 : decode cX7_unpack 48 = .ok (.aload_n 2, 1) := by decide +kernel
theorem dX7_unpack_49 : decode cX7_unpack 49 = .ok (.getfield 75, 3) := by decide +kernel
theorem dX7_unpack_52 : decode cX7_unpack 52 = .ok (.iload 4, 2) := by decide +kernel
theorem dX7_unpack_54 : decode cX7_unpack 54 = .ok (.iload 5, 2) := by decide +kernel
theorem dX7_unpack_56 : decode cX7_unpack 56 = .ok (.bipush 15, 2) := by decide +kernel
theorem dX7_unpack_58 : decode cX7_unpack 58 = .ok (.iand, 1) := by decide +kernel
theorem dX7_unpack_59 : decode cX7_unpack 59 = .ok (.iastore, 1) := by decide +kernel
theorem dX7_unpack_60 : decode cX7_unpack 60 = .ok (.aload_n 2, 1) := by decide +kernel
theorem dX7_unpack_61 : decode cX7_unpack 61 = .ok (.getfield 78, 3) := by decide +kernel
theorem dX7_unpack_64 : decode cX7_unpack 64 = .ok (.iload 4, 2) := by decide +kernel
theorem dX7_unpack_66 : decode cX7_unpack 66 = .ok (.iload 5, 2) := by decide +kernel
theorem dX7_unpack_68 : decode cX7_unpack 68 = .ok (.iconst 4, 1) := by decide +kernel
theorem dX7_unpack_69 : decode cX7_unpack 69 = .ok (.iushr, 1) := by decide +kernel
theorem dX7_unpack_70 : decode cX7_unpack 70 = .ok (.bipush 7, 2) := by decide +kernel
theorem dX7_unpack_72 : decode cX7_unpack 72 = .ok (.iand, 1) := by decide +kernel
theorem dX7_unpack_73 : decode cX7_unpack 73 = .ok (.iastore, 1) := by decide +kernel
theorem dX7_unpack_74 : decode cX7_unpack 74 = .ok (.aload_n 2, 1) := by decide +kernel
theorem dX7_unpack_75 : decode cX7_unpack 75 = .ok (.getfield 81, 3) := by decide +kernel
theorem dX7_unpack_78 : decode cX7_unpack 78 = .ok (.iload 4, 2) := by decide +kernel
theorem dX7_unpack_80 : decode cX7_unpack 80 = .ok (.iload 5, 2) := by decide +kernel
theorem dX7_unpack_82 : decode cX7_unpack 82 = .ok (.bipush 7, 2) := by decide +kernel
theorem dX7_unpack_84 : decode cX7_unpack 84 = .ok (.iushr, 1) := by decide +kernel
theorem dX7_unpack_85 : decode cX7_unpack 85 = .ok (.bipush 15, 2) := by decide +kernel
theorem dX7_unpack_87 : decode cX7_unpack 87 = .ok (.iand, 1) := by decide +kernel
theorem dX7_unpack_88 : decode cX7_unpack 88 = .ok (.iastore, 1) := by decide +kernel
theorem dX7_unpack_89 : decode cX7_unpack 89 = .ok (.iinc 4 1, 3) := by decide +kernel
theorem dX7_unpack_92 : decode cX7_unpack 92 = .ok (.goto (-71), 3) := by decide +kernel
theorem dX7_unpack_95 : decode cX7_unpack 95 = .ok (.iconst 0, 1) := by decide +kernel
theorem dX7_unpack_96 : decode cX7_unpack 96 = .ok (.istore 4, 2) := by decide +kernel
theorem dX7_unpack_98 : decode cX7_unpack 98 = .ok (.iload 4, 2) := by decide +kernel
theorem dX7_unpack_100 : decode cX7_unpack 100 = .ok (.iconst 3, 1) := by decide +kernel
theorem dX7_unpack_101 : decode cX7_unpack 101 = .ok (.if_icmp .ge 78, 3) := by decide +kernel
theorem dX7_unpack_104 : decode cX7_unpack 104 = .ok (.aload_n 0, 1) := by decide +kernel
theorem dX7_unpack_105 : decode cX7_unpack 105 = .ok (.getfield 15, 3) := by decide +kernel
theorem dX7_unpack_108 : decode cX7_unpack 108 = .ok (.iload_n 3, 1) := by decide +kernel
theorem dX7_unpack_109 : decode cX7_unpack 109 = .ok (.iconst 2, 1) := by decide +kernel
theorem dX7_unpack_110 : decode cX7_unpack 110 = .ok (.iadd, 1) := by decide +kernel
theorem dX7_unpack_111 : decode cX7_unpack 111 = .ok (.iload 4, 2) := by decide +kernel
theorem dX7_unpack_113 : decode cX7_unpack 113 = .ok (.iadd, 1) := by decide +kernel
theorem dX7_unpack_114 : decode cX7_unpack 114 = .ok (.iaload, 1) := by decide +kernel
theorem dX7_unpack_115 : decode cX7_unpack 115 = .ok (.istore 5, 2) := by decide +kernel
theorem dX7_unpack_117 : decode cX7_unpack 117 = .ok (.aload_n 2, 1) := by decide +kernel
theorem dX7_unpack_118 : decode cX7_unpack 118 = .ok (.getfield 54, 3) := by decide +kernel
theorem dX7_unpack_121 : decode cX7_unpack 121 = .ok (.iload 4, 2) := by decide +kernel
theorem dX7_unpack_123 : decode cX7_unpack 123 = .ok (.iload 5, 2) := by decide +kernel
theorem dX7_unpack_125 : decode cX7_unpack 125 = .ok (.bipush 7, 2) := by decide +kernel
theorem dX7_unpack_127 : decode cX7_unpack 127 = .ok (.iand, 1) := by decide +kernel
theorem dX7_unpack_128 : decode cX7_unpack 128 = .ok (.iconst 1, 1) := by decide +kernel
theorem dX7_unpack_129 : decode cX7_unpack 129 = .ok (.isub, 1) := by decide +kernel
theorem dX7_unpack_130 : decode cX7_unpack 130 = .ok (.iastore, 1) := by decide +kernel
theorem dX7_unpack_131 : decode cX7_unpack 131 = .ok (.aload_n 2, 1) := by decide +kernel
theorem dX7_unpack_132 : decode cX7_unpack 132 = .ok (.getfield 59, 3) := by decide +kernel
theorem dX7_unpack_135 : decode cX7_unpack 135 = .ok (.iload 4, 2) := by decide +kernel
theorem dX7_unpack_137 : decode cX7_unpack 137 = .ok (.iload 5, 2) := by decide +kernel
theorem dX7_unpack_139 : decode cX7_unpack 139 = .ok (.iconst 3, 1) := by decide +kernel
theorem dX7_unpack_140 : decode cX7_unpack 140 = .ok (.iushr, 1) := by decide +kernel
theorem dX7_unpack_141 : decode cX7_unpack 141 = .ok (.bipush 15, 2) := by decide +kernel
theorem dX7_unpack_143 : decode cX7_unpack 143 = .ok (.iand, 1) := by decide +kernel
theorem dX7_unpack_144 : decode cX7_unpack 144 = .ok (.iastore, 1) := by decide +kernel
theorem dX7_unpack_145 : decode cX7_unpack 145 = .ok (.aload_n 2, 1) := by decide +kernel
theorem dX7_unpack_146 : decode cX7_unpack 146 = .ok (.getfield 62, 3) := by decide +kernel
theorem dX7_unpack_149 : decode cX7_unpack 149 = .ok (.iload 4, 2) := by decide +kernel
theorem dX7_unpack_151 : decode cX7_unpack 151 = .ok (.iload 5, 2) := by decide +kernel
theorem dX7_unpack_153 : decode cX7_unpack 153 = .ok (.bipush 7, 2) := by decide +kernel
theorem dX7_unpack_155 : decode cX7_unpack 155 = .ok (.iushr, 1) := by decide +kernel
theorem dX7_unpack_156 : decode cX7_unpack 156 = .ok (.sipush 4095, 3) := by decide +kernel
theorem dX7_unpack_159 : decode cX7_unpack 159 = .ok (.iand, 1) := by decide +kernel
theorem dX7_unpack_160 : decode cX7_unpack 160 = .ok (.iastore, 1) := by decide +kernel
theorem dX7_unpack_161 : decode cX7_unpack 161 = .ok (.aload_n 2, 1) := by decide +kernel
theorem dX7_unpack_162 : decode cX7_unpack 162 = .ok (.getfield 65, 3) := by decide +kernel
theorem dX7_unpack_165 : decode cX7_unpack 165 = .ok (.iload 4, 2) := by decide +kernel
theorem dX7_unpack_167 : decode cX7_unpack 167 = .ok (.iload 5, 2) := by decide +kernel
theorem dX7_unpack_169 : decode cX7_unpack 169 = .ok (.bipush 19, 2) := by decide +kernel
theorem dX7_unpack_171 : decode cX7_unpack 171 = .ok (.iushr, 1) := by decide +kernel
theorem dX7_unpack_172 : decode cX7_unpack 172 = .ok (.iastore, 1) := by decide +kernel
theorem dX7_unpack_173 : decode cX7_unpack 173 = .ok (.iinc 4 1, 3) := by decide +kernel
theorem dX7_unpack_176 : decode cX7_unpack 176 = .ok (.goto (-78), 3) := by decide +kernel
theorem dX7_unpack_179 : decode cX7_unpack 179 = .ok (.iconst 0, 1) := by decide +kernel
theorem dX7_unpack_180 : decode cX7_unpack 180 = .ok (.istore 4, 2) := by decide +kernel
theorem dX7_unpack_182 : decode cX7_unpack 182 = .ok (.iload 4, 2) := by decide +kernel
theorem dX7_unpack_184 : decode cX7_unpack 184 = .ok (.iconst 4, 1) := by decide +kernel
theorem dX7_unpack_185 : decode cX7_unpack 185 = .ok (.if_icmp .ge 29, 3) := by decide +kernel
theorem dX7_unpack_188 : decode cX7_unpack 188 = .ok (.aload_n 2, 1) := by decide +kernel
theorem dX7_unpack_189 : decode cX7_unpack 189 = .ok (.getfield 68, 3) := by decide +kernel
theorem dX7_unpack_192 : decode cX7_unpack 192 = .ok (.iload 4, 2) := by decide +kernel
theorem dX7_unpack_194 : decode cX7_unpack 194 = .ok (.aload_n 0, 1) := by decide +kernel
theorem dX7_unpack_195 : decode cX7_unpack 195 = .ok (.getfield 15, 3) := by decide +kernel
theorem dX7_unpack_198 : decode cX7_unpack 198 = .ok (.iload_n 3, 1) := by decide +kernel
theorem dX7_unpack_199 : decode cX7_unpack 199 = .ok (.iconst 5, 1) := by decide +kernel
theorem dX7_unpack_200 : decode cX7_unpack 200 = .ok (.iadd, 1) := by decide +kernel
theorem dX7_unpack_201 : decode cX7_unpack 201 = .ok (.iaload, 1) := by decide +kernel
theorem dX7_unpack_202 : decode cX7_unpack 202 = .ok (.iload 4, 2) := by decide +kernel
theorem dX7_unpack_204 : decode cX7_unpack 204 = .ok (.invokestatic 84, 3) := by decide +kernel
theorem dX7_unpack_207 : decode cX7_unpack 207 = .ok (.iastore, 1) := by decide +kernel
theorem dX7_unpack_208 : decode cX7_unpack 208 = .ok (.iinc 4 1, 3) := by decide +kernel
theorem dX7_unpack_211 : decode cX7_unpack 211 = .ok (.goto (-29), 3) := by decide +kernel
theorem dX7_unpack_214 : decode cX7_unpack 214 = .ok (.return_, 1) := by decide +kernel
theorem dX7_unpackedCell_0 : decode cX7_unpackedCell 0 = .ok (.iload_n 0, 1) := by decide +kernel
theorem dX7_unpackedCell_1 : decode cX7_unpackedCell 1 = .ok (.bipush 8, 2) := by decide +kernel
theorem dX7_unpackedCell_3 : decode cX7_unpackedCell 3 = .ok (.iload_n 1, 1) := by decide +kernel
theorem dX7_unpackedCell_4 : decode cX7_unpackedCell 4 = .ok (.imul, 1) := by decide +kernel

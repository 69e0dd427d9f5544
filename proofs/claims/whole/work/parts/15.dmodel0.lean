theorem dX11_are_0 : decode cX11_are 0 = .ok (.iload_n 1, 1) := by decide +kernel
theorem dX11_are_1 : decode cX11_are 1 = .ok (.i2l, 1) := by decide +kernel
theorem dX11_are_2 : decode cX11_are 2 = .ok (.lconst 0, 1) := by decide +kernel
theorem dX11_are_3 : decode cX11_are 3 = .ok (.ldc2_w 213, 3) := by decide +kernel
theorem dX11_are_6 : decode cX11_are 6 = .ok (.invokestatic 64, 3) := by decide +kernel
theorem dX11_are_9 : decode cX11_are 9 = .ok (.ifCond .eq 16, 3) := by decide +kernel
theorem dX11_are_12 : decode cX11_are 12 = .ok (.aload_n 0, 1) := by decide +kernel
theorem dX11_are_13 : decode cX11_are 13 = .ok (.aload_n 0, 1) := by decide +kernel
theorem dX11_are_14 : decode cX11_are 14 = .ok (.getfield 9, 3) := by decide +kernel
theorem dX11_are_17 : decode cX11_are 17 = .ok (.iconst 0, 1) := by decide +kernel
theorem dX11_are_18 : decode cX11_are 18 = .ok (.iload_n 1, 1) := by decide +kernel
theorem dX11_are_19 : decode cX11_are 19 = .ok (.invokevirtual 215, 3) := by decide +kernel
theorem dX11_are_22 : decode cX11_are 22 = .ok (.goto 4, 3) := by decide +kernel
theorem dX11_are_25 : decode cX11_are 25 = .ok (.iconst (-1), 1) := by decide +kernel
theorem dX11_are_26 : decode cX11_are 26 = .ok (.ireturn, 1) := by decide +kernel
theorem dX11_areCellsLike_0 : decode cX11_areCellsLike 0 = .ok (.iconst 1, 1) := by decide +kernel
theorem dX11_areCellsLike_1 : decode cX11_areCellsLike 1 = .ok (.istore_n 3, 1) := by decide +kernel
theorem dX11_areCellsLike_2 : decode cX11_areCellsLike 2 = .ok (.iconst 0, 1) := by decide +kernel
theorem dX11_areCellsLike_3 : decode cX11_areCellsLike 3 = .ok (.istore 4, 2) := by decide +kernel
theorem dX11_areCellsLike_5 : decode cX11_areCellsLike 5 = .ok (.iload 4, 2) := by decide +kernel
theorem dX11_areCellsLike_7 : decode cX11_areCellsLike 7 = .ok (.iconst 4, 1) := by decide +kernel
theorem dX11_areCellsLike_8 : decode cX11_areCellsLike 8 = .ok (.if_icmp .ge 52, 3) := by decide +kernel
theorem dX11_areCellsLike_11 : decode cX11_areCellsLike 11 = .ok (.iload_n 3, 1) := by decide +kernel
theorem dX11_areCellsLike_12 : decode cX11_areCellsLike 12 = .ok (.ifCond .eq 40, 3) := by decide +kernel
theorem dX11_areCellsLike_15 : decode cX11_areCellsLike 15 = .ok (.aload_n 0, 1) := by decide +kernel
theorem dX11_areCellsLike_16 : decode cX11_areCellsLike 16 = .ok (.getfield 40, 3) := by decide +kernel
theorem dX11_areCellsLike_19 : decode cX11_areCellsLike 19 = .ok (.bipush 52, 2) := by decide +kernel
theorem dX11_areCellsLike_21 : decode cX11_areCellsLike 21 = .ok (.iload_n 1, 1) := by decide +kernel
theorem dX11_areCellsLike_22 : decode cX11_areCellsLike 22 = .ok (.imul, 1) := by decide +kernel
theorem dX11_areCellsLike_23 : decode cX11_areCellsLike 23 = .ok (.bipush 48, 2) := by decide +kernel
theorem dX11_areCellsLike_25 : decode cX11_areCellsLike 25 = .ok (.iadd, 1) := by decide +kernel
theorem dX11_areCellsLike_26 : decode cX11_areCellsLike 26 = .ok (.iload 4, 2) := by decide +kernel
theorem dX11_areCellsLike_28 : decode cX11_areCellsLike 28 = .ok (.iadd, 1) := by decide +kernel
theorem dX11_areCellsLike_29 : decode cX11_areCellsLike 29 = .ok (.iaload, 1) := by decide +kernel
theorem dX11_areCellsLike_30 : decode cX11_areCellsLike 30 = .ok (.aload_n 0, 1) := by decide +kernel
theorem dX11_areCellsLike_31 : decode cX11_areCellsLike 31 = .ok (.getfield 40, 3) := by decide +kernel
theorem dX11_areCellsLike_34 : decode cX11_areCellsLike 34 = .ok (.bipush 52, 2) := by decide +kernel
theorem dX11_areCellsLike_36 : decode cX11_areCellsLike 36 = .ok (.iload_n 2, 1) := by decide +kernel
theorem dX11_areCellsLike_37 : decode cX11_areCellsLike 37 = .ok (.imul, 1) := by decide +kernel
theorem dX11_areCellsLike_38 : decode cX11_areCellsLike 38 = .ok (.bipush 48, 2) := by decide +kernel
theorem dX11_areCellsLike_40 : decode cX11_areCellsLike 40 = .ok (.iadd, 1) := by decide +kernel
theorem dX11_areCellsLike_41 : decode cX11_areCellsLike 41 = .ok (.iload 4, 2) := by decide +kernel
theorem dX11_areCellsLike_43 : decode cX11_areCellsLike 43 = .ok (.iadd, 1) := by decide +kernel
theorem dX11_areCellsLike_44 : decode cX11_areCellsLike 44 = .ok (.iaload, 1) := by decide +kernel
theorem dX11_areCellsLike_45 : decode cX11_areCellsLike 45 = .ok (.if_icmp .ne 7, 3) := by decide +kernel
theorem dX11_areCellsLike_48 : decode cX11_areCellsLike 48 = .ok (.iconst 1, 1) := by decide +kernel
theorem dX11_areCellsLike_49 : decode cX11_areCellsLike 49 = .ok (.goto 4, 3) := by decide +kernel
theorem dX11_areCellsLike_52 : decode cX11_areCellsLike 52 = .ok (.iconst 0, 1) := by decide +kernel
theorem dX11_areCellsLike_53 : decode cX11_areCellsLike 53 = .ok (.istore_n 3, 1) := by decide +kernel
theorem dX11_areCellsLike_54 : decode cX11_areCellsLike 54 = .ok (.iinc 4 1, 3) := by decide +kernel
theorem dX11_areCellsLike_57 : decode cX11_areCellsLike 57 = .ok (.goto (-52), 3) := by decide +kernel
theorem dX11_areCellsLike_60 : decode cX11_areCellsLike 60 = .ok (.iload_n 3, 1) := by decide +kernel
theorem dX11_areCellsLike_61 : decode cX11_areCellsLike 61 = .ok (.ireturn, 1) := by decide +kernel
theorem dX11_areIn_0 : decode cX11_areIn 0 = .ok (.iconst 0, 1) := by decide +kernel
theorem dX11_areIn_1 : decode cX11_areIn 1 = .ok (.istore 4, 2) := by decide +kernel
theorem dX11_areIn_3 : decode cX11_areIn 3 = .ok (.iconst 0, 1) := by decide +kernel
theorem dX11_areIn_4 : decode cX11_areIn 4 = .ok (.istore 5, 2) := by decide +kernel
theorem dX11_areIn_6 : decode cX11_areIn 6 = .ok (.iload 5, 2) := by decide +kernel
theorem dX11_areIn_8 : decode cX11_areIn 8 = .ok (.aload_n 0, 1) := by decide +kernel
theorem dX11_areIn_9 : decode cX11_areIn 9 = .ok (.getfield 9, 3) := by decide +kernel
theorem dX11_areIn_12 : decode cX11_areIn 12 = .ok (.bipush 52, 2) := by decide +kernel
theorem dX11_areIn_14 : decode cX11_areIn 14 = .ok (.iaload, 1) := by decide +kernel
theorem dX11_areIn_15 : decode cX11_areIn 15 = .ok (.if_icmp .ge 34, 3) := by decide +kernel
theorem dX11_areIn_18 : decode cX11_areIn 18 = .ok (.iload 4, 2) := by decide +kernel
theorem dX11_areIn_20 : decode cX11_areIn 20 = .ok (.aload_n 1, 1) := by decide +kernel
theorem dX11_areIn_21 : decode cX11_areIn 21 = .ok (.iload_n 2, 1) := by decide +kernel
theorem dX11_areIn_22 : decode cX11_areIn 22 = .ok (.iconst 4, 1) := by decide +kernel
theorem dX11_areIn_23 : decode cX11_areIn 23 = .ok (.iadd, 1) := by decide +kernel
theorem dX11_areIn_24 : decode cX11_areIn 24 = .ok (.iload 5, 2) := by decide +kernel
theorem dX11_areIn_26 : decode cX11_areIn 26 = .ok (.iadd, 1) := by decide +kernel
theorem dX11_areIn_27 : decode cX11_areIn 27 = .ok (.iaload, 1) := by decide +kernel
theorem dX11_areIn_28 : decode cX11_areIn 28 = .ok (.iload_n 3, 1) := by decide +kernel
theorem dX11_areIn_29 : decode cX11_areIn 29 = .ok (.if_icmp .ne 10, 3) := by decide +kernel
theorem dX11_areIn_32 : decode cX11_areIn 32 = .ok (.iconst 1, 1) := by decide +kernel
theorem dX11_areIn_33 : decode cX11_areIn 33 = .ok (.iload 5, 2) := by decide +kernel
theorem dX11_areIn_35 : decode cX11_areIn 35 = .ok (.ishl, 1) := by decide +kernel
theorem dX11_areIn_36 : decode cX11_areIn 36 = .ok (.goto 4, 3) := by decide +kernel
theorem dX11_areIn_39 : decode cX11_areIn 39 = .ok (.iconst 0, 1) := by decide +kernel
theorem dX11_areIn_40 : decode cX11_areIn 40 = .ok (.ior, 1) := by decide +kernel
theorem dX11_areIn_41 : decode cX11_areIn 41 = .ok (.istore 4, 2) := by decide +kernel
theorem dX11_areIn_43 : decode cX11_areIn 43 = .ok (.iinc 5 1, 3) := by decide +kernel
theorem dX11_areIn_46 : decode cX11_areIn 46 = .ok (.goto (-40), 3) := by decide +kernel
theorem dX11_areIn_49 : decode cX11_areIn 49 = .ok (.iload 4, 2) := by decide +kernel
theorem dX11_areIn_51 : decode cX11_areIn 51 = .ok (.ireturn, 1) := by decide +kernel
theorem dX11_areSo_0 : decode cX11_areSo 0 = .ok (.iconst 1, 1) := by decide +kernel
theorem dX11_areSo_1 : decode cX11_areSo 1 = .ok (.istore_n 3, 1) := by decide +kernel
theorem dX11_areSo_2 : decode cX11_areSo 2 = .ok (.iconst 0, 1) := by decide +kernel
theorem dX11_areSo_3 : decode cX11_areSo 3 = .ok (.istore 4, 2) := by decide +kernel
theorem dX11_areSo_5 : decode cX11_areSo 5 = .ok (.iload 4, 2) := by decide +kernel
theorem dX11_areSo_7 : decode cX11_areSo 7 = .ok (.aload_n 0, 1) := by decide +kernel
theorem dX11_areSo_8 : decode cX11_areSo 8 = .ok (.getfield 218, 3) := by decide +kernel
theorem dX11_areSo_11 : decode cX11_areSo 11 = .ok (.if_icmp .ge 117, 3) := by decide +kernel
theorem dX11_areSo_14 : decode cX11_areSo 14 = .ok (.aload_n 1, 1) := by decide +kernel
theorem dX11_areSo_15 : decode cX11_areSo 15 = .ok (.iload_n 2, 1) := by decide +kernel
theorem dX11_areSo_16 : decode cX11_areSo 16 = .ok (.bipush 48, 2) := by decide +kernel
theorem dX11_areSo_18 : decode cX11_areSo 18 = .ok (.iadd, 1) := by decide +kernel
theorem dX11_areSo_19 : decode cX11_areSo 19 = .ok (.aload_n 0, 1) := by decide +kernel
theorem dX11_areSo_20 : decode cX11_areSo 20 = .ok (.getfield 55, 3) := by decide +kernel
theorem dX11_areSo_23 : decode cX11_areSo 23 = .ok (.iconst 3, 1) := by decide +kernel
theorem dX11_areSo_24 : decode cX11_areSo 24 = .ok (.iload 4, 2) := by decide +kernel
theorem dX11_areSo_26 : decode cX11_areSo 26 = .ok (.imul, 1) := by decide +kernel
theorem dX11_areSo_27 : decode cX11_areSo 27 = .ok (.iaload, 1) := by decide +kernel
theorem dX11_areSo_28 : decode cX11_areSo 28 = .ok (.iadd, 1) := by decide +kernel
theorem dX11_areSo_29 : decode cX11_areSo 29 = .ok (.iaload, 1) := by decide +kernel
theorem dX11_areSo_30 : decode cX11_areSo 30 = .ok (.istore 5, 2) := by decide +kernel
theorem dX11_areSo_32 : decode cX11_areSo 32 = .ok (.aload_n 0, 1) := by decide +kernel
theorem dX11_areSo_33 : decode cX11_areSo 33 = .ok (.getfield 55, 3) := by decide +kernel
theorem dX11_areSo_36 : decode cX11_areSo 36 = .ok (.iconst 3, 1) := by decide +kernel
theorem dX11_areSo_37 : decode cX11_areSo 37 = .ok (.iload 4, 2) := by decide +kernel
theorem dX11_areSo_39 : decode cX11_areSo 39 = .ok (.imul, 1) := by decide +kernel
theorem dX11_areSo_40 : decode cX11_areSo 40 = .ok (.iconst 2, 1) := by decide +kernel
theorem dX11_areSo_41 : decode cX11_areSo 41 = .ok (.iadd, 1) := by decide +kernel
theorem dX11_areSo_42 : decode cX11_areSo 42 = .ok (.iaload, 1) := by decide +kernel
theorem dX11_areSo_43 : decode cX11_areSo 43 = .ok (.istore 6, 2) := by decide +kernel
theorem dX11_areSo_45 : decode cX11_areSo 45 = .ok (.aload_n 0, 1) := by decide +kernel
theorem dX11_areSo_46 : decode cX11_areSo 46 = .ok (.getfield 55, 3) := by decide +kernel
theorem dX11_areSo_49 : decode cX11_areSo 49 = .ok (.iconst 3, 1) := by decide +kernel
theorem dX11_areSo_50 : decode cX11_areSo 50 = .ok (.iload 4, 2) := by decide +kernel
theorem dX11_areSo_52 : decode cX11_areSo 52 = .ok (.imul, 1) := by decide +kernel
theorem dX11_areSo_53 : decode cX11_areSo 53 = .ok (.iconst 1, 1) := by decide +kernel
theorem dX11_areSo_54 : decode cX11_areSo 54 = .ok (.iadd, 1) := by decide +kernel
theorem dX11_areSo_55 : decode cX11_areSo 55 = .ok (.iaload, 1) := by decide +kernel
theorem dX11_areSo_56 : decode cX11_areSo 56 = .ok (.istore 7, 2) := by decide +kernel
theorem dX11_areSo_58 : decode cX11_areSo 58 = .ok (.iload_n 3, 1) := by decide +kernel
theorem dX11_areSo_59 : decode cX11_areSo 59 = .ok (.ifCond .eq 61, 3) := by decide +kernel
theorem dX11_areSo_62 : decode cX11_areSo 62 = .ok (.iload 7, 2) := by decide +kernel
theorem dX11_areSo_64 : decode cX11_areSo 64 = .ok (.ifCond .ne 13, 3) := by decide +kernel
theorem dX11_areSo_67 : decode cX11_areSo 67 = .ok (.iload 5, 2) := by decide +kernel
theorem dX11_areSo_69 : decode cX11_areSo 69 = .ok (.iload 6, 2) := by decide +kernel
theorem dX11_areSo_71 : decode cX11_areSo 71 = .ok (.if_icmp .ge 49, 3) := by decide +kernel
theorem dX11_areSo_74 : decode cX11_areSo 74 = .ok (.goto 42, 3) := by decide +kernel
theorem dX11_areSo_77 : decode cX11_areSo 77 = .ok (.iload 7, 2) := by decide +kernel
theorem dX11_areSo_79 : decode cX11_areSo 79 = .ok (.iconst 1, 1) := by decide +kernel
theorem dX11_areSo_80 : decode cX11_areSo 80 = .ok (.if_icmp .ne 13, 3) := by decide +kernel
theorem dX11_areSo_83 : decode cX11_areSo 83 = .ok (.iload 5, 2) := by decide +kernel
theorem dX11_areSo_85 : decode cX11_areSo 85 = .ok (.iload 6, 2) := by decide +kernel
theorem dX11_areSo_87 : decode cX11_areSo 87 = .ok (.if_icmp .ne 33, 3) := by decide +kernel
theorem dX11_areSo_90 : decode cX11_areSo 90 = .ok (.goto 26, 3) := by decide +kernel
theorem dX11_areSo_93 : decode cX11_areSo 93 = .ok (.iload 7, 2) := by decide +kernel
theorem dX11_areSo_95 : decode cX11_areSo 95 = .ok (.iconst 2, 1) := by decide +kernel
theorem dX11_areSo_96 : decode cX11_areSo 96 = .ok (.if_icmp .ne 13, 3) := by decide +kernel
theorem dX11_areSo_99 : decode cX11_areSo 99 = .ok (.iload 5, 2) := by decide +kernel
theorem dX11_areSo_101 : decode cX11_areSo 101 = .ok (.iload 6, 2) := by decide +kernel
theorem dX11_areSo_103 : decode cX11_areSo 103 = .ok (.if_icmp .le 17, 3) := by decide +kernel
theorem dX11_areSo_106 : decode cX11_areSo 106 = .ok (.goto 10, 3) := by decide +kernel
theorem dX11_areSo_109 : decode cX11_areSo 109 = .ok (.iload 5, 2) := by decide +kernel
theorem dX11_areSo_111 : decode cX11_areSo 111 = .ok (.iload 6, 2) := by decide +kernel
theorem dX11_areSo_113 : decode cX11_areSo 113 = .ok (.if_icmp .eq 7, 3) := by decide +kernel
theorem dX11_areSo_116 : decode cX11_areSo 116 = .ok (.iconst 1, 1) := by decide +kernel
theorem dX11_areSo_117 : decode cX11_areSo 117 = .ok (.goto 4, 3) := by decide +kernel
theorem dX11_areSo_120 : decode cX11_areSo 120 = .ok (.iconst 0, 1) := by decide +kernel
theorem dX11_areSo_121 : decode cX11_areSo 121 = .ok (.istore_n 3, 1) := by decide +kernel
theorem dX11_areSo_122 : decode cX11_areSo 122 = .ok (.iinc 4 1, 3) := by decide +kernel
theorem dX11_areSo_125 : decode cX11_areSo 125 = .ok (.goto (-120), 3) := by decide +kernel
theorem dX11_areSo_128 : decode cX11_areSo 128 = .ok (.iload_n 3, 1) := by decide +kernel
theorem dX11_areSo_129 : decode cX11_areSo 129 = .ok (.ireturn, 1) := by decide +kernel
theorem dX11_back_0 : decode cX11_back 0 = .ok (.aload_n 0, 1) := by decide +kernel
theorem dX11_back_1 : decode cX11_back 1 = .ok (.getfield 289, 3) := by decide +kernel
theorem dX11_back_4 : decode cX11_back 4 = .ok (.ifCond .ne 6, 3) := by decide +kernel
theorem dX11_back_7 : decode cX11_back 7 = .ok (.bipush (-3), 2) := by decide +kernel
theorem dX11_back_9 : decode cX11_back 9 = .ok (.ireturn, 1) := by decide +kernel
theorem dX11_back_10 : decode cX11_back 10 = .ok (.aload_n 0, 1) := by decide +kernel
theorem dX11_back_11 : decode cX11_back 11 = .ok (.getfield 13, 3) := by decide +kernel
theorem dX11_back_14 : decode cX11_back 14 = .ok (.iconst 0, 1) := by decide +kernel
theorem dX11_back_15 : decode cX11_back 15 = .ok (.aload_n 0, 1) := by decide +kernel
theorem dX11_back_16 : decode cX11_back 16 = .ok (.getfield 9, 3) := by decide +kernel
theorem dX11_back_19 : decode cX11_back 19 = .ok (.iconst 0, 1) := by decide +kernel
theorem dX11_back_20 : decode cX11_back 20 = .ok (.sipush 253, 3) := by decide +kernel
theorem dX11_back_23 : decode cX11_back 23 = .ok (.invokestatic 146, 3) := by decide +kernel
theorem dX11_back_26 : decode cX11_back 26 = .ok (.iconst 0, 1) := by decide +kernel
theorem dX11_back_27 : decode cX11_back 27 = .ok (.istore_n 1, 1) := by decide +kernel
theorem dX11_back_28 : decode cX11_back 28 = .ok (.iload_n 1, 1) := by decide +kernel
theorem dX11_back_29 : decode cX11_back 29 = .ok (.iconst 4, 1) := by decide +kernel
theorem dX11_back_30 : decode cX11_back 30 = .ok (.if_icmp .ge 23, 3) := by decide +kernel
theorem dX11_back_33 : decode cX11_back 33 = .ok (.aload_n 0, 1) := by decide +kernel
theorem dX11_back_34 : decode cX11_back 34 = .ok (.getfield 19, 3) := by decide +kernel
theorem dX11_back_37 : decode cX11_back 37 = .ok (.iload_n 1, 1) := by decide +kernel
theorem dX11_back_38 : decode cX11_back 38 = .ok (.iconst 0, 1) := by decide +kernel
theorem dX11_back_39 : decode cX11_back 39 = .ok (.iastore, 1) := by decide +kernel
theorem dX11_back_40 : decode cX11_back 40 = .ok (.aload_n 0, 1) := by decide +kernel
theorem dX11_back_41 : decode cX11_back 41 = .ok (.getfield 22, 3) := by decide +kernel
theorem dX11_back_44 : decode cX11_back 44 = .ok (.iload_n 1, 1) := by decide +kernel
theorem dX11_back_45 : decode cX11_back 45 = .ok (.iconst 0, 1) := by decide +kernel
theorem dX11_back_46 : decode cX11_back 46 = .ok (.iastore, 1) := by decide +kernel
theorem dX11_back_47 : decode cX11_back 47 = .ok (.iinc 1 1, 3) := by decide +kernel
theorem dX11_back_50 : decode cX11_back 50 = .ok (.goto (-22), 3) := by decide +kernel
theorem dX11_back_53 : decode cX11_back 53 = .ok (.aload_n 0, 1) := by decide +kernel
theorem dX11_back_54 : decode cX11_back 54 = .ok (.getfield 9, 3) := by decide +kernel
theorem dX11_back_57 : decode cX11_back 57 = .ok (.bipush 52, 2) := by decide +kernel
theorem dX11_back_59 : decode cX11_back 59 = .ok (.iaload, 1) := by decide +kernel
theorem dX11_back_60 : decode cX11_back 60 = .ok (.ireturn, 1) := by decide +kernel
theorem dX11_cause_0 : decode cX11_cause 0 = .ok (.iload_n 1, 1) := by decide +kernel
theorem dX11_cause_1 : decode cX11_cause 1 = .ok (.ifCond .lt 13, 3) := by decide +kernel
theorem dX11_cause_4 : decode cX11_cause 4 = .ok (.iload_n 2, 1) := by decide +kernel
theorem dX11_cause_5 : decode cX11_cause 5 = .ok (.i2l, 1) := by decide +kernel
theorem dX11_cause_6 : decode cX11_cause 6 = .ok (.lconst 0, 1) := by decide +kernel
theorem dX11_cause_7 : decode cX11_cause 7 = .ok (.lconst 1, 1) := by decide +kernel
theorem dX11_cause_8 : decode cX11_cause 8 = .ok (.invokestatic 64, 3) := by decide +kernel
theorem dX11_cause_11 : decode cX11_cause 11 = .ok (.ifCond .ne 5, 3) := by decide +kernel
theorem dX11_cause_14 : decode cX11_cause 14 = .ok (.iconst (-1), 1) := by decide +kernel
theorem dX11_cause_15 : decode cX11_cause 15 = .ok (.ireturn, 1) := by decide +kernel
theorem dX11_cause_16 : decode cX11_cause 16 = .ok (.iload_n 1, 1) := by decide +kernel
theorem dX11_cause_17 : decode cX11_cause 17 = .ok (.aload_n 0, 1) := by decide +kernel
theorem dX11_cause_18 : decode cX11_cause 18 = .ok (.getfield 130, 3) := by decide +kernel
theorem dX11_cause_21 : decode cX11_cause 21 = .ok (.if_icmp .lt 8, 3) := by decide +kernel
theorem dX11_cause_24 : decode cX11_cause 24 = .ok (.bipush (-5), 2) := by decide +kernel
theorem dX11_cause_26 : decode cX11_cause 26 = .ok (.goto 22, 3) := by decide +kernel
theorem dX11_cause_29 : decode cX11_cause 29 = .ok (.iload_n 2, 1) := by decide +kernel
theorem dX11_cause_30 : decode cX11_cause 30 = .ok (.ifCond .ne 12, 3) := by decide +kernel
theorem dX11_cause_33 : decode cX11_cause 33 = .ok (.aload_n 0, 1) := by decide +kernel
theorem dX11_cause_34 : decode cX11_cause 34 = .ok (.getfield 34, 3) := by decide +kernel
theorem dX11_cause_37 : decode cX11_cause 37 = .ok (.iload_n 1, 1) := by decide +kernel
theorem dX11_cause_38 : decode cX11_cause 38 = .ok (.iaload, 1) := by decide +kernel
theorem dX11_cause_39 : decode cX11_cause 39 = .ok (.goto 9, 3) := by decide +kernel
theorem dX11_cause_42 : decode cX11_cause 42 = .ok (.aload_n 0, 1) := by decide +kernel
theorem dX11_cause_43 : decode cX11_cause 43 = .ok (.getfield 37, 3) := by decide +kernel
theorem dX11_cause_46 : decode cX11_cause 46 = .ok (.iload_n 1, 1) := by decide +kernel
theorem dX11_cause_47 : decode cX11_cause 47 = .ok (.iaload, 1) := by decide +kernel
theorem dX11_cause_48 : decode cX11_cause 48 = .ok (.ireturn, 1) := by decide +kernel
theorem dX11_cell_0 : decode cX11_cell 0 = .ok (.iload_n 1, 1) := by decide +kernel
theorem dX11_cell_1 : decode cX11_cell 1 = .ok (.invokestatic 76, 3) := by decide +kernel
theorem dX11_cell_4 : decode cX11_cell 4 = .ok (.ifCond .eq 15, 3) := by decide +kernel
theorem dX11_cell_7 : decode cX11_cell 7 = .ok (.aload_n 0, 1) := by decide +kernel
theorem dX11_cell_8 : decode cX11_cell 8 = .ok (.getfield 9, 3) := by decide +kernel
theorem dX11_cell_11 : decode cX11_cell 11 = .ok (.bipush 48, 2) := by decide +kernel
theorem dX11_cell_13 : decode cX11_cell 13 = .ok (.iload_n 1, 1) := by decide +kernel
theorem dX11_cell_14 : decode cX11_cell 14 = .ok (.iadd, 1) := by decide +kernel
theorem dX11_cell_15 : decode cX11_cell 15 = .ok (.iaload, 1) := by decide +kernel
theorem dX11_cell_16 : decode cX11_cell 16 = .ok (.goto 5, 3) := by decide +kernel
theorem dX11_cell_19 : decode cX11_cell 19 = .ok (.bipush (-100), 2) := by decide +kernel
theorem dX11_cell_21 : decode cX11_cell 21 = .ok (.ireturn, 1) := by decide +kernel
theorem dX11_chosen_0 : decode cX11_chosen 0 = .ok (.iconst (-1), 1) := by decide +kernel
theorem dX11_chosen_1 : decode cX11_chosen 1 = .ok (.istore_n 2, 1) := by decide +kernel
theorem dX11_chosen_2 : decode cX11_chosen 2 = .ok (.iload_n 1, 1) := by decide +kernel
theorem dX11_chosen_3 : decode cX11_chosen 3 = .ok (.iconst 1, 1) := by decide +kernel
theorem dX11_chosen_4 : decode cX11_chosen 4 = .ok (.if_icmp .ne 15, 3) := by decide +kernel
theorem dX11_chosen_7 : decode cX11_chosen 7 = .ok (.aload_n 0, 1) := by decide +kernel
theorem dX11_chosen_8 : decode cX11_chosen 8 = .ok (.getfield 9, 3) := by decide +kernel
theorem dX11_chosen_11 : decode cX11_chosen 11 = .ok (.bipush 56, 2) := by decide +kernel
theorem dX11_chosen_13 : decode cX11_chosen 13 = .ok (.iaload, 1) := by decide +kernel
theorem dX11_chosen_14 : decode cX11_chosen 14 = .ok (.iconst 1, 1) := by decide +kernel
theorem dX11_chosen_15 : decode cX11_chosen 15 = .ok (.iadd, 1) := by decide +kernel
theorem dX11_chosen_16 : decode cX11_chosen 16 = .ok (.goto 4, 3) := by decide +kernel
theorem dX11_chosen_19 : decode cX11_chosen 19 = .ok (.iconst 0, 1) := by decide +kernel
theorem dX11_chosen_20 : decode cX11_chosen 20 = .ok (.istore_n 3, 1) := by decide +kernel
theorem dX11_chosen_21 : decode cX11_chosen 21 = .ok (.iload_n 3, 1) := by decide +kernel
theorem dX11_chosen_22 : decode cX11_chosen 22 = .ok (.ifCond .ge 7, 3) := by decide +kernel
theorem dX11_chosen_25 : decode cX11_chosen 25 = .ok (.iconst 0, 1) := by decide +kernel
theorem dX11_chosen_26 : decode cX11_chosen 26 = .ok (.goto 4, 3) := by decide +kernel
theorem dX11_chosen_29 : decode cX11_chosen 29 = .ok (.iload_n 3, 1) := by decide +kernel
theorem dX11_chosen_30 : decode cX11_chosen 30 = .ok (.istore_n 3, 1) := by decide +kernel
theorem dX11_chosen_31 : decode cX11_chosen 31 = .ok (.iconst 0, 1) := by decide +kernel
theorem dX11_chosen_32 : decode cX11_chosen 32 = .ok (.istore 4, 2) := by decide +kernel
theorem dX11_chosen_34 : decode cX11_chosen 34 = .ok (.iload 4, 2) := by decide +kernel
theorem dX11_chosen_36 : decode cX11_chosen 36 = .ok (.aload_n 0, 1) := by decide +kernel
theorem dX11_chosen_37 : decode cX11_chosen 37 = .ok (.getfield 9, 3) := by decide +kernel
theorem dX11_chosen_40 : decode cX11_chosen 40 = .ok (.bipush 52, 2) := by decide +kernel
theorem dX11_chosen_42 : decode cX11_chosen 42 = .ok (.iaload, 1) := by decide +kernel
theorem dX11_chosen_43 : decode cX11_chosen 43 = .ok (.if_icmp .ge 60, 3) := by decide +kernel
theorem dX11_chosen_46 : decode cX11_chosen 46 = .ok (.iload_n 3, 1) := by decide +kernel
theorem dX11_chosen_47 : decode cX11_chosen 47 = .ok (.iload 4, 2) := by decide +kernel
theorem dX11_chosen_49 : decode cX11_chosen 49 = .ok (.iadd, 1) := by decide +kernel
theorem dX11_chosen_50 : decode cX11_chosen 50 = .ok (.aload_n 0, 1) := by decide +kernel
theorem dX11_chosen_51 : decode cX11_chosen 51 = .ok (.getfield 9, 3) := by decide +kernel
theorem dX11_chosen_54 : decode cX11_chosen 54 = .ok (.bipush 52, 2) := by decide +kernel
theorem dX11_chosen_56 : decode cX11_chosen 56 = .ok (.iaload, 1) := by decide +kernel
theorem dX11_chosen_57 : decode cX11_chosen 57 = .ok (.irem, 1) := by decide +kernel
theorem dX11_chosen_58 : decode cX11_chosen 58 = .ok (.istore 5, 2) := by decide +kernel
theorem dX11_chosen_60 : decode cX11_chosen 60 = .ok (.aload_n 0, 1) := by decide +kernel
theorem dX11_chosen_61 : decode cX11_chosen 61 = .ok (.iload 5, 2) := by decide +kernel
theorem dX11_chosen_63 : decode cX11_chosen 63 = .ok (.invokevirtual 191, 3) := by decide +kernel
theorem dX11_chosen_66 : decode cX11_chosen 66 = .ok (.ifCond .eq 16, 3) := by decide +kernel
theorem dX11_chosen_69 : decode cX11_chosen 69 = .ok (.iload_n 2, 1) := by decide +kernel
theorem dX11_chosen_70 : decode cX11_chosen 70 = .ok (.ifCond .lt 8, 3) := by decide +kernel
theorem dX11_chosen_73 : decode cX11_chosen 73 = .ok (.iload_n 1, 1) := by decide +kernel
theorem dX11_chosen_74 : decode cX11_chosen 74 = .ok (.iconst 2, 1) := by decide +kernel
theorem dX11_chosen_75 : decode cX11_chosen 75 = .ok (.if_icmp .ne 7, 3) := by decide +kernel
theorem dX11_chosen_78 : decode cX11_chosen 78 = .ok (.iconst 1, 1) := by decide +kernel
theorem dX11_chosen_79 : decode cX11_chosen 79 = .ok (.goto 4, 3) := by decide +kernel
theorem dX11_chosen_82 : decode cX11_chosen 82 = .ok (.iconst 0, 1) := by decide +kernel
theorem dX11_chosen_83 : decode cX11_chosen 83 = .ok (.istore 6, 2) := by decide +kernel
theorem dX11_chosen_85 : decode cX11_chosen 85 = .ok (.iload 6, 2) := by decide +kernel
theorem dX11_chosen_87 : decode cX11_chosen 87 = .ok (.ifCond .eq 8, 3) := by decide +kernel
theorem dX11_chosen_90 : decode cX11_chosen 90 = .ok (.iload 5, 2) := by decide +kernel
theorem dX11_chosen_92 : decode cX11_chosen 92 = .ok (.goto 4, 3) := by decide +kernel
theorem dX11_chosen_95 : decode cX11_chosen 95 = .ok (.iload_n 2, 1) := by decide +kernel
theorem dX11_chosen_96 : decode cX11_chosen 96 = .ok (.istore_n 2, 1) := by decide +kernel
theorem dX11_chosen_97 : decode cX11_chosen 97 = .ok (.iinc 4 1, 3) := by decide +kernel
theorem dX11_chosen_100 : decode cX11_chosen 100 = .ok (.goto (-66), 3) := by decide +kernel
theorem dX11_chosen_103 : decode cX11_chosen 103 = .ok (.iload_n 2, 1) := by decide +kernel
theorem dX11_chosen_104 : decode cX11_chosen 104 = .ok (.ireturn, 1) := by decide +kernel
theorem dX11_clear_0 : decode cX11_clear 0 = .ok (.aload_n 0, 1) := by decide +kernel
theorem dX11_clear_1 : decode cX11_clear 1 = .ok (.getfield 85, 3) := by decide +kernel
theorem dX11_clear_4 : decode cX11_clear 4 = .ok (.istore_n 1, 1) := by decide +kernel
theorem dX11_clear_5 : decode cX11_clear 5 = .ok (.aload_n 0, 1) := by decide +kernel
theorem dX11_clear_6 : decode cX11_clear 6 = .ok (.iconst 0, 1) := by decide +kernel
theorem dX11_clear_7 : decode cX11_clear 7 = .ok (.putfield 85, 3) := by decide +kernel
theorem dX11_clear_10 : decode cX11_clear 10 = .ok (.iload_n 1, 1) := by decide +kernel
theorem dX11_clear_11 : decode cX11_clear 11 = .ok (.ireturn, 1) := by decide +kernel
theorem dX11_comes_0 : decode cX11_comes 0 = .ok (.aload_n 0, 1) := by decide +kernel
theorem dX11_comes_1 : decode cX11_comes 1 = .ok (.getfield 16, 3) := by decide +kernel
theorem dX11_comes_4 : decode cX11_comes 4 = .ok (.iload_n 2, 1) := by decide +kernel
theorem dX11_comes_5 : decode cX11_comes 5 = .ok (.iconst 4, 1) := by decide +kernel
theorem dX11_comes_6 : decode cX11_comes 6 = .ok (.iload_n 3, 1) := by decide +kernel
theorem dX11_comes_7 : decode cX11_comes 7 = .ok (.imul, 1) := by decide +kernel
theorem dX11_comes_8 : decode cX11_comes 8 = .ok (.iadd, 1) := by decide +kernel
theorem dX11_comes_9 : decode cX11_comes 9 = .ok (.aload_n 0, 1) := by decide +kernel
theorem dX11_comes_10 : decode cX11_comes 10 = .ok (.getfield 16, 3) := by decide +kernel
theorem dX11_comes_13 : decode cX11_comes 13 = .ok (.iload_n 1, 1) := by decide +kernel
theorem dX11_comes_14 : decode cX11_comes 14 = .ok (.iload_n 3, 1) := by decide +kernel
theorem dX11_comes_15 : decode cX11_comes 15 = .ok (.iadd, 1) := by decide +kernel
theorem dX11_comes_16 : decode cX11_comes 16 = .ok (.iaload, 1) := by decide +kernel
theorem dX11_comes_17 : decode cX11_comes 17 = .ok (.iadd, 1) := by decide +kernel
theorem dX11_comes_18 : decode cX11_comes 18 = .ok (.iload 4, 2) := by decide +kernel
theorem dX11_comes_20 : decode cX11_comes 20 = .ok (.iconst 1, 1) := by decide +kernel
theorem dX11_comes_21 : decode cX11_comes 21 = .ok (.iadd, 1) := by decide +kernel
theorem dX11_comes_22 : decode cX11_comes 22 = .ok (.iastore, 1) := by decide +kernel
theorem dX11_comes_23 : decode cX11_comes 23 = .ok (.aload_n 0, 1) := by decide +kernel
theorem dX11_comes_24 : decode cX11_comes 24 = .ok (.getfield 16, 3) := by decide +kernel
theorem dX11_comes_27 : decode cX11_comes 27 = .ok (.iload_n 1, 1) := by decide +kernel
theorem dX11_comes_28 : decode cX11_comes 28 = .ok (.iload_n 3, 1) := by decide +kernel
theorem dX11_comes_29 : decode cX11_comes 29 = .ok (.iadd, 1) := by decide +kernel
theorem dX11_comes_30 : decode cX11_comes 30 = .ok (.dup2, 1) := by decide +kernel
theorem dX11_comes_31 : decode cX11_comes 31 = .ok (.iaload, 1) := by decide +kernel
theorem dX11_comes_32 : decode cX11_comes 32 = .ok (.iconst 1, 1) := by decide +kernel
theorem dX11_comes_33 : decode cX11_comes 33 = .ok (.iadd, 1) := by decide +kernel
theorem dX11_comes_34 : decode cX11_comes 34 = .ok (.iastore, 1) := by decide +kernel
theorem dX11_comes_35 : decode cX11_comes 35 = .ok (.return_, 1) := by decide +kernel
theorem dX11_condition_0 : decode cX11_condition 0 = .ok (.iload_n 1, 1) := by decide +kernel
theorem dX11_condition_1 : decode cX11_condition 1 = .ok (.iconst (-1), 1) := by decide +kernel
theorem dX11_condition_2 : decode cX11_condition 2 = .ok (.if_icmp .ne 10, 3) := by decide +kernel
theorem dX11_condition_5 : decode cX11_condition 5 = .ok (.aload_n 0, 1) := by decide +kernel
theorem dX11_condition_6 : decode cX11_condition 6 = .ok (.iconst 0, 1) := by decide +kernel
theorem dX11_condition_7 : decode cX11_condition 7 = .ok (.putfield 218, 3) := by decide +kernel
theorem dX11_condition_10 : decode cX11_condition 10 = .ok (.iconst 0, 1) := by decide +kernel
theorem dX11_condition_11 : decode cX11_condition 11 = .ok (.ireturn, 1) := by decide +kernel
theorem dX11_condition_12 : decode cX11_condition 12 = .ok (.iload_n 1, 1) := by decide +kernel
theorem dX11_condition_13 : decode cX11_condition 13 = .ok (.invokestatic 76, 3) := by decide +kernel
theorem dX11_condition_16 : decode cX11_condition 16 = .ok (.ifCond .eq 15, 3) := by decide +kernel
theorem dX11_condition_19 : decode cX11_condition 19 = .ok (.iload_n 2, 1) := by decide +kernel
theorem dX11_condition_20 : decode cX11_condition 20 = .ok (.i2l, 1) := by decide +kernel
theorem dX11_condition_21 : decode cX11_condition 21 = .ok (.lconst 0, 1) := by decide +kernel
theorem dX11_condition_22 : decode cX11_condition 22 = .ok (.ldc2_w 70, 3) := by decide +kernel
theorem dX11_condition_25 : decode cX11_condition 25 = .ok (.invokestatic 64, 3) := by decide +kernel
theorem dX11_condition_28 : decode cX11_condition 28 = .ok (.ifCond .ne 5, 3) := by decide +kernel
theorem dX11_condition_31 : decode cX11_condition 31 = .ok (.iconst (-1), 1) := by decide +kernel
theorem dX11_condition_32 : decode cX11_condition 32 = .ok (.ireturn, 1) := by decide +kernel
theorem dX11_condition_33 : decode cX11_condition 33 = .ok (.iload_n 3, 1) := by decide +kernel
theorem dX11_condition_34 : decode cX11_condition 34 = .ok (.i2l, 1) := by decide +kernel
theorem dX11_condition_35 : decode cX11_condition 35 = .ok (.ldc2_w 79, 3) := by decide +kernel
theorem dX11_condition_38 : decode cX11_condition 38 = .ok (.ldc2_w 81, 3) := by decide +kernel
theorem dX11_condition_41 : decode cX11_condition 41 = .ok (.invokestatic 64, 3) := by decide +kernel
theorem dX11_condition_44 : decode cX11_condition 44 = .ok (.ifCond .ne 6, 3) := by decide +kernel
theorem dX11_condition_47 : decode cX11_condition 47 = .ok (.bipush (-2), 2) := by decide +kernel
theorem dX11_condition_49 : decode cX11_condition 49 = .ok (.ireturn, 1) := by decide +kernel
theorem dX11_condition_50 : decode cX11_condition 50 = .ok (.aload_n 0, 1) := by decide +kernel
theorem dX11_condition_51 : decode cX11_condition 51 = .ok (.getfield 218, 3) := by decide +kernel
theorem dX11_condition_54 : decode cX11_condition 54 = .ok (.iconst 4, 1) := by decide +kernel
theorem dX11_condition_55 : decode cX11_condition 55 = .ok (.if_icmp .ne 6, 3) := by decide +kernel
theorem dX11_condition_58 : decode cX11_condition 58 = .ok (.bipush (-4), 2) := by decide +kernel
theorem dX11_condition_60 : decode cX11_condition 60 = .ok (.ireturn, 1) := by decide +kernel
theorem dX11_condition_61 : decode cX11_condition 61 = .ok (.aload_n 0, 1) := by decide +kernel
theorem dX11_condition_62 : decode cX11_condition 62 = .ok (.getfield 55, 3) := by decide +kernel
theorem dX11_condition_65 : decode cX11_condition 65 = .ok (.iconst 3, 1) := by decide +kernel
theorem dX11_condition_66 : decode cX11_condition 66 = .ok (.aload_n 0, 1) := by decide +kernel
theorem dX11_condition_67 : decode cX11_condition 67 = .ok (.getfield 218, 3) := by decide +kernel
theorem dX11_condition_70 : decode cX11_condition 70 = .ok (.imul, 1) := by decide +kernel
theorem dX11_condition_71 : decode cX11_condition 71 = .ok (.iload_n 1, 1) := by decide +kernel
theorem dX11_condition_72 : decode cX11_condition 72 = .ok (.iastore, 1) := by decide +kernel
theorem dX11_condition_73 : decode cX11_condition 73 = .ok (.aload_n 0, 1) := by decide +kernel
theorem dX11_condition_74 : decode cX11_condition 74 = .ok (.getfield 55, 3) := by decide +kernel
theorem dX11_condition_77 : decode cX11_condition 77 = .ok (.iconst 3, 1) := by decide +kernel
theorem dX11_condition_78 : decode cX11_condition 78 = .ok (.aload_n 0, 1) := by decide +kernel
theorem dX11_condition_79 : decode cX11_condition 79 = .ok (.getfield 218, 3) := by decide +kernel
theorem dX11_condition_82 : decode cX11_condition 82 = .ok (.imul, 1) := by decide +kernel
theorem dX11_condition_83 : decode cX11_condition 83 = .ok (.iconst 1, 1) := by decide +kernel
theorem dX11_condition_84 : decode cX11_condition 84 = .ok (.iadd, 1) := by decide +kernel
theorem dX11_condition_85 : decode cX11_condition 85 = .ok (.iload_n 2, 1) := by decide +kernel
theorem dX11_condition_86 : decode cX11_condition 86 = .ok (.iastore, 1) := by decide +kernel
theorem dX11_condition_87 : decode cX11_condition 87 = .ok (.aload_n 0, 1) := by decide +kernel
theorem dX11_condition_88 : decode cX11_condition 88 = .ok (.getfield 55, 3) := by decide +kernel
theorem dX11_condition_91 : decode cX11_condition 91 = .ok (.iconst 3, 1) := by decide +kernel
theorem dX11_condition_92 : decode cX11_condition 92 = .ok (.aload_n 0, 1) := by decide +kernel
theorem dX11_condition_93 : decode cX11_condition 93 = .ok (.getfield 218, 3) := by decide +kernel
theorem dX11_condition_96 : decode cX11_condition 96 = .ok (.imul, 1) := by decide +kernel
theorem dX11_condition_97 : decode cX11_condition 97 = .ok (.iconst 2, 1) := by decide +kernel
theorem dX11_condition_98 : decode cX11_condition 98 = .ok (.iadd, 1) := by decide +kernel
theorem dX11_condition_99 : decode cX11_condition 99 = .ok (.iload_n 3, 1) := by decide +kernel
theorem dX11_condition_100 : decode cX11_condition 100 = .ok (.iastore, 1) := by decide +kernel
theorem dX11_condition_101 : decode cX11_condition 101 = .ok (.aload_n 0, 1) := by decide +kernel
theorem dX11_condition_102 : decode cX11_condition 102 = .ok (.dup, 1) := by decide +kernel
theorem dX11_condition_103 : decode cX11_condition 103 = .ok (.getfield 218, 3) := by decide +kernel
theorem dX11_condition_106 : decode cX11_condition 106 = .ok (.iconst 1, 1) := by decide +kernel
theorem dX11_condition_107 : decode cX11_condition 107 = .ok (.iadd, 1) := by decide +kernel
theorem dX11_condition_108 : decode cX11_condition 108 = .ok (.putfield 218, 3) := by decide +kernel
theorem dX11_condition_111 : decode cX11_condition 111 = .ok (.aload_n 0, 1) := by decide +kernel
theorem dX11_condition_112 : decode cX11_condition 112 = .ok (.getfield 218, 3) := by decide +kernel
theorem dX11_condition_115 : decode cX11_condition 115 = .ok (.ireturn, 1) := by decide +kernel
theorem dX11_copies_0 : decode cX11_copies 0 = .ok (.iconst 0, 1) := by decide +kernel
theorem dX11_copies_1 : decode cX11_copies 1 = .ok (.istore 5, 2) := by decide +kernel
theorem dX11_copies_3 : decode cX11_copies 3 = .ok (.iload 5, 2) := by decide +kernel
theorem dX11_copies_5 : decode cX11_copies 5 = .ok (.iload 4, 2) := by decide +kernel
theorem dX11_copies_7 : decode cX11_copies 7 = .ok (.if_icmp .ge 21, 3) := by decide +kernel
theorem dX11_copies_10 : decode cX11_copies 10 = .ok (.aload_n 2, 1) := by decide +kernel
theorem dX11_copies_11 : decode cX11_copies 11 = .ok (.iload_n 3, 1) := by decide +kernel
theorem dX11_copies_12 : decode cX11_copies 12 = .ok (.iload 5, 2) := by decide +kernel
theorem dX11_copies_14 : decode cX11_copies 14 = .ok (.iadd, 1) := by decide +kernel
theorem dX11_copies_15 : decode cX11_copies 15 = .ok (.aload_n 0, 1) := by decide +kernel
theorem dX11_copies_16 : decode cX11_copies 16 = .ok (.iload_n 1, 1) := by decide +kernel
theorem dX11_copies_17 : decode cX11_copies 17 = .ok (.iload 5, 2) := by decide +kernel
theorem dX11_copies_19 : decode cX11_copies 19 = .ok (.iadd, 1) := by decide +kernel
theorem dX11_copies_20 : decode cX11_copies 20 = .ok (.iaload, 1) := by decide +kernel
theorem dX11_copies_21 : decode cX11_copies 21 = .ok (.iastore, 1) := by decide +kernel
theorem dX11_copies_22 : decode cX11_copies 22 = .ok (.iinc 5 1, 3) := by decide +kernel
theorem dX11_copies_25 : decode cX11_copies 25 = .ok (.goto (-22), 3) := by decide +kernel
theorem dX11_copies_28 : decode cX11_copies 28 = .ok (.return_, 1) := by decide +kernel
theorem dX11_deepest_0 : decode cX11_deepest 0 = .ok (.iconst 0, 1) := by decide +kernel
theorem dX11_deepest_1 : decode cX11_deepest 1 = .ok (.istore_n 1, 1) := by decide +kernel
theorem dX11_deepest_2 : decode cX11_deepest 2 = .ok (.iconst 0, 1) := by decide +kernel
theorem dX11_deepest_3 : decode cX11_deepest 3 = .ok (.istore_n 2, 1) := by decide +kernel
theorem dX11_deepest_4 : decode cX11_deepest 4 = .ok (.iload_n 2, 1) := by decide +kernel
theorem dX11_deepest_5 : decode cX11_deepest 5 = .ok (.aload_n 0, 1) := by decide +kernel
theorem dX11_deepest_6 : decode cX11_deepest 6 = .ok (.getfield 231, 3) := by decide +kernel
theorem dX11_deepest_9 : decode cX11_deepest 9 = .ok (.if_icmp .ge 30, 3) := by decide +kernel
theorem dX11_deepest_12 : decode cX11_deepest 12 = .ok (.aload_n 0, 1) := by decide +kernel
theorem dX11_deepest_13 : decode cX11_deepest 13 = .ok (.getfield 49, 3) := by decide +kernel
theorem dX11_deepest_16 : decode cX11_deepest 16 = .ok (.iload_n 2, 1) := by decide +kernel
theorem dX11_deepest_17 : decode cX11_deepest 17 = .ok (.iaload, 1) := by decide +kernel
theorem dX11_deepest_18 : decode cX11_deepest 18 = .ok (.iload_n 1, 1) := by decide +kernel
theorem dX11_deepest_19 : decode cX11_deepest 19 = .ok (.if_icmp .le 12, 3) := by decide +kernel
theorem dX11_deepest_22 : decode cX11_deepest 22 = .ok (.aload_n 0, 1) := by decide +kernel
theorem dX11_deepest_23 : decode cX11_deepest 23 = .ok (.getfield 49, 3) := by decide +kernel
theorem dX11_deepest_26 : decode cX11_deepest 26 = .ok (.iload_n 2, 1) := by decide +kernel
theorem dX11_deepest_27 : decode cX11_deepest 27 = .ok (.iaload, 1) := by decide +kernel
theorem dX11_deepest_28 : decode cX11_deepest 28 = .ok (.goto 4, 3) := by decide +kernel
theorem dX11_deepest_31 : decode cX11_deepest 31 = .ok (.iload_n 1, 1) := by decide +kernel
theorem dX11_deepest_32 : decode cX11_deepest 32 = .ok (.istore_n 1, 1) := by decide +kernel
theorem dX11_deepest_33 : decode cX11_deepest 33 = .ok (.iinc 2 1, 3) := by decide +kernel
theorem dX11_deepest_36 : decode cX11_deepest 36 = .ok (.goto (-32), 3) := by decide +kernel
theorem dX11_deepest_39 : decode cX11_deepest 39 = .ok (.iload_n 1, 1) := by decide +kernel
theorem dX11_deepest_40 : decode cX11_deepest 40 = .ok (.ireturn, 1) := by decide +kernel
theorem dX11_ends_0 : decode cX11_ends 0 = .ok (.aload_n 0, 1) := by decide +kernel
theorem dX11_ends_1 : decode cX11_ends 1 = .ok (.getfield 16, 3) := by decide +kernel
theorem dX11_ends_4 : decode cX11_ends 4 = .ok (.iconst 4, 1) := by decide +kernel
theorem dX11_ends_5 : decode cX11_ends 5 = .ok (.iload_n 1, 1) := by decide +kernel
theorem dX11_ends_6 : decode cX11_ends 6 = .ok (.iadd, 1) := by decide +kernel
theorem dX11_ends_7 : decode cX11_ends 7 = .ok (.iload_n 2, 1) := by decide +kernel
theorem dX11_ends_8 : decode cX11_ends 8 = .ok (.iastore, 1) := by decide +kernel
theorem dX11_ends_9 : decode cX11_ends 9 = .ok (.aload_n 0, 1) := by decide +kernel
theorem dX11_ends_10 : decode cX11_ends 10 = .ok (.iconst 0, 1) := by decide +kernel
theorem dX11_ends_11 : decode cX11_ends 11 = .ok (.putfield 157, 3) := by decide +kernel
theorem dX11_ends_14 : decode cX11_ends 14 = .ok (.iconst 0, 1) := by decide +kernel
theorem dX11_ends_15 : decode cX11_ends 15 = .ok (.istore_n 3, 1) := by decide +kernel
theorem dX11_ends_16 : decode cX11_ends 16 = .ok (.iload_n 3, 1) := by decide +kernel
theorem dX11_ends_17 : decode cX11_ends 17 = .ok (.iconst 3, 1) := by decide +kernel
theorem dX11_ends_18 : decode cX11_ends 18 = .ok (.if_icmp .ge 33, 3) := by decide +kernel
theorem dX11_ends_21 : decode cX11_ends 21 = .ok (.aload_n 0, 1) := by decide +kernel
theorem dX11_ends_22 : decode cX11_ends 22 = .ok (.iload_n 1, 1) := by decide +kernel
theorem dX11_ends_23 : decode cX11_ends 23 = .ok (.iload_n 3, 1) := by decide +kernel
theorem dX11_ends_24 : decode cX11_ends 24 = .ok (.invokevirtual 160, 3) := by decide +kernel
theorem dX11_ends_27 : decode cX11_ends 27 = .ok (.ifCond .eq 18, 3) := by decide +kernel
theorem dX11_ends_30 : decode cX11_ends 30 = .ok (.aload_n 0, 1) := by decide +kernel
theorem dX11_ends_31 : decode cX11_ends 31 = .ok (.dup, 1) := by decide +kernel
theorem dX11_ends_32 : decode cX11_ends 32 = .ok (.getfield 157, 3) := by decide +kernel
theorem dX11_ends_35 : decode cX11_ends 35 = .ok (.iconst 1, 1) := by decide +kernel
theorem dX11_ends_36 : decode cX11_ends 36 = .ok (.iadd, 1) := by decide +kernel
theorem dX11_ends_37 : decode cX11_ends 37 = .ok (.putfield 157, 3) := by decide +kernel
theorem dX11_ends_40 : decode cX11_ends 40 = .ok (.aload_n 0, 1) := by decide +kernel
theorem dX11_ends_41 : decode cX11_ends 41 = .ok (.iload_n 3, 1) := by decide +kernel
theorem dX11_ends_42 : decode cX11_ends 42 = .ok (.invokevirtual 163, 3) := by decide +kernel
theorem dX11_ends_45 : decode cX11_ends 45 = .ok (.iinc 3 1, 3) := by decide +kernel
theorem dX11_ends_48 : decode cX11_ends 48 = .ok (.goto (-32), 3) := by decide +kernel
theorem dX11_ends_51 : decode cX11_ends 51 = .ok (.return_, 1) := by decide +kernel
theorem dX11_enters_0 : decode cX11_enters 0 = .ok (.aload_n 0, 1) := by decide +kernel
theorem dX11_enters_1 : decode cX11_enters 1 = .ok (.getfield 16, 3) := by decide +kernel
theorem dX11_enters_4 : decode cX11_enters 4 = .ok (.bipush 12, 2) := by decide +kernel
theorem dX11_enters_6 : decode cX11_enters 6 = .ok (.iload_n 2, 1) := by decide +kernel
theorem dX11_enters_7 : decode cX11_enters 7 = .ok (.iadd, 1) := by decide +kernel
theorem dX11_enters_8 : decode cX11_enters 8 = .ok (.iaload, 1) := by decide +kernel
theorem dX11_enters_9 : decode cX11_enters 9 = .ok (.ifCond .ne 28, 3) := by decide +kernel
theorem dX11_enters_12 : decode cX11_enters 12 = .ok (.aload_n 0, 1) := by decide +kernel
theorem dX11_enters_13 : decode cX11_enters 13 = .ok (.getfield 16, 3) := by decide +kernel
theorem dX11_enters_16 : decode cX11_enters 16 = .ok (.bipush 12, 2) := by decide +kernel
theorem dX11_enters_18 : decode cX11_enters 18 = .ok (.iload_n 2, 1) := by decide +kernel
theorem dX11_enters_19 : decode cX11_enters 19 = .ok (.iadd, 1) := by decide +kernel
theorem dX11_enters_20 : decode cX11_enters 20 = .ok (.iload_n 1, 1) := by decide +kernel
theorem dX11_enters_21 : decode cX11_enters 21 = .ok (.iconst 1, 1) := by decide +kernel
theorem dX11_enters_22 : decode cX11_enters 22 = .ok (.iadd, 1) := by decide +kernel
theorem dX11_enters_23 : decode cX11_enters 23 = .ok (.iastore, 1) := by decide +kernel
theorem dX11_enters_24 : decode cX11_enters 24 = .ok (.aload_n 0, 1) := by decide +kernel
theorem dX11_enters_25 : decode cX11_enters 25 = .ok (.getfield 16, 3) := by decide +kernel
theorem dX11_enters_28 : decode cX11_enters 28 = .ok (.bipush 15, 2) := by decide +kernel
theorem dX11_enters_30 : decode cX11_enters 30 = .ok (.iload_n 2, 1) := by decide +kernel
theorem dX11_enters_31 : decode cX11_enters 31 = .ok (.iadd, 1) := by decide +kernel
theorem dX11_enters_32 : decode cX11_enters 32 = .ok (.iconst 1, 1) := by decide +kernel
theorem dX11_enters_33 : decode cX11_enters 33 = .ok (.iastore, 1) := by decide +kernel
theorem dX11_enters_34 : decode cX11_enters 34 = .ok (.goto 93, 3) := by decide +kernel
theorem dX11_enters_37 : decode cX11_enters 37 = .ok (.aload_n 0, 1) := by decide +kernel
theorem dX11_enters_38 : decode cX11_enters 38 = .ok (.iload_n 1, 1) := by decide +kernel
theorem dX11_enters_39 : decode cX11_enters 39 = .ok (.iload_n 2, 1) := by decide +kernel
theorem dX11_enters_40 : decode cX11_enters 40 = .ok (.invokevirtual 160, 3) := by decide +kernel
theorem dX11_enters_43 : decode cX11_enters 43 = .ok (.ifCond .eq 55, 3) := by decide +kernel
theorem dX11_enters_46 : decode cX11_enters 46 = .ok (.aload_n 0, 1) := by decide +kernel
theorem dX11_enters_47 : decode cX11_enters 47 = .ok (.aload_n 0, 1) := by decide +kernel
theorem dX11_enters_48 : decode cX11_enters 48 = .ok (.getfield 16, 3) := by decide +kernel
theorem dX11_enters_51 : decode cX11_enters 51 = .ok (.bipush 15, 2) := by decide +kernel
theorem dX11_enters_53 : decode cX11_enters 53 = .ok (.iload_n 2, 1) := by decide +kernel
theorem dX11_enters_54 : decode cX11_enters 54 = .ok (.iadd, 1) := by decide +kernel
theorem dX11_enters_55 : decode cX11_enters 55 = .ok (.iaload, 1) := by decide +kernel
theorem dX11_enters_56 : decode cX11_enters 56 = .ok (.iconst 1, 1) := by decide +kernel
theorem dX11_enters_57 : decode cX11_enters 57 = .ok (.iadd, 1) := by decide +kernel
theorem dX11_enters_58 : decode cX11_enters 58 = .ok (.bipush 10, 2) := by decide +kernel
theorem dX11_enters_60 : decode cX11_enters 60 = .ok (.if_icmp .ne 7, 3) := by decide +kernel
theorem dX11_enters_63 : decode cX11_enters 63 = .ok (.iconst 3, 1) := by decide +kernel
theorem dX11_enters_64 : decode cX11_enters 64 = .ok (.goto 4, 3) := by decide +kernel
theorem dX11_enters_67 : decode cX11_enters 67 = .ok (.iconst 0, 1) := by decide +kernel
theorem dX11_enters_68 : decode cX11_enters 68 = .ok (.putfield 166, 3) := by decide +kernel
theorem dX11_enters_71 : decode cX11_enters 71 = .ok (.aload_n 0, 1) := by decide +kernel
theorem dX11_enters_72 : decode cX11_enters 72 = .ok (.getfield 16, 3) := by decide +kernel
theorem dX11_enters_75 : decode cX11_enters 75 = .ok (.bipush 15, 2) := by decide +kernel
theorem dX11_enters_77 : decode cX11_enters 77 = .ok (.iload_n 2, 1) := by decide +kernel
theorem dX11_enters_78 : decode cX11_enters 78 = .ok (.iadd, 1) := by decide +kernel
theorem dX11_enters_79 : decode cX11_enters 79 = .ok (.dup2, 1) := by decide +kernel
theorem dX11_enters_80 : decode cX11_enters 80 = .ok (.iaload, 1) := by decide +kernel
theorem dX11_enters_81 : decode cX11_enters 81 = .ok (.aload_n 0, 1) := by decide +kernel
theorem dX11_enters_82 : decode cX11_enters 82 = .ok (.getfield 166, 3) := by decide +kernel
theorem dX11_enters_85 : decode cX11_enters 85 = .ok (.ifCond .ne 7, 3) := by decide +kernel
theorem dX11_enters_88 : decode cX11_enters 88 = .ok (.iconst 1, 1) := by decide +kernel
theorem dX11_enters_89 : decode cX11_enters 89 = .ok (.goto 4, 3) := by decide +kernel
theorem dX11_enters_92 : decode cX11_enters 92 = .ok (.iconst 0, 1) := by decide +kernel
theorem dX11_enters_93 : decode cX11_enters 93 = .ok (.iadd, 1) := by decide +kernel
theorem dX11_enters_94 : decode cX11_enters 94 = .ok (.iastore, 1) := by decide +kernel
theorem dX11_enters_95 : decode cX11_enters 95 = .ok (.goto 32, 3) := by decide +kernel
theorem dX11_enters_98 : decode cX11_enters 98 = .ok (.aload_n 0, 1) := by decide +kernel
theorem dX11_enters_99 : decode cX11_enters 99 = .ok (.getfield 16, 3) := by decide +kernel
theorem dX11_enters_102 : decode cX11_enters 102 = .ok (.iconst 4, 1) := by decide +kernel
theorem dX11_enters_103 : decode cX11_enters 103 = .ok (.iload_n 1, 1) := by decide +kernel
theorem dX11_enters_104 : decode cX11_enters 104 = .ok (.iadd, 1) := by decide +kernel
theorem dX11_enters_105 : decode cX11_enters 105 = .ok (.iconst 1, 1) := by decide +kernel
theorem dX11_enters_106 : decode cX11_enters 106 = .ok (.iastore, 1) := by decide +kernel
theorem dX11_enters_107 : decode cX11_enters 107 = .ok (.aload_n 0, 1) := by decide +kernel
theorem dX11_enters_108 : decode cX11_enters 108 = .ok (.getfield 16, 3) := by decide +kernel
theorem dX11_enters_111 : decode cX11_enters 111 = .ok (.bipush 8, 2) := by decide +kernel
theorem dX11_enters_113 : decode cX11_enters 113 = .ok (.iload_n 1, 1) := by decide +kernel
theorem dX11_enters_114 : decode cX11_enters 114 = .ok (.iadd, 1) := by decide +kernel
theorem dX11_enters_115 : decode cX11_enters 115 = .ok (.iconst 1, 1) := by decide +kernel
theorem dX11_enters_116 : decode cX11_enters 116 = .ok (.iastore, 1) := by decide +kernel
theorem dX11_enters_117 : decode cX11_enters 117 = .ok (.aload_n 0, 1) := by decide +kernel
theorem dX11_enters_118 : decode cX11_enters 118 = .ok (.bipush 18, 2) := by decide +kernel
theorem dX11_enters_120 : decode cX11_enters 120 = .ok (.bipush 21, 2) := by decide +kernel
theorem dX11_enters_122 : decode cX11_enters 122 = .ok (.iload_n 2, 1) := by decide +kernel
theorem dX11_enters_123 : decode cX11_enters 123 = .ok (.iload_n 1, 1) := by decide +kernel
theorem dX11_enters_124 : decode cX11_enters 124 = .ok (.invokevirtual 169, 3) := by decide +kernel
theorem dX11_enters_127 : decode cX11_enters 127 = .ok (.return_, 1) := by decide +kernel
theorem dX11_feed_0 : decode cX11_feed 0 = .ok (.iload_n 1, 1) := by decide +kernel
theorem dX11_feed_1 : decode cX11_feed 1 = .ok (.i2l, 1) := by decide +kernel
theorem dX11_feed_2 : decode cX11_feed 2 = .ok (.lconst 1, 1) := by decide +kernel
theorem dX11_feed_3 : decode cX11_feed 3 = .ok (.ldc2_w 83, 3) := by decide +kernel
theorem dX11_feed_6 : decode cX11_feed 6 = .ok (.invokestatic 64, 3) := by decide +kernel
theorem dX11_feed_9 : decode cX11_feed 9 = .ok (.ifCond .ne 6, 3) := by decide +kernel
theorem dX11_feed_12 : decode cX11_feed 12 = .ok (.bipush (-2), 2) := by decide +kernel
theorem dX11_feed_14 : decode cX11_feed 14 = .ok (.ireturn, 1) := by decide +kernel
theorem dX11_feed_15 : decode cX11_feed 15 = .ok (.aload_n 0, 1) := by decide +kernel
theorem dX11_feed_16 : decode cX11_feed 16 = .ok (.getfield 85, 3) := by decide +kernel
theorem dX11_feed_19 : decode cX11_feed 19 = .ok (.bipush 120, 2) := by decide +kernel
theorem dX11_feed_21 : decode cX11_feed 21 = .ok (.if_icmp .ne 6, 3) := by decide +kernel
theorem dX11_feed_24 : decode cX11_feed 24 = .ok (.bipush (-4), 2) := by decide +kernel
theorem dX11_feed_26 : decode cX11_feed 26 = .ok (.ireturn, 1) := by decide +kernel
theorem dX11_feed_27 : decode cX11_feed 27 = .ok (.aload_n 0, 1) := by decide +kernel
theorem dX11_feed_28 : decode cX11_feed 28 = .ok (.getfield 25, 3) := by decide +kernel
theorem dX11_feed_31 : decode cX11_feed 31 = .ok (.aload_n 0, 1) := by decide +kernel
theorem dX11_feed_32 : decode cX11_feed 32 = .ok (.getfield 85, 3) := by decide +kernel
theorem dX11_feed_35 : decode cX11_feed 35 = .ok (.iload_n 1, 1) := by decide +kernel
theorem dX11_feed_36 : decode cX11_feed 36 = .ok (.iastore, 1) := by decide +kernel
theorem dX11_feed_37 : decode cX11_feed 37 = .ok (.aload_n 0, 1) := by decide +kernel
theorem dX11_feed_38 : decode cX11_feed 38 = .ok (.dup, 1) := by decide +kernel
theorem dX11_feed_39 : decode cX11_feed 39 = .ok (.getfield 85, 3) := by decide +kernel
theorem dX11_feed_42 : decode cX11_feed 42 = .ok (.iconst 1, 1) := by decide +kernel
theorem dX11_feed_43 : decode cX11_feed 43 = .ok (.iadd, 1) := by decide +kernel
theorem dX11_feed_44 : decode cX11_feed 44 = .ok (.putfield 85, 3) := by decide +kernel
theorem dX11_feed_47 : decode cX11_feed 47 = .ok (.aload_n 0, 1) := by decide +kernel
theorem dX11_feed_48 : decode cX11_feed 48 = .ok (.getfield 85, 3) := by decide +kernel
theorem dX11_feed_51 : decode cX11_feed 51 = .ok (.ireturn, 1) := by decide +kernel
theorem dX11_field_0 : decode cX11_field 0 = .ok (.aload_n 0, 1) := by decide +kernel
theorem dX11_field_1 : decode cX11_field 1 = .ok (.getfield 9, 3) := by decide +kernel
theorem dX11_field_4 : decode cX11_field 4 = .ok (.bipush 61, 2) := by decide +kernel
theorem dX11_field_6 : decode cX11_field 6 = .ok (.bipush 48, 2) := by decide +kernel
theorem dX11_field_8 : decode cX11_field 8 = .ok (.iload_n 1, 1) := by decide +kernel
theorem dX11_field_9 : decode cX11_field 9 = .ok (.imul, 1) := by decide +kernel
theorem dX11_field_10 : decode cX11_field 10 = .ok (.iadd, 1) := by decide +kernel
theorem dX11_field_11 : decode cX11_field 11 = .ok (.iconst 4, 1) := by decide +kernel
theorem dX11_field_12 : decode cX11_field 12 = .ok (.iload_n 2, 1) := by decide +kernel
theorem dX11_field_13 : decode cX11_field 13 = .ok (.imul, 1) := by decide +kernel
theorem dX11_field_14 : decode cX11_field 14 = .ok (.iadd, 1) := by decide +kernel
theorem dX11_field_15 : decode cX11_field 15 = .ok (.iload_n 3, 1) := by decide +kernel
theorem dX11_field_16 : decode cX11_field 16 = .ok (.iadd, 1) := by decide +kernel
theorem dX11_field_17 : decode cX11_field 17 = .ok (.iaload, 1) := by decide +kernel
theorem dX11_field_18 : decode cX11_field 18 = .ok (.ireturn, 1) := by decide +kernel
theorem dX11_finds_0 : decode cX11_finds 0 = .ok (.bipush 17, 2) := by decide +kernel
theorem dX11_finds_2 : decode cX11_finds 2 = .ok (.istore_n 3, 1) := by decide +kernel
theorem dX11_finds_3 : decode cX11_finds 3 = .ok (.iconst 0, 1) := by decide +kernel
theorem dX11_finds_4 : decode cX11_finds 4 = .ok (.istore 4, 2) := by decide +kernel
theorem dX11_finds_6 : decode cX11_finds 6 = .ok (.iload 4, 2) := by decide +kernel
theorem dX11_finds_8 : decode cX11_finds 8 = .ok (.bipush 52, 2) := by decide +kernel
theorem dX11_finds_10 : decode cX11_finds 10 = .ok (.if_icmp .ge 22, 3) := by decide +kernel
theorem dX11_finds_13 : decode cX11_finds 13 = .ok (.bipush 31, 2) := by decide +kernel
theorem dX11_finds_15 : decode cX11_finds 15 = .ok (.iload_n 3, 1) := by decide +kernel
theorem dX11_finds_16 : decode cX11_finds 16 = .ok (.imul, 1) := by decide +kernel
theorem dX11_finds_17 : decode cX11_finds 17 = .ok (.aload_n 0, 1) := by decide +kernel
theorem dX11_finds_18 : decode cX11_finds 18 = .ok (.getfield 16, 3) := by decide +kernel
theorem dX11_finds_21 : decode cX11_finds 21 = .ok (.iload 4, 2) := by decide +kernel
theorem dX11_finds_23 : decode cX11_finds 23 = .ok (.iaload, 1) := by decide +kernel
theorem dX11_finds_24 : decode cX11_finds 24 = .ok (.iadd, 1) := by decide +kernel
theorem dX11_finds_25 : decode cX11_finds 25 = .ok (.istore_n 3, 1) := by decide +kernel
theorem dX11_finds_26 : decode cX11_finds 26 = .ok (.iinc 4 1, 3) := by decide +kernel
theorem dX11_finds_29 : decode cX11_finds 29 = .ok (.goto (-23), 3) := by decide +kernel
theorem dX11_finds_32 : decode cX11_finds 32 = .ok (.iload_n 3, 1) := by decide +kernel
theorem dX11_finds_33 : decode cX11_finds 33 = .ok (.bipush 7, 2) := by decide +kernel
theorem dX11_finds_35 : decode cX11_finds 35 = .ok (.iushr, 1) := by decide +kernel
theorem dX11_finds_36 : decode cX11_finds 36 = .ok (.iload_n 3, 1) := by decide +kernel
theorem dX11_finds_37 : decode cX11_finds 37 = .ok (.ixor, 1) := by decide +kernel
theorem dX11_finds_38 : decode cX11_finds 38 = .ok (.sipush 2047, 3) := by decide +kernel
theorem dX11_finds_41 : decode cX11_finds 41 = .ok (.iand, 1) := by decide +kernel
theorem dX11_finds_42 : decode cX11_finds 42 = .ok (.istore 4, 2) := by decide +kernel
theorem dX11_finds_44 : decode cX11_finds 44 = .ok (.aload_n 0, 1) := by decide +kernel
theorem dX11_finds_45 : decode cX11_finds 45 = .ok (.getfield 52, 3) := by decide +kernel
theorem dX11_finds_48 : decode cX11_finds 48 = .ok (.iload 4, 2) := by decide +kernel
theorem dX11_finds_50 : decode cX11_finds 50 = .ok (.iaload, 1) := by decide +kernel
theorem dX11_finds_51 : decode cX11_finds 51 = .ok (.ifCond .le 32, 3) := by decide +kernel
theorem dX11_finds_54 : decode cX11_finds 54 = .ok (.aload_n 0, 1) := by decide +kernel
theorem dX11_finds_55 : decode cX11_finds 55 = .ok (.aload_n 0, 1) := by decide +kernel
theorem dX11_finds_56 : decode cX11_finds 56 = .ok (.getfield 52, 3) := by decide +kernel
theorem dX11_finds_59 : decode cX11_finds 59 = .ok (.iload 4, 2) := by decide +kernel
theorem dX11_finds_61 : decode cX11_finds 61 = .ok (.iaload, 1) := by decide +kernel
theorem dX11_finds_62 : decode cX11_finds 62 = .ok (.iconst 1, 1) := by decide +kernel
theorem dX11_finds_63 : decode cX11_finds 63 = .ok (.isub, 1) := by decide +kernel
theorem dX11_finds_64 : decode cX11_finds 64 = .ok (.invokevirtual 228, 3) := by decide +kernel
theorem dX11_finds_67 : decode cX11_finds 67 = .ok (.ifCond .ne 16, 3) := by decide +kernel
theorem dX11_finds_70 : decode cX11_finds 70 = .ok (.iload 4, 2) := by decide +kernel
theorem dX11_finds_72 : decode cX11_finds 72 = .ok (.iconst 1, 1) := by decide +kernel
theorem dX11_finds_73 : decode cX11_finds 73 = .ok (.iadd, 1) := by decide +kernel
theorem dX11_finds_74 : decode cX11_finds 74 = .ok (.sipush 2047, 3) := by decide +kernel
theorem dX11_finds_77 : decode cX11_finds 77 = .ok (.iand, 1) := by decide +kernel
theorem dX11_finds_78 : decode cX11_finds 78 = .ok (.istore 4, 2) := by decide +kernel
theorem dX11_finds_80 : decode cX11_finds 80 = .ok (.goto (-36), 3) := by decide +kernel
theorem dX11_finds_83 : decode cX11_finds 83 = .ok (.aload_n 0, 1) := by decide +kernel
theorem dX11_finds_84 : decode cX11_finds 84 = .ok (.getfield 52, 3) := by decide +kernel
theorem dX11_finds_87 : decode cX11_finds 87 = .ok (.iload 4, 2) := by decide +kernel
theorem dX11_finds_89 : decode cX11_finds 89 = .ok (.iaload, 1) := by decide +kernel
theorem dX11_finds_90 : decode cX11_finds 90 = .ok (.ifCond .ne 118, 3) := by decide +kernel
theorem dX11_finds_93 : decode cX11_finds 93 = .ok (.aload_n 0, 1) := by decide +kernel
theorem dX11_finds_94 : decode cX11_finds 94 = .ok (.aload_n 0, 1) := by decide +kernel
theorem dX11_finds_95 : decode cX11_finds 95 = .ok (.getfield 231, 3) := by decide +kernel
theorem dX11_finds_98 : decode cX11_finds 98 = .ok (.sipush 600, 3) := by decide +kernel
theorem dX11_finds_101 : decode cX11_finds 101 = .ok (.if_icmp .ge 7, 3) := by decide +kernel
theorem dX11_finds_104 : decode cX11_finds 104 = .ok (.iconst 1, 1) := by decide +kernel
theorem dX11_finds_105 : decode cX11_finds 105 = .ok (.goto 4, 3) := by decide +kernel
theorem dX11_finds_108 : decode cX11_finds 108 = .ok (.iconst 0, 1) := by decide +kernel
theorem dX11_finds_109 : decode cX11_finds 109 = .ok (.putfield 234, 3) := by decide +kernel
theorem dX11_finds_112 : decode cX11_finds 112 = .ok (.aload_n 0, 1) := by decide +kernel
theorem dX11_finds_113 : decode cX11_finds 113 = .ok (.getfield 234, 3) := by decide +kernel
theorem dX11_finds_116 : decode cX11_finds 116 = .ok (.ifCond .eq 92, 3) := by decide +kernel
theorem dX11_finds_119 : decode cX11_finds 119 = .ok (.aload_n 0, 1) := by decide +kernel
theorem dX11_finds_120 : decode cX11_finds 120 = .ok (.getfield 52, 3) := by decide +kernel
theorem dX11_finds_123 : decode cX11_finds 123 = .ok (.iload 4, 2) := by decide +kernel
theorem dX11_finds_125 : decode cX11_finds 125 = .ok (.aload_n 0, 1) := by decide +kernel
theorem dX11_finds_126 : decode cX11_finds 126 = .ok (.getfield 231, 3) := by decide +kernel
theorem dX11_finds_129 : decode cX11_finds 129 = .ok (.iconst 1, 1) := by decide +kernel
theorem dX11_finds_130 : decode cX11_finds 130 = .ok (.iadd, 1) := by decide +kernel
theorem dX11_finds_131 : decode cX11_finds 131 = .ok (.iastore, 1) := by decide +kernel
theorem dX11_finds_132 : decode cX11_finds 132 = .ok (.aload_n 0, 1) := by decide +kernel
theorem dX11_finds_133 : decode cX11_finds 133 = .ok (.getfield 16, 3) := by decide +kernel
theorem dX11_finds_136 : decode cX11_finds 136 = .ok (.iconst 0, 1) := by decide +kernel
theorem dX11_finds_137 : decode cX11_finds 137 = .ok (.aload_n 0, 1) := by decide +kernel
theorem dX11_finds_138 : decode cX11_finds 138 = .ok (.getfield 40, 3) := by decide +kernel
theorem dX11_finds_141 : decode cX11_finds 141 = .ok (.bipush 52, 2) := by decide +kernel
theorem dX11_finds_143 : decode cX11_finds 143 = .ok (.aload_n 0, 1) := by decide +kernel
theorem dX11_finds_144 : decode cX11_finds 144 = .ok (.getfield 231, 3) := by decide +kernel
theorem dX11_finds_147 : decode cX11_finds 147 = .ok (.imul, 1) := by decide +kernel
theorem dX11_finds_148 : decode cX11_finds 148 = .ok (.bipush 52, 2) := by decide +kernel
theorem dX11_finds_150 : decode cX11_finds 150 = .ok (.invokestatic 146, 3) := by decide +kernel
theorem dX11_finds_153 : decode cX11_finds 153 = .ok (.aload_n 0, 1) := by decide +kernel
theorem dX11_finds_154 : decode cX11_finds 154 = .ok (.getfield 43, 3) := by decide +kernel
theorem dX11_finds_157 : decode cX11_finds 157 = .ok (.aload_n 0, 1) := by decide +kernel
theorem dX11_finds_158 : decode cX11_finds 158 = .ok (.getfield 231, 3) := by decide +kernel
theorem dX11_finds_161 : decode cX11_finds 161 = .ok (.iload_n 1, 1) := by decide +kernel
theorem dX11_finds_162 : decode cX11_finds 162 = .ok (.iastore, 1) := by decide +kernel
theorem dX11_finds_163 : decode cX11_finds 163 = .ok (.aload_n 0, 1) := by decide +kernel
theorem dX11_finds_164 : decode cX11_finds 164 = .ok (.getfield 46, 3) := by decide +kernel
theorem dX11_finds_167 : decode cX11_finds 167 = .ok (.aload_n 0, 1) := by decide +kernel
theorem dX11_finds_168 : decode cX11_finds 168 = .ok (.getfield 231, 3) := by decide +kernel
theorem dX11_finds_171 : decode cX11_finds 171 = .ok (.iload_n 2, 1) := by decide +kernel
theorem dX11_finds_172 : decode cX11_finds 172 = .ok (.iastore, 1) := by decide +kernel
theorem dX11_finds_173 : decode cX11_finds 173 = .ok (.aload_n 0, 1) := by decide +kernel
theorem dX11_finds_174 : decode cX11_finds 174 = .ok (.getfield 49, 3) := by decide +kernel
theorem dX11_finds_177 : decode cX11_finds 177 = .ok (.aload_n 0, 1) := by decide +kernel
theorem dX11_finds_178 : decode cX11_finds 178 = .ok (.getfield 231, 3) := by decide +kernel
theorem dX11_finds_181 : decode cX11_finds 181 = .ok (.iload_n 1, 1) := by decide +kernel
theorem dX11_finds_182 : decode cX11_finds 182 = .ok (.ifCond .ge 7, 3) := by decide +kernel
theorem dX11_finds_185 : decode cX11_finds 185 = .ok (.iconst 0, 1) := by decide +kernel
theorem dX11_finds_186 : decode cX11_finds 186 = .ok (.goto 11, 3) := by decide +kernel
theorem dX11_finds_189 : decode cX11_finds 189 = .ok (.aload_n 0, 1) := by decide +kernel
theorem dX11_finds_190 : decode cX11_finds 190 = .ok (.getfield 49, 3) := by decide +kernel
theorem dX11_finds_193 : decode cX11_finds 193 = .ok (.iload_n 1, 1) := by decide +kernel
theorem dX11_finds_194 : decode cX11_finds 194 = .ok (.iaload, 1) := by decide +kernel
theorem dX11_finds_195 : decode cX11_finds 195 = .ok (.iconst 1, 1) := by decide +kernel
theorem dX11_finds_196 : decode cX11_finds 196 = .ok (.iadd, 1) := by decide +kernel
theorem dX11_finds_197 : decode cX11_finds 197 = .ok (.iastore, 1) := by decide +kernel
theorem dX11_finds_198 : decode cX11_finds 198 = .ok (.aload_n 0, 1) := by decide +kernel
theorem dX11_finds_199 : decode cX11_finds 199 = .ok (.dup, 1) := by decide +kernel
theorem dX11_finds_200 : decode cX11_finds 200 = .ok (.getfield 231, 3) := by decide +kernel
theorem dX11_finds_203 : decode cX11_finds 203 = .ok (.iconst 1, 1) := by decide +kernel
theorem dX11_finds_204 : decode cX11_finds 204 = .ok (.iadd, 1) := by decide +kernel
theorem dX11_finds_205 : decode cX11_finds 205 = .ok (.putfield 231, 3) := by decide +kernel
theorem dX11_finds_208 : decode cX11_finds 208 = .ok (.return_, 1) := by decide +kernel
theorem dX11_findsAll_0 : decode cX11_findsAll 0 = .ok (.iconst 0, 1) := by decide +kernel
theorem dX11_findsAll_1 : decode cX11_findsAll 1 = .ok (.istore_n 1, 1) := by decide +kernel
theorem dX11_findsAll_2 : decode cX11_findsAll 2 = .ok (.iload_n 1, 1) := by decide +kernel
theorem dX11_findsAll_3 : decode cX11_findsAll 3 = .ok (.sipush 2048, 3) := by decide +kernel
theorem dX11_findsAll_6 : decode cX11_findsAll 6 = .ok (.if_icmp .ge 16, 3) := by decide +kernel
theorem dX11_findsAll_9 : decode cX11_findsAll 9 = .ok (.aload_n 0, 1) := by decide +kernel
theorem dX11_findsAll_10 : decode cX11_findsAll 10 = .ok (.getfield 52, 3) := by decide +kernel
theorem dX11_findsAll_13 : decode cX11_findsAll 13 = .ok (.iload_n 1, 1) := by decide +kernel
theorem dX11_findsAll_14 : decode cX11_findsAll 14 = .ok (.iconst 0, 1) := by decide +kernel
theorem dX11_findsAll_15 : decode cX11_findsAll 15 = .ok (.iastore, 1) := by decide +kernel
theorem dX11_findsAll_16 : decode cX11_findsAll 16 = .ok (.iinc 1 1, 3) := by decide +kernel
theorem dX11_findsAll_19 : decode cX11_findsAll 19 = .ok (.goto (-17), 3) := by decide +kernel
theorem dX11_findsAll_22 : decode cX11_findsAll 22 = .ok (.aload_n 0, 1) := by decide +kernel
theorem dX11_findsAll_23 : decode cX11_findsAll 23 = .ok (.iconst 0, 1) := by decide +kernel
theorem dX11_findsAll_24 : decode cX11_findsAll 24 = .ok (.putfield 231, 3) := by decide +kernel
theorem dX11_findsAll_27 : decode cX11_findsAll 27 = .ok (.aload_n 0, 1) := by decide +kernel
theorem dX11_findsAll_28 : decode cX11_findsAll 28 = .ok (.getfield 9, 3) := by decide +kernel
theorem dX11_findsAll_31 : decode cX11_findsAll 31 = .ok (.iconst 0, 1) := by decide +kernel
theorem dX11_findsAll_32 : decode cX11_findsAll 32 = .ok (.aload_n 0, 1) := by decide +kernel
theorem dX11_findsAll_33 : decode cX11_findsAll 33 = .ok (.getfield 16, 3) := by decide +kernel
theorem dX11_findsAll_36 : decode cX11_findsAll 36 = .ok (.iconst 0, 1) := by decide +kernel
theorem dX11_findsAll_37 : decode cX11_findsAll 37 = .ok (.bipush 52, 2) := by decide +kernel
theorem dX11_findsAll_39 : decode cX11_findsAll 39 = .ok (.invokestatic 146, 3) := by decide +kernel
theorem dX11_findsAll_42 : decode cX11_findsAll 42 = .ok (.aload_n 0, 1) := by decide +kernel
theorem dX11_findsAll_43 : decode cX11_findsAll 43 = .ok (.iconst (-1), 1) := by decide +kernel
theorem dX11_findsAll_44 : decode cX11_findsAll 44 = .ok (.iconst (-1), 1) := by decide +kernel
theorem dX11_findsAll_45 : decode cX11_findsAll 45 = .ok (.invokevirtual 238, 3) := by decide +kernel
theorem dX11_findsAll_48 : decode cX11_findsAll 48 = .ok (.iconst 0, 1) := by decide +kernel
theorem dX11_findsAll_49 : decode cX11_findsAll 49 = .ok (.istore_n 1, 1) := by decide +kernel
theorem dX11_findsAll_50 : decode cX11_findsAll 50 = .ok (.iload_n 1, 1) := by decide +kernel
theorem dX11_findsAll_51 : decode cX11_findsAll 51 = .ok (.aload_n 0, 1) := by decide +kernel
theorem dX11_findsAll_52 : decode cX11_findsAll 52 = .ok (.getfield 231, 3) := by decide +kernel
theorem dX11_findsAll_55 : decode cX11_findsAll 55 = .ok (.if_icmp .ge 87, 3) := by decide +kernel
theorem dX11_findsAll_58 : decode cX11_findsAll 58 = .ok (.aload_n 0, 1) := by decide +kernel
theorem dX11_findsAll_59 : decode cX11_findsAll 59 = .ok (.getfield 234, 3) := by decide +kernel
theorem dX11_findsAll_62 : decode cX11_findsAll 62 = .ok (.ifCond .eq 80, 3) := by decide +kernel
theorem dX11_findsAll_65 : decode cX11_findsAll 65 = .ok (.iconst 0, 1) := by decide +kernel
theorem dX11_findsAll_66 : decode cX11_findsAll 66 = .ok (.istore_n 2, 1) := by decide +kernel
theorem dX11_findsAll_67 : decode cX11_findsAll 67 = .ok (.iload_n 2, 1) := by decide +kernel
theorem dX11_findsAll_68 : decode cX11_findsAll 68 = .ok (.aload_n 0, 1) := by decide +kernel
theorem dX11_findsAll_69 : decode cX11_findsAll 69 = .ok (.getfield 9, 3) := by decide +kernel
theorem dX11_findsAll_72 : decode cX11_findsAll 72 = .ok (.bipush 52, 2) := by decide +kernel
theorem dX11_findsAll_74 : decode cX11_findsAll 74 = .ok (.iaload, 1) := by decide +kernel
theorem dX11_findsAll_75 : decode cX11_findsAll 75 = .ok (.if_icmp .ge 61, 3) := by decide +kernel
theorem dX11_findsAll_78 : decode cX11_findsAll 78 = .ok (.aload_n 0, 1) := by decide +kernel
theorem dX11_findsAll_79 : decode cX11_findsAll 79 = .ok (.getfield 234, 3) := by decide +kernel
theorem dX11_findsAll_82 : decode cX11_findsAll 82 = .ok (.ifCond .eq 54, 3) := by decide +kernel
theorem dX11_findsAll_85 : decode cX11_findsAll 85 = .ok (.aload_n 0, 1) := by decide +kernel
theorem dX11_findsAll_86 : decode cX11_findsAll 86 = .ok (.getfield 40, 3) := by decide +kernel
theorem dX11_findsAll_89 : decode cX11_findsAll 89 = .ok (.bipush 52, 2) := by decide +kernel
theorem dX11_findsAll_91 : decode cX11_findsAll 91 = .ok (.iload_n 1, 1) := by decide +kernel
theorem dX11_findsAll_92 : decode cX11_findsAll 92 = .ok (.imul, 1) := by decide +kernel
theorem dX11_findsAll_93 : decode cX11_findsAll 93 = .ok (.iconst 4, 1) := by decide +kernel
theorem dX11_findsAll_94 : decode cX11_findsAll 94 = .ok (.iadd, 1) := by decide +kernel
theorem dX11_findsAll_95 : decode cX11_findsAll 95 = .ok (.iload_n 2, 1) := by decide +kernel
theorem dX11_findsAll_96 : decode cX11_findsAll 96 = .ok (.iadd, 1) := by decide +kernel
theorem dX11_findsAll_97 : decode cX11_findsAll 97 = .ok (.iaload, 1) := by decide +kernel
theorem dX11_findsAll_98 : decode cX11_findsAll 98 = .ok (.ifCond .ne 32, 3) := by decide +kernel
theorem dX11_findsAll_101 : decode cX11_findsAll 101 = .ok (.aload_n 0, 1) := by decide +kernel
theorem dX11_findsAll_102 : decode cX11_findsAll 102 = .ok (.getfield 40, 3) := by decide +kernel
theorem dX11_findsAll_105 : decode cX11_findsAll 105 = .ok (.bipush 52, 2) := by decide +kernel
theorem dX11_findsAll_107 : decode cX11_findsAll 107 = .ok (.iload_n 1, 1) := by decide +kernel
theorem dX11_findsAll_108 : decode cX11_findsAll 108 = .ok (.imul, 1) := by decide +kernel
theorem dX11_findsAll_109 : decode cX11_findsAll 109 = .ok (.aload_n 0, 1) := by decide +kernel
theorem dX11_findsAll_110 : decode cX11_findsAll 110 = .ok (.getfield 16, 3) := by decide +kernel
theorem dX11_findsAll_113 : decode cX11_findsAll 113 = .ok (.iconst 0, 1) := by decide +kernel
theorem dX11_findsAll_114 : decode cX11_findsAll 114 = .ok (.bipush 52, 2) := by decide +kernel
theorem dX11_findsAll_116 : decode cX11_findsAll 116 = .ok (.invokestatic 146, 3) := by decide +kernel
theorem dX11_findsAll_119 : decode cX11_findsAll 119 = .ok (.aload_n 0, 1) := by decide +kernel
theorem dX11_findsAll_120 : decode cX11_findsAll 120 = .ok (.iload_n 2, 1) := by decide +kernel
theorem dX11_findsAll_121 : decode cX11_findsAll 121 = .ok (.invokevirtual 188, 3) := by decide +kernel
theorem dX11_findsAll_124 : decode cX11_findsAll 124 = .ok (.aload_n 0, 1) := by decide +kernel
theorem dX11_findsAll_125 : decode cX11_findsAll 125 = .ok (.iload_n 1, 1) := by decide +kernel
theorem dX11_findsAll_126 : decode cX11_findsAll 126 = .ok (.iload_n 2, 1) := by decide +kernel
theorem dX11_findsAll_127 : decode cX11_findsAll 127 = .ok (.invokevirtual 238, 3) := by decide +kernel
theorem dX11_findsAll_130 : decode cX11_findsAll 130 = .ok (.iinc 2 1, 3) := by decide +kernel
theorem dX11_findsAll_133 : decode cX11_findsAll 133 = .ok (.goto (-66), 3) := by decide +kernel
theorem dX11_findsAll_136 : decode cX11_findsAll 136 = .ok (.iinc 1 1, 3) := by decide +kernel
theorem dX11_findsAll_139 : decode cX11_findsAll 139 = .ok (.goto (-89), 3) := by decide +kernel
theorem dX11_findsAll_142 : decode cX11_findsAll 142 = .ok (.return_, 1) := by decide +kernel
theorem dX11_firstFailing_0 : decode cX11_firstFailing 0 = .ok (.iconst 0, 1) := by decide +kernel
theorem dX11_firstFailing_1 : decode cX11_firstFailing 1 = .ok (.istore_n 1, 1) := by decide +kernel
theorem dX11_firstFailing_2 : decode cX11_firstFailing 2 = .ok (.iload_n 1, 1) := by decide +kernel
theorem dX11_firstFailing_3 : decode cX11_firstFailing 3 = .ok (.aload_n 0, 1) := by decide +kernel
theorem dX11_firstFailing_4 : decode cX11_firstFailing 4 = .ok (.getfield 231, 3) := by decide +kernel
theorem dX11_firstFailing_7 : decode cX11_firstFailing 7 = .ok (.if_icmp .ge 26, 3) := by decide +kernel
theorem dX11_firstFailing_10 : decode cX11_firstFailing 10 = .ok (.aload_n 0, 1) := by decide +kernel
theorem dX11_firstFailing_11 : decode cX11_firstFailing 11 = .ok (.aload_n 0, 1) := by decide +kernel
theorem dX11_firstFailing_12 : decode cX11_firstFailing 12 = .ok (.getfield 40, 3) := by decide +kernel
theorem dX11_firstFailing_15 : decode cX11_firstFailing 15 = .ok (.bipush 52, 2) := by decide +kernel
theorem dX11_firstFailing_17 : decode cX11_firstFailing 17 = .ok (.iload_n 1, 1) := by decide +kernel
theorem dX11_firstFailing_18 : decode cX11_firstFailing 18 = .ok (.imul, 1) := by decide +kernel
theorem dX11_firstFailing_19 : decode cX11_firstFailing 19 = .ok (.invokevirtual 241, 3) := by decide +kernel
theorem dX11_firstFailing_22 : decode cX11_firstFailing 22 = .ok (.ifCond .ne 5, 3) := by decide +kernel
theorem dX11_firstFailing_25 : decode cX11_firstFailing 25 = .ok (.iload_n 1, 1) := by decide +kernel
theorem dX11_firstFailing_26 : decode cX11_firstFailing 26 = .ok (.ireturn, 1) := by decide +kernel
theorem dX11_firstFailing_27 : decode cX11_firstFailing 27 = .ok (.iinc 1 1, 3) := by decide +kernel
theorem dX11_firstFailing_30 : decode cX11_firstFailing 30 = .ok (.goto (-28), 3) := by decide +kernel
theorem dX11_firstFailing_33 : decode cX11_firstFailing 33 = .ok (.iconst (-1), 1) := by decide +kernel
theorem dX11_firstFailing_34 : decode cX11_firstFailing 34 = .ok (.ireturn, 1) := by decide +kernel
theorem dX11_firstSticking_0 : decode cX11_firstSticking 0 = .ok (.iconst 0, 1) := by decide +kernel
theorem dX11_firstSticking_1 : decode cX11_firstSticking 1 = .ok (.istore_n 1, 1) := by decide +kernel
theorem dX11_firstSticking_2 : decode cX11_firstSticking 2 = .ok (.iload_n 1, 1) := by decide +kernel
theorem dX11_firstSticking_3 : decode cX11_firstSticking 3 = .ok (.aload_n 0, 1) := by decide +kernel
theorem dX11_firstSticking_4 : decode cX11_firstSticking 4 = .ok (.getfield 231, 3) := by decide +kernel
theorem dX11_firstSticking_7 : decode cX11_firstSticking 7 = .ok (.if_icmp .ge 26, 3) := by decide +kernel
theorem dX11_firstSticking_10 : decode cX11_firstSticking 10 = .ok (.aload_n 0, 1) := by decide +kernel
theorem dX11_firstSticking_11 : decode cX11_firstSticking 11 = .ok (.aload_n 0, 1) := by decide +kernel
theorem dX11_firstSticking_12 : decode cX11_firstSticking 12 = .ok (.getfield 40, 3) := by decide +kernel
theorem dX11_firstSticking_15 : decode cX11_firstSticking 15 = .ok (.bipush 52, 2) := by decide +kernel
theorem dX11_firstSticking_17 : decode cX11_firstSticking 17 = .ok (.iload_n 1, 1) := by decide +kernel
theorem dX11_firstSticking_18 : decode cX11_firstSticking 18 = .ok (.imul, 1) := by decide +kernel
theorem dX11_firstSticking_19 : decode cX11_firstSticking 19 = .ok (.invokevirtual 221, 3) := by decide +kernel
theorem dX11_firstSticking_22 : decode cX11_firstSticking 22 = .ok (.ifCond .eq 5, 3) := by decide +kernel
theorem dX11_firstSticking_25 : decode cX11_firstSticking 25 = .ok (.iload_n 1, 1) := by decide +kernel
theorem dX11_firstSticking_26 : decode cX11_firstSticking 26 = .ok (.ireturn, 1) := by decide +kernel
theorem dX11_firstSticking_27 : decode cX11_firstSticking 27 = .ok (.iinc 1 1, 3) := by decide +kernel
theorem dX11_firstSticking_30 : decode cX11_firstSticking 30 = .ok (.goto (-28), 3) := by decide +kernel
theorem dX11_firstSticking_33 : decode cX11_firstSticking 33 = .ok (.iconst (-1), 1) := by decide +kernel
theorem dX11_firstSticking_34 : decode cX11_firstSticking 34 = .ok (.ireturn, 1) := by decide +kernel
theorem dX11_follow_0 : decode cX11_follow 0 = .ok (.iload_n 1, 1) := by decide +kernel
theorem dX11_follow_1 : decode cX11_follow 1 = .ok (.invokestatic 203, 3) := by decide +kernel
theorem dX11_follow_4 : decode cX11_follow 4 = .ok (.ifCond .ne 5, 3) := by decide +kernel
theorem dX11_follow_7 : decode cX11_follow 7 = .ok (.iconst (-1), 1) := by decide +kernel
theorem dX11_follow_8 : decode cX11_follow 8 = .ok (.ireturn, 1) := by decide +kernel
theorem dX11_follow_9 : decode cX11_follow 9 = .ok (.aload_n 0, 1) := by decide +kernel
theorem dX11_follow_10 : decode cX11_follow 10 = .ok (.getfield 58, 3) := by decide +kernel
theorem dX11_follow_13 : decode cX11_follow 13 = .ok (.iload_n 1, 1) := by decide +kernel
theorem dX11_follow_14 : decode cX11_follow 14 = .ok (.iaload, 1) := by decide +kernel
theorem dX11_follow_15 : decode cX11_follow 15 = .ok (.ifCond .ge 6, 3) := by decide +kernel
theorem dX11_follow_18 : decode cX11_follow 18 = .ok (.bipush (-11), 2) := by decide +kernel
theorem dX11_follow_20 : decode cX11_follow 20 = .ok (.ireturn, 1) := by decide +kernel
theorem dX11_follow_21 : decode cX11_follow 21 = .ok (.iload_n 3, 1) := by decide +kernel
theorem dX11_follow_22 : decode cX11_follow 22 = .ok (.ifCond .lt 19, 3) := by decide +kernel
theorem dX11_follow_25 : decode cX11_follow 25 = .ok (.iload_n 2, 1) := by decide +kernel
theorem dX11_follow_26 : decode cX11_follow 26 = .ok (.ifCond .lt 15, 3) := by decide +kernel
theorem dX11_follow_29 : decode cX11_follow 29 = .ok (.iload_n 2, 1) := by decide +kernel
theorem dX11_follow_30 : decode cX11_follow 30 = .ok (.aload_n 0, 1) := by decide +kernel
theorem dX11_follow_31 : decode cX11_follow 31 = .ok (.getfield 58, 3) := by decide +kernel
theorem dX11_follow_34 : decode cX11_follow 34 = .ok (.iload_n 1, 1) := by decide +kernel
theorem dX11_follow_35 : decode cX11_follow 35 = .ok (.iaload, 1) := by decide +kernel
theorem dX11_follow_36 : decode cX11_follow 36 = .ok (.iload_n 3, 1) := by decide +kernel
theorem dX11_follow_37 : decode cX11_follow 37 = .ok (.isub, 1) := by decide +kernel
theorem dX11_follow_38 : decode cX11_follow 38 = .ok (.if_icmp .le 6, 3) := by decide +kernel
theorem dX11_follow_41 : decode cX11_follow 41 = .ok (.bipush (-13), 2) := by decide +kernel
theorem dX11_follow_43 : decode cX11_follow 43 = .ok (.ireturn, 1) := by decide +kernel
theorem dX11_follow_44 : decode cX11_follow 44 = .ok (.iconst 0, 1) := by decide +kernel
theorem dX11_follow_45 : decode cX11_follow 45 = .ok (.istore 4, 2) := by decide +kernel
theorem dX11_follow_47 : decode cX11_follow 47 = .ok (.iload 4, 2) := by decide +kernel
theorem dX11_follow_49 : decode cX11_follow 49 = .ok (.iload_n 3, 1) := by decide +kernel
theorem dX11_follow_50 : decode cX11_follow 50 = .ok (.if_icmp .ge 48, 3) := by decide +kernel
theorem dX11_follow_53 : decode cX11_follow 53 = .ok (.aload_n 0, 1) := by decide +kernel
theorem dX11_follow_54 : decode cX11_follow 54 = .ok (.aload_n 0, 1) := by decide +kernel
theorem dX11_follow_55 : decode cX11_follow 55 = .ok (.getfield 61, 3) := by decide +kernel
theorem dX11_follow_58 : decode cX11_follow 58 = .ok (.bipush 40, 2) := by decide +kernel
theorem dX11_follow_60 : decode cX11_follow 60 = .ok (.iload_n 1, 1) := by decide +kernel
theorem dX11_follow_61 : decode cX11_follow 61 = .ok (.imul, 1) := by decide +kernel
theorem dX11_follow_62 : decode cX11_follow 62 = .ok (.iload_n 2, 1) := by decide +kernel
theorem dX11_follow_63 : decode cX11_follow 63 = .ok (.iadd, 1) := by decide +kernel
theorem dX11_follow_64 : decode cX11_follow 64 = .ok (.iload 4, 2) := by decide +kernel
theorem dX11_follow_66 : decode cX11_follow 66 = .ok (.iadd, 1) := by decide +kernel
theorem dX11_follow_67 : decode cX11_follow 67 = .ok (.iaload, 1) := by decide +kernel
theorem dX11_follow_68 : decode cX11_follow 68 = .ok (.invokevirtual 191, 3) := by decide +kernel
theorem dX11_follow_71 : decode cX11_follow 71 = .ok (.ifCond .eq 27, 3) := by decide +kernel
theorem dX11_follow_74 : decode cX11_follow 74 = .ok (.aload_n 0, 1) := by decide +kernel
theorem dX11_follow_75 : decode cX11_follow 75 = .ok (.aload_n 0, 1) := by decide +kernel
theorem dX11_follow_76 : decode cX11_follow 76 = .ok (.getfield 61, 3) := by decide +kernel
theorem dX11_follow_79 : decode cX11_follow 79 = .ok (.bipush 40, 2) := by decide +kernel
theorem dX11_follow_81 : decode cX11_follow 81 = .ok (.iload_n 1, 1) := by decide +kernel
theorem dX11_follow_82 : decode cX11_follow 82 = .ok (.imul, 1) := by decide +kernel
theorem dX11_follow_83 : decode cX11_follow 83 = .ok (.iload_n 2, 1) := by decide +kernel
theorem dX11_follow_84 : decode cX11_follow 84 = .ok (.iadd, 1) := by decide +kernel
theorem dX11_follow_85 : decode cX11_follow 85 = .ok (.iload 4, 2) := by decide +kernel
theorem dX11_follow_87 : decode cX11_follow 87 = .ok (.iadd, 1) := by decide +kernel
theorem dX11_follow_88 : decode cX11_follow 88 = .ok (.iaload, 1) := by decide +kernel
theorem dX11_follow_89 : decode cX11_follow 89 = .ok (.invokevirtual 194, 3) := by decide +kernel
theorem dX11_follow_92 : decode cX11_follow 92 = .ok (.iinc 4 1, 3) := by decide +kernel
theorem dX11_follow_95 : decode cX11_follow 95 = .ok (.goto (-48), 3) := by decide +kernel
theorem dX11_follow_98 : decode cX11_follow 98 = .ok (.iload 4, 2) := by decide +kernel
theorem dX11_follow_100 : decode cX11_follow 100 = .ok (.ireturn, 1) := by decide +kernel
theorem dX11_found_0 : decode cX11_found 0 = .ok (.iload_n 1, 1) := by decide +kernel
theorem dX11_found_1 : decode cX11_found 1 = .ok (.i2l, 1) := by decide +kernel
theorem dX11_found_2 : decode cX11_found 2 = .ok (.lconst 0, 1) := by decide +kernel
theorem dX11_found_3 : decode cX11_found 3 = .ok (.ldc2_w 250, 3) := by decide +kernel
theorem dX11_found_6 : decode cX11_found 6 = .ok (.invokestatic 64, 3) := by decide +kernel
theorem dX11_found_9 : decode cX11_found 9 = .ok (.ifCond .ne 5, 3) := by decide +kernel
theorem dX11_found_12 : decode cX11_found 12 = .ok (.iconst (-1), 1) := by decide +kernel
theorem dX11_found_13 : decode cX11_found 13 = .ok (.ireturn, 1) := by decide +kernel
theorem dX11_found_14 : decode cX11_found 14 = .ok (.aload_n 0, 1) := by decide +kernel
theorem dX11_found_15 : decode cX11_found 15 = .ok (.invokevirtual 252, 3) := by decide +kernel
theorem dX11_found_18 : decode cX11_found 18 = .ok (.iload_n 1, 1) := by decide +kernel
theorem dX11_found_19 : decode cX11_found 19 = .ok (.tableswitch 126 0 7 #[45, 50, 63, 63, 78, 83, 83, 116], 45) := by decide +kernel
theorem dX11_found_64 : decode cX11_found 64 = .ok (.aload_n 0, 1) := by decide +kernel
theorem dX11_found_65 : decode cX11_found 65 = .ok (.getfield 231, 3) := by decide +kernel
theorem dX11_found_68 : decode cX11_found 68 = .ok (.ireturn, 1) := by decide +kernel
theorem dX11_found_69 : decode cX11_found 69 = .ok (.aload_n 0, 1) := by decide +kernel
theorem dX11_found_70 : decode cX11_found 70 = .ok (.getfield 234, 3) := by decide +kernel
theorem dX11_found_73 : decode cX11_found 73 = .ok (.ifCond .eq 7, 3) := by decide +kernel
theorem dX11_found_76 : decode cX11_found 76 = .ok (.iconst 1, 1) := by decide +kernel
theorem dX11_found_77 : decode cX11_found 77 = .ok (.goto 4, 3) := by decide +kernel
theorem dX11_found_80 : decode cX11_found 80 = .ok (.iconst 0, 1) := by decide +kernel
theorem dX11_found_81 : decode cX11_found 81 = .ok (.ireturn, 1) := by decide +kernel
theorem dX11_found_82 : decode cX11_found 82 = .ok (.aload_n 0, 1) := by decide +kernel
theorem dX11_found_83 : decode cX11_found 83 = .ok (.iload_n 1, 1) := by decide +kernel
theorem dX11_found_84 : decode cX11_found 84 = .ok (.iconst 2, 1) := by decide +kernel
theorem dX11_found_85 : decode cX11_found 85 = .ok (.if_icmp .ne 7, 3) := by decide +kernel
theorem dX11_found_88 : decode cX11_found 88 = .ok (.iconst 1, 1) := by decide +kernel
theorem dX11_found_89 : decode cX11_found 89 = .ok (.goto 4, 3) := by decide +kernel
theorem dX11_found_92 : decode cX11_found 92 = .ok (.iconst 0, 1) := by decide +kernel
theorem dX11_found_93 : decode cX11_found 93 = .ok (.invokevirtual 255, 3) := by decide +kernel
theorem dX11_found_96 : decode cX11_found 96 = .ok (.ireturn, 1) := by decide +kernel
theorem dX11_found_97 : decode cX11_found 97 = .ok (.aload_n 0, 1) := by decide +kernel
theorem dX11_found_98 : decode cX11_found 98 = .ok (.invokevirtual 259, 3) := by decide +kernel
theorem dX11_found_101 : decode cX11_found 101 = .ok (.ireturn, 1) := by decide +kernel
theorem dX11_found_102 : decode cX11_found 102 = .ok (.iload_n 1, 1) := by decide +kernel
theorem dX11_found_103 : decode cX11_found 103 = .ok (.iconst 5, 1) := by decide +kernel
theorem dX11_found_104 : decode cX11_found 104 = .ok (.if_icmp .ne 10, 3) := by decide +kernel
theorem dX11_found_107 : decode cX11_found 107 = .ok (.aload_n 0, 1) := by decide +kernel
theorem dX11_found_108 : decode cX11_found 108 = .ok (.invokevirtual 262, 3) := by decide +kernel
theorem dX11_found_111 : decode cX11_found 111 = .ok (.goto 7, 3) := by decide +kernel
theorem dX11_found_114 : decode cX11_found 114 = .ok (.aload_n 0, 1) := by decide +kernel
theorem dX11_found_115 : decode cX11_found 115 = .ok (.invokevirtual 265, 3) := by decide +kernel
theorem dX11_found_118 : decode cX11_found 118 = .ok (.istore_n 2, 1) := by decide +kernel
theorem dX11_found_119 : decode cX11_found 119 = .ok (.iload_n 2, 1) := by decide +kernel
theorem dX11_found_120 : decode cX11_found 120 = .ok (.ifCond .ge 8, 3) := by decide +kernel
theorem dX11_found_123 : decode cX11_found 123 = .ok (.bipush (-5), 2) := by decide +kernel
theorem dX11_found_125 : decode cX11_found 125 = .ok (.goto 9, 3) := by decide +kernel
theorem dX11_found_128 : decode cX11_found 128 = .ok (.aload_n 0, 1) := by decide +kernel
theorem dX11_found_129 : decode cX11_found 129 = .ok (.getfield 49, 3) := by decide +kernel
theorem dX11_found_132 : decode cX11_found 132 = .ok (.iload_n 2, 1) := by decide +kernel
theorem dX11_found_133 : decode cX11_found 133 = .ok (.iaload, 1) := by decide +kernel
theorem dX11_found_134 : decode cX11_found 134 = .ok (.ireturn, 1) := by decide +kernel
theorem dX11_found_135 : decode cX11_found 135 = .ok (.iconst (-1), 1) := by decide +kernel
theorem dX11_found_136 : decode cX11_found 136 = .ok (.aload_n 0, 1) := by decide +kernel
theorem dX11_found_137 : decode cX11_found 137 = .ok (.sipush 600, 3) := by decide +kernel
theorem dX11_found_140 : decode cX11_found 140 = .ok (.invokevirtual 268, 3) := by decide +kernel
theorem dX11_found_143 : decode cX11_found 143 = .ok (.isub, 1) := by decide +kernel
theorem dX11_found_144 : decode cX11_found 144 = .ok (.ireturn, 1) := by decide +kernel
theorem dX11_found_145 : decode cX11_found 145 = .ok (.aload_n 0, 1) := by decide +kernel
theorem dX11_found_146 : decode cX11_found 146 = .ok (.invokevirtual 271, 3) := by decide +kernel
theorem dX11_found_149 : decode cX11_found 149 = .ok (.ifCond .eq 7, 3) := by decide +kernel
theorem dX11_found_152 : decode cX11_found 152 = .ok (.iconst 1, 1) := by decide +kernel
theorem dX11_found_153 : decode cX11_found 153 = .ok (.goto 4, 3) := by decide +kernel
theorem dX11_found_156 : decode cX11_found 156 = .ok (.iconst 0, 1) := by decide +kernel
theorem dX11_found_157 : decode cX11_found 157 = .ok (.ireturn, 1) := by decide +kernel
theorem dX11_frees_0 : decode cX11_frees 0 = .ok (.aload_n 0, 1) := by decide +kernel
theorem dX11_frees_1 : decode cX11_frees 1 = .ok (.getfield 16, 3) := by decide +kernel
theorem dX11_frees_4 : decode cX11_frees 4 = .ok (.bipush 12, 2) := by decide +kernel
theorem dX11_frees_6 : decode cX11_frees 6 = .ok (.iload_n 1, 1) := by decide +kernel
theorem dX11_frees_7 : decode cX11_frees 7 = .ok (.iadd, 1) := by decide +kernel
theorem dX11_frees_8 : decode cX11_frees 8 = .ok (.iconst 0, 1) := by decide +kernel
theorem dX11_frees_9 : decode cX11_frees 9 = .ok (.iastore, 1) := by decide +kernel
theorem dX11_frees_10 : decode cX11_frees 10 = .ok (.aload_n 0, 1) := by decide +kernel
theorem dX11_frees_11 : decode cX11_frees 11 = .ok (.getfield 16, 3) := by decide +kernel
theorem dX11_frees_14 : decode cX11_frees 14 = .ok (.bipush 15, 2) := by decide +kernel
theorem dX11_frees_16 : decode cX11_frees 16 = .ok (.iload_n 1, 1) := by decide +kernel
theorem dX11_frees_17 : decode cX11_frees 17 = .ok (.iadd, 1) := by decide +kernel
theorem dX11_frees_18 : decode cX11_frees 18 = .ok (.iconst 0, 1) := by decide +kernel
theorem dX11_frees_19 : decode cX11_frees 19 = .ok (.iastore, 1) := by decide +kernel
theorem dX11_frees_20 : decode cX11_frees 20 = .ok (.aload_n 0, 1) := by decide +kernel
theorem dX11_frees_21 : decode cX11_frees 21 = .ok (.getfield 16, 3) := by decide +kernel
theorem dX11_frees_24 : decode cX11_frees 24 = .ok (.bipush 18, 2) := by decide +kernel
theorem dX11_frees_26 : decode cX11_frees 26 = .ok (.iload_n 1, 1) := by decide +kernel
theorem dX11_frees_27 : decode cX11_frees 27 = .ok (.iadd, 1) := by decide +kernel
theorem dX11_frees_28 : decode cX11_frees 28 = .ok (.iaload, 1) := by decide +kernel
theorem dX11_frees_29 : decode cX11_frees 29 = .ok (.ifCond .le 62, 3) := by decide +kernel
theorem dX11_frees_32 : decode cX11_frees 32 = .ok (.aload_n 0, 1) := by decide +kernel
theorem dX11_frees_33 : decode cX11_frees 33 = .ok (.bipush 18, 2) := by decide +kernel
theorem dX11_frees_35 : decode cX11_frees 35 = .ok (.bipush 21, 2) := by decide +kernel
theorem dX11_frees_37 : decode cX11_frees 37 = .ok (.iload_n 1, 1) := by decide +kernel
theorem dX11_frees_38 : decode cX11_frees 38 = .ok (.invokevirtual 154, 3) := by decide +kernel
theorem dX11_frees_41 : decode cX11_frees 41 = .ok (.istore_n 2, 1) := by decide +kernel
theorem dX11_frees_42 : decode cX11_frees 42 = .ok (.aload_n 0, 1) := by decide +kernel
theorem dX11_frees_43 : decode cX11_frees 43 = .ok (.getfield 16, 3) := by decide +kernel
theorem dX11_frees_46 : decode cX11_frees 46 = .ok (.bipush 12, 2) := by decide +kernel
theorem dX11_frees_48 : decode cX11_frees 48 = .ok (.iload_n 1, 1) := by decide +kernel
theorem dX11_frees_49 : decode cX11_frees 49 = .ok (.iadd, 1) := by decide +kernel
theorem dX11_frees_50 : decode cX11_frees 50 = .ok (.iload_n 2, 1) := by decide +kernel
theorem dX11_frees_51 : decode cX11_frees 51 = .ok (.iconst 1, 1) := by decide +kernel
theorem dX11_frees_52 : decode cX11_frees 52 = .ok (.iadd, 1) := by decide +kernel
theorem dX11_frees_53 : decode cX11_frees 53 = .ok (.iastore, 1) := by decide +kernel
theorem dX11_frees_54 : decode cX11_frees 54 = .ok (.aload_n 0, 1) := by decide +kernel
theorem dX11_frees_55 : decode cX11_frees 55 = .ok (.getfield 16, 3) := by decide +kernel
theorem dX11_frees_58 : decode cX11_frees 58 = .ok (.bipush 15, 2) := by decide +kernel
theorem dX11_frees_60 : decode cX11_frees 60 = .ok (.iload_n 1, 1) := by decide +kernel
theorem dX11_frees_61 : decode cX11_frees 61 = .ok (.iadd, 1) := by decide +kernel
theorem dX11_frees_62 : decode cX11_frees 62 = .ok (.aload_n 0, 1) := by decide +kernel
theorem dX11_frees_63 : decode cX11_frees 63 = .ok (.getfield 16, 3) := by decide +kernel
theorem dX11_frees_66 : decode cX11_frees 66 = .ok (.bipush 8, 2) := by decide +kernel
theorem dX11_frees_68 : decode cX11_frees 68 = .ok (.iload_n 2, 1) := by decide +kernel
theorem dX11_frees_69 : decode cX11_frees 69 = .ok (.iadd, 1) := by decide +kernel
theorem dX11_frees_70 : decode cX11_frees 70 = .ok (.iaload, 1) := by decide +kernel
theorem dX11_frees_71 : decode cX11_frees 71 = .ok (.iastore, 1) := by decide +kernel
theorem dX11_frees_72 : decode cX11_frees 72 = .ok (.aload_n 0, 1) := by decide +kernel
theorem dX11_frees_73 : decode cX11_frees 73 = .ok (.getfield 16, 3) := by decide +kernel
theorem dX11_frees_76 : decode cX11_frees 76 = .ok (.bipush 8, 2) := by decide +kernel
theorem dX11_frees_78 : decode cX11_frees 78 = .ok (.iload_n 2, 1) := by decide +kernel
theorem dX11_frees_79 : decode cX11_frees 79 = .ok (.iadd, 1) := by decide +kernel
theorem dX11_frees_80 : decode cX11_frees 80 = .ok (.iconst 0, 1) := by decide +kernel
theorem dX11_frees_81 : decode cX11_frees 81 = .ok (.iastore, 1) := by decide +kernel
theorem dX11_frees_82 : decode cX11_frees 82 = .ok (.aload_n 0, 1) := by decide +kernel
theorem dX11_frees_83 : decode cX11_frees 83 = .ok (.getfield 16, 3) := by decide +kernel
theorem dX11_frees_86 : decode cX11_frees 86 = .ok (.iconst 4, 1) := by decide +kernel
theorem dX11_frees_87 : decode cX11_frees 87 = .ok (.iload_n 2, 1) := by decide +kernel
theorem dX11_frees_88 : decode cX11_frees 88 = .ok (.iadd, 1) := by decide +kernel
theorem dX11_frees_89 : decode cX11_frees 89 = .ok (.iconst 0, 1) := by decide +kernel
theorem dX11_frees_90 : decode cX11_frees 90 = .ok (.iastore, 1) := by decide +kernel
theorem dX11_frees_91 : decode cX11_frees 91 = .ok (.return_, 1) := by decide +kernel
theorem dX11_gate_0 : decode cX11_gate 0 = .ok (.iload_n 1, 1) := by decide +kernel
theorem dX11_gate_1 : decode cX11_gate 1 = .ok (.invokestatic 72, 3) := by decide +kernel
theorem dX11_gate_4 : decode cX11_gate 4 = .ok (.ifCond .ne 5, 3) := by decide +kernel
theorem dX11_gate_7 : decode cX11_gate 7 = .ok (.iconst (-1), 1) := by decide +kernel
theorem dX11_gate_8 : decode cX11_gate 8 = .ok (.ireturn, 1) := by decide +kernel
theorem dX11_gate_9 : decode cX11_gate 9 = .ok (.iload_n 2, 1) := by decide +kernel
theorem dX11_gate_10 : decode cX11_gate 10 = .ok (.tableswitch 103 0 4 #[34, 63, 73, 83, 93], 34) := by decide +kernel
theorem dX11_gate_44 : decode cX11_gate 44 = .ok (.aload_n 0, 1) := by decide +kernel
theorem dX11_gate_45 : decode cX11_gate 45 = .ok (.getfield 9, 3) := by decide +kernel
theorem dX11_gate_48 : decode cX11_gate 48 = .ok (.bipush 12, 2) := by decide +kernel
theorem dX11_gate_50 : decode cX11_gate 50 = .ok (.iload_n 1, 1) := by decide +kernel
theorem dX11_gate_51 : decode cX11_gate 51 = .ok (.iadd, 1) := by decide +kernel
theorem dX11_gate_52 : decode cX11_gate 52 = .ok (.iaload, 1) := by decide +kernel
theorem dX11_gate_53 : decode cX11_gate 53 = .ok (.ifCond .ne 8, 3) := by decide +kernel
theorem dX11_gate_56 : decode cX11_gate 56 = .ok (.bipush (-5), 2) := by decide +kernel
theorem dX11_gate_58 : decode cX11_gate 58 = .ok (.goto 14, 3) := by decide +kernel
theorem dX11_gate_61 : decode cX11_gate 61 = .ok (.aload_n 0, 1) := by decide +kernel
theorem dX11_gate_62 : decode cX11_gate 62 = .ok (.getfield 9, 3) := by decide +kernel
theorem dX11_gate_65 : decode cX11_gate 65 = .ok (.bipush 12, 2) := by decide +kernel
theorem dX11_gate_67 : decode cX11_gate 67 = .ok (.iload_n 1, 1) := by decide +kernel
theorem dX11_gate_68 : decode cX11_gate 68 = .ok (.iadd, 1) := by decide +kernel
theorem dX11_gate_69 : decode cX11_gate 69 = .ok (.iaload, 1) := by decide +kernel
theorem dX11_gate_70 : decode cX11_gate 70 = .ok (.iconst 1, 1) := by decide +kernel
theorem dX11_gate_71 : decode cX11_gate 71 = .ok (.isub, 1) := by decide +kernel
theorem dX11_gate_72 : decode cX11_gate 72 = .ok (.ireturn, 1) := by decide +kernel
theorem dX11_gate_73 : decode cX11_gate 73 = .ok (.aload_n 0, 1) := by decide +kernel
theorem dX11_gate_74 : decode cX11_gate 74 = .ok (.getfield 9, 3) := by decide +kernel
theorem dX11_gate_77 : decode cX11_gate 77 = .ok (.bipush 15, 2) := by decide +kernel
theorem dX11_gate_79 : decode cX11_gate 79 = .ok (.iload_n 1, 1) := by decide +kernel
theorem dX11_gate_80 : decode cX11_gate 80 = .ok (.iadd, 1) := by decide +kernel
theorem dX11_gate_81 : decode cX11_gate 81 = .ok (.iaload, 1) := by decide +kernel
theorem dX11_gate_82 : decode cX11_gate 82 = .ok (.ireturn, 1) := by decide +kernel
theorem dX11_gate_83 : decode cX11_gate 83 = .ok (.aload_n 0, 1) := by decide +kernel
theorem dX11_gate_84 : decode cX11_gate 84 = .ok (.getfield 9, 3) := by decide +kernel
theorem dX11_gate_87 : decode cX11_gate 87 = .ok (.bipush 18, 2) := by decide +kernel
theorem dX11_gate_89 : decode cX11_gate 89 = .ok (.iload_n 1, 1) := by decide +kernel
theorem dX11_gate_90 : decode cX11_gate 90 = .ok (.iadd, 1) := by decide +kernel
theorem dX11_gate_91 : decode cX11_gate 91 = .ok (.iaload, 1) := by decide +kernel
theorem dX11_gate_92 : decode cX11_gate 92 = .ok (.ireturn, 1) := by decide +kernel
theorem dX11_gate_93 : decode cX11_gate 93 = .ok (.aload_n 0, 1) := by decide +kernel
theorem dX11_gate_94 : decode cX11_gate 94 = .ok (.getfield 9, 3) := by decide +kernel
theorem dX11_gate_97 : decode cX11_gate 97 = .ok (.bipush 33, 2) := by decide +kernel
theorem dX11_gate_99 : decode cX11_gate 99 = .ok (.iload_n 1, 1) := by decide +kernel
theorem dX11_gate_100 : decode cX11_gate 100 = .ok (.iadd, 1) := by decide +kernel
theorem dX11_gate_101 : decode cX11_gate 101 = .ok (.iaload, 1) := by decide +kernel
theorem dX11_gate_102 : decode cX11_gate 102 = .ok (.ireturn, 1) := by decide +kernel
theorem dX11_gate_103 : decode cX11_gate 103 = .ok (.aload_n 0, 1) := by decide +kernel
theorem dX11_gate_104 : decode cX11_gate 104 = .ok (.getfield 9, 3) := by decide +kernel
theorem dX11_gate_107 : decode cX11_gate 107 = .ok (.bipush 53, 2) := by decide +kernel
theorem dX11_gate_109 : decode cX11_gate 109 = .ok (.iload_n 1, 1) := by decide +kernel
theorem dX11_gate_110 : decode cX11_gate 110 = .ok (.iadd, 1) := by decide +kernel
theorem dX11_gate_111 : decode cX11_gate 111 = .ok (.iaload, 1) := by decide +kernel
theorem dX11_gate_112 : decode cX11_gate 112 = .ok (.ireturn, 1) := by decide +kernel
theorem dX11_gate_113 : decode cX11_gate 113 = .ok (.iconst (-1), 1) := by decide +kernel
theorem dX11_gate_114 : decode cX11_gate 114 = .ok (.ireturn, 1) := by decide +kernel
theorem dX11_get_0 : decode cX11_get 0 = .ok (.iload_n 1, 1) := by decide +kernel
theorem dX11_get_1 : decode cX11_get 1 = .ok (.invokestatic 203, 3) := by decide +kernel
theorem dX11_get_4 : decode cX11_get 4 = .ok (.ifCond .eq 35, 3) := by decide +kernel
theorem dX11_get_7 : decode cX11_get 7 = .ok (.iload_n 2, 1) := by decide +kernel
theorem dX11_get_8 : decode cX11_get 8 = .ok (.i2l, 1) := by decide +kernel
theorem dX11_get_9 : decode cX11_get 9 = .ok (.lconst 0, 1) := by decide +kernel
theorem dX11_get_10 : decode cX11_get 10 = .ok (.aload_n 0, 1) := by decide +kernel
theorem dX11_get_11 : decode cX11_get 11 = .ok (.getfield 58, 3) := by decide +kernel
theorem dX11_get_14 : decode cX11_get 14 = .ok (.iload_n 1, 1) := by decide +kernel
theorem dX11_get_15 : decode cX11_get 15 = .ok (.iaload, 1) := by decide +kernel
theorem dX11_get_16 : decode cX11_get 16 = .ok (.iconst 1, 1) := by decide +kernel
theorem dX11_get_17 : decode cX11_get 17 = .ok (.isub, 1) := by decide +kernel
theorem dX11_get_18 : decode cX11_get 18 = .ok (.i2l, 1) := by decide +kernel
theorem dX11_get_19 : decode cX11_get 19 = .ok (.invokestatic 64, 3) := by decide +kernel
theorem dX11_get_22 : decode cX11_get 22 = .ok (.ifCond .eq 17, 3) := by decide +kernel
theorem dX11_get_25 : decode cX11_get 25 = .ok (.aload_n 0, 1) := by decide +kernel
theorem dX11_get_26 : decode cX11_get 26 = .ok (.getfield 61, 3) := by decide +kernel
theorem dX11_get_29 : decode cX11_get 29 = .ok (.bipush 40, 2) := by decide +kernel
theorem dX11_get_31 : decode cX11_get 31 = .ok (.iload_n 1, 1) := by decide +kernel
theorem dX11_get_32 : decode cX11_get 32 = .ok (.imul, 1) := by decide +kernel
theorem dX11_get_33 : decode cX11_get 33 = .ok (.iload_n 2, 1) := by decide +kernel
theorem dX11_get_34 : decode cX11_get 34 = .ok (.iadd, 1) := by decide +kernel
theorem dX11_get_35 : decode cX11_get 35 = .ok (.iaload, 1) := by decide +kernel
theorem dX11_get_36 : decode cX11_get 36 = .ok (.goto 6, 3) := by decide +kernel
theorem dX11_get_39 : decode cX11_get 39 = .ok (.ldc_w 288, 3) := by decide +kernel
theorem dX11_get_42 : decode cX11_get 42 = .ok (.ireturn, 1) := by decide +kernel
theorem dX11_goal_0 : decode cX11_goal 0 = .ok (.aload_n 0, 1) := by decide +kernel
theorem dX11_goal_1 : decode cX11_goal 1 = .ok (.invokevirtual 252, 3) := by decide +kernel
theorem dX11_goal_4 : decode cX11_goal 4 = .ok (.iload_n 1, 1) := by decide +kernel
theorem dX11_goal_5 : decode cX11_goal 5 = .ok (.ifCond .ne 10, 3) := by decide +kernel
theorem dX11_goal_8 : decode cX11_goal 8 = .ok (.aload_n 0, 1) := by decide +kernel
theorem dX11_goal_9 : decode cX11_goal 9 = .ok (.invokevirtual 262, 3) := by decide +kernel
theorem dX11_goal_12 : decode cX11_goal 12 = .ok (.goto 7, 3) := by decide +kernel
theorem dX11_goal_15 : decode cX11_goal 15 = .ok (.aload_n 0, 1) := by decide +kernel
theorem dX11_goal_16 : decode cX11_goal 16 = .ok (.invokevirtual 265, 3) := by decide +kernel
theorem dX11_goal_19 : decode cX11_goal 19 = .ok (.ireturn, 1) := by decide +kernel
theorem dX11_has_0 : decode cX11_has 0 = .ok (.iload_n 0, 1) := by decide +kernel
theorem dX11_has_1 : decode cX11_has 1 = .ok (.iload_n 1, 1) := by decide +kernel
theorem dX11_has_2 : decode cX11_has 2 = .ok (.ishr, 1) := by decide +kernel
theorem dX11_has_3 : decode cX11_has 3 = .ok (.iconst 1, 1) := by decide +kernel
theorem dX11_has_4 : decode cX11_has 4 = .ok (.iand, 1) := by decide +kernel
theorem dX11_has_5 : decode cX11_has 5 = .ok (.iconst 1, 1) := by decide +kernel
theorem dX11_has_6 : decode cX11_has 6 = .ok (.if_icmp .ne 7, 3) := by decide +kernel
theorem dX11_has_9 : decode cX11_has 9 = .ok (.iconst 1, 1) := by decide +kernel
theorem dX11_has_10 : decode cX11_has 10 = .ok (.goto 4, 3) := by decide +kernel
theorem dX11_has_13 : decode cX11_has 13 = .ok (.iconst 0, 1) := by decide +kernel
theorem dX11_has_14 : decode cX11_has 14 = .ok (.ireturn, 1) := by decide +kernel
theorem dX11_here_0 : decode cX11_here 0 = .ok (.aload_n 0, 1) := by decide +kernel
theorem dX11_here_1 : decode cX11_here 1 = .ok (.getfield 89, 3) := by decide +kernel
theorem dX11_here_4 : decode cX11_here 4 = .ok (.aload_n 0, 1) := by decide +kernel
theorem dX11_here_5 : decode cX11_here 5 = .ok (.getfield 85, 3) := by decide +kernel
theorem dX11_here_8 : decode cX11_here 8 = .ok (.if_icmp .ge 15, 3) := by decide +kernel
theorem dX11_here_11 : decode cX11_here 11 = .ok (.aload_n 0, 1) := by decide +kernel
theorem dX11_here_12 : decode cX11_here 12 = .ok (.getfield 25, 3) := by decide +kernel
theorem dX11_here_15 : decode cX11_here 15 = .ok (.aload_n 0, 1) := by decide +kernel
theorem dX11_here_16 : decode cX11_here 16 = .ok (.getfield 89, 3) := by decide +kernel
theorem dX11_here_19 : decode cX11_here 19 = .ok (.iaload, 1) := by decide +kernel
theorem dX11_here_20 : decode cX11_here 20 = .ok (.goto 4, 3) := by decide +kernel
theorem dX11_here_23 : decode cX11_here 23 = .ok (.iconst (-1), 1) := by decide +kernel
theorem dX11_here_24 : decode cX11_here 24 = .ok (.ireturn, 1) := by decide +kernel
theorem dX11_holds_0 : decode cX11_holds 0 = .ok (.aload_n 0, 1) := by decide +kernel
theorem dX11_holds_1 : decode cX11_holds 1 = .ok (.aload_n 0, 1) := by decide +kernel
theorem dX11_holds_2 : decode cX11_holds 2 = .ok (.getfield 9, 3) := by decide +kernel
theorem dX11_holds_5 : decode cX11_holds 5 = .ok (.iconst 0, 1) := by decide +kernel
theorem dX11_holds_6 : decode cX11_holds 6 = .ok (.invokevirtual 241, 3) := by decide +kernel
theorem dX11_holds_9 : decode cX11_holds 9 = .ok (.ifCond .eq 7, 3) := by decide +kernel
theorem dX11_holds_12 : decode cX11_holds 12 = .ok (.iconst 1, 1) := by decide +kernel
theorem dX11_holds_13 : decode cX11_holds 13 = .ok (.goto 4, 3) := by decide +kernel
theorem dX11_holds_16 : decode cX11_holds 16 = .ok (.iconst 0, 1) := by decide +kernel
theorem dX11_holds_17 : decode cX11_holds 17 = .ok (.ireturn, 1) := by decide +kernel
theorem dX11_image_0 : decode cX11_image 0 = .ok (.aload_n 0, 1) := by decide +kernel
theorem dX11_image_1 : decode cX11_image 1 = .ok (.getfield 9, 3) := by decide +kernel
theorem dX11_image_4 : decode cX11_image 4 = .ok (.iconst 0, 1) := by decide +kernel
theorem dX11_image_5 : decode cX11_image 5 = .ok (.aload_n 0, 1) := by decide +kernel
theorem dX11_image_6 : decode cX11_image 6 = .ok (.getfield 13, 3) := by decide +kernel
theorem dX11_image_9 : decode cX11_image 9 = .ok (.iconst 0, 1) := by decide +kernel
theorem dX11_image_10 : decode cX11_image 10 = .ok (.sipush 253, 3) := by decide +kernel
theorem dX11_image_13 : decode cX11_image 13 = .ok (.invokestatic 146, 3) := by decide +kernel
theorem dX11_image_16 : decode cX11_image 16 = .ok (.aload_n 0, 1) := by decide +kernel
theorem dX11_image_17 : decode cX11_image 17 = .ok (.iconst 1, 1) := by decide +kernel
theorem dX11_image_18 : decode cX11_image 18 = .ok (.putfield 289, 3) := by decide +kernel
theorem dX11_image_21 : decode cX11_image 21 = .ok (.aload_n 0, 1) := by decide +kernel
theorem dX11_image_22 : decode cX11_image 22 = .ok (.getfield 9, 3) := by decide +kernel
theorem dX11_image_25 : decode cX11_image 25 = .ok (.bipush 52, 2) := by decide +kernel
theorem dX11_image_27 : decode cX11_image 27 = .ok (.iaload, 1) := by decide +kernel
theorem dX11_image_28 : decode cX11_image 28 = .ok (.ireturn, 1) := by decide +kernel
theorem dX11_in_0 : decode cX11_in 0 = .ok (.lload_n 0, 1) := by decide +kernel
theorem dX11_in_1 : decode cX11_in 1 = .ok (.lload_n 2, 1) := by decide +kernel
theorem dX11_in_2 : decode cX11_in 2 = .ok (.lcmp, 1) := by decide +kernel
theorem dX11_in_3 : decode cX11_in 3 = .ok (.ifCond .lt 14, 3) := by decide +kernel
theorem dX11_in_6 : decode cX11_in 6 = .ok (.lload_n 0, 1) := by decide +kernel
theorem dX11_in_7 : decode cX11_in 7 = .ok (.lload 4, 2) := by decide +kernel
theorem dX11_in_9 : decode cX11_in 9 = .ok (.lcmp, 1) := by decide +kernel
theorem dX11_in_10 : decode cX11_in 10 = .ok (.ifCond .gt 7, 3) := by decide +kernel
theorem dX11_in_13 : decode cX11_in 13 = .ok (.iconst 1, 1) := by decide +kernel
theorem dX11_in_14 : decode cX11_in 14 = .ok (.goto 4, 3) := by decide +kernel
theorem dX11_in_17 : decode cX11_in 17 = .ok (.iconst 0, 1) := by decide +kernel
theorem dX11_in_18 : decode cX11_in 18 = .ok (.ireturn, 1) := by decide +kernel
theorem dX11_init_0 : decode cX11_init 0 = .ok (.aload_n 0, 1) := by decide +kernel
theorem dX11_init_1 : decode cX11_init 1 = .ok (.invokespecial 1, 3) := by decide +kernel
theorem dX11_init_4 : decode cX11_init 4 = .ok (.aload_n 0, 1) := by decide +kernel
theorem dX11_init_5 : decode cX11_init 5 = .ok (.sipush 253, 3) := by decide +kernel
theorem dX11_init_8 : decode cX11_init 8 = .ok (.newarray .int, 2) := by decide +kernel
theorem dX11_init_10 : decode cX11_init 10 = .ok (.putfield 9, 3) := by decide +kernel
theorem dX11_init_13 : decode cX11_init 13 = .ok (.aload_n 0, 1) := by decide +kernel
theorem dX11_init_14 : decode cX11_init 14 = .ok (.sipush 253, 3) := by decide +kernel
theorem dX11_init_17 : decode cX11_init 17 = .ok (.newarray .int, 2) := by decide +kernel
theorem dX11_init_19 : decode cX11_init 19 = .ok (.putfield 13, 3) := by decide +kernel
theorem dX11_init_22 : decode cX11_init 22 = .ok (.aload_n 0, 1) := by decide +kernel
theorem dX11_init_23 : decode cX11_init 23 = .ok (.bipush 52, 2) := by decide +kernel
theorem dX11_init_25 : decode cX11_init 25 = .ok (.newarray .int, 2) := by decide +kernel
theorem dX11_init_27 : decode cX11_init 27 = .ok (.putfield 16, 3) := by decide +kernel
theorem dX11_init_30 : decode cX11_init 30 = .ok (.aload_n 0, 1) := by decide +kernel
theorem dX11_init_31 : decode cX11_init 31 = .ok (.iconst 4, 1) := by decide +kernel
theorem dX11_init_32 : decode cX11_init 32 = .ok (.newarray .int, 2) := by decide +kernel
theorem dX11_init_34 : decode cX11_init 34 = .ok (.putfield 19, 3) := by decide +kernel
theorem dX11_init_37 : decode cX11_init 37 = .ok (.aload_n 0, 1) := by decide +kernel
theorem dX11_init_38 : decode cX11_init 38 = .ok (.iconst 4, 1) := by decide +kernel
theorem dX11_init_39 : decode cX11_init 39 = .ok (.newarray .int, 2) := by decide +kernel
theorem dX11_init_41 : decode cX11_init 41 = .ok (.putfield 22, 3) := by decide +kernel
theorem dX11_init_44 : decode cX11_init 44 = .ok (.aload_n 0, 1) := by decide +kernel
theorem dX11_init_45 : decode cX11_init 45 = .ok (.bipush 120, 2) := by decide +kernel

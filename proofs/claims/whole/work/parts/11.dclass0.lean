theorem dX0_allSo_0 : decode cX0_allSo 0 = .ok (.iconst 0, 1) := by decide +kernel
theorem dX0_allSo_1 : decode cX0_allSo 1 = .ok (.istore_n 2, 1) := by decide +kernel
theorem dX0_allSo_2 : decode cX0_allSo 2 = .ok (.iload_n 2, 1) := by decide +kernel
theorem dX0_allSo_3 : decode cX0_allSo 3 = .ok (.aload_n 0, 1) := by decide +kernel
theorem dX0_allSo_4 : decode cX0_allSo 4 = .ok (.getfield 9, 3) := by decide +kernel
theorem dX0_allSo_7 : decode cX0_allSo 7 = .ok (.if_icmp .ge 49, 3) := by decide +kernel
theorem dX0_allSo_10 : decode cX0_allSo 10 = .ok (.aload_n 0, 1) := by decide +kernel
theorem dX0_allSo_11 : decode cX0_allSo 11 = .ok (.getfield 15, 3) := by decide +kernel
theorem dX0_allSo_14 : decode cX0_allSo 14 = .ok (.iload_n 2, 1) := by decide +kernel
theorem dX0_allSo_15 : decode cX0_allSo 15 = .ok (.iaload, 1) := by decide +kernel
theorem dX0_allSo_16 : decode cX0_allSo 16 = .ok (.invokestatic 25, 3) := by decide +kernel
theorem dX0_allSo_19 : decode cX0_allSo 19 = .ok (.ifCond .eq 31, 3) := by decide +kernel
theorem dX0_allSo_22 : decode cX0_allSo 22 = .ok (.aload_n 0, 1) := by decide +kernel
theorem dX0_allSo_23 : decode cX0_allSo 23 = .ok (.getfield 19, 3) := by decide +kernel
theorem dX0_allSo_26 : decode cX0_allSo 26 = .ok (.iload_n 2, 1) := by decide +kernel
theorem dX0_allSo_27 : decode cX0_allSo 27 = .ok (.iaload, 1) := by decide +kernel
theorem dX0_allSo_28 : decode cX0_allSo 28 = .ok (.aload_n 1, 1) := by decide +kernel
theorem dX0_allSo_29 : decode cX0_allSo 29 = .ok (.aload_n 0, 1) := by decide +kernel
theorem dX0_allSo_30 : decode cX0_allSo 30 = .ok (.getfield 15, 3) := by decide +kernel
theorem dX0_allSo_33 : decode cX0_allSo 33 = .ok (.iload_n 2, 1) := by decide +kernel
theorem dX0_allSo_34 : decode cX0_allSo 34 = .ok (.iaload, 1) := by decide +kernel
theorem dX0_allSo_35 : decode cX0_allSo 35 = .ok (.iaload, 1) := by decide +kernel
theorem dX0_allSo_36 : decode cX0_allSo 36 = .ok (.aload_n 0, 1) := by decide +kernel
theorem dX0_allSo_37 : decode cX0_allSo 37 = .ok (.getfield 22, 3) := by decide +kernel
theorem dX0_allSo_40 : decode cX0_allSo 40 = .ok (.iload_n 2, 1) := by decide +kernel
theorem dX0_allSo_41 : decode cX0_allSo 41 = .ok (.iaload, 1) := by decide +kernel
theorem dX0_allSo_42 : decode cX0_allSo 42 = .ok (.invokestatic 29, 3) := by decide +kernel
theorem dX0_allSo_45 : decode cX0_allSo 45 = .ok (.ifCond .ne 5, 3) := by decide +kernel
theorem dX0_allSo_48 : decode cX0_allSo 48 = .ok (.iconst 0, 1) := by decide +kernel
theorem dX0_allSo_49 : decode cX0_allSo 49 = .ok (.ireturn, 1) := by decide +kernel
theorem dX0_allSo_50 : decode cX0_allSo 50 = .ok (.iinc 2 1, 3) := by decide +kernel
theorem dX0_allSo_53 : decode cX0_allSo 53 = .ok (.goto (-51), 3) := by decide +kernel
theorem dX0_allSo_56 : decode cX0_allSo 56 = .ok (.iconst 1, 1) := by decide +kernel
theorem dX0_allSo_57 : decode cX0_allSo 57 = .ok (.ireturn, 1) := by decide +kernel
theorem dX0_append_0 : decode cX0_append 0 = .ok (.aload_n 0, 1) := by decide +kernel
theorem dX0_append_1 : decode cX0_append 1 = .ok (.getfield 9, 3) := by decide +kernel
theorem dX0_append_4 : decode cX0_append 4 = .ok (.iconst 4, 1) := by decide +kernel
theorem dX0_append_5 : decode cX0_append 5 = .ok (.if_icmp .ge 43, 3) := by decide +kernel
theorem dX0_append_8 : decode cX0_append 8 = .ok (.aload_n 0, 1) := by decide +kernel
theorem dX0_append_9 : decode cX0_append 9 = .ok (.getfield 15, 3) := by decide +kernel
theorem dX0_append_12 : decode cX0_append 12 = .ok (.aload_n 0, 1) := by decide +kernel
theorem dX0_append_13 : decode cX0_append 13 = .ok (.getfield 9, 3) := by decide +kernel
theorem dX0_append_16 : decode cX0_append 16 = .ok (.iload_n 1, 1) := by decide +kernel
theorem dX0_append_17 : decode cX0_append 17 = .ok (.iastore, 1) := by decide +kernel
theorem dX0_append_18 : decode cX0_append 18 = .ok (.aload_n 0, 1) := by decide +kernel
theorem dX0_append_19 : decode cX0_append 19 = .ok (.getfield 19, 3) := by decide +kernel
theorem dX0_append_22 : decode cX0_append 22 = .ok (.aload_n 0, 1) := by decide +kernel
theorem dX0_append_23 : decode cX0_append 23 = .ok (.getfield 9, 3) := by decide +kernel
theorem dX0_append_26 : decode cX0_append 26 = .ok (.iload_n 2, 1) := by decide +kernel
theorem dX0_append_27 : decode cX0_append 27 = .ok (.iastore, 1) := by decide +kernel
theorem dX0_append_28 : decode cX0_append 28 = .ok (.aload_n 0, 1) := by decide +kernel
theorem dX0_append_29 : decode cX0_append 29 = .ok (.getfield 22, 3) := by decide +kernel
theorem dX0_append_32 : decode cX0_append 32 = .ok (.aload_n 0, 1) := by decide +kernel
theorem dX0_append_33 : decode cX0_append 33 = .ok (.getfield 9, 3) := by decide +kernel
theorem dX0_append_36 : decode cX0_append 36 = .ok (.iload_n 3, 1) := by decide +kernel
theorem dX0_append_37 : decode cX0_append 37 = .ok (.iastore, 1) := by decide +kernel
theorem dX0_append_38 : decode cX0_append 38 = .ok (.aload_n 0, 1) := by decide +kernel
theorem dX0_append_39 : decode cX0_append 39 = .ok (.dup, 1) := by decide +kernel
theorem dX0_append_40 : decode cX0_append 40 = .ok (.getfield 9, 3) := by decide +kernel
theorem dX0_append_43 : decode cX0_append 43 = .ok (.iconst 1, 1) := by decide +kernel
theorem dX0_append_44 : decode cX0_append 44 = .ok (.iadd, 1) := by decide +kernel
theorem dX0_append_45 : decode cX0_append 45 = .ok (.putfield 9, 3) := by decide +kernel
theorem dX0_append_48 : decode cX0_append 48 = .ok (.return_, 1) := by decide +kernel
theorem dX0_init_0 : decode cX0_init 0 = .ok (.aload_n 0, 1) := by decide +kernel
theorem dX0_init_1 : decode cX0_init 1 = .ok (.invokespecial 3, 3) := by decide +kernel
theorem dX0_init_4 : decode cX0_init 4 = .ok (.aload_n 0, 1) := by decide +kernel
theorem dX0_init_5 : decode cX0_init 5 = .ok (.iconst 0, 1) := by decide +kernel
theorem dX0_init_6 : decode cX0_init 6 = .ok (.putfield 9, 3) := by decide +kernel
theorem dX0_init_9 : decode cX0_init 9 = .ok (.aload_n 0, 1) := by decide +kernel
theorem dX0_init_10 : decode cX0_init 10 = .ok (.iconst 4, 1) := by decide +kernel
theorem dX0_init_11 : decode cX0_init 11 = .ok (.newarray .int, 2) := by decide +kernel
theorem dX0_init_13 : decode cX0_init 13 = .ok (.putfield 15, 3) := by decide +kernel
theorem dX0_init_16 : decode cX0_init 16 = .ok (.aload_n 0, 1) := by decide +kernel
theorem dX0_init_17 : decode cX0_init 17 = .ok (.iconst 4, 1) := by decide +kernel
theorem dX0_init_18 : decode cX0_init 18 = .ok (.newarray .int, 2) := by decide +kernel
theorem dX0_init_20 : decode cX0_init 20 = .ok (.putfield 19, 3) := by decide +kernel
theorem dX0_init_23 : decode cX0_init 23 = .ok (.aload_n 0, 1) := by decide +kernel
theorem dX0_init_24 : decode cX0_init 24 = .ok (.iconst 4, 1) := by decide +kernel
theorem dX0_init_25 : decode cX0_init 25 = .ok (.newarray .int, 2) := by decide +kernel
theorem dX0_init_27 : decode cX0_init 27 = .ok (.putfield 22, 3) := by decide +kernel
theorem dX0_init_30 : decode cX0_init 30 = .ok (.return_, 1) := by decide +kernel
theorem dX0_isSo_0 : decode cX0_isSo 0 = .ok (.iload_n 0, 1) := by decide +kernel
theorem dX0_isSo_1 : decode cX0_isSo 1 = .ok (.tableswitch 60 0 2 #[27, 38, 49], 27) := by decide +kernel
theorem dX0_isSo_28 : decode cX0_isSo 28 = .ok (.iload_n 1, 1) := by decide +kernel
theorem dX0_isSo_29 : decode cX0_isSo 29 = .ok (.iload_n 2, 1) := by decide +kernel
theorem dX0_isSo_30 : decode cX0_isSo 30 = .ok (.if_icmp .ge 7, 3) := by decide +kernel
theorem dX0_isSo_33 : decode cX0_isSo 33 = .ok (.iconst 1, 1) := by decide +kernel
theorem dX0_isSo_34 : decode cX0_isSo 34 = .ok (.goto 4, 3) := by decide +kernel
theorem dX0_isSo_37 : decode cX0_isSo 37 = .ok (.iconst 0, 1) := by decide +kernel
theorem dX0_isSo_38 : decode cX0_isSo 38 = .ok (.ireturn, 1) := by decide +kernel
theorem dX0_isSo_39 : decode cX0_isSo 39 = .ok (.iload_n 1, 1) := by decide +kernel
theorem dX0_isSo_40 : decode cX0_isSo 40 = .ok (.iload_n 2, 1) := by decide +kernel
theorem dX0_isSo_41 : decode cX0_isSo 41 = .ok (.if_icmp .ne 7, 3) := by decide +kernel
theorem dX0_isSo_44 : decode cX0_isSo 44 = .ok (.iconst 1, 1) := by decide +kernel
theorem dX0_isSo_45 : decode cX0_isSo 45 = .ok (.goto 4, 3) := by decide +kernel
theorem dX0_isSo_48 : decode cX0_isSo 48 = .ok (.iconst 0, 1) := by decide +kernel
theorem dX0_isSo_49 : decode cX0_isSo 49 = .ok (.ireturn, 1) := by decide +kernel
theorem dX0_isSo_50 : decode cX0_isSo 50 = .ok (.iload_n 1, 1) := by decide +kernel
theorem dX0_isSo_51 : decode cX0_isSo 51 = .ok (.iload_n 2, 1) := by decide +kernel
theorem dX0_isSo_52 : decode cX0_isSo 52 = .ok (.if_icmp .le 7, 3) := by decide +kernel
theorem dX0_isSo_55 : decode cX0_isSo 55 = .ok (.iconst 1, 1) := by decide +kernel
theorem dX0_isSo_56 : decode cX0_isSo 56 = .ok (.goto 4, 3) := by decide +kernel
theorem dX0_isSo_59 : decode cX0_isSo 59 = .ok (.iconst 0, 1) := by decide +kernel
theorem dX0_isSo_60 : decode cX0_isSo 60 = .ok (.ireturn, 1) := by decide +kernel
theorem dX0_isSo_61 : decode cX0_isSo 61 = .ok (.iload_n 1, 1) := by decide +kernel
theorem dX0_isSo_62 : decode cX0_isSo 62 = .ok (.iload_n 2, 1) := by decide +kernel
theorem dX0_isSo_63 : decode cX0_isSo 63 = .ok (.if_icmp .eq 7, 3) := by decide +kernel
theorem dX0_isSo_66 : decode cX0_isSo 66 = .ok (.iconst 1, 1) := by decide +kernel
theorem dX0_isSo_67 : decode cX0_isSo 67 = .ok (.goto 4, 3) := by decide +kernel
theorem dX0_isSo_70 : decode cX0_isSo 70 = .ok (.iconst 0, 1) := by decide +kernel
theorem dX0_isSo_71 : decode cX0_isSo 71 = .ok (.ireturn, 1) := by decide +kernel
theorem dX10_are_0 : decode cX10_are 0 = .ok (.iload_n 1, 1) := by decide +kernel
theorem dX10_are_1 : decode cX10_are 1 = .ok (.ifCond .lt 8, 3) := by decide +kernel
theorem dX10_are_4 : decode cX10_are 4 = .ok (.iload_n 1, 1) := by decide +kernel
theorem dX10_are_5 : decode cX10_are 5 = .ok (.iconst 4, 1) := by decide +kernel
theorem dX10_are_6 : decode cX10_are 6 = .ok (.if_icmp .le 7, 3) := by decide +kernel
theorem dX10_are_9 : decode cX10_are 9 = .ok (.iconst (-1), 1) := by decide +kernel
theorem dX10_are_10 : decode cX10_are 10 = .ok (.goto 11, 3) := by decide +kernel
theorem dX10_are_13 : decode cX10_are 13 = .ok (.aload_n 0, 1) := by decide +kernel
theorem dX10_are_14 : decode cX10_are 14 = .ok (.getfield 10, 3) := by decide +kernel
theorem dX10_are_17 : decode cX10_are 17 = .ok (.iload_n 1, 1) := by decide +kernel
theorem dX10_are_18 : decode cX10_are 18 = .ok (.invokevirtual 198, 3) := by decide +kernel
theorem dX10_are_21 : decode cX10_are 21 = .ok (.ireturn, 1) := by decide +kernel
theorem dX10_asNumber_0 : decode cX10_asNumber 0 = .ok (.iload_n 0, 1) := by decide +kernel
theorem dX10_asNumber_1 : decode cX10_asNumber 1 = .ok (.ifCond .eq 7, 3) := by decide +kernel
theorem dX10_asNumber_4 : decode cX10_asNumber 4 = .ok (.iconst 1, 1) := by decide +kernel
theorem dX10_asNumber_5 : decode cX10_asNumber 5 = .ok (.goto 4, 3) := by decide +kernel
theorem dX10_asNumber_8 : decode cX10_asNumber 8 = .ok (.iconst 0, 1) := by decide +kernel
theorem dX10_asNumber_9 : decode cX10_asNumber 9 = .ok (.ireturn, 1) := by decide +kernel
theorem dX10_back_0 : decode cX10_back 0 = .ok (.aload_n 0, 1) := by decide +kernel
theorem dX10_back_1 : decode cX10_back 1 = .ok (.getfield 19, 3) := by decide +kernel
theorem dX10_back_4 : decode cX10_back 4 = .ok (.ifCond .ne 6, 3) := by decide +kernel
theorem dX10_back_7 : decode cX10_back 7 = .ok (.bipush (-3), 2) := by decide +kernel
theorem dX10_back_9 : decode cX10_back 9 = .ok (.ireturn, 1) := by decide +kernel
theorem dX10_back_10 : decode cX10_back 10 = .ok (.aload_n 0, 1) := by decide +kernel
theorem dX10_back_11 : decode cX10_back 11 = .ok (.getfield 52, 3) := by decide +kernel
theorem dX10_back_14 : decode cX10_back 14 = .ok (.invokevirtual 67, 3) := by decide +kernel
theorem dX10_back_17 : decode cX10_back 17 = .ok (.aload_n 0, 1) := by decide +kernel
theorem dX10_back_18 : decode cX10_back 18 = .ok (.getfield 10, 3) := by decide +kernel
theorem dX10_back_21 : decode cX10_back 21 = .ok (.aload_n 0, 1) := by decide +kernel
theorem dX10_back_22 : decode cX10_back 22 = .ok (.getfield 16, 3) := by decide +kernel
theorem dX10_back_25 : decode cX10_back 25 = .ok (.invokevirtual 283, 3) := by decide +kernel
theorem dX10_back_28 : decode cX10_back 28 = .ok (.aload_n 0, 1) := by decide +kernel
theorem dX10_back_29 : decode cX10_back 29 = .ok (.getfield 10, 3) := by decide +kernel
theorem dX10_back_32 : decode cX10_back 32 = .ok (.getfield 63, 3) := by decide +kernel
theorem dX10_back_35 : decode cX10_back 35 = .ok (.ireturn, 1) := by decide +kernel
theorem dX10_cause_0 : decode cX10_cause 0 = .ok (.iload_n 1, 1) := by decide +kernel
theorem dX10_cause_1 : decode cX10_cause 1 = .ok (.ifCond .lt 12, 3) := by decide +kernel
theorem dX10_cause_4 : decode cX10_cause 4 = .ok (.iload_n 2, 1) := by decide +kernel
theorem dX10_cause_5 : decode cX10_cause 5 = .ok (.ifCond .lt 8, 3) := by decide +kernel
theorem dX10_cause_8 : decode cX10_cause 8 = .ok (.iload_n 2, 1) := by decide +kernel
theorem dX10_cause_9 : decode cX10_cause 9 = .ok (.iconst 1, 1) := by decide +kernel
theorem dX10_cause_10 : decode cX10_cause 10 = .ok (.if_icmp .le 7, 3) := by decide +kernel
theorem dX10_cause_13 : decode cX10_cause 13 = .ok (.iconst (-1), 1) := by decide +kernel
theorem dX10_cause_14 : decode cX10_cause 14 = .ok (.goto 12, 3) := by decide +kernel
theorem dX10_cause_17 : decode cX10_cause 17 = .ok (.aload_n 0, 1) := by decide +kernel
theorem dX10_cause_18 : decode cX10_cause 18 = .ok (.getfield 38, 3) := by decide +kernel
theorem dX10_cause_21 : decode cX10_cause 21 = .ok (.iload_n 1, 1) := by decide +kernel
theorem dX10_cause_22 : decode cX10_cause 22 = .ok (.iload_n 2, 1) := by decide +kernel
theorem dX10_cause_23 : decode cX10_cause 23 = .ok (.invokevirtual 212, 3) := by decide +kernel
theorem dX10_cause_26 : decode cX10_cause 26 = .ok (.ireturn, 1) := by decide +kernel
theorem dX10_cell_0 : decode cX10_cell 0 = .ok (.iload_n 1, 1) := by decide +kernel
theorem dX10_cell_1 : decode cX10_cell 1 = .ok (.invokestatic 92, 3) := by decide +kernel
theorem dX10_cell_4 : decode cX10_cell 4 = .ok (.ifCond .eq 15, 3) := by decide +kernel
theorem dX10_cell_7 : decode cX10_cell 7 = .ok (.aload_n 0, 1) := by decide +kernel
theorem dX10_cell_8 : decode cX10_cell 8 = .ok (.getfield 10, 3) := by decide +kernel
theorem dX10_cell_11 : decode cX10_cell 11 = .ok (.getfield 98, 3) := by decide +kernel
theorem dX10_cell_14 : decode cX10_cell 14 = .ok (.iload_n 1, 1) := by decide +kernel
theorem dX10_cell_15 : decode cX10_cell 15 = .ok (.iaload, 1) := by decide +kernel
theorem dX10_cell_16 : decode cX10_cell 16 = .ok (.goto 5, 3) := by decide +kernel
theorem dX10_cell_19 : decode cX10_cell 19 = .ok (.bipush (-100), 2) := by decide +kernel
theorem dX10_cell_21 : decode cX10_cell 21 = .ok (.ireturn, 1) := by decide +kernel
theorem dX10_clear_0 : decode cX10_clear 0 = .ok (.aload_n 0, 1) := by decide +kernel
theorem dX10_clear_1 : decode cX10_clear 1 = .ok (.getfield 34, 3) := by decide +kernel
theorem dX10_clear_4 : decode cX10_clear 4 = .ok (.getfield 102, 3) := by decide +kernel
theorem dX10_clear_7 : decode cX10_clear 7 = .ok (.istore_n 1, 1) := by decide +kernel
theorem dX10_clear_8 : decode cX10_clear 8 = .ok (.aload_n 0, 1) := by decide +kernel
theorem dX10_clear_9 : decode cX10_clear 9 = .ok (.getfield 34, 3) := by decide +kernel
theorem dX10_clear_12 : decode cX10_clear 12 = .ok (.iconst 0, 1) := by decide +kernel
theorem dX10_clear_13 : decode cX10_clear 13 = .ok (.putfield 102, 3) := by decide +kernel
theorem dX10_clear_16 : decode cX10_clear 16 = .ok (.iload_n 1, 1) := by decide +kernel
theorem dX10_clear_17 : decode cX10_clear 17 = .ok (.ireturn, 1) := by decide +kernel
theorem dX10_condition_0 : decode cX10_condition 0 = .ok (.iload_n 1, 1) := by decide +kernel
theorem dX10_condition_1 : decode cX10_condition 1 = .ok (.iconst (-1), 1) := by decide +kernel
theorem dX10_condition_2 : decode cX10_condition 2 = .ok (.if_icmp .ne 20, 3) := by decide +kernel
theorem dX10_condition_5 : decode cX10_condition 5 = .ok (.aload_n 0, 1) := by decide +kernel
theorem dX10_condition_6 : decode cX10_condition 6 = .ok (.getfield 52, 3) := by decide +kernel
theorem dX10_condition_9 : decode cX10_condition 9 = .ok (.invokevirtual 67, 3) := by decide +kernel
theorem dX10_condition_12 : decode cX10_condition 12 = .ok (.aload_n 0, 1) := by decide +kernel
theorem dX10_condition_13 : decode cX10_condition 13 = .ok (.getfield 45, 3) := by decide +kernel
theorem dX10_condition_16 : decode cX10_condition 16 = .ok (.iconst 0, 1) := by decide +kernel
theorem dX10_condition_17 : decode cX10_condition 17 = .ok (.putfield 201, 3) := by decide +kernel
theorem dX10_condition_20 : decode cX10_condition 20 = .ok (.iconst 0, 1) := by decide +kernel
theorem dX10_condition_21 : decode cX10_condition 21 = .ok (.ireturn, 1) := by decide +kernel
theorem dX10_condition_22 : decode cX10_condition 22 = .ok (.iload_n 1, 1) := by decide +kernel
theorem dX10_condition_23 : decode cX10_condition 23 = .ok (.invokestatic 92, 3) := by decide +kernel
theorem dX10_condition_26 : decode cX10_condition 26 = .ok (.ifCond .eq 12, 3) := by decide +kernel
theorem dX10_condition_29 : decode cX10_condition 29 = .ok (.iload_n 2, 1) := by decide +kernel
theorem dX10_condition_30 : decode cX10_condition 30 = .ok (.ifCond .lt 8, 3) := by decide +kernel
theorem dX10_condition_33 : decode cX10_condition 33 = .ok (.iload_n 2, 1) := by decide +kernel
theorem dX10_condition_34 : decode cX10_condition 34 = .ok (.iconst 4, 1) := by decide +kernel
theorem dX10_condition_35 : decode cX10_condition 35 = .ok (.if_icmp .lt 5, 3) := by decide +kernel
theorem dX10_condition_38 : decode cX10_condition 38 = .ok (.iconst (-1), 1) := by decide +kernel
theorem dX10_condition_39 : decode cX10_condition 39 = .ok (.ireturn, 1) := by decide +kernel
theorem dX10_condition_40 : decode cX10_condition 40 = .ok (.iload_n 3, 1) := by decide +kernel
theorem dX10_condition_41 : decode cX10_condition 41 = .ok (.invokestatic 95, 3) := by decide +kernel
theorem dX10_condition_44 : decode cX10_condition 44 = .ok (.ifCond .ne 6, 3) := by decide +kernel
theorem dX10_condition_47 : decode cX10_condition 47 = .ok (.bipush (-2), 2) := by decide +kernel
theorem dX10_condition_49 : decode cX10_condition 49 = .ok (.ireturn, 1) := by decide +kernel
theorem dX10_condition_50 : decode cX10_condition 50 = .ok (.aload_n 0, 1) := by decide +kernel
theorem dX10_condition_51 : decode cX10_condition 51 = .ok (.getfield 45, 3) := by decide +kernel
theorem dX10_condition_54 : decode cX10_condition 54 = .ok (.getfield 201, 3) := by decide +kernel
theorem dX10_condition_57 : decode cX10_condition 57 = .ok (.iconst 4, 1) := by decide +kernel
theorem dX10_condition_58 : decode cX10_condition 58 = .ok (.if_icmp .lt 6, 3) := by decide +kernel
theorem dX10_condition_61 : decode cX10_condition 61 = .ok (.bipush (-4), 2) := by decide +kernel
theorem dX10_condition_63 : decode cX10_condition 63 = .ok (.ireturn, 1) := by decide +kernel
theorem dX10_condition_64 : decode cX10_condition 64 = .ok (.aload_n 0, 1) := by decide +kernel
theorem dX10_condition_65 : decode cX10_condition 65 = .ok (.getfield 52, 3) := by decide +kernel
theorem dX10_condition_68 : decode cX10_condition 68 = .ok (.invokevirtual 67, 3) := by decide +kernel
theorem dX10_condition_71 : decode cX10_condition 71 = .ok (.aload_n 0, 1) := by decide +kernel
theorem dX10_condition_72 : decode cX10_condition 72 = .ok (.getfield 45, 3) := by decide +kernel
theorem dX10_condition_75 : decode cX10_condition 75 = .ok (.iload_n 1, 1) := by decide +kernel
theorem dX10_condition_76 : decode cX10_condition 76 = .ok (.iload_n 2, 1) := by decide +kernel
theorem dX10_condition_77 : decode cX10_condition 77 = .ok (.iload_n 3, 1) := by decide +kernel
theorem dX10_condition_78 : decode cX10_condition 78 = .ok (.invokevirtual 265, 3) := by decide +kernel
theorem dX10_condition_81 : decode cX10_condition 81 = .ok (.aload_n 0, 1) := by decide +kernel
theorem dX10_condition_82 : decode cX10_condition 82 = .ok (.getfield 45, 3) := by decide +kernel
theorem dX10_condition_85 : decode cX10_condition 85 = .ok (.getfield 201, 3) := by decide +kernel
theorem dX10_condition_88 : decode cX10_condition 88 = .ok (.ireturn, 1) := by decide +kernel
theorem dX10_feed_0 : decode cX10_feed 0 = .ok (.iload_n 1, 1) := by decide +kernel
theorem dX10_feed_1 : decode cX10_feed 1 = .ok (.iconst 1, 1) := by decide +kernel
theorem dX10_feed_2 : decode cX10_feed 2 = .ok (.if_icmp .lt 9, 3) := by decide +kernel
theorem dX10_feed_5 : decode cX10_feed 5 = .ok (.iload_n 1, 1) := by decide +kernel
theorem dX10_feed_6 : decode cX10_feed 6 = .ok (.bipush 127, 2) := by decide +kernel
theorem dX10_feed_8 : decode cX10_feed 8 = .ok (.if_icmp .le 6, 3) := by decide +kernel
theorem dX10_feed_11 : decode cX10_feed 11 = .ok (.bipush (-2), 2) := by decide +kernel
theorem dX10_feed_13 : decode cX10_feed 13 = .ok (.ireturn, 1) := by decide +kernel
theorem dX10_feed_14 : decode cX10_feed 14 = .ok (.aload_n 0, 1) := by decide +kernel
theorem dX10_feed_15 : decode cX10_feed 15 = .ok (.getfield 34, 3) := by decide +kernel
theorem dX10_feed_18 : decode cX10_feed 18 = .ok (.getfield 102, 3) := by decide +kernel
theorem dX10_feed_21 : decode cX10_feed 21 = .ok (.bipush 120, 2) := by decide +kernel
theorem dX10_feed_23 : decode cX10_feed 23 = .ok (.if_icmp .lt 6, 3) := by decide +kernel
theorem dX10_feed_26 : decode cX10_feed 26 = .ok (.bipush (-4), 2) := by decide +kernel
theorem dX10_feed_28 : decode cX10_feed 28 = .ok (.ireturn, 1) := by decide +kernel
theorem dX10_feed_29 : decode cX10_feed 29 = .ok (.aload_n 0, 1) := by decide +kernel
theorem dX10_feed_30 : decode cX10_feed 30 = .ok (.getfield 34, 3) := by decide +kernel
theorem dX10_feed_33 : decode cX10_feed 33 = .ok (.iload_n 1, 1) := by decide +kernel
theorem dX10_feed_34 : decode cX10_feed 34 = .ok (.invokevirtual 107, 3) := by decide +kernel
theorem dX10_feed_37 : decode cX10_feed 37 = .ok (.aload_n 0, 1) := by decide +kernel
theorem dX10_feed_38 : decode cX10_feed 38 = .ok (.getfield 34, 3) := by decide +kernel
theorem dX10_feed_41 : decode cX10_feed 41 = .ok (.getfield 102, 3) := by decide +kernel
theorem dX10_feed_44 : decode cX10_feed 44 = .ok (.ireturn, 1) := by decide +kernel
theorem dX10_follow_0 : decode cX10_follow 0 = .ok (.aload_n 0, 1) := by decide +kernel
theorem dX10_follow_1 : decode cX10_follow 1 = .ok (.getfield 59, 3) := by decide +kernel
theorem dX10_follow_4 : decode cX10_follow 4 = .ok (.iload_n 1, 1) := by decide +kernel
theorem dX10_follow_5 : decode cX10_follow 5 = .ok (.invokevirtual 153, 3) := by decide +kernel
theorem dX10_follow_8 : decode cX10_follow 8 = .ok (.istore 4, 2) := by decide +kernel
theorem dX10_follow_10 : decode cX10_follow 10 = .ok (.iload 4, 2) := by decide +kernel
theorem dX10_follow_12 : decode cX10_follow 12 = .ok (.ifCond .eq 6, 3) := by decide +kernel
theorem dX10_follow_15 : decode cX10_follow 15 = .ok (.iload 4, 2) := by decide +kernel
theorem dX10_follow_17 : decode cX10_follow 17 = .ok (.ireturn, 1) := by decide +kernel
theorem dX10_follow_18 : decode cX10_follow 18 = .ok (.iload_n 2, 1) := by decide +kernel
theorem dX10_follow_19 : decode cX10_follow 19 = .ok (.ifCond .lt 22, 3) := by decide +kernel
theorem dX10_follow_22 : decode cX10_follow 22 = .ok (.iload_n 3, 1) := by decide +kernel
theorem dX10_follow_23 : decode cX10_follow 23 = .ok (.ifCond .lt 18, 3) := by decide +kernel
theorem dX10_follow_26 : decode cX10_follow 26 = .ok (.iload_n 3, 1) := by decide +kernel
theorem dX10_follow_27 : decode cX10_follow 27 = .ok (.aload_n 0, 1) := by decide +kernel
theorem dX10_follow_28 : decode cX10_follow 28 = .ok (.getfield 59, 3) := by decide +kernel
theorem dX10_follow_31 : decode cX10_follow 31 = .ok (.getfield 156, 3) := by decide +kernel
theorem dX10_follow_34 : decode cX10_follow 34 = .ok (.iload_n 1, 1) := by decide +kernel
theorem dX10_follow_35 : decode cX10_follow 35 = .ok (.iaload, 1) := by decide +kernel
theorem dX10_follow_36 : decode cX10_follow 36 = .ok (.iload_n 2, 1) := by decide +kernel
theorem dX10_follow_37 : decode cX10_follow 37 = .ok (.isub, 1) := by decide +kernel
theorem dX10_follow_38 : decode cX10_follow 38 = .ok (.if_icmp .le 6, 3) := by decide +kernel
theorem dX10_follow_41 : decode cX10_follow 41 = .ok (.bipush (-13), 2) := by decide +kernel
theorem dX10_follow_43 : decode cX10_follow 43 = .ok (.ireturn, 1) := by decide +kernel
theorem dX10_follow_44 : decode cX10_follow 44 = .ok (.iconst 0, 1) := by decide +kernel
theorem dX10_follow_45 : decode cX10_follow 45 = .ok (.istore 5, 2) := by decide +kernel
theorem dX10_follow_47 : decode cX10_follow 47 = .ok (.iload 5, 2) := by decide +kernel
theorem dX10_follow_49 : decode cX10_follow 49 = .ok (.iload_n 3, 1) := by decide +kernel
theorem dX10_follow_50 : decode cX10_follow 50 = .ok (.if_icmp .ge 56, 3) := by decide +kernel
theorem dX10_follow_53 : decode cX10_follow 53 = .ok (.aload_n 0, 1) := by decide +kernel
theorem dX10_follow_54 : decode cX10_follow 54 = .ok (.getfield 59, 3) := by decide +kernel
theorem dX10_follow_57 : decode cX10_follow 57 = .ok (.getfield 159, 3) := by decide +kernel
theorem dX10_follow_60 : decode cX10_follow 60 = .ok (.iload_n 1, 1) := by decide +kernel
theorem dX10_follow_61 : decode cX10_follow 61 = .ok (.aaload, 1) := by decide +kernel
theorem dX10_follow_62 : decode cX10_follow 62 = .ok (.iload_n 2, 1) := by decide +kernel
theorem dX10_follow_63 : decode cX10_follow 63 = .ok (.iload 5, 2) := by decide +kernel
theorem dX10_follow_65 : decode cX10_follow 65 = .ok (.iadd, 1) := by decide +kernel
theorem dX10_follow_66 : decode cX10_follow 66 = .ok (.iaload, 1) := by decide +kernel
theorem dX10_follow_67 : decode cX10_follow 67 = .ok (.istore 6, 2) := by decide +kernel
theorem dX10_follow_69 : decode cX10_follow 69 = .ok (.aload_n 0, 1) := by decide +kernel
theorem dX10_follow_70 : decode cX10_follow 70 = .ok (.iload 6, 2) := by decide +kernel
theorem dX10_follow_72 : decode cX10_follow 72 = .ok (.invokevirtual 111, 3) := by decide +kernel
theorem dX10_follow_75 : decode cX10_follow 75 = .ok (.ifCond .eq 16, 3) := by decide +kernel
theorem dX10_follow_78 : decode cX10_follow 78 = .ok (.aload_n 0, 1) := by decide +kernel
theorem dX10_follow_79 : decode cX10_follow 79 = .ok (.getfield 10, 3) := by decide +kernel
theorem dX10_follow_82 : decode cX10_follow 82 = .ok (.getfield 117, 3) := by decide +kernel
theorem dX10_follow_85 : decode cX10_follow 85 = .ok (.iload 6, 2) := by decide +kernel
theorem dX10_follow_87 : decode cX10_follow 87 = .ok (.iaload, 1) := by decide +kernel
theorem dX10_follow_88 : decode cX10_follow 88 = .ok (.ifCond .eq 6, 3) := by decide +kernel
theorem dX10_follow_91 : decode cX10_follow 91 = .ok (.iload 5, 2) := by decide +kernel
theorem dX10_follow_93 : decode cX10_follow 93 = .ok (.ireturn, 1) := by decide +kernel
theorem dX10_follow_94 : decode cX10_follow 94 = .ok (.aload_n 0, 1) := by decide +kernel
theorem dX10_follow_95 : decode cX10_follow 95 = .ok (.iload 6, 2) := by decide +kernel
theorem dX10_follow_97 : decode cX10_follow 97 = .ok (.invokevirtual 146, 3) := by decide +kernel
theorem dX10_follow_100 : decode cX10_follow 100 = .ok (.iinc 5 1, 3) := by decide +kernel
theorem dX10_follow_103 : decode cX10_follow 103 = .ok (.goto (-56), 3) := by decide +kernel
theorem dX10_follow_106 : decode cX10_follow 106 = .ok (.iload_n 3, 1) := by decide +kernel
theorem dX10_follow_107 : decode cX10_follow 107 = .ok (.ireturn, 1) := by decide +kernel
theorem dX10_found_0 : decode cX10_found 0 = .ok (.iload_n 1, 1) := by decide +kernel
theorem dX10_found_1 : decode cX10_found 1 = .ok (.ifCond .lt 9, 3) := by decide +kernel
theorem dX10_found_4 : decode cX10_found 4 = .ok (.iload_n 1, 1) := by decide +kernel
theorem dX10_found_5 : decode cX10_found 5 = .ok (.bipush 8, 2) := by decide +kernel
theorem dX10_found_7 : decode cX10_found 7 = .ok (.if_icmp .le 5, 3) := by decide +kernel
theorem dX10_found_10 : decode cX10_found 10 = .ok (.iconst (-1), 1) := by decide +kernel
theorem dX10_found_11 : decode cX10_found 11 = .ok (.ireturn, 1) := by decide +kernel
theorem dX10_found_12 : decode cX10_found 12 = .ok (.aload_n 0, 1) := by decide +kernel
theorem dX10_found_13 : decode cX10_found 13 = .ok (.getfield 52, 3) := by decide +kernel
theorem dX10_found_16 : decode cX10_found 16 = .ok (.aload_n 0, 1) := by decide +kernel
theorem dX10_found_17 : decode cX10_found 17 = .ok (.getfield 10, 3) := by decide +kernel
theorem dX10_found_20 : decode cX10_found 20 = .ok (.aload_n 0, 1) := by decide +kernel
theorem dX10_found_21 : decode cX10_found 21 = .ok (.getfield 45, 3) := by decide +kernel
theorem dX10_found_24 : decode cX10_found 24 = .ok (.invokevirtual 215, 3) := by decide +kernel
theorem dX10_found_27 : decode cX10_found 27 = .ok (.iload_n 1, 1) := by decide +kernel
theorem dX10_found_28 : decode cX10_found 28 = .ok (.tableswitch 132 0 7 #[48, 59, 70, 78, 86, 94, 109, 124], 48) := by decide +kernel
theorem dX10_found_76 : decode cX10_found 76 = .ok (.aload_n 0, 1) := by decide +kernel
theorem dX10_found_77 : decode cX10_found 77 = .ok (.getfield 52, 3) := by decide +kernel
theorem dX10_found_80 : decode cX10_found 80 = .ok (.getfield 219, 3) := by decide +kernel
theorem dX10_found_83 : decode cX10_found 83 = .ok (.getfield 223, 3) := by decide +kernel
theorem dX10_found_86 : decode cX10_found 86 = .ok (.ireturn, 1) := by decide +kernel
theorem dX10_found_87 : decode cX10_found 87 = .ok (.aload_n 0, 1) := by decide +kernel
theorem dX10_found_88 : decode cX10_found 88 = .ok (.getfield 52, 3) := by decide +kernel
theorem dX10_found_91 : decode cX10_found 91 = .ok (.getfield 226, 3) := by decide +kernel
theorem dX10_found_94 : decode cX10_found 94 = .ok (.invokestatic 88, 3) := by decide +kernel
theorem dX10_found_97 : decode cX10_found 97 = .ok (.ireturn, 1) := by decide +kernel
theorem dX10_found_98 : decode cX10_found 98 = .ok (.aload_n 0, 1) := by decide +kernel
theorem dX10_found_99 : decode cX10_found 99 = .ok (.getfield 52, 3) := by decide +kernel
theorem dX10_found_102 : decode cX10_found 102 = .ok (.getfield 229, 3) := by decide +kernel
theorem dX10_found_105 : decode cX10_found 105 = .ok (.ireturn, 1) := by decide +kernel
theorem dX10_found_106 : decode cX10_found 106 = .ok (.aload_n 0, 1) := by decide +kernel
theorem dX10_found_107 : decode cX10_found 107 = .ok (.getfield 52, 3) := by decide +kernel
theorem dX10_found_110 : decode cX10_found 110 = .ok (.getfield 232, 3) := by decide +kernel
theorem dX10_found_113 : decode cX10_found 113 = .ok (.ireturn, 1) := by decide +kernel
theorem dX10_found_114 : decode cX10_found 114 = .ok (.aload_n 0, 1) := by decide +kernel
theorem dX10_found_115 : decode cX10_found 115 = .ok (.getfield 52, 3) := by decide +kernel
theorem dX10_found_118 : decode cX10_found 118 = .ok (.invokevirtual 235, 3) := by decide +kernel
theorem dX10_found_121 : decode cX10_found 121 = .ok (.ireturn, 1) := by decide +kernel
theorem dX10_found_122 : decode cX10_found 122 = .ok (.aload_n 0, 1) := by decide +kernel
theorem dX10_found_123 : decode cX10_found 123 = .ok (.getfield 52, 3) := by decide +kernel
theorem dX10_found_126 : decode cX10_found 126 = .ok (.aload_n 0, 1) := by decide +kernel
theorem dX10_found_127 : decode cX10_found 127 = .ok (.getfield 52, 3) := by decide +kernel
theorem dX10_found_130 : decode cX10_found 130 = .ok (.getfield 238, 3) := by decide +kernel
theorem dX10_found_133 : decode cX10_found 133 = .ok (.invokevirtual 241, 3) := by decide +kernel
theorem dX10_found_136 : decode cX10_found 136 = .ok (.ireturn, 1) := by decide +kernel
theorem dX10_found_137 : decode cX10_found 137 = .ok (.aload_n 0, 1) := by decide +kernel
theorem dX10_found_138 : decode cX10_found 138 = .ok (.getfield 52, 3) := by decide +kernel
theorem dX10_found_141 : decode cX10_found 141 = .ok (.aload_n 0, 1) := by decide +kernel
theorem dX10_found_142 : decode cX10_found 142 = .ok (.getfield 52, 3) := by decide +kernel
theorem dX10_found_145 : decode cX10_found 145 = .ok (.getfield 244, 3) := by decide +kernel
theorem dX10_found_148 : decode cX10_found 148 = .ok (.invokevirtual 241, 3) := by decide +kernel
theorem dX10_found_151 : decode cX10_found 151 = .ok (.ireturn, 1) := by decide +kernel
theorem dX10_found_152 : decode cX10_found 152 = .ok (.aload_n 0, 1) := by decide +kernel
theorem dX10_found_153 : decode cX10_found 153 = .ok (.getfield 52, 3) := by decide +kernel
theorem dX10_found_156 : decode cX10_found 156 = .ok (.getfield 247, 3) := by decide +kernel
theorem dX10_found_159 : decode cX10_found 159 = .ok (.ireturn, 1) := by decide +kernel
theorem dX10_found_160 : decode cX10_found 160 = .ok (.aload_n 0, 1) := by decide +kernel
theorem dX10_found_161 : decode cX10_found 161 = .ok (.getfield 52, 3) := by decide +kernel
theorem dX10_found_164 : decode cX10_found 164 = .ok (.getfield 250, 3) := by decide +kernel
theorem dX10_found_167 : decode cX10_found 167 = .ok (.invokestatic 88, 3) := by decide +kernel
theorem dX10_found_170 : decode cX10_found 170 = .ok (.ireturn, 1) := by decide +kernel
theorem dX10_gate_0 : decode cX10_gate 0 = .ok (.iload_n 1, 1) := by decide +kernel
theorem dX10_gate_1 : decode cX10_gate 1 = .ok (.invokestatic 77, 3) := by decide +kernel
theorem dX10_gate_4 : decode cX10_gate 4 = .ok (.ifCond .ne 5, 3) := by decide +kernel
theorem dX10_gate_7 : decode cX10_gate 7 = .ok (.iconst (-1), 1) := by decide +kernel
theorem dX10_gate_8 : decode cX10_gate 8 = .ok (.ireturn, 1) := by decide +kernel
theorem dX10_gate_9 : decode cX10_gate 9 = .ok (.iload_n 2, 1) := by decide +kernel
theorem dX10_gate_10 : decode cX10_gate 10 = .ok (.tableswitch 111 0 4 #[34, 62, 72, 85, 98], 34) := by decide +kernel
theorem dX10_gate_44 : decode cX10_gate 44 = .ok (.aload_n 0, 1) := by decide +kernel
theorem dX10_gate_45 : decode cX10_gate 45 = .ok (.getfield 10, 3) := by decide +kernel
theorem dX10_gate_48 : decode cX10_gate 48 = .ok (.getfield 178, 3) := by decide +kernel
theorem dX10_gate_51 : decode cX10_gate 51 = .ok (.iload_n 1, 1) := by decide +kernel
theorem dX10_gate_52 : decode cX10_gate 52 = .ok (.iaload, 1) := by decide +kernel
theorem dX10_gate_53 : decode cX10_gate 53 = .ok (.iconst (-1), 1) := by decide +kernel
theorem dX10_gate_54 : decode cX10_gate 54 = .ok (.if_icmp .ne 8, 3) := by decide +kernel
theorem dX10_gate_57 : decode cX10_gate 57 = .ok (.bipush (-5), 2) := by decide +kernel
theorem dX10_gate_59 : decode cX10_gate 59 = .ok (.goto 12, 3) := by decide +kernel
theorem dX10_gate_62 : decode cX10_gate 62 = .ok (.aload_n 0, 1) := by decide +kernel
theorem dX10_gate_63 : decode cX10_gate 63 = .ok (.getfield 10, 3) := by decide +kernel
theorem dX10_gate_66 : decode cX10_gate 66 = .ok (.getfield 178, 3) := by decide +kernel
theorem dX10_gate_69 : decode cX10_gate 69 = .ok (.iload_n 1, 1) := by decide +kernel
theorem dX10_gate_70 : decode cX10_gate 70 = .ok (.iaload, 1) := by decide +kernel
theorem dX10_gate_71 : decode cX10_gate 71 = .ok (.ireturn, 1) := by decide +kernel
theorem dX10_gate_72 : decode cX10_gate 72 = .ok (.aload_n 0, 1) := by decide +kernel
theorem dX10_gate_73 : decode cX10_gate 73 = .ok (.getfield 10, 3) := by decide +kernel
theorem dX10_gate_76 : decode cX10_gate 76 = .ok (.getfield 181, 3) := by decide +kernel
theorem dX10_gate_79 : decode cX10_gate 79 = .ok (.iload_n 1, 1) := by decide +kernel
theorem dX10_gate_80 : decode cX10_gate 80 = .ok (.iaload, 1) := by decide +kernel
theorem dX10_gate_81 : decode cX10_gate 81 = .ok (.ireturn, 1) := by decide +kernel
theorem dX10_gate_82 : decode cX10_gate 82 = .ok (.aload_n 0, 1) := by decide +kernel
theorem dX10_gate_83 : decode cX10_gate 83 = .ok (.getfield 10, 3) := by decide +kernel
theorem dX10_gate_86 : decode cX10_gate 86 = .ok (.getfield 184, 3) := by decide +kernel
theorem dX10_gate_89 : decode cX10_gate 89 = .ok (.iload_n 1, 1) := by decide +kernel
theorem dX10_gate_90 : decode cX10_gate 90 = .ok (.iaload, 1) := by decide +kernel
theorem dX10_gate_91 : decode cX10_gate 91 = .ok (.invokestatic 187, 3) := by decide +kernel
theorem dX10_gate_94 : decode cX10_gate 94 = .ok (.ireturn, 1) := by decide +kernel
theorem dX10_gate_95 : decode cX10_gate 95 = .ok (.aload_n 0, 1) := by decide +kernel
theorem dX10_gate_96 : decode cX10_gate 96 = .ok (.getfield 10, 3) := by decide +kernel
theorem dX10_gate_99 : decode cX10_gate 99 = .ok (.getfield 192, 3) := by decide +kernel
theorem dX10_gate_102 : decode cX10_gate 102 = .ok (.iload_n 1, 1) := by decide +kernel
theorem dX10_gate_103 : decode cX10_gate 103 = .ok (.iaload, 1) := by decide +kernel
theorem dX10_gate_104 : decode cX10_gate 104 = .ok (.invokestatic 187, 3) := by decide +kernel
theorem dX10_gate_107 : decode cX10_gate 107 = .ok (.ireturn, 1) := by decide +kernel
theorem dX10_gate_108 : decode cX10_gate 108 = .ok (.aload_n 0, 1) := by decide +kernel
theorem dX10_gate_109 : decode cX10_gate 109 = .ok (.getfield 10, 3) := by decide +kernel
theorem dX10_gate_112 : decode cX10_gate 112 = .ok (.getfield 84, 3) := by decide +kernel
theorem dX10_gate_115 : decode cX10_gate 115 = .ok (.iload_n 1, 1) := by decide +kernel
theorem dX10_gate_116 : decode cX10_gate 116 = .ok (.baload, 1) := by decide +kernel
theorem dX10_gate_117 : decode cX10_gate 117 = .ok (.invokestatic 88, 3) := by decide +kernel
theorem dX10_gate_120 : decode cX10_gate 120 = .ok (.ireturn, 1) := by decide +kernel
theorem dX10_gate_121 : decode cX10_gate 121 = .ok (.iconst (-1), 1) := by decide +kernel
theorem dX10_gate_122 : decode cX10_gate 122 = .ok (.ireturn, 1) := by decide +kernel
theorem dX10_get_0 : decode cX10_get 0 = .ok (.iload_n 1, 1) := by decide +kernel
theorem dX10_get_1 : decode cX10_get 1 = .ok (.invokestatic 271, 3) := by decide +kernel
theorem dX10_get_4 : decode cX10_get 4 = .ok (.ifCond .eq 29, 3) := by decide +kernel
theorem dX10_get_7 : decode cX10_get 7 = .ok (.aload_n 0, 1) := by decide +kernel
theorem dX10_get_8 : decode cX10_get 8 = .ok (.getfield 59, 3) := by decide +kernel
theorem dX10_get_11 : decode cX10_get 11 = .ok (.iload_n 1, 1) := by decide +kernel
theorem dX10_get_12 : decode cX10_get 12 = .ok (.iload_n 2, 1) := by decide +kernel
theorem dX10_get_13 : decode cX10_get 13 = .ok (.invokevirtual 278, 3) := by decide +kernel
theorem dX10_get_16 : decode cX10_get 16 = .ok (.ifCond .eq 17, 3) := by decide +kernel
theorem dX10_get_19 : decode cX10_get 19 = .ok (.aload_n 0, 1) := by decide +kernel
theorem dX10_get_20 : decode cX10_get 20 = .ok (.getfield 59, 3) := by decide +kernel
theorem dX10_get_23 : decode cX10_get 23 = .ok (.getfield 159, 3) := by decide +kernel
theorem dX10_get_26 : decode cX10_get 26 = .ok (.iload_n 1, 1) := by decide +kernel
theorem dX10_get_27 : decode cX10_get 27 = .ok (.aaload, 1) := by decide +kernel
theorem dX10_get_28 : decode cX10_get 28 = .ok (.iload_n 2, 1) := by decide +kernel
theorem dX10_get_29 : decode cX10_get 29 = .ok (.iaload, 1) := by decide +kernel
theorem dX10_get_30 : decode cX10_get 30 = .ok (.goto 6, 3) := by decide +kernel
theorem dX10_get_33 : decode cX10_get 33 = .ok (.ldc_w 282, 3) := by decide +kernel
theorem dX10_get_36 : decode cX10_get 36 = .ok (.ireturn, 1) := by decide +kernel
theorem dX10_holds_0 : decode cX10_holds 0 = .ok (.aload_n 0, 1) := by decide +kernel
theorem dX10_holds_1 : decode cX10_holds 1 = .ok (.getfield 45, 3) := by decide +kernel
theorem dX10_holds_4 : decode cX10_holds 4 = .ok (.aload_n 0, 1) := by decide +kernel
theorem dX10_holds_5 : decode cX10_holds 5 = .ok (.getfield 10, 3) := by decide +kernel
theorem dX10_holds_8 : decode cX10_holds 8 = .ok (.getfield 98, 3) := by decide +kernel
theorem dX10_holds_11 : decode cX10_holds 11 = .ok (.invokevirtual 267, 3) := by decide +kernel
theorem dX10_holds_14 : decode cX10_holds 14 = .ok (.invokestatic 88, 3) := by decide +kernel
theorem dX10_holds_17 : decode cX10_holds 17 = .ok (.ireturn, 1) := by decide +kernel
theorem dX10_image_0 : decode cX10_image 0 = .ok (.aload_n 0, 1) := by decide +kernel
theorem dX10_image_1 : decode cX10_image 1 = .ok (.getfield 16, 3) := by decide +kernel
theorem dX10_image_4 : decode cX10_image 4 = .ok (.aload_n 0, 1) := by decide +kernel
theorem dX10_image_5 : decode cX10_image 5 = .ok (.getfield 10, 3) := by decide +kernel
theorem dX10_image_8 : decode cX10_image 8 = .ok (.invokevirtual 283, 3) := by decide +kernel
theorem dX10_image_11 : decode cX10_image 11 = .ok (.aload_n 0, 1) := by decide +kernel
theorem dX10_image_12 : decode cX10_image 12 = .ok (.getfield 16, 3) := by decide +kernel
theorem dX10_image_15 : decode cX10_image 15 = .ok (.invokevirtual 286, 3) := by decide +kernel
theorem dX10_image_18 : decode cX10_image 18 = .ok (.aload_n 0, 1) := by decide +kernel
theorem dX10_image_19 : decode cX10_image 19 = .ok (.iconst 1, 1) := by decide +kernel
theorem dX10_image_20 : decode cX10_image 20 = .ok (.putfield 19, 3) := by decide +kernel
theorem dX10_image_23 : decode cX10_image 23 = .ok (.aload_n 0, 1) := by decide +kernel
theorem dX10_image_24 : decode cX10_image 24 = .ok (.getfield 16, 3) := by decide +kernel
theorem dX10_image_27 : decode cX10_image 27 = .ok (.getfield 63, 3) := by decide +kernel
theorem dX10_image_30 : decode cX10_image 30 = .ok (.ireturn, 1) := by decide +kernel
theorem dX10_init_0 : decode cX10_init 0 = .ok (.aload_n 0, 1) := by decide +kernel
theorem dX10_init_1 : decode cX10_init 1 = .ok (.invokespecial 1, 3) := by decide +kernel
theorem dX10_init_4 : decode cX10_init 4 = .ok (.aload_n 0, 1) := by decide +kernel
theorem dX10_init_5 : decode cX10_init 5 = .ok (.new 7, 3) := by decide +kernel
theorem dX10_init_8 : decode cX10_init 8 = .ok (.dup, 1) := by decide +kernel
theorem dX10_init_9 : decode cX10_init 9 = .ok (.invokespecial 9, 3) := by decide +kernel
theorem dX10_init_12 : decode cX10_init 12 = .ok (.putfield 10, 3) := by decide +kernel
theorem dX10_init_15 : decode cX10_init 15 = .ok (.aload_n 0, 1) := by decide +kernel
theorem dX10_init_16 : decode cX10_init 16 = .ok (.new 7, 3) := by decide +kernel
theorem dX10_init_19 : decode cX10_init 19 = .ok (.dup, 1) := by decide +kernel
theorem dX10_init_20 : decode cX10_init 20 = .ok (.invokespecial 9, 3) := by decide +kernel
theorem dX10_init_23 : decode cX10_init 23 = .ok (.putfield 16, 3) := by decide +kernel
theorem dX10_init_26 : decode cX10_init 26 = .ok (.aload_n 0, 1) := by decide +kernel
theorem dX10_init_27 : decode cX10_init 27 = .ok (.iconst 0, 1) := by decide +kernel
theorem dX10_init_28 : decode cX10_init 28 = .ok (.putfield 19, 3) := by decide +kernel
theorem dX10_init_31 : decode cX10_init 31 = .ok (.aload_n 0, 1) := by decide +kernel
theorem dX10_init_32 : decode cX10_init 32 = .ok (.new 23, 3) := by decide +kernel
theorem dX10_init_35 : decode cX10_init 35 = .ok (.dup, 1) := by decide +kernel
theorem dX10_init_36 : decode cX10_init 36 = .ok (.invokespecial 25, 3) := by decide +kernel
theorem dX10_init_39 : decode cX10_init 39 = .ok (.putfield 26, 3) := by decide +kernel
theorem dX10_init_42 : decode cX10_init 42 = .ok (.aload_n 0, 1) := by decide +kernel
theorem dX10_init_43 : decode cX10_init 43 = .ok (.aload_n 0, 1) := by decide +kernel
theorem dX10_init_44 : decode cX10_init 44 = .ok (.getfield 26, 3) := by decide +kernel
theorem dX10_init_47 : decode cX10_init 47 = .ok (.getfield 30, 3) := by decide +kernel
theorem dX10_init_50 : decode cX10_init 50 = .ok (.putfield 34, 3) := by decide +kernel
theorem dX10_init_53 : decode cX10_init 53 = .ok (.aload_n 0, 1) := by decide +kernel
theorem dX10_init_54 : decode cX10_init 54 = .ok (.new 35, 3) := by decide +kernel
theorem dX10_init_57 : decode cX10_init 57 = .ok (.dup, 1) := by decide +kernel
theorem dX10_init_58 : decode cX10_init 58 = .ok (.invokespecial 37, 3) := by decide +kernel
theorem dX10_init_61 : decode cX10_init 61 = .ok (.putfield 38, 3) := by decide +kernel
theorem dX10_init_64 : decode cX10_init 64 = .ok (.aload_n 0, 1) := by decide +kernel
theorem dX10_init_65 : decode cX10_init 65 = .ok (.new 42, 3) := by decide +kernel
theorem dX10_init_68 : decode cX10_init 68 = .ok (.dup, 1) := by decide +kernel
theorem dX10_init_69 : decode cX10_init 69 = .ok (.invokespecial 44, 3) := by decide +kernel
theorem dX10_init_72 : decode cX10_init 72 = .ok (.putfield 45, 3) := by decide +kernel
theorem dX10_init_75 : decode cX10_init 75 = .ok (.aload_n 0, 1) := by decide +kernel
theorem dX10_init_76 : decode cX10_init 76 = .ok (.new 49, 3) := by decide +kernel
theorem dX10_init_79 : decode cX10_init 79 = .ok (.dup, 1) := by decide +kernel
theorem dX10_init_80 : decode cX10_init 80 = .ok (.invokespecial 51, 3) := by decide +kernel
theorem dX10_init_83 : decode cX10_init 83 = .ok (.putfield 52, 3) := by decide +kernel
theorem dX10_init_86 : decode cX10_init 86 = .ok (.aload_n 0, 1) := by decide +kernel
theorem dX10_init_87 : decode cX10_init 87 = .ok (.new 56, 3) := by decide +kernel
theorem dX10_init_90 : decode cX10_init 90 = .ok (.dup, 1) := by decide +kernel
theorem dX10_init_91 : decode cX10_init 91 = .ok (.invokespecial 58, 3) := by decide +kernel
theorem dX10_init_94 : decode cX10_init 94 = .ok (.putfield 59, 3) := by decide +kernel
theorem dX10_init_97 : decode cX10_init 97 = .ok (.return_, 1) := by decide +kernel
theorem dX10_isCell_0 : decode cX10_isCell 0 = .ok (.iload_n 0, 1) := by decide +kernel
theorem dX10_isCell_1 : decode cX10_isCell 1 = .ok (.ifCond .lt 12, 3) := by decide +kernel
theorem dX10_isCell_4 : decode cX10_isCell 4 = .ok (.iload_n 0, 1) := by decide +kernel
theorem dX10_isCell_5 : decode cX10_isCell 5 = .ok (.iconst 4, 1) := by decide +kernel
theorem dX10_isCell_6 : decode cX10_isCell 6 = .ok (.if_icmp .ge 7, 3) := by decide +kernel
theorem dX10_isCell_9 : decode cX10_isCell 9 = .ok (.iconst 1, 1) := by decide +kernel
theorem dX10_isCell_10 : decode cX10_isCell 10 = .ok (.goto 4, 3) := by decide +kernel
theorem dX10_isCell_13 : decode cX10_isCell 13 = .ok (.iconst 0, 1) := by decide +kernel
theorem dX10_isCell_14 : decode cX10_isCell 14 = .ok (.ireturn, 1) := by decide +kernel
theorem dX10_isCellNumber_0 : decode cX10_isCellNumber 0 = .ok (.iload_n 0, 1) := by decide +kernel
theorem dX10_isCellNumber_1 : decode cX10_isCellNumber 1 = .ok (.bipush (-99), 2) := by decide +kernel
theorem dX10_isCellNumber_3 : decode cX10_isCellNumber 3 = .ok (.if_icmp .lt 13, 3) := by decide +kernel
theorem dX10_isCellNumber_6 : decode cX10_isCellNumber 6 = .ok (.iload_n 0, 1) := by decide +kernel
theorem dX10_isCellNumber_7 : decode cX10_isCellNumber 7 = .ok (.bipush 99, 2) := by decide +kernel
theorem dX10_isCellNumber_9 : decode cX10_isCellNumber 9 = .ok (.if_icmp .gt 7, 3) := by decide +kernel
theorem dX10_isCellNumber_12 : decode cX10_isCellNumber 12 = .ok (.iconst 1, 1) := by decide +kernel
theorem dX10_isCellNumber_13 : decode cX10_isCellNumber 13 = .ok (.goto 4, 3) := by decide +kernel
theorem dX10_isCellNumber_16 : decode cX10_isCellNumber 16 = .ok (.iconst 0, 1) := by decide +kernel
theorem dX10_isCellNumber_17 : decode cX10_isCellNumber 17 = .ok (.ireturn, 1) := by decide +kernel
theorem dX10_isList_0 : decode cX10_isList 0 = .ok (.iload_n 0, 1) := by decide +kernel
theorem dX10_isList_1 : decode cX10_isList 1 = .ok (.ifCond .lt 12, 3) := by decide +kernel
theorem dX10_isList_4 : decode cX10_isList 4 = .ok (.iload_n 0, 1) := by decide +kernel
theorem dX10_isList_5 : decode cX10_isList 5 = .ok (.iconst 4, 1) := by decide +kernel
theorem dX10_isList_6 : decode cX10_isList 6 = .ok (.if_icmp .ge 7, 3) := by decide +kernel
theorem dX10_isList_9 : decode cX10_isList 9 = .ok (.iconst 1, 1) := by decide +kernel
theorem dX10_isList_10 : decode cX10_isList 10 = .ok (.goto 4, 3) := by decide +kernel
theorem dX10_isList_13 : decode cX10_isList 13 = .ok (.iconst 0, 1) := by decide +kernel
theorem dX10_isList_14 : decode cX10_isList 14 = .ok (.ireturn, 1) := by decide +kernel
theorem dX10_isMonitor_0 : decode cX10_isMonitor 0 = .ok (.iload_n 0, 1) := by decide +kernel
theorem dX10_isMonitor_1 : decode cX10_isMonitor 1 = .ok (.ifCond .lt 12, 3) := by decide +kernel
theorem dX10_isMonitor_4 : decode cX10_isMonitor 4 = .ok (.iload_n 0, 1) := by decide +kernel
theorem dX10_isMonitor_5 : decode cX10_isMonitor 5 = .ok (.iconst 3, 1) := by decide +kernel
theorem dX10_isMonitor_6 : decode cX10_isMonitor 6 = .ok (.if_icmp .ge 7, 3) := by decide +kernel
theorem dX10_isMonitor_9 : decode cX10_isMonitor 9 = .ok (.iconst 1, 1) := by decide +kernel
theorem dX10_isMonitor_10 : decode cX10_isMonitor 10 = .ok (.goto 4, 3) := by decide +kernel
theorem dX10_isMonitor_13 : decode cX10_isMonitor 13 = .ok (.iconst 0, 1) := by decide +kernel
theorem dX10_isMonitor_14 : decode cX10_isMonitor 14 = .ok (.ireturn, 1) := by decide +kernel
theorem dX10_isTask_0 : decode cX10_isTask 0 = .ok (.iload_n 1, 1) := by decide +kernel
theorem dX10_isTask_1 : decode cX10_isTask 1 = .ok (.ifCond .lt 18, 3) := by decide +kernel
theorem dX10_isTask_4 : decode cX10_isTask 4 = .ok (.iload_n 1, 1) := by decide +kernel
theorem dX10_isTask_5 : decode cX10_isTask 5 = .ok (.aload_n 0, 1) := by decide +kernel
theorem dX10_isTask_6 : decode cX10_isTask 6 = .ok (.getfield 10, 3) := by decide +kernel
theorem dX10_isTask_9 : decode cX10_isTask 9 = .ok (.getfield 63, 3) := by decide +kernel
theorem dX10_isTask_12 : decode cX10_isTask 12 = .ok (.if_icmp .ge 7, 3) := by decide +kernel
theorem dX10_isTask_15 : decode cX10_isTask 15 = .ok (.iconst 1, 1) := by decide +kernel
theorem dX10_isTask_16 : decode cX10_isTask 16 = .ok (.goto 4, 3) := by decide +kernel
theorem dX10_isTask_19 : decode cX10_isTask 19 = .ok (.iconst 0, 1) := by decide +kernel
theorem dX10_isTask_20 : decode cX10_isTask 20 = .ok (.ireturn, 1) := by decide +kernel
theorem dX10_lay_0 : decode cX10_lay 0 = .ok (.iload_n 1, 1) := by decide +kernel
theorem dX10_lay_1 : decode cX10_lay 1 = .ok (.ifCond .lt 8, 3) := by decide +kernel
theorem dX10_lay_4 : decode cX10_lay 4 = .ok (.iload_n 1, 1) := by decide +kernel
theorem dX10_lay_5 : decode cX10_lay 5 = .ok (.iconst 1, 1) := by decide +kernel
theorem dX10_lay_6 : decode cX10_lay 6 = .ok (.if_icmp .le 5, 3) := by decide +kernel
theorem dX10_lay_9 : decode cX10_lay 9 = .ok (.iconst (-1), 1) := by decide +kernel
theorem dX10_lay_10 : decode cX10_lay 10 = .ok (.ireturn, 1) := by decide +kernel
theorem dX10_lay_11 : decode cX10_lay 11 = .ok (.aload_n 0, 1) := by decide +kernel
theorem dX10_lay_12 : decode cX10_lay 12 = .ok (.getfield 59, 3) := by decide +kernel
theorem dX10_lay_15 : decode cX10_lay 15 = .ok (.iload_n 2, 1) := by decide +kernel
theorem dX10_lay_16 : decode cX10_lay 16 = .ok (.invokevirtual 153, 3) := by decide +kernel
theorem dX10_lay_19 : decode cX10_lay 19 = .ok (.istore 4, 2) := by decide +kernel
theorem dX10_lay_21 : decode cX10_lay 21 = .ok (.iload 4, 2) := by decide +kernel
theorem dX10_lay_23 : decode cX10_lay 23 = .ok (.ifCond .eq 6, 3) := by decide +kernel
theorem dX10_lay_26 : decode cX10_lay 26 = .ok (.iload 4, 2) := by decide +kernel
theorem dX10_lay_28 : decode cX10_lay 28 = .ok (.ireturn, 1) := by decide +kernel
theorem dX10_lay_29 : decode cX10_lay 29 = .ok (.aload_n 0, 1) := by decide +kernel
theorem dX10_lay_30 : decode cX10_lay 30 = .ok (.getfield 52, 3) := by decide +kernel
theorem dX10_lay_33 : decode cX10_lay 33 = .ok (.aload_n 0, 1) := by decide +kernel
theorem dX10_lay_34 : decode cX10_lay 34 = .ok (.getfield 10, 3) := by decide +kernel
theorem dX10_lay_37 : decode cX10_lay 37 = .ok (.aload_n 0, 1) := by decide +kernel
theorem dX10_lay_38 : decode cX10_lay 38 = .ok (.getfield 45, 3) := by decide +kernel
theorem dX10_lay_41 : decode cX10_lay 41 = .ok (.invokevirtual 215, 3) := by decide +kernel
theorem dX10_lay_44 : decode cX10_lay 44 = .ok (.iload_n 1, 1) := by decide +kernel
theorem dX10_lay_45 : decode cX10_lay 45 = .ok (.ifCond .ne 13, 3) := by decide +kernel
theorem dX10_lay_48 : decode cX10_lay 48 = .ok (.aload_n 0, 1) := by decide +kernel
theorem dX10_lay_49 : decode cX10_lay 49 = .ok (.getfield 52, 3) := by decide +kernel
theorem dX10_lay_52 : decode cX10_lay 52 = .ok (.getfield 238, 3) := by decide +kernel
theorem dX10_lay_55 : decode cX10_lay 55 = .ok (.goto 10, 3) := by decide +kernel
theorem dX10_lay_58 : decode cX10_lay 58 = .ok (.aload_n 0, 1) := by decide +kernel
theorem dX10_lay_59 : decode cX10_lay 59 = .ok (.getfield 52, 3) := by decide +kernel
theorem dX10_lay_62 : decode cX10_lay 62 = .ok (.getfield 244, 3) := by decide +kernel
theorem dX10_lay_65 : decode cX10_lay 65 = .ok (.istore 5, 2) := by decide +kernel
theorem dX10_lay_67 : decode cX10_lay 67 = .ok (.aload_n 0, 1) := by decide +kernel
theorem dX10_lay_68 : decode cX10_lay 68 = .ok (.getfield 52, 3) := by decide +kernel
theorem dX10_lay_71 : decode cX10_lay 71 = .ok (.iload 5, 2) := by decide +kernel
theorem dX10_lay_73 : decode cX10_lay 73 = .ok (.invokevirtual 241, 3) := by decide +kernel
theorem dX10_lay_76 : decode cX10_lay 76 = .ok (.istore 6, 2) := by decide +kernel
theorem dX10_lay_78 : decode cX10_lay 78 = .ok (.iload 6, 2) := by decide +kernel
theorem dX10_lay_80 : decode cX10_lay 80 = .ok (.ifCond .gt 6, 3) := by decide +kernel
theorem dX10_lay_83 : decode cX10_lay 83 = .ok (.iload 6, 2) := by decide +kernel
theorem dX10_lay_85 : decode cX10_lay 85 = .ok (.ireturn, 1) := by decide +kernel
theorem dX10_lay_86 : decode cX10_lay 86 = .ok (.iload_n 3, 1) := by decide +kernel
theorem dX10_lay_87 : decode cX10_lay 87 = .ok (.ifCond .ge 6, 3) := by decide +kernel
theorem dX10_lay_90 : decode cX10_lay 90 = .ok (.bipush (-13), 2) := by decide +kernel
theorem dX10_lay_92 : decode cX10_lay 92 = .ok (.ireturn, 1) := by decide +kernel
theorem dX10_lay_93 : decode cX10_lay 93 = .ok (.aload_n 0, 1) := by decide +kernel
theorem dX10_lay_94 : decode cX10_lay 94 = .ok (.getfield 59, 3) := by decide +kernel
theorem dX10_lay_97 : decode cX10_lay 97 = .ok (.getfield 156, 3) := by decide +kernel
theorem dX10_lay_100 : decode cX10_lay 100 = .ok (.iload_n 2, 1) := by decide +kernel
theorem dX10_lay_101 : decode cX10_lay 101 = .ok (.iaload, 1) := by decide +kernel
theorem dX10_lay_102 : decode cX10_lay 102 = .ok (.iload_n 3, 1) := by decide +kernel
theorem dX10_lay_103 : decode cX10_lay 103 = .ok (.isub, 1) := by decide +kernel
theorem dX10_lay_104 : decode cX10_lay 104 = .ok (.istore 7, 2) := by decide +kernel
theorem dX10_lay_106 : decode cX10_lay 106 = .ok (.iconst 0, 1) := by decide +kernel
theorem dX10_lay_107 : decode cX10_lay 107 = .ok (.istore 8, 2) := by decide +kernel
theorem dX10_lay_109 : decode cX10_lay 109 = .ok (.iload 8, 2) := by decide +kernel
theorem dX10_lay_111 : decode cX10_lay 111 = .ok (.iload 6, 2) := by decide +kernel
theorem dX10_lay_113 : decode cX10_lay 113 = .ok (.if_icmp .ge 41, 3) := by decide +kernel
theorem dX10_lay_116 : decode cX10_lay 116 = .ok (.iload 8, 2) := by decide +kernel
theorem dX10_lay_118 : decode cX10_lay 118 = .ok (.iload 7, 2) := by decide +kernel
theorem dX10_lay_120 : decode cX10_lay 120 = .ok (.if_icmp .ge 34, 3) := by decide +kernel
theorem dX10_lay_123 : decode cX10_lay 123 = .ok (.aload_n 0, 1) := by decide +kernel
theorem dX10_lay_124 : decode cX10_lay 124 = .ok (.getfield 59, 3) := by decide +kernel
theorem dX10_lay_127 : decode cX10_lay 127 = .ok (.getfield 159, 3) := by decide +kernel
theorem dX10_lay_130 : decode cX10_lay 130 = .ok (.iload_n 2, 1) := by decide +kernel
theorem dX10_lay_131 : decode cX10_lay 131 = .ok (.aaload, 1) := by decide +kernel
theorem dX10_lay_132 : decode cX10_lay 132 = .ok (.iload_n 3, 1) := by decide +kernel
theorem dX10_lay_133 : decode cX10_lay 133 = .ok (.iload 8, 2) := by decide +kernel
theorem dX10_lay_135 : decode cX10_lay 135 = .ok (.iadd, 1) := by decide +kernel
theorem dX10_lay_136 : decode cX10_lay 136 = .ok (.aload_n 0, 1) := by decide +kernel
theorem dX10_lay_137 : decode cX10_lay 137 = .ok (.getfield 52, 3) := by decide +kernel
theorem dX10_lay_140 : decode cX10_lay 140 = .ok (.iload 5, 2) := by decide +kernel
theorem dX10_lay_142 : decode cX10_lay 142 = .ok (.iload 8, 2) := by decide +kernel
theorem dX10_lay_144 : decode cX10_lay 144 = .ok (.invokevirtual 253, 3) := by decide +kernel
theorem dX10_lay_147 : decode cX10_lay 147 = .ok (.iastore, 1) := by decide +kernel
theorem dX10_lay_148 : decode cX10_lay 148 = .ok (.iinc 8 1, 3) := by decide +kernel
theorem dX10_lay_151 : decode cX10_lay 151 = .ok (.goto (-42), 3) := by decide +kernel
theorem dX10_lay_154 : decode cX10_lay 154 = .ok (.iload 6, 2) := by decide +kernel
theorem dX10_lay_156 : decode cX10_lay 156 = .ok (.iload 7, 2) := by decide +kernel
theorem dX10_lay_158 : decode cX10_lay 158 = .ok (.if_icmp .le 8, 3) := by decide +kernel
theorem dX10_lay_161 : decode cX10_lay 161 = .ok (.bipush (-13), 2) := by decide +kernel
theorem dX10_lay_163 : decode cX10_lay 163 = .ok (.goto 5, 3) := by decide +kernel
theorem dX10_lay_166 : decode cX10_lay 166 = .ok (.iload 6, 2) := by decide +kernel
theorem dX10_lay_168 : decode cX10_lay 168 = .ok (.ireturn, 1) := by decide +kernel
theorem dX10_list_0 : decode cX10_list 0 = .ok (.iload_n 1, 1) := by decide +kernel
theorem dX10_list_1 : decode cX10_list 1 = .ok (.invokestatic 271, 3) := by decide +kernel
theorem dX10_list_4 : decode cX10_list 4 = .ok (.ifCond .ne 5, 3) := by decide +kernel
theorem dX10_list_7 : decode cX10_list 7 = .ok (.iconst (-1), 1) := by decide +kernel
theorem dX10_list_8 : decode cX10_list 8 = .ok (.ireturn, 1) := by decide +kernel
theorem dX10_list_9 : decode cX10_list 9 = .ok (.iload_n 2, 1) := by decide +kernel
theorem dX10_list_10 : decode cX10_list 10 = .ok (.bipush 40, 2) := by decide +kernel
theorem dX10_list_12 : decode cX10_list 12 = .ok (.if_icmp .le 6, 3) := by decide +kernel
theorem dX10_list_15 : decode cX10_list 15 = .ok (.bipush (-2), 2) := by decide +kernel
theorem dX10_list_17 : decode cX10_list 17 = .ok (.ireturn, 1) := by decide +kernel
theorem dX10_list_18 : decode cX10_list 18 = .ok (.iload_n 2, 1) := by decide +kernel
theorem dX10_list_19 : decode cX10_list 19 = .ok (.ifCond .ge 6, 3) := by decide +kernel
theorem dX10_list_22 : decode cX10_list 22 = .ok (.bipush (-14), 2) := by decide +kernel
theorem dX10_list_24 : decode cX10_list 24 = .ok (.ireturn, 1) := by decide +kernel
theorem dX10_list_25 : decode cX10_list 25 = .ok (.aload_n 0, 1) := by decide +kernel
theorem dX10_list_26 : decode cX10_list 26 = .ok (.getfield 59, 3) := by decide +kernel
theorem dX10_list_29 : decode cX10_list 29 = .ok (.iload_n 1, 1) := by decide +kernel
theorem dX10_list_30 : decode cX10_list 30 = .ok (.iload_n 2, 1) := by decide +kernel
theorem dX10_list_31 : decode cX10_list 31 = .ok (.invokevirtual 274, 3) := by decide +kernel
theorem dX10_list_34 : decode cX10_list 34 = .ok (.iconst 1, 1) := by decide +kernel
theorem dX10_list_35 : decode cX10_list 35 = .ok (.ireturn, 1) := by decide +kernel
theorem dX10_missing_0 : decode cX10_missing 0 = .ok (.iload_n 1, 1) := by decide +kernel
theorem dX10_missing_1 : decode cX10_missing 1 = .ok (.invokestatic 77, 3) := by decide +kernel
theorem dX10_missing_4 : decode cX10_missing 4 = .ok (.ifCond .ne 5, 3) := by decide +kernel
theorem dX10_missing_7 : decode cX10_missing 7 = .ok (.iconst (-1), 1) := by decide +kernel
theorem dX10_missing_8 : decode cX10_missing 8 = .ok (.ireturn, 1) := by decide +kernel
theorem dX10_missing_9 : decode cX10_missing 9 = .ok (.aload_n 0, 1) := by decide +kernel
theorem dX10_missing_10 : decode cX10_missing 10 = .ok (.getfield 10, 3) := by decide +kernel
theorem dX10_missing_13 : decode cX10_missing 13 = .ok (.iload_n 1, 1) := by decide +kernel
theorem dX10_missing_14 : decode cX10_missing 14 = .ok (.invokevirtual 81, 3) := by decide +kernel
theorem dX10_missing_17 : decode cX10_missing 17 = .ok (.ifCond .eq 6, 3) := by decide +kernel
theorem dX10_missing_20 : decode cX10_missing 20 = .ok (.bipush (-3), 2) := by decide +kernel
theorem dX10_missing_22 : decode cX10_missing 22 = .ok (.ireturn, 1) := by decide +kernel
theorem dX10_missing_23 : decode cX10_missing 23 = .ok (.aload_n 0, 1) := by decide +kernel
theorem dX10_missing_24 : decode cX10_missing 24 = .ok (.getfield 10, 3) := by decide +kernel
theorem dX10_missing_27 : decode cX10_missing 27 = .ok (.getfield 84, 3) := by decide +kernel
theorem dX10_missing_30 : decode cX10_missing 30 = .ok (.iload_n 1, 1) := by decide +kernel
theorem dX10_missing_31 : decode cX10_missing 31 = .ok (.baload, 1) := by decide +kernel
theorem dX10_missing_32 : decode cX10_missing 32 = .ok (.istore_n 3, 1) := by decide +kernel
theorem dX10_missing_33 : decode cX10_missing 33 = .ok (.aload_n 0, 1) := by decide +kernel
theorem dX10_missing_34 : decode cX10_missing 34 = .ok (.getfield 52, 3) := by decide +kernel
theorem dX10_missing_37 : decode cX10_missing 37 = .ok (.invokevirtual 67, 3) := by decide +kernel
theorem dX10_missing_40 : decode cX10_missing 40 = .ok (.aload_n 0, 1) := by decide +kernel
theorem dX10_missing_41 : decode cX10_missing 41 = .ok (.getfield 10, 3) := by decide +kernel
theorem dX10_missing_44 : decode cX10_missing 44 = .ok (.getfield 84, 3) := by decide +kernel
theorem dX10_missing_47 : decode cX10_missing 47 = .ok (.iload_n 1, 1) := by decide +kernel
theorem dX10_missing_48 : decode cX10_missing 48 = .ok (.iload_n 2, 1) := by decide +kernel
theorem dX10_missing_49 : decode cX10_missing 49 = .ok (.bastore, 1) := by decide +kernel
theorem dX10_missing_50 : decode cX10_missing 50 = .ok (.iload_n 3, 1) := by decide +kernel
theorem dX10_missing_51 : decode cX10_missing 51 = .ok (.invokestatic 88, 3) := by decide +kernel
theorem dX10_missing_54 : decode cX10_missing 54 = .ok (.ireturn, 1) := by decide +kernel
theorem dX10_of_0 : decode cX10_of 0 = .ok (.aload_n 0, 1) := by decide +kernel
theorem dX10_of_1 : decode cX10_of 1 = .ok (.iload_n 1, 1) := by decide +kernel
theorem dX10_of_2 : decode cX10_of 2 = .ok (.invokevirtual 111, 3) := by decide +kernel
theorem dX10_of_5 : decode cX10_of 5 = .ok (.ifCond .ne 5, 3) := by decide +kernel
theorem dX10_of_8 : decode cX10_of 8 = .ok (.iconst (-1), 1) := by decide +kernel
theorem dX10_of_9 : decode cX10_of 9 = .ok (.ireturn, 1) := by decide +kernel
theorem dX10_of_10 : decode cX10_of 10 = .ok (.iload_n 2, 1) := by decide +kernel
theorem dX10_of_11 : decode cX10_of 11 = .ok (.tableswitch 109 0 6 #[41, 51, 61, 71, 80, 90, 100], 41) := by decide +kernel
theorem dX10_of_52 : decode cX10_of 52 = .ok (.aload_n 0, 1) := by decide +kernel
theorem dX10_of_53 : decode cX10_of 53 = .ok (.getfield 10, 3) := by decide +kernel
theorem dX10_of_56 : decode cX10_of 56 = .ok (.getfield 117, 3) := by decide +kernel
theorem dX10_of_59 : decode cX10_of 59 = .ok (.iload_n 1, 1) := by decide +kernel
theorem dX10_of_60 : decode cX10_of 60 = .ok (.iaload, 1) := by decide +kernel
theorem dX10_of_61 : decode cX10_of 61 = .ok (.ireturn, 1) := by decide +kernel
theorem dX10_of_62 : decode cX10_of 62 = .ok (.aload_n 0, 1) := by decide +kernel
theorem dX10_of_63 : decode cX10_of 63 = .ok (.getfield 10, 3) := by decide +kernel
theorem dX10_of_66 : decode cX10_of 66 = .ok (.getfield 114, 3) := by decide +kernel
theorem dX10_of_69 : decode cX10_of 69 = .ok (.iload_n 1, 1) := by decide +kernel
theorem dX10_of_70 : decode cX10_of 70 = .ok (.iaload, 1) := by decide +kernel
theorem dX10_of_71 : decode cX10_of 71 = .ok (.ireturn, 1) := by decide +kernel
theorem dX10_of_72 : decode cX10_of 72 = .ok (.aload_n 0, 1) := by decide +kernel
theorem dX10_of_73 : decode cX10_of 73 = .ok (.getfield 10, 3) := by decide +kernel
theorem dX10_of_76 : decode cX10_of 76 = .ok (.getfield 163, 3) := by decide +kernel
theorem dX10_of_79 : decode cX10_of 79 = .ok (.iload_n 1, 1) := by decide +kernel
theorem dX10_of_80 : decode cX10_of 80 = .ok (.iaload, 1) := by decide +kernel
theorem dX10_of_81 : decode cX10_of 81 = .ok (.ireturn, 1) := by decide +kernel
theorem dX10_of_82 : decode cX10_of 82 = .ok (.aload_n 0, 1) := by decide +kernel
theorem dX10_of_83 : decode cX10_of 83 = .ok (.getfield 10, 3) := by decide +kernel
theorem dX10_of_86 : decode cX10_of 86 = .ok (.iload_n 1, 1) := by decide +kernel
theorem dX10_of_87 : decode cX10_of 87 = .ok (.invokevirtual 166, 3) := by decide +kernel
theorem dX10_of_90 : decode cX10_of 90 = .ok (.ireturn, 1) := by decide +kernel
theorem dX10_of_91 : decode cX10_of 91 = .ok (.aload_n 0, 1) := by decide +kernel
theorem dX10_of_92 : decode cX10_of 92 = .ok (.getfield 10, 3) := by decide +kernel
theorem dX10_of_95 : decode cX10_of 95 = .ok (.getfield 169, 3) := by decide +kernel
theorem dX10_of_98 : decode cX10_of 98 = .ok (.iload_n 1, 1) := by decide +kernel
theorem dX10_of_99 : decode cX10_of 99 = .ok (.iaload, 1) := by decide +kernel
theorem dX10_of_100 : decode cX10_of 100 = .ok (.ireturn, 1) := by decide +kernel
theorem dX10_of_101 : decode cX10_of 101 = .ok (.aload_n 0, 1) := by decide +kernel
theorem dX10_of_102 : decode cX10_of 102 = .ok (.getfield 10, 3) := by decide +kernel
theorem dX10_of_105 : decode cX10_of 105 = .ok (.getfield 172, 3) := by decide +kernel
theorem dX10_of_108 : decode cX10_of 108 = .ok (.iload_n 1, 1) := by decide +kernel
theorem dX10_of_109 : decode cX10_of 109 = .ok (.iaload, 1) := by decide +kernel
theorem dX10_of_110 : decode cX10_of 110 = .ok (.ireturn, 1) := by decide +kernel
theorem dX10_of_111 : decode cX10_of 111 = .ok (.aload_n 0, 1) := by decide +kernel
theorem dX10_of_112 : decode cX10_of 112 = .ok (.getfield 10, 3) := by decide +kernel
theorem dX10_of_115 : decode cX10_of 115 = .ok (.iload_n 1, 1) := by decide +kernel
theorem dX10_of_116 : decode cX10_of 116 = .ok (.invokevirtual 175, 3) := by decide +kernel
theorem dX10_of_119 : decode cX10_of 119 = .ok (.ireturn, 1) := by decide +kernel
theorem dX10_of_120 : decode cX10_of 120 = .ok (.iconst (-1), 1) := by decide +kernel
theorem dX10_of_121 : decode cX10_of 121 = .ok (.ireturn, 1) := by decide +kernel
theorem dX10_outcome_0 : decode cX10_outcome 0 = .ok (.iload_n 1, 1) := by decide +kernel
theorem dX10_outcome_1 : decode cX10_outcome 1 = .ok (.ifCond .lt 10, 3) := by decide +kernel
theorem dX10_outcome_4 : decode cX10_outcome 4 = .ok (.iload_n 2, 1) := by decide +kernel
theorem dX10_outcome_5 : decode cX10_outcome 5 = .ok (.invokestatic 92, 3) := by decide +kernel
theorem dX10_outcome_8 : decode cX10_outcome 8 = .ok (.ifCond .ne 6, 3) := by decide +kernel
theorem dX10_outcome_11 : decode cX10_outcome 11 = .ok (.bipush (-100), 2) := by decide +kernel
theorem dX10_outcome_13 : decode cX10_outcome 13 = .ok (.ireturn, 1) := by decide +kernel
theorem dX10_outcome_14 : decode cX10_outcome 14 = .ok (.aload_n 0, 1) := by decide +kernel
theorem dX10_outcome_15 : decode cX10_outcome 15 = .ok (.getfield 52, 3) := by decide +kernel
theorem dX10_outcome_18 : decode cX10_outcome 18 = .ok (.aload_n 0, 1) := by decide +kernel
theorem dX10_outcome_19 : decode cX10_outcome 19 = .ok (.getfield 10, 3) := by decide +kernel
theorem dX10_outcome_22 : decode cX10_outcome 22 = .ok (.aload_n 0, 1) := by decide +kernel
theorem dX10_outcome_23 : decode cX10_outcome 23 = .ok (.getfield 45, 3) := by decide +kernel
theorem dX10_outcome_26 : decode cX10_outcome 26 = .ok (.invokevirtual 215, 3) := by decide +kernel
theorem dX10_outcome_29 : decode cX10_outcome 29 = .ok (.aload_n 0, 1) := by decide +kernel
theorem dX10_outcome_30 : decode cX10_outcome 30 = .ok (.getfield 52, 3) := by decide +kernel
theorem dX10_outcome_33 : decode cX10_outcome 33 = .ok (.iload_n 1, 1) := by decide +kernel
theorem dX10_outcome_34 : decode cX10_outcome 34 = .ok (.iload_n 2, 1) := by decide +kernel
theorem dX10_outcome_35 : decode cX10_outcome 35 = .ok (.invokevirtual 256, 3) := by decide +kernel
theorem dX10_outcome_38 : decode cX10_outcome 38 = .ok (.ireturn, 1) := by decide +kernel
theorem dX10_program_0 : decode cX10_program 0 = .ok (.aload_n 0, 1) := by decide +kernel
theorem dX10_program_1 : decode cX10_program 1 = .ok (.iload_n 1, 1) := by decide +kernel
theorem dX10_program_2 : decode cX10_program 2 = .ok (.invokevirtual 111, 3) := by decide +kernel
theorem dX10_program_5 : decode cX10_program 5 = .ok (.ifCond .ne 5, 3) := by decide +kernel
theorem dX10_program_8 : decode cX10_program 8 = .ok (.iconst (-1), 1) := by decide +kernel
theorem dX10_program_9 : decode cX10_program 9 = .ok (.ireturn, 1) := by decide +kernel
theorem dX10_program_10 : decode cX10_program 10 = .ok (.aload_n 0, 1) := by decide +kernel
theorem dX10_program_11 : decode cX10_program 11 = .ok (.getfield 10, 3) := by decide +kernel
theorem dX10_program_14 : decode cX10_program 14 = .ok (.getfield 114, 3) := by decide +kernel
theorem dX10_program_17 : decode cX10_program 17 = .ok (.iload_n 1, 1) := by decide +kernel
theorem dX10_program_18 : decode cX10_program 18 = .ok (.iaload, 1) := by decide +kernel
theorem dX10_program_19 : decode cX10_program 19 = .ok (.ifCond .ne 15, 3) := by decide +kernel
theorem dX10_program_22 : decode cX10_program 22 = .ok (.aload_n 0, 1) := by decide +kernel
theorem dX10_program_23 : decode cX10_program 23 = .ok (.getfield 10, 3) := by decide +kernel
theorem dX10_program_26 : decode cX10_program 26 = .ok (.getfield 117, 3) := by decide +kernel
theorem dX10_program_29 : decode cX10_program 29 = .ok (.iload_n 1, 1) := by decide +kernel
theorem dX10_program_30 : decode cX10_program 30 = .ok (.iaload, 1) := by decide +kernel
theorem dX10_program_31 : decode cX10_program 31 = .ok (.ifCond .eq 6, 3) := by decide +kernel
theorem dX10_program_34 : decode cX10_program 34 = .ok (.bipush (-3), 2) := by decide +kernel
theorem dX10_program_36 : decode cX10_program 36 = .ok (.ireturn, 1) := by decide +kernel
theorem dX10_program_37 : decode cX10_program 37 = .ok (.aload_n 0, 1) := by decide +kernel
theorem dX10_program_38 : decode cX10_program 38 = .ok (.getfield 26, 3) := by decide +kernel
theorem dX10_program_41 : decode cX10_program 41 = .ok (.invokevirtual 120, 3) := by decide +kernel
theorem dX10_program_44 : decode cX10_program 44 = .ok (.istore_n 2, 1) := by decide +kernel
theorem dX10_program_45 : decode cX10_program 45 = .ok (.aload_n 0, 1) := by decide +kernel
theorem dX10_program_46 : decode cX10_program 46 = .ok (.getfield 34, 3) := by decide +kernel
theorem dX10_program_49 : decode cX10_program 49 = .ok (.iconst 0, 1) := by decide +kernel
theorem dX10_program_50 : decode cX10_program 50 = .ok (.putfield 102, 3) := by decide +kernel
theorem dX10_program_53 : decode cX10_program 53 = .ok (.iload_n 2, 1) := by decide +kernel
theorem dX10_program_54 : decode cX10_program 54 = .ok (.iconst (-1), 1) := by decide +kernel
theorem dX10_program_55 : decode cX10_program 55 = .ok (.if_icmp .eq 27, 3) := by decide +kernel
theorem dX10_program_58 : decode cX10_program 58 = .ok (.aload_n 0, 1) := by decide +kernel
theorem dX10_program_59 : decode cX10_program 59 = .ok (.getfield 38, 3) := by decide +kernel
theorem dX10_program_62 : decode cX10_program 62 = .ok (.iload_n 1, 1) := by decide +kernel
theorem dX10_program_63 : decode cX10_program 63 = .ok (.aload_n 0, 1) := by decide +kernel
theorem dX10_program_64 : decode cX10_program 64 = .ok (.getfield 26, 3) := by decide +kernel
theorem dX10_program_67 : decode cX10_program 67 = .ok (.getfield 123, 3) := by decide +kernel
theorem dX10_program_70 : decode cX10_program 70 = .ok (.getfield 127, 3) := by decide +kernel
theorem dX10_program_73 : decode cX10_program 73 = .ok (.iload_n 2, 1) := by decide +kernel
theorem dX10_program_74 : decode cX10_program 74 = .ok (.invokevirtual 130, 3) := by decide +kernel
theorem dX10_program_77 : decode cX10_program 77 = .ok (.bipush (-100), 2) := by decide +kernel
theorem dX10_program_79 : decode cX10_program 79 = .ok (.iload_n 2, 1) := by decide +kernel
theorem dX10_program_80 : decode cX10_program 80 = .ok (.isub, 1) := by decide +kernel
theorem dX10_program_81 : decode cX10_program 81 = .ok (.ireturn, 1) := by decide +kernel
theorem dX10_program_82 : decode cX10_program 82 = .ok (.aload_n 0, 1) := by decide +kernel
theorem dX10_program_83 : decode cX10_program 83 = .ok (.getfield 52, 3) := by decide +kernel
theorem dX10_program_86 : decode cX10_program 86 = .ok (.invokevirtual 67, 3) := by decide +kernel
theorem dX10_program_89 : decode cX10_program 89 = .ok (.aload_n 0, 1) := by decide +kernel
theorem dX10_program_90 : decode cX10_program 90 = .ok (.getfield 10, 3) := by decide +kernel
theorem dX10_program_93 : decode cX10_program 93 = .ok (.getfield 134, 3) := by decide +kernel
theorem dX10_program_96 : decode cX10_program 96 = .ok (.iload_n 1, 1) := by decide +kernel
theorem dX10_program_97 : decode cX10_program 97 = .ok (.aaload, 1) := by decide +kernel
theorem dX10_program_98 : decode cX10_program 98 = .ok (.aload_n 0, 1) := by decide +kernel
theorem dX10_program_99 : decode cX10_program 99 = .ok (.getfield 26, 3) := by decide +kernel
theorem dX10_program_102 : decode cX10_program 102 = .ok (.getfield 123, 3) := by decide +kernel
theorem dX10_program_105 : decode cX10_program 105 = .ok (.invokevirtual 138, 3) := by decide +kernel
theorem dX10_program_108 : decode cX10_program 108 = .ok (.aload_n 0, 1) := by decide +kernel
theorem dX10_program_109 : decode cX10_program 109 = .ok (.getfield 10, 3) := by decide +kernel
theorem dX10_program_112 : decode cX10_program 112 = .ok (.getfield 134, 3) := by decide +kernel
theorem dX10_program_115 : decode cX10_program 115 = .ok (.iload_n 1, 1) := by decide +kernel
theorem dX10_program_116 : decode cX10_program 116 = .ok (.aaload, 1) := by decide +kernel
theorem dX10_program_117 : decode cX10_program 117 = .ok (.getfield 127, 3) := by decide +kernel
theorem dX10_program_120 : decode cX10_program 120 = .ok (.ireturn, 1) := by decide +kernel
theorem dX10_put_0 : decode cX10_put 0 = .ok (.iload_n 1, 1) := by decide +kernel
theorem dX10_put_1 : decode cX10_put 1 = .ok (.invokestatic 92, 3) := by decide +kernel
theorem dX10_put_4 : decode cX10_put 4 = .ok (.ifCond .eq 10, 3) := by decide +kernel
theorem dX10_put_7 : decode cX10_put 7 = .ok (.iload_n 2, 1) := by decide +kernel
theorem dX10_put_8 : decode cX10_put 8 = .ok (.invokestatic 95, 3) := by decide +kernel
theorem dX10_put_11 : decode cX10_put 11 = .ok (.ifCond .ne 6, 3) := by decide +kernel
theorem dX10_put_14 : decode cX10_put 14 = .ok (.bipush (-100), 2) := by decide +kernel
theorem dX10_put_16 : decode cX10_put 16 = .ok (.ireturn, 1) := by decide +kernel
theorem dX10_put_17 : decode cX10_put 17 = .ok (.aload_n 0, 1) := by decide +kernel
theorem dX10_put_18 : decode cX10_put 18 = .ok (.getfield 10, 3) := by decide +kernel
theorem dX10_put_21 : decode cX10_put 21 = .ok (.getfield 98, 3) := by decide +kernel
theorem dX10_put_24 : decode cX10_put 24 = .ok (.iload_n 1, 1) := by decide +kernel
theorem dX10_put_25 : decode cX10_put 25 = .ok (.iaload, 1) := by decide +kernel
theorem dX10_put_26 : decode cX10_put 26 = .ok (.istore_n 3, 1) := by decide +kernel
theorem dX10_put_27 : decode cX10_put 27 = .ok (.aload_n 0, 1) := by decide +kernel
theorem dX10_put_28 : decode cX10_put 28 = .ok (.getfield 52, 3) := by decide +kernel
theorem dX10_put_31 : decode cX10_put 31 = .ok (.invokevirtual 67, 3) := by decide +kernel
theorem dX10_put_34 : decode cX10_put 34 = .ok (.aload_n 0, 1) := by decide +kernel
theorem dX10_put_35 : decode cX10_put 35 = .ok (.getfield 10, 3) := by decide +kernel
theorem dX10_put_38 : decode cX10_put 38 = .ok (.getfield 98, 3) := by decide +kernel
theorem dX10_put_41 : decode cX10_put 41 = .ok (.iload_n 1, 1) := by decide +kernel
theorem dX10_put_42 : decode cX10_put 42 = .ok (.iload_n 2, 1) := by decide +kernel
theorem dX10_put_43 : decode cX10_put 43 = .ok (.iastore, 1) := by decide +kernel
theorem dX10_put_44 : decode cX10_put 44 = .ok (.iload_n 3, 1) := by decide +kernel
theorem dX10_put_45 : decode cX10_put 45 = .ok (.ireturn, 1) := by decide +kernel
theorem dX10_restart_0 : decode cX10_restart 0 = .ok (.aload_n 0, 1) := by decide +kernel
theorem dX10_restart_1 : decode cX10_restart 1 = .ok (.getfield 52, 3) := by decide +kernel
theorem dX10_restart_4 : decode cX10_restart 4 = .ok (.invokevirtual 67, 3) := by decide +kernel
theorem dX10_restart_7 : decode cX10_restart 7 = .ok (.aload_n 0, 1) := by decide +kernel
theorem dX10_restart_8 : decode cX10_restart 8 = .ok (.getfield 10, 3) := by decide +kernel
theorem dX10_restart_11 : decode cX10_restart 11 = .ok (.invokevirtual 74, 3) := by decide +kernel
theorem dX10_restart_14 : decode cX10_restart 14 = .ok (.aload_n 0, 1) := by decide +kernel
theorem dX10_restart_15 : decode cX10_restart 15 = .ok (.getfield 10, 3) := by decide +kernel
theorem dX10_restart_18 : decode cX10_restart 18 = .ok (.getfield 63, 3) := by decide +kernel
theorem dX10_restart_21 : decode cX10_restart 21 = .ok (.ireturn, 1) := by decide +kernel
theorem dX10_round_0 : decode cX10_round 0 = .ok (.aload_n 0, 1) := by decide +kernel
theorem dX10_round_1 : decode cX10_round 1 = .ok (.getfield 52, 3) := by decide +kernel
theorem dX10_round_4 : decode cX10_round 4 = .ok (.aload_n 0, 1) := by decide +kernel
theorem dX10_round_5 : decode cX10_round 5 = .ok (.getfield 10, 3) := by decide +kernel
theorem dX10_round_8 : decode cX10_round 8 = .ok (.aload_n 0, 1) := by decide +kernel
theorem dX10_round_9 : decode cX10_round 9 = .ok (.getfield 45, 3) := by decide +kernel
theorem dX10_round_12 : decode cX10_round 12 = .ok (.invokevirtual 215, 3) := by decide +kernel
theorem dX10_round_15 : decode cX10_round 15 = .ok (.aload_n 0, 1) := by decide +kernel
theorem dX10_round_16 : decode cX10_round 16 = .ok (.getfield 52, 3) := by decide +kernel
theorem dX10_round_19 : decode cX10_round 19 = .ok (.invokevirtual 262, 3) := by decide +kernel
theorem dX10_round_22 : decode cX10_round 22 = .ok (.invokestatic 88, 3) := by decide +kernel
theorem dX10_round_25 : decode cX10_round 25 = .ok (.ireturn, 1) := by decide +kernel
theorem dX10_run_0 : decode cX10_run 0 = .ok (.iload_n 1, 1) := by decide +kernel
theorem dX10_run_1 : decode cX10_run 1 = .ok (.ifCond .lt 8, 3) := by decide +kernel
theorem dX10_run_4 : decode cX10_run 4 = .ok (.iload_n 1, 1) := by decide +kernel
theorem dX10_run_5 : decode cX10_run 5 = .ok (.iconst 2, 1) := by decide +kernel
theorem dX10_run_6 : decode cX10_run 6 = .ok (.if_icmp .le 5, 3) := by decide +kernel
theorem dX10_run_9 : decode cX10_run 9 = .ok (.iconst (-1), 1) := by decide +kernel
theorem dX10_run_10 : decode cX10_run 10 = .ok (.ireturn, 1) := by decide +kernel
theorem dX10_run_11 : decode cX10_run 11 = .ok (.iload_n 2, 1) := by decide +kernel
theorem dX10_run_12 : decode cX10_run 12 = .ok (.ifCond .lt 9, 3) := by decide +kernel
theorem dX10_run_15 : decode cX10_run 15 = .ok (.iload_n 2, 1) := by decide +kernel
theorem dX10_run_16 : decode cX10_run 16 = .ok (.bipush 40, 2) := by decide +kernel
theorem dX10_run_18 : decode cX10_run 18 = .ok (.if_icmp .le 6, 3) := by decide +kernel
theorem dX10_run_21 : decode cX10_run 21 = .ok (.bipush (-2), 2) := by decide +kernel
theorem dX10_run_23 : decode cX10_run 23 = .ok (.ireturn, 1) := by decide +kernel
theorem dX10_run_24 : decode cX10_run 24 = .ok (.iconst 0, 1) := by decide +kernel
theorem dX10_run_25 : decode cX10_run 25 = .ok (.istore_n 3, 1) := by decide +kernel
theorem dX10_run_26 : decode cX10_run 26 = .ok (.iload_n 3, 1) := by decide +kernel
theorem dX10_run_27 : decode cX10_run 27 = .ok (.iload_n 2, 1) := by decide +kernel
theorem dX10_run_28 : decode cX10_run 28 = .ok (.if_icmp .ge 36, 3) := by decide +kernel
theorem dX10_run_31 : decode cX10_run 31 = .ok (.aload_n 0, 1) := by decide +kernel
theorem dX10_run_32 : decode cX10_run 32 = .ok (.getfield 10, 3) := by decide +kernel
theorem dX10_run_35 : decode cX10_run 35 = .ok (.iload_n 1, 1) := by decide +kernel
theorem dX10_run_36 : decode cX10_run 36 = .ok (.invokevirtual 149, 3) := by decide +kernel
theorem dX10_run_39 : decode cX10_run 39 = .ok (.istore 4, 2) := by decide +kernel
theorem dX10_run_41 : decode cX10_run 41 = .ok (.aload_n 0, 1) := by decide +kernel
theorem dX10_run_42 : decode cX10_run 42 = .ok (.iload 4, 2) := by decide +kernel
theorem dX10_run_44 : decode cX10_run 44 = .ok (.invokevirtual 111, 3) := by decide +kernel
theorem dX10_run_47 : decode cX10_run 47 = .ok (.ifCond .ne 5, 3) := by decide +kernel
theorem dX10_run_50 : decode cX10_run 50 = .ok (.iload_n 3, 1) := by decide +kernel
theorem dX10_run_51 : decode cX10_run 51 = .ok (.ireturn, 1) := by decide +kernel
theorem dX10_run_52 : decode cX10_run 52 = .ok (.aload_n 0, 1) := by decide +kernel
theorem dX10_run_53 : decode cX10_run 53 = .ok (.iload 4, 2) := by decide +kernel
theorem dX10_run_55 : decode cX10_run 55 = .ok (.invokevirtual 146, 3) := by decide +kernel
theorem dX10_run_58 : decode cX10_run 58 = .ok (.iinc 3 1, 3) := by decide +kernel
theorem dX10_run_61 : decode cX10_run 61 = .ok (.goto (-35), 3) := by decide +kernel
theorem dX10_run_64 : decode cX10_run 64 = .ok (.iload_n 2, 1) := by decide +kernel
theorem dX10_run_65 : decode cX10_run 65 = .ok (.ireturn, 1) := by decide +kernel
theorem dX10_schedule_0 : decode cX10_schedule 0 = .ok (.iload_n 1, 1) := by decide +kernel
theorem dX10_schedule_1 : decode cX10_schedule 1 = .ok (.ifCond .lt 8, 3) := by decide +kernel
theorem dX10_schedule_4 : decode cX10_schedule 4 = .ok (.iload_n 1, 1) := by decide +kernel
theorem dX10_schedule_5 : decode cX10_schedule 5 = .ok (.iconst 1, 1) := by decide +kernel
theorem dX10_schedule_6 : decode cX10_schedule 6 = .ok (.if_icmp .le 5, 3) := by decide +kernel
theorem dX10_schedule_9 : decode cX10_schedule 9 = .ok (.iconst (-1), 1) := by decide +kernel
theorem dX10_schedule_10 : decode cX10_schedule 10 = .ok (.ireturn, 1) := by decide +kernel
theorem dX10_schedule_11 : decode cX10_schedule 11 = .ok (.aload_n 0, 1) := by decide +kernel
theorem dX10_schedule_12 : decode cX10_schedule 12 = .ok (.getfield 52, 3) := by decide +kernel
theorem dX10_schedule_15 : decode cX10_schedule 15 = .ok (.aload_n 0, 1) := by decide +kernel
theorem dX10_schedule_16 : decode cX10_schedule 16 = .ok (.getfield 10, 3) := by decide +kernel
theorem dX10_schedule_19 : decode cX10_schedule 19 = .ok (.aload_n 0, 1) := by decide +kernel
theorem dX10_schedule_20 : decode cX10_schedule 20 = .ok (.getfield 45, 3) := by decide +kernel
theorem dX10_schedule_23 : decode cX10_schedule 23 = .ok (.invokevirtual 215, 3) := by decide +kernel
theorem dX10_schedule_26 : decode cX10_schedule 26 = .ok (.aload_n 0, 1) := by decide +kernel
theorem dX10_schedule_27 : decode cX10_schedule 27 = .ok (.getfield 52, 3) := by decide +kernel
theorem dX10_schedule_30 : decode cX10_schedule 30 = .ok (.iload_n 1, 1) := by decide +kernel
theorem dX10_schedule_31 : decode cX10_schedule 31 = .ok (.ifCond .ne 13, 3) := by decide +kernel
theorem dX10_schedule_34 : decode cX10_schedule 34 = .ok (.aload_n 0, 1) := by decide +kernel
theorem dX10_schedule_35 : decode cX10_schedule 35 = .ok (.getfield 52, 3) := by decide +kernel
theorem dX10_schedule_38 : decode cX10_schedule 38 = .ok (.getfield 238, 3) := by decide +kernel
theorem dX10_schedule_41 : decode cX10_schedule 41 = .ok (.goto 10, 3) := by decide +kernel
theorem dX10_schedule_44 : decode cX10_schedule 44 = .ok (.aload_n 0, 1) := by decide +kernel
theorem dX10_schedule_45 : decode cX10_schedule 45 = .ok (.getfield 52, 3) := by decide +kernel
theorem dX10_schedule_48 : decode cX10_schedule 48 = .ok (.getfield 244, 3) := by decide +kernel
theorem dX10_schedule_51 : decode cX10_schedule 51 = .ok (.iload_n 2, 1) := by decide +kernel
theorem dX10_schedule_52 : decode cX10_schedule 52 = .ok (.invokevirtual 253, 3) := by decide +kernel
theorem dX10_schedule_55 : decode cX10_schedule 55 = .ok (.istore_n 3, 1) := by decide +kernel
theorem dX10_schedule_56 : decode cX10_schedule 56 = .ok (.iload_n 3, 1) := by decide +kernel
theorem dX10_schedule_57 : decode cX10_schedule 57 = .ok (.iconst (-1), 1) := by decide +kernel
theorem dX10_schedule_58 : decode cX10_schedule 58 = .ok (.if_icmp .ne 7, 3) := by decide +kernel
theorem dX10_schedule_61 : decode cX10_schedule 61 = .ok (.iconst (-1), 1) := by decide +kernel
theorem dX10_schedule_62 : decode cX10_schedule 62 = .ok (.goto 4, 3) := by decide +kernel
theorem dX10_schedule_65 : decode cX10_schedule 65 = .ok (.iload_n 3, 1) := by decide +kernel
theorem dX10_schedule_66 : decode cX10_schedule 66 = .ok (.ireturn, 1) := by decide +kernel
theorem dX10_set_0 : decode cX10_set 0 = .ok (.aload_n 0, 1) := by decide +kernel
theorem dX10_set_1 : decode cX10_set 1 = .ok (.getfield 59, 3) := by decide +kernel
theorem dX10_set_4 : decode cX10_set 4 = .ok (.iload_n 1, 1) := by decide +kernel
theorem dX10_set_5 : decode cX10_set 5 = .ok (.invokevirtual 153, 3) := by decide +kernel
theorem dX10_set_8 : decode cX10_set 8 = .ok (.istore 4, 2) := by decide +kernel
theorem dX10_set_10 : decode cX10_set 10 = .ok (.iload 4, 2) := by decide +kernel
theorem dX10_set_12 : decode cX10_set 12 = .ok (.ifCond .eq 6, 3) := by decide +kernel
theorem dX10_set_15 : decode cX10_set 15 = .ok (.iload 4, 2) := by decide +kernel
theorem dX10_set_17 : decode cX10_set 17 = .ok (.ireturn, 1) := by decide +kernel
theorem dX10_set_18 : decode cX10_set 18 = .ok (.aload_n 0, 1) := by decide +kernel
theorem dX10_set_19 : decode cX10_set 19 = .ok (.getfield 59, 3) := by decide +kernel
theorem dX10_set_22 : decode cX10_set 22 = .ok (.iload_n 1, 1) := by decide +kernel
theorem dX10_set_23 : decode cX10_set 23 = .ok (.iload_n 2, 1) := by decide +kernel
theorem dX10_set_24 : decode cX10_set 24 = .ok (.invokevirtual 278, 3) := by decide +kernel
theorem dX10_set_27 : decode cX10_set 27 = .ok (.ifCond .ne 6, 3) := by decide +kernel
theorem dX10_set_30 : decode cX10_set 30 = .ok (.bipush (-13), 2) := by decide +kernel
theorem dX10_set_32 : decode cX10_set 32 = .ok (.ireturn, 1) := by decide +kernel
theorem dX10_set_33 : decode cX10_set 33 = .ok (.aload_n 0, 1) := by decide +kernel
theorem dX10_set_34 : decode cX10_set 34 = .ok (.getfield 59, 3) := by decide +kernel
theorem dX10_set_37 : decode cX10_set 37 = .ok (.getfield 159, 3) := by decide +kernel
theorem dX10_set_40 : decode cX10_set 40 = .ok (.iload_n 1, 1) := by decide +kernel
theorem dX10_set_41 : decode cX10_set 41 = .ok (.aaload, 1) := by decide +kernel
theorem dX10_set_42 : decode cX10_set 42 = .ok (.iload_n 2, 1) := by decide +kernel
theorem dX10_set_43 : decode cX10_set 43 = .ok (.iload_n 3, 1) := by decide +kernel
theorem dX10_set_44 : decode cX10_set 44 = .ok (.iastore, 1) := by decide +kernel
theorem dX10_set_45 : decode cX10_set 45 = .ok (.iconst 1, 1) := by decide +kernel
theorem dX10_set_46 : decode cX10_set 46 = .ok (.ireturn, 1) := by decide +kernel
theorem dX10_stands_0 : decode cX10_stands 0 = .ok (.iload_n 1, 1) := by decide +kernel
theorem dX10_stands_1 : decode cX10_stands 1 = .ok (.invokestatic 77, 3) := by decide +kernel
theorem dX10_stands_4 : decode cX10_stands 4 = .ok (.ifCond .eq 12, 3) := by decide +kernel
theorem dX10_stands_7 : decode cX10_stands 7 = .ok (.iload_n 2, 1) := by decide +kernel
theorem dX10_stands_8 : decode cX10_stands 8 = .ok (.ifCond .lt 8, 3) := by decide +kernel
theorem dX10_stands_11 : decode cX10_stands 11 = .ok (.iload_n 2, 1) := by decide +kernel
theorem dX10_stands_12 : decode cX10_stands 12 = .ok (.iconst 1, 1) := by decide +kernel
theorem dX10_stands_13 : decode cX10_stands 13 = .ok (.if_icmp .le 5, 3) := by decide +kernel
theorem dX10_stands_16 : decode cX10_stands 16 = .ok (.iconst (-1), 1) := by decide +kernel
theorem dX10_stands_17 : decode cX10_stands 17 = .ok (.ireturn, 1) := by decide +kernel
theorem dX10_stands_18 : decode cX10_stands 18 = .ok (.iload_n 2, 1) := by decide +kernel
theorem dX10_stands_19 : decode cX10_stands 19 = .ok (.ifCond .ne 15, 3) := by decide +kernel
theorem dX10_stands_22 : decode cX10_stands 22 = .ok (.aload_n 0, 1) := by decide +kernel
theorem dX10_stands_23 : decode cX10_stands 23 = .ok (.getfield 10, 3) := by decide +kernel
theorem dX10_stands_26 : decode cX10_stands 26 = .ok (.getfield 184, 3) := by decide +kernel
theorem dX10_stands_29 : decode cX10_stands 29 = .ok (.iload_n 1, 1) := by decide +kernel
theorem dX10_stands_30 : decode cX10_stands 30 = .ok (.iaload, 1) := by decide +kernel
theorem dX10_stands_31 : decode cX10_stands 31 = .ok (.goto 12, 3) := by decide +kernel
theorem dX10_stands_34 : decode cX10_stands 34 = .ok (.aload_n 0, 1) := by decide +kernel
theorem dX10_stands_35 : decode cX10_stands 35 = .ok (.getfield 10, 3) := by decide +kernel
theorem dX10_stands_38 : decode cX10_stands 38 = .ok (.getfield 192, 3) := by decide +kernel
theorem dX10_stands_41 : decode cX10_stands 41 = .ok (.iload_n 1, 1) := by decide +kernel
theorem dX10_stands_42 : decode cX10_stands 42 = .ok (.iaload, 1) := by decide +kernel
theorem dX10_stands_43 : decode cX10_stands 43 = .ok (.iload_n 3, 1) := by decide +kernel
theorem dX10_stands_44 : decode cX10_stands 44 = .ok (.invokestatic 195, 3) := by decide +kernel
theorem dX10_stands_47 : decode cX10_stands 47 = .ok (.istore 4, 2) := by decide +kernel
theorem dX10_stands_49 : decode cX10_stands 49 = .ok (.iload 4, 2) := by decide +kernel
theorem dX10_stands_51 : decode cX10_stands 51 = .ok (.iconst (-1), 1) := by decide +kernel
theorem dX10_stands_52 : decode cX10_stands 52 = .ok (.if_icmp .ne 7, 3) := by decide +kernel
theorem dX10_stands_55 : decode cX10_stands 55 = .ok (.iconst (-1), 1) := by decide +kernel
theorem dX10_stands_56 : decode cX10_stands 56 = .ok (.goto 5, 3) := by decide +kernel
theorem dX10_stands_59 : decode cX10_stands 59 = .ok (.iload 4, 2) := by decide +kernel
theorem dX10_stands_61 : decode cX10_stands 61 = .ok (.ireturn, 1) := by decide +kernel
theorem dX10_statement_0 : decode cX10_statement 0 = .ok (.aload_n 0, 1) := by decide +kernel
theorem dX10_statement_1 : decode cX10_statement 1 = .ok (.iload_n 1, 1) := by decide +kernel
theorem dX10_statement_2 : decode cX10_statement 2 = .ok (.invokevirtual 111, 3) := by decide +kernel
theorem dX10_statement_5 : decode cX10_statement 5 = .ok (.ifCond .eq 20, 3) := by decide +kernel
theorem dX10_statement_8 : decode cX10_statement 8 = .ok (.aload_n 0, 1) := by decide +kernel
theorem dX10_statement_9 : decode cX10_statement 9 = .ok (.getfield 10, 3) := by decide +kernel
theorem dX10_statement_12 : decode cX10_statement 12 = .ok (.getfield 134, 3) := by decide +kernel
theorem dX10_statement_15 : decode cX10_statement 15 = .ok (.iload_n 1, 1) := by decide +kernel
theorem dX10_statement_16 : decode cX10_statement 16 = .ok (.aaload, 1) := by decide +kernel
theorem dX10_statement_17 : decode cX10_statement 17 = .ok (.iload_n 2, 1) := by decide +kernel
theorem dX10_statement_18 : decode cX10_statement 18 = .ok (.iload_n 3, 1) := by decide +kernel
theorem dX10_statement_19 : decode cX10_statement 19 = .ok (.invokevirtual 142, 3) := by decide +kernel
theorem dX10_statement_22 : decode cX10_statement 22 = .ok (.goto 5, 3) := by decide +kernel
theorem dX10_statement_25 : decode cX10_statement 25 = .ok (.bipush (-100), 2) := by decide +kernel
theorem dX10_statement_27 : decode cX10_statement 27 = .ok (.ireturn, 1) := by decide +kernel
theorem dX10_step_0 : decode cX10_step 0 = .ok (.aload_n 0, 1) := by decide +kernel
theorem dX10_step_1 : decode cX10_step 1 = .ok (.iload_n 1, 1) := by decide +kernel
theorem dX10_step_2 : decode cX10_step 2 = .ok (.invokevirtual 111, 3) := by decide +kernel
theorem dX10_step_5 : decode cX10_step 5 = .ok (.ifCond .ne 5, 3) := by decide +kernel
theorem dX10_step_8 : decode cX10_step 8 = .ok (.iconst (-1), 1) := by decide +kernel
theorem dX10_step_9 : decode cX10_step 9 = .ok (.ireturn, 1) := by decide +kernel
theorem dX10_step_10 : decode cX10_step 10 = .ok (.aload_n 0, 1) := by decide +kernel
theorem dX10_step_11 : decode cX10_step 11 = .ok (.getfield 10, 3) := by decide +kernel
theorem dX10_step_14 : decode cX10_step 14 = .ok (.getfield 117, 3) := by decide +kernel
theorem dX10_step_17 : decode cX10_step 17 = .ok (.iload_n 1, 1) := by decide +kernel
theorem dX10_step_18 : decode cX10_step 18 = .ok (.iaload, 1) := by decide +kernel
theorem dX10_step_19 : decode cX10_step 19 = .ok (.ifCond .eq 6, 3) := by decide +kernel
theorem dX10_step_22 : decode cX10_step 22 = .ok (.bipush (-3), 2) := by decide +kernel
theorem dX10_step_24 : decode cX10_step 24 = .ok (.ireturn, 1) := by decide +kernel
theorem dX10_step_25 : decode cX10_step 25 = .ok (.aload_n 0, 1) := by decide +kernel
theorem dX10_step_26 : decode cX10_step 26 = .ok (.iload_n 1, 1) := by decide +kernel
theorem dX10_step_27 : decode cX10_step 27 = .ok (.invokevirtual 146, 3) := by decide +kernel
theorem dX10_step_30 : decode cX10_step 30 = .ok (.aload_n 0, 1) := by decide +kernel
theorem dX10_step_31 : decode cX10_step 31 = .ok (.getfield 10, 3) := by decide +kernel
theorem dX10_step_34 : decode cX10_step 34 = .ok (.getfield 117, 3) := by decide +kernel
theorem dX10_step_37 : decode cX10_step 37 = .ok (.iload_n 1, 1) := by decide +kernel
theorem dX10_step_38 : decode cX10_step 38 = .ok (.iaload, 1) := by decide +kernel
theorem dX10_step_39 : decode cX10_step 39 = .ok (.ireturn, 1) := by decide +kernel
theorem dX10_takeTruly_0 : decode cX10_takeTruly 0 = .ok (.aload_n 0, 1) := by decide +kernel
theorem dX10_takeTruly_1 : decode cX10_takeTruly 1 = .ok (.getfield 52, 3) := by decide +kernel
theorem dX10_takeTruly_4 : decode cX10_takeTruly 4 = .ok (.invokevirtual 67, 3) := by decide +kernel
theorem dX10_takeTruly_7 : decode cX10_takeTruly 7 = .ok (.aload_n 0, 1) := by decide +kernel
theorem dX10_takeTruly_8 : decode cX10_takeTruly 8 = .ok (.getfield 10, 3) := by decide +kernel
theorem dX10_takeTruly_11 : decode cX10_takeTruly 11 = .ok (.iload_n 1, 1) := by decide +kernel
theorem dX10_takeTruly_12 : decode cX10_takeTruly 12 = .ok (.invokevirtual 289, 3) := by decide +kernel
theorem dX10_takeTruly_15 : decode cX10_takeTruly 15 = .ok (.aload_n 0, 1) := by decide +kernel
theorem dX10_takeTruly_16 : decode cX10_takeTruly 16 = .ok (.getfield 10, 3) := by decide +kernel
theorem dX10_takeTruly_19 : decode cX10_takeTruly 19 = .ok (.getfield 117, 3) := by decide +kernel
theorem dX10_takeTruly_22 : decode cX10_takeTruly 22 = .ok (.iload_n 1, 1) := by decide +kernel
theorem dX10_takeTruly_23 : decode cX10_takeTruly 23 = .ok (.iaload, 1) := by decide +kernel
theorem dX10_takeTruly_24 : decode cX10_takeTruly 24 = .ok (.iconst 4, 1) := by decide +kernel
theorem dX10_takeTruly_25 : decode cX10_takeTruly 25 = .ok (.if_icmp .ne 45, 3) := by decide +kernel
theorem dX10_takeTruly_28 : decode cX10_takeTruly 28 = .ok (.aload_n 0, 1) := by decide +kernel
theorem dX10_takeTruly_29 : decode cX10_takeTruly 29 = .ok (.getfield 10, 3) := by decide +kernel
theorem dX10_takeTruly_32 : decode cX10_takeTruly 32 = .ok (.getfield 114, 3) := by decide +kernel
theorem dX10_takeTruly_35 : decode cX10_takeTruly 35 = .ok (.iload_n 1, 1) := by decide +kernel
theorem dX10_takeTruly_36 : decode cX10_takeTruly 36 = .ok (.iaload, 1) := by decide +kernel
theorem dX10_takeTruly_37 : decode cX10_takeTruly 37 = .ok (.istore_n 2, 1) := by decide +kernel
theorem dX10_takeTruly_38 : decode cX10_takeTruly 38 = .ok (.aload_n 0, 1) := by decide +kernel
theorem dX10_takeTruly_39 : decode cX10_takeTruly 39 = .ok (.getfield 38, 3) := by decide +kernel
theorem dX10_takeTruly_42 : decode cX10_takeTruly 42 = .ok (.iload_n 1, 1) := by decide +kernel
theorem dX10_takeTruly_43 : decode cX10_takeTruly 43 = .ok (.iload_n 2, 1) := by decide +kernel
theorem dX10_takeTruly_44 : decode cX10_takeTruly 44 = .ok (.aload_n 0, 1) := by decide +kernel
theorem dX10_takeTruly_45 : decode cX10_takeTruly 45 = .ok (.getfield 10, 3) := by decide +kernel
theorem dX10_takeTruly_48 : decode cX10_takeTruly 48 = .ok (.getfield 169, 3) := by decide +kernel
theorem dX10_takeTruly_51 : decode cX10_takeTruly 51 = .ok (.iload_n 1, 1) := by decide +kernel
theorem dX10_takeTruly_52 : decode cX10_takeTruly 52 = .ok (.iaload, 1) := by decide +kernel
theorem dX10_takeTruly_53 : decode cX10_takeTruly 53 = .ok (.aload_n 0, 1) := by decide +kernel
theorem dX10_takeTruly_54 : decode cX10_takeTruly 54 = .ok (.getfield 10, 3) := by decide +kernel
theorem dX10_takeTruly_57 : decode cX10_takeTruly 57 = .ok (.getfield 134, 3) := by decide +kernel
theorem dX10_takeTruly_60 : decode cX10_takeTruly 60 = .ok (.iload_n 1, 1) := by decide +kernel
theorem dX10_takeTruly_61 : decode cX10_takeTruly 61 = .ok (.aaload, 1) := by decide +kernel
theorem dX10_takeTruly_62 : decode cX10_takeTruly 62 = .ok (.iload_n 2, 1) := by decide +kernel
theorem dX10_takeTruly_63 : decode cX10_takeTruly 63 = .ok (.iconst 1, 1) := by decide +kernel
theorem dX10_takeTruly_64 : decode cX10_takeTruly 64 = .ok (.invokevirtual 142, 3) := by decide +kernel
theorem dX10_takeTruly_67 : decode cX10_takeTruly 67 = .ok (.invokevirtual 292, 3) := by decide +kernel
theorem dX10_takeTruly_70 : decode cX10_takeTruly 70 = .ok (.return_, 1) := by decide +kernel
theorem dX10_task_0 : decode cX10_task 0 = .ok (.aload_n 0, 1) := by decide +kernel
theorem dX10_task_1 : decode cX10_task 1 = .ok (.getfield 10, 3) := by decide +kernel
theorem dX10_task_4 : decode cX10_task 4 = .ok (.getfield 63, 3) := by decide +kernel
theorem dX10_task_7 : decode cX10_task 7 = .ok (.iconst 4, 1) := by decide +kernel
theorem dX10_task_8 : decode cX10_task 8 = .ok (.if_icmp .lt 6, 3) := by decide +kernel
theorem dX10_task_11 : decode cX10_task 11 = .ok (.bipush (-4), 2) := by decide +kernel
theorem dX10_task_13 : decode cX10_task 13 = .ok (.ireturn, 1) := by decide +kernel
theorem dX10_task_14 : decode cX10_task 14 = .ok (.aload_n 0, 1) := by decide +kernel
theorem dX10_task_15 : decode cX10_task 15 = .ok (.getfield 52, 3) := by decide +kernel
theorem dX10_task_18 : decode cX10_task 18 = .ok (.invokevirtual 67, 3) := by decide +kernel
theorem dX10_task_21 : decode cX10_task 21 = .ok (.aload_n 0, 1) := by decide +kernel
theorem dX10_task_22 : decode cX10_task 22 = .ok (.getfield 10, 3) := by decide +kernel
theorem dX10_task_25 : decode cX10_task 25 = .ok (.invokevirtual 70, 3) := by decide +kernel
theorem dX10_task_28 : decode cX10_task 28 = .ok (.ireturn, 1) := by decide +kernel
theorem dX10_told_0 : decode cX10_told 0 = .ok (.iload_n 1, 1) := by decide +kernel
theorem dX10_told_1 : decode cX10_told 1 = .ok (.tableswitch 109 0 5 #[39, 47, 55, 63, 74, 85], 39) := by decide +kernel
theorem dX10_told_40 : decode cX10_told 40 = .ok (.aload_n 0, 1) := by decide +kernel
theorem dX10_told_41 : decode cX10_told 41 = .ok (.getfield 10, 3) := by decide +kernel
theorem dX10_told_44 : decode cX10_told 44 = .ok (.getfield 63, 3) := by decide +kernel
theorem dX10_told_47 : decode cX10_told 47 = .ok (.ireturn, 1) := by decide +kernel
theorem dX10_told_48 : decode cX10_told 48 = .ok (.aload_n 0, 1) := by decide +kernel
theorem dX10_told_49 : decode cX10_told 49 = .ok (.getfield 34, 3) := by decide +kernel
theorem dX10_told_52 : decode cX10_told 52 = .ok (.getfield 102, 3) := by decide +kernel
theorem dX10_told_55 : decode cX10_told 55 = .ok (.ireturn, 1) := by decide +kernel
theorem dX10_told_56 : decode cX10_told 56 = .ok (.aload_n 0, 1) := by decide +kernel
theorem dX10_told_57 : decode cX10_told 57 = .ok (.getfield 45, 3) := by decide +kernel
theorem dX10_told_60 : decode cX10_told 60 = .ok (.getfield 201, 3) := by decide +kernel
theorem dX10_told_63 : decode cX10_told 63 = .ok (.ireturn, 1) := by decide +kernel
theorem dX10_told_64 : decode cX10_told 64 = .ok (.aload_n 0, 1) := by decide +kernel
theorem dX10_told_65 : decode cX10_told 65 = .ok (.getfield 10, 3) := by decide +kernel
theorem dX10_told_68 : decode cX10_told 68 = .ok (.invokevirtual 202, 3) := by decide +kernel
theorem dX10_told_71 : decode cX10_told 71 = .ok (.invokestatic 88, 3) := by decide +kernel
theorem dX10_told_74 : decode cX10_told 74 = .ok (.ireturn, 1) := by decide +kernel
theorem dX10_told_75 : decode cX10_told 75 = .ok (.aload_n 0, 1) := by decide +kernel
theorem dX10_told_76 : decode cX10_told 76 = .ok (.getfield 10, 3) := by decide +kernel
theorem dX10_told_79 : decode cX10_told 79 = .ok (.invokevirtual 206, 3) := by decide +kernel
theorem dX10_told_82 : decode cX10_told 82 = .ok (.invokestatic 88, 3) := by decide +kernel
theorem dX10_told_85 : decode cX10_told 85 = .ok (.ireturn, 1) := by decide +kernel
theorem dX10_told_86 : decode cX10_told 86 = .ok (.aload_n 0, 1) := by decide +kernel
theorem dX10_told_87 : decode cX10_told 87 = .ok (.getfield 10, 3) := by decide +kernel
theorem dX10_told_90 : decode cX10_told 90 = .ok (.getfield 209, 3) := by decide +kernel
theorem dX10_told_93 : decode cX10_told 93 = .ok (.iconst (-1), 1) := by decide +kernel
theorem dX10_told_94 : decode cX10_told 94 = .ok (.if_icmp .ne 8, 3) := by decide +kernel
theorem dX10_told_97 : decode cX10_told 97 = .ok (.bipush (-5), 2) := by decide +kernel
theorem dX10_told_99 : decode cX10_told 99 = .ok (.goto 10, 3) := by decide +kernel
theorem dX10_told_102 : decode cX10_told 102 = .ok (.aload_n 0, 1) := by decide +kernel
theorem dX10_told_103 : decode cX10_told 103 = .ok (.getfield 10, 3) := by decide +kernel
theorem dX10_told_106 : decode cX10_told 106 = .ok (.getfield 209, 3) := by decide +kernel
theorem dX10_told_109 : decode cX10_told 109 = .ok (.ireturn, 1) := by decide +kernel
theorem dX10_told_110 : decode cX10_told 110 = .ok (.iconst (-1), 1) := by decide +kernel
theorem dX10_told_111 : decode cX10_told 111 = .ok (.ireturn, 1) := by decide +kernel
theorem dX10_under_0 : decode cX10_under 0 = .ok (.iload_n 1, 1) := by decide +kernel
theorem dX10_under_1 : decode cX10_under 1 = .ok (.invokestatic 77, 3) := by decide +kernel
theorem dX10_under_4 : decode cX10_under 4 = .ok (.ifCond .ne 5, 3) := by decide +kernel
theorem dX10_under_7 : decode cX10_under 7 = .ok (.iconst (-1), 1) := by decide +kernel
theorem dX10_under_8 : decode cX10_under 8 = .ok (.ireturn, 1) := by decide +kernel
theorem dX10_under_9 : decode cX10_under 9 = .ok (.aload_n 0, 1) := by decide +kernel
theorem dX10_under_10 : decode cX10_under 10 = .ok (.getfield 52, 3) := by decide +kernel
theorem dX10_under_13 : decode cX10_under 13 = .ok (.aload_n 0, 1) := by decide +kernel
theorem dX10_under_14 : decode cX10_under 14 = .ok (.getfield 10, 3) := by decide +kernel
theorem dX10_under_17 : decode cX10_under 17 = .ok (.aload_n 0, 1) := by decide +kernel
theorem dX10_under_18 : decode cX10_under 18 = .ok (.getfield 45, 3) := by decide +kernel
theorem dX10_under_21 : decode cX10_under 21 = .ok (.invokevirtual 215, 3) := by decide +kernel
theorem dX10_under_24 : decode cX10_under 24 = .ok (.aload_n 0, 1) := by decide +kernel
theorem dX10_under_25 : decode cX10_under 25 = .ok (.getfield 52, 3) := by decide +kernel
theorem dX10_under_28 : decode cX10_under 28 = .ok (.getfield 259, 3) := by decide +kernel
theorem dX10_under_31 : decode cX10_under 31 = .ok (.iload_n 1, 1) := by decide +kernel
theorem dX10_under_32 : decode cX10_under 32 = .ok (.iaload, 1) := by decide +kernel
theorem dX10_under_33 : decode cX10_under 33 = .ok (.ireturn, 1) := by decide +kernel
theorem dX1_aboutToEnter_0 : decode cX1_aboutToEnter 0 = .ok (.aload_n 0, 1) := by decide +kernel
theorem dX1_aboutToEnter_1 : decode cX1_aboutToEnter 1 = .ok (.getfield 24, 3) := by decide +kernel
theorem dX1_aboutToEnter_4 : decode cX1_aboutToEnter 4 = .ok (.iload_n 1, 1) := by decide +kernel
theorem dX1_aboutToEnter_5 : decode cX1_aboutToEnter 5 = .ok (.iaload, 1) := by decide +kernel
theorem dX1_aboutToEnter_6 : decode cX1_aboutToEnter 6 = .ok (.istore_n 2, 1) := by decide +kernel
theorem dX1_aboutToEnter_7 : decode cX1_aboutToEnter 7 = .ok (.aload_n 0, 1) := by decide +kernel
theorem dX1_aboutToEnter_8 : decode cX1_aboutToEnter 8 = .ok (.getfield 28, 3) := by decide +kernel
theorem dX1_aboutToEnter_11 : decode cX1_aboutToEnter 11 = .ok (.iload_n 1, 1) := by decide +kernel
theorem dX1_aboutToEnter_12 : decode cX1_aboutToEnter 12 = .ok (.iaload, 1) := by decide +kernel
theorem dX1_aboutToEnter_13 : decode cX1_aboutToEnter 13 = .ok (.ifCond .ne 17, 3) := by decide +kernel
theorem dX1_aboutToEnter_16 : decode cX1_aboutToEnter 16 = .ok (.aload_n 0, 1) := by decide +kernel
theorem dX1_aboutToEnter_17 : decode cX1_aboutToEnter 17 = .ok (.getfield 20, 3) := by decide +kernel
theorem dX1_aboutToEnter_20 : decode cX1_aboutToEnter 20 = .ok (.iload_n 1, 1) := by decide +kernel
theorem dX1_aboutToEnter_21 : decode cX1_aboutToEnter 21 = .ok (.aaload, 1) := by decide +kernel
theorem dX1_aboutToEnter_22 : decode cX1_aboutToEnter 22 = .ok (.iload_n 2, 1) := by decide +kernel
theorem dX1_aboutToEnter_23 : decode cX1_aboutToEnter 23 = .ok (.iconst 0, 1) := by decide +kernel
theorem dX1_aboutToEnter_24 : decode cX1_aboutToEnter 24 = .ok (.invokevirtual 86, 3) := by decide +kernel
theorem dX1_aboutToEnter_27 : decode cX1_aboutToEnter 27 = .ok (.ifCond .eq 5, 3) := by decide +kernel
theorem dX1_aboutToEnter_30 : decode cX1_aboutToEnter 30 = .ok (.iconst (-1), 1) := by decide +kernel
theorem dX1_aboutToEnter_31 : decode cX1_aboutToEnter 31 = .ok (.ireturn, 1) := by decide +kernel
theorem dX1_aboutToEnter_32 : decode cX1_aboutToEnter 32 = .ok (.aload_n 0, 1) := by decide +kernel
theorem dX1_aboutToEnter_33 : decode cX1_aboutToEnter 33 = .ok (.getfield 20, 3) := by decide +kernel
theorem dX1_aboutToEnter_36 : decode cX1_aboutToEnter 36 = .ok (.iload_n 1, 1) := by decide +kernel
theorem dX1_aboutToEnter_37 : decode cX1_aboutToEnter 37 = .ok (.aaload, 1) := by decide +kernel
theorem dX1_aboutToEnter_38 : decode cX1_aboutToEnter 38 = .ok (.iload_n 2, 1) := by decide +kernel
theorem dX1_aboutToEnter_39 : decode cX1_aboutToEnter 39 = .ok (.iconst 1, 1) := by decide +kernel
theorem dX1_aboutToEnter_40 : decode cX1_aboutToEnter 40 = .ok (.invokevirtual 86, 3) := by decide +kernel
theorem dX1_aboutToEnter_43 : decode cX1_aboutToEnter 43 = .ok (.istore_n 3, 1) := by decide +kernel
theorem dX1_aboutToEnter_44 : decode cX1_aboutToEnter 44 = .ok (.iload_n 3, 1) := by decide +kernel
theorem dX1_aboutToEnter_45 : decode cX1_aboutToEnter 45 = .ok (.invokestatic 98, 3) := by decide +kernel
theorem dX1_aboutToEnter_48 : decode cX1_aboutToEnter 48 = .ok (.ifCond .eq 26, 3) := by decide +kernel
theorem dX1_aboutToEnter_51 : decode cX1_aboutToEnter 51 = .ok (.aload_n 0, 1) := by decide +kernel
theorem dX1_aboutToEnter_52 : decode cX1_aboutToEnter 52 = .ok (.getfield 40, 3) := by decide +kernel
theorem dX1_aboutToEnter_55 : decode cX1_aboutToEnter 55 = .ok (.iload_n 3, 1) := by decide +kernel
theorem dX1_aboutToEnter_56 : decode cX1_aboutToEnter 56 = .ok (.baload, 1) := by decide +kernel
theorem dX1_aboutToEnter_57 : decode cX1_aboutToEnter 57 = .ok (.ifCond .ne 17, 3) := by decide +kernel
theorem dX1_aboutToEnter_60 : decode cX1_aboutToEnter 60 = .ok (.aload_n 0, 1) := by decide +kernel
theorem dX1_aboutToEnter_61 : decode cX1_aboutToEnter 61 = .ok (.getfield 44, 3) := by decide +kernel
theorem dX1_aboutToEnter_64 : decode cX1_aboutToEnter 64 = .ok (.iload_n 3, 1) := by decide +kernel
theorem dX1_aboutToEnter_65 : decode cX1_aboutToEnter 65 = .ok (.iaload, 1) := by decide +kernel
theorem dX1_aboutToEnter_66 : decode cX1_aboutToEnter 66 = .ok (.iload_n 1, 1) := by decide +kernel
theorem dX1_aboutToEnter_67 : decode cX1_aboutToEnter 67 = .ok (.if_icmp .eq 7, 3) := by decide +kernel
theorem dX1_aboutToEnter_70 : decode cX1_aboutToEnter 70 = .ok (.iload_n 3, 1) := by decide +kernel
theorem dX1_aboutToEnter_71 : decode cX1_aboutToEnter 71 = .ok (.goto 4, 3) := by decide +kernel
theorem dX1_aboutToEnter_74 : decode cX1_aboutToEnter 74 = .ok (.iconst (-1), 1) := by decide +kernel
theorem dX1_aboutToEnter_75 : decode cX1_aboutToEnter 75 = .ok (.ireturn, 1) := by decide +kernel
theorem dX1_allThatAre_0 : decode cX1_allThatAre 0 = .ok (.iconst 0, 1) := by decide +kernel
theorem dX1_allThatAre_1 : decode cX1_allThatAre 1 = .ok (.istore_n 2, 1) := by decide +kernel

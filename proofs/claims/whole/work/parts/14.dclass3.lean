theorem dX7_unpackedCell_5 : decode cX7_unpackedCell 5 = .ok (.iushr, 1) := by decide +kernel
theorem dX7_unpackedCell_6 : decode cX7_unpackedCell 6 = .ok (.sipush 255, 3) := by decide +kernel
theorem dX7_unpackedCell_9 : decode cX7_unpackedCell 9 = .ok (.iand, 1) := by decide +kernel
theorem dX7_unpackedCell_10 : decode cX7_unpackedCell 10 = .ok (.bipush 99, 2) := by decide +kernel
theorem dX7_unpackedCell_12 : decode cX7_unpackedCell 12 = .ok (.isub, 1) := by decide +kernel
theorem dX7_unpackedCell_13 : decode cX7_unpackedCell 13 = .ok (.ireturn, 1) := by decide +kernel
theorem dX8_append_0 : decode cX8_append 0 = .ok (.aload_n 0, 1) := by decide +kernel
theorem dX8_append_1 : decode cX8_append 1 = .ok (.getfield 15, 3) := by decide +kernel
theorem dX8_append_4 : decode cX8_append 4 = .ok (.bipush 120, 2) := by decide +kernel
theorem dX8_append_6 : decode cX8_append 6 = .ok (.if_icmp .ge 23, 3) := by decide +kernel
theorem dX8_append_9 : decode cX8_append 9 = .ok (.aload_n 0, 1) := by decide +kernel
theorem dX8_append_10 : decode cX8_append 10 = .ok (.getfield 9, 3) := by decide +kernel
theorem dX8_append_13 : decode cX8_append 13 = .ok (.aload_n 0, 1) := by decide +kernel
theorem dX8_append_14 : decode cX8_append 14 = .ok (.getfield 15, 3) := by decide +kernel
theorem dX8_append_17 : decode cX8_append 17 = .ok (.iload_n 1, 1) := by decide +kernel
theorem dX8_append_18 : decode cX8_append 18 = .ok (.iastore, 1) := by decide +kernel
theorem dX8_append_19 : decode cX8_append 19 = .ok (.aload_n 0, 1) := by decide +kernel
theorem dX8_append_20 : decode cX8_append 20 = .ok (.dup, 1) := by decide +kernel
theorem dX8_append_21 : decode cX8_append 21 = .ok (.getfield 15, 3) := by decide +kernel
theorem dX8_append_24 : decode cX8_append 24 = .ok (.iconst 1, 1) := by decide +kernel
theorem dX8_append_25 : decode cX8_append 25 = .ok (.iadd, 1) := by decide +kernel
theorem dX8_append_26 : decode cX8_append 26 = .ok (.putfield 15, 3) := by decide +kernel
theorem dX8_append_29 : decode cX8_append 29 = .ok (.return_, 1) := by decide +kernel
theorem dX8_at_0 : decode cX8_at 0 = .ok (.iload_n 1, 1) := by decide +kernel
theorem dX8_at_1 : decode cX8_at 1 = .ok (.ifCond .lt 11, 3) := by decide +kernel
theorem dX8_at_4 : decode cX8_at 4 = .ok (.iload_n 1, 1) := by decide +kernel
theorem dX8_at_5 : decode cX8_at 5 = .ok (.aload_n 0, 1) := by decide +kernel
theorem dX8_at_6 : decode cX8_at 6 = .ok (.getfield 15, 3) := by decide +kernel
theorem dX8_at_9 : decode cX8_at 9 = .ok (.if_icmp .lt 7, 3) := by decide +kernel
theorem dX8_at_12 : decode cX8_at 12 = .ok (.iconst 0, 1) := by decide +kernel
theorem dX8_at_13 : decode cX8_at 13 = .ok (.goto 9, 3) := by decide +kernel
theorem dX8_at_16 : decode cX8_at 16 = .ok (.aload_n 0, 1) := by decide +kernel
theorem dX8_at_17 : decode cX8_at 17 = .ok (.getfield 9, 3) := by decide +kernel
theorem dX8_at_20 : decode cX8_at 20 = .ok (.iload_n 1, 1) := by decide +kernel
theorem dX8_at_21 : decode cX8_at 21 = .ok (.iaload, 1) := by decide +kernel
theorem dX8_at_22 : decode cX8_at 22 = .ok (.ireturn, 1) := by decide +kernel
theorem dX8_init_0 : decode cX8_init 0 = .ok (.aload_n 0, 1) := by decide +kernel
theorem dX8_init_1 : decode cX8_init 1 = .ok (.invokespecial 3, 3) := by decide +kernel
theorem dX8_init_4 : decode cX8_init 4 = .ok (.aload_n 0, 1) := by decide +kernel
theorem dX8_init_5 : decode cX8_init 5 = .ok (.bipush 120, 2) := by decide +kernel
theorem dX8_init_7 : decode cX8_init 7 = .ok (.newarray .int, 2) := by decide +kernel
theorem dX8_init_9 : decode cX8_init 9 = .ok (.putfield 9, 3) := by decide +kernel
theorem dX8_init_12 : decode cX8_init 12 = .ok (.aload_n 0, 1) := by decide +kernel
theorem dX8_init_13 : decode cX8_init 13 = .ok (.iconst 0, 1) := by decide +kernel
theorem dX8_init_14 : decode cX8_init 14 = .ok (.putfield 15, 3) := by decide +kernel
theorem dX8_init_17 : decode cX8_init 17 = .ok (.return_, 1) := by decide +kernel
theorem dX9_append_0 : decode cX9_append 0 = .ok (.aload_n 0, 1) := by decide +kernel
theorem dX9_append_1 : decode cX9_append 1 = .ok (.getfield 9, 3) := by decide +kernel
theorem dX9_append_4 : decode cX9_append 4 = .ok (.aload_n 0, 1) := by decide +kernel
theorem dX9_append_5 : decode cX9_append 5 = .ok (.getfield 15, 3) := by decide +kernel
theorem dX9_append_8 : decode cX9_append 8 = .ok (.arraylength, 1) := by decide +kernel
theorem dX9_append_9 : decode cX9_append 9 = .ok (.if_icmp .ge 33, 3) := by decide +kernel
theorem dX9_append_12 : decode cX9_append 12 = .ok (.aload_n 0, 1) := by decide +kernel
theorem dX9_append_13 : decode cX9_append 13 = .ok (.getfield 15, 3) := by decide +kernel
theorem dX9_append_16 : decode cX9_append 16 = .ok (.aload_n 0, 1) := by decide +kernel
theorem dX9_append_17 : decode cX9_append 17 = .ok (.getfield 9, 3) := by decide +kernel
theorem dX9_append_20 : decode cX9_append 20 = .ok (.iload_n 1, 1) := by decide +kernel
theorem dX9_append_21 : decode cX9_append 21 = .ok (.iastore, 1) := by decide +kernel
theorem dX9_append_22 : decode cX9_append 22 = .ok (.aload_n 0, 1) := by decide +kernel
theorem dX9_append_23 : decode cX9_append 23 = .ok (.getfield 19, 3) := by decide +kernel
theorem dX9_append_26 : decode cX9_append 26 = .ok (.aload_n 0, 1) := by decide +kernel
theorem dX9_append_27 : decode cX9_append 27 = .ok (.getfield 9, 3) := by decide +kernel
theorem dX9_append_30 : decode cX9_append 30 = .ok (.iload_n 2, 1) := by decide +kernel
theorem dX9_append_31 : decode cX9_append 31 = .ok (.iastore, 1) := by decide +kernel
theorem dX9_append_32 : decode cX9_append 32 = .ok (.aload_n 0, 1) := by decide +kernel
theorem dX9_append_33 : decode cX9_append 33 = .ok (.dup, 1) := by decide +kernel
theorem dX9_append_34 : decode cX9_append 34 = .ok (.getfield 9, 3) := by decide +kernel
theorem dX9_append_37 : decode cX9_append 37 = .ok (.iconst 1, 1) := by decide +kernel
theorem dX9_append_38 : decode cX9_append 38 = .ok (.iadd, 1) := by decide +kernel
theorem dX9_append_39 : decode cX9_append 39 = .ok (.putfield 9, 3) := by decide +kernel
theorem dX9_append_42 : decode cX9_append 42 = .ok (.return_, 1) := by decide +kernel
theorem dX9_init_0 : decode cX9_init 0 = .ok (.aload_n 0, 1) := by decide +kernel
theorem dX9_init_1 : decode cX9_init 1 = .ok (.invokespecial 3, 3) := by decide +kernel
theorem dX9_init_4 : decode cX9_init 4 = .ok (.aload_n 0, 1) := by decide +kernel
theorem dX9_init_5 : decode cX9_init 5 = .ok (.iconst 0, 1) := by decide +kernel
theorem dX9_init_6 : decode cX9_init 6 = .ok (.putfield 9, 3) := by decide +kernel
theorem dX9_init_9 : decode cX9_init 9 = .ok (.aload_n 0, 1) := by decide +kernel
theorem dX9_init_10 : decode cX9_init 10 = .ok (.iconst 3, 1) := by decide +kernel
theorem dX9_init_11 : decode cX9_init 11 = .ok (.newarray .int, 2) := by decide +kernel
theorem dX9_init_13 : decode cX9_init 13 = .ok (.putfield 15, 3) := by decide +kernel
theorem dX9_init_16 : decode cX9_init 16 = .ok (.aload_n 0, 1) := by decide +kernel
theorem dX9_init_17 : decode cX9_init 17 = .ok (.iconst 3, 1) := by decide +kernel
theorem dX9_init_18 : decode cX9_init 18 = .ok (.newarray .int, 2) := by decide +kernel
theorem dX9_init_20 : decode cX9_init 20 = .ok (.putfield 19, 3) := by decide +kernel
theorem dX9_init_23 : decode cX9_init 23 = .ok (.return_, 1) := by decide +kernel
theorem dX9_link_0 : decode cX9_link 0 = .ok (.iload_n 1, 1) := by decide +kernel
theorem dX9_link_1 : decode cX9_link 1 = .ok (.ifCond .lt 11, 3) := by decide +kernel
theorem dX9_link_4 : decode cX9_link 4 = .ok (.iload_n 1, 1) := by decide +kernel
theorem dX9_link_5 : decode cX9_link 5 = .ok (.aload_n 0, 1) := by decide +kernel
theorem dX9_link_6 : decode cX9_link 6 = .ok (.getfield 9, 3) := by decide +kernel
theorem dX9_link_9 : decode cX9_link 9 = .ok (.if_icmp .lt 6, 3) := by decide +kernel
theorem dX9_link_12 : decode cX9_link 12 = .ok (.bipush (-5), 2) := by decide +kernel
theorem dX9_link_14 : decode cX9_link 14 = .ok (.ireturn, 1) := by decide +kernel
theorem dX9_link_15 : decode cX9_link 15 = .ok (.iload_n 2, 1) := by decide +kernel
theorem dX9_link_16 : decode cX9_link 16 = .ok (.ifCond .ne 12, 3) := by decide +kernel
theorem dX9_link_19 : decode cX9_link 19 = .ok (.aload_n 0, 1) := by decide +kernel
theorem dX9_link_20 : decode cX9_link 20 = .ok (.getfield 15, 3) := by decide +kernel
theorem dX9_link_23 : decode cX9_link 23 = .ok (.iload_n 1, 1) := by decide +kernel
theorem dX9_link_24 : decode cX9_link 24 = .ok (.iaload, 1) := by decide +kernel
theorem dX9_link_25 : decode cX9_link 25 = .ok (.goto 9, 3) := by decide +kernel
theorem dX9_link_28 : decode cX9_link 28 = .ok (.aload_n 0, 1) := by decide +kernel
theorem dX9_link_29 : decode cX9_link 29 = .ok (.getfield 19, 3) := by decide +kernel
theorem dX9_link_32 : decode cX9_link 32 = .ok (.iload_n 1, 1) := by decide +kernel
theorem dX9_link_33 : decode cX9_link 33 = .ok (.iaload, 1) := by decide +kernel
theorem dX9_link_34 : decode cX9_link 34 = .ok (.ireturn, 1) := by decide +kernel
theorem dX9_ofProgram_0 : decode cX9_ofProgram 0 = .ok (.aload_n 0, 1) := by decide +kernel
theorem dX9_ofProgram_1 : decode cX9_ofProgram 1 = .ok (.iconst 0, 1) := by decide +kernel
theorem dX9_ofProgram_2 : decode cX9_ofProgram 2 = .ok (.putfield 9, 3) := by decide +kernel
theorem dX9_ofProgram_5 : decode cX9_ofProgram 5 = .ok (.aload_n 0, 1) := by decide +kernel
theorem dX9_ofProgram_6 : decode cX9_ofProgram 6 = .ok (.iconst 1, 1) := by decide +kernel
theorem dX9_ofProgram_7 : decode cX9_ofProgram 7 = .ok (.iload_n 1, 1) := by decide +kernel
theorem dX9_ofProgram_8 : decode cX9_ofProgram 8 = .ok (.invokevirtual 22, 3) := by decide +kernel
theorem dX9_ofProgram_11 : decode cX9_ofProgram 11 = .ok (.aload_n 0, 1) := by decide +kernel
theorem dX9_ofProgram_12 : decode cX9_ofProgram 12 = .ok (.iconst 2, 1) := by decide +kernel
theorem dX9_ofProgram_13 : decode cX9_ofProgram 13 = .ok (.iload_n 2, 1) := by decide +kernel
theorem dX9_ofProgram_14 : decode cX9_ofProgram 14 = .ok (.invokevirtual 22, 3) := by decide +kernel
theorem dX9_ofProgram_17 : decode cX9_ofProgram 17 = .ok (.aload_n 0, 1) := by decide +kernel
theorem dX9_ofProgram_18 : decode cX9_ofProgram 18 = .ok (.iconst 3, 1) := by decide +kernel
theorem dX9_ofProgram_19 : decode cX9_ofProgram 19 = .ok (.iload_n 3, 1) := by decide +kernel
theorem dX9_ofProgram_20 : decode cX9_ofProgram 20 = .ok (.invokevirtual 22, 3) := by decide +kernel
theorem dX9_ofProgram_23 : decode cX9_ofProgram 23 = .ok (.return_, 1) := by decide +kernel
theorem dX9_ofStep_0 : decode cX9_ofStep 0 = .ok (.aload_n 0, 1) := by decide +kernel
theorem dX9_ofStep_1 : decode cX9_ofStep 1 = .ok (.iconst 0, 1) := by decide +kernel
theorem dX9_ofStep_2 : decode cX9_ofStep 2 = .ok (.putfield 9, 3) := by decide +kernel
theorem dX9_ofStep_5 : decode cX9_ofStep 5 = .ok (.aload_n 0, 1) := by decide +kernel
theorem dX9_ofStep_6 : decode cX9_ofStep 6 = .ok (.iconst 4, 1) := by decide +kernel
theorem dX9_ofStep_7 : decode cX9_ofStep 7 = .ok (.iload_n 1, 1) := by decide +kernel
theorem dX9_ofStep_8 : decode cX9_ofStep 8 = .ok (.invokevirtual 22, 3) := by decide +kernel
theorem dX9_ofStep_11 : decode cX9_ofStep 11 = .ok (.aload_n 0, 1) := by decide +kernel
theorem dX9_ofStep_12 : decode cX9_ofStep 12 = .ok (.iconst 5, 1) := by decide +kernel
theorem dX9_ofStep_13 : decode cX9_ofStep 13 = .ok (.iload_n 2, 1) := by decide +kernel
theorem dX9_ofStep_14 : decode cX9_ofStep 14 = .ok (.invokevirtual 22, 3) := by decide +kernel
theorem dX9_ofStep_17 : decode cX9_ofStep 17 = .ok (.aload_n 0, 1) := by decide +kernel
theorem dX9_ofStep_18 : decode cX9_ofStep 18 = .ok (.iload_n 3, 1) := by decide +kernel
theorem dX9_ofStep_19 : decode cX9_ofStep 19 = .ok (.iconst 2, 1) := by decide +kernel
theorem dX9_ofStep_20 : decode cX9_ofStep 20 = .ok (.if_icmp .gt 8, 3) := by decide +kernel
theorem dX9_ofStep_23 : decode cX9_ofStep 23 = .ok (.bipush 6, 2) := by decide +kernel
theorem dX9_ofStep_25 : decode cX9_ofStep 25 = .ok (.goto 5, 3) := by decide +kernel
theorem dX9_ofStep_28 : decode cX9_ofStep 28 = .ok (.bipush 7, 2) := by decide +kernel
theorem dX9_ofStep_30 : decode cX9_ofStep 30 = .ok (.iload 4, 2) := by decide +kernel
theorem dX9_ofStep_32 : decode cX9_ofStep 32 = .ok (.invokevirtual 22, 3) := by decide +kernel
theorem dX9_ofStep_35 : decode cX9_ofStep 35 = .ok (.return_, 1) := by decide +kernel

theorem dX1_allThatAre_2 : decode cX1_allThatAre 2 = .ok (.iconst 0, 1) := by decide +kernel
theorem dX1_allThatAre_3 : decode cX1_allThatAre 3 = .ok (.istore_n 3, 1) := by decide +kernel
theorem dX1_allThatAre_4 : decode cX1_allThatAre 4 = .ok (.iload_n 3, 1) := by decide +kernel
theorem dX1_allThatAre_5 : decode cX1_allThatAre 5 = .ok (.aload_n 0, 1) := by decide +kernel
theorem dX1_allThatAre_6 : decode cX1_allThatAre 6 = .ok (.getfield 9, 3) := by decide +kernel
theorem dX1_allThatAre_9 : decode cX1_allThatAre 9 = .ok (.if_icmp .ge 25, 3) := by decide +kernel
theorem dX1_allThatAre_12 : decode cX1_allThatAre 12 = .ok (.aload_n 0, 1) := by decide +kernel
theorem dX1_allThatAre_13 : decode cX1_allThatAre 13 = .ok (.getfield 28, 3) := by decide +kernel
theorem dX1_allThatAre_16 : decode cX1_allThatAre 16 = .ok (.iload_n 3, 1) := by decide +kernel
theorem dX1_allThatAre_17 : decode cX1_allThatAre 17 = .ok (.iaload, 1) := by decide +kernel
theorem dX1_allThatAre_18 : decode cX1_allThatAre 18 = .ok (.iload_n 1, 1) := by decide +kernel
theorem dX1_allThatAre_19 : decode cX1_allThatAre 19 = .ok (.if_icmp .ne 9, 3) := by decide +kernel
theorem dX1_allThatAre_22 : decode cX1_allThatAre 22 = .ok (.iload_n 2, 1) := by decide +kernel
theorem dX1_allThatAre_23 : decode cX1_allThatAre 23 = .ok (.iconst 1, 1) := by decide +kernel
theorem dX1_allThatAre_24 : decode cX1_allThatAre 24 = .ok (.iload_n 3, 1) := by decide +kernel
theorem dX1_allThatAre_25 : decode cX1_allThatAre 25 = .ok (.ishl, 1) := by decide +kernel
theorem dX1_allThatAre_26 : decode cX1_allThatAre 26 = .ok (.ior, 1) := by decide +kernel
theorem dX1_allThatAre_27 : decode cX1_allThatAre 27 = .ok (.istore_n 2, 1) := by decide +kernel
theorem dX1_allThatAre_28 : decode cX1_allThatAre 28 = .ok (.iinc 3 1, 3) := by decide +kernel
theorem dX1_allThatAre_31 : decode cX1_allThatAre 31 = .ok (.goto (-27), 3) := by decide +kernel
theorem dX1_allThatAre_34 : decode cX1_allThatAre 34 = .ok (.iload_n 2, 1) := by decide +kernel
theorem dX1_allThatAre_35 : decode cX1_allThatAre 35 = .ok (.ireturn, 1) := by decide +kernel
theorem dX1_chosenBy_0 : decode cX1_chosenBy 0 = .ok (.iconst 0, 1) := by decide +kernel
theorem dX1_chosenBy_1 : decode cX1_chosenBy 1 = .ok (.istore_n 2, 1) := by decide +kernel
theorem dX1_chosenBy_2 : decode cX1_chosenBy 2 = .ok (.iload_n 2, 1) := by decide +kernel
theorem dX1_chosenBy_3 : decode cX1_chosenBy 3 = .ok (.aload_n 0, 1) := by decide +kernel
theorem dX1_chosenBy_4 : decode cX1_chosenBy 4 = .ok (.getfield 9, 3) := by decide +kernel
theorem dX1_chosenBy_7 : decode cX1_chosenBy 7 = .ok (.if_icmp .ge 58, 3) := by decide +kernel
theorem dX1_chosenBy_10 : decode cX1_chosenBy 10 = .ok (.iload_n 2, 1) := by decide +kernel
theorem dX1_chosenBy_11 : decode cX1_chosenBy 11 = .ok (.istore_n 3, 1) := by decide +kernel
theorem dX1_chosenBy_12 : decode cX1_chosenBy 12 = .ok (.iload_n 1, 1) := by decide +kernel
theorem dX1_chosenBy_13 : decode cX1_chosenBy 13 = .ok (.iconst 1, 1) := by decide +kernel
theorem dX1_chosenBy_14 : decode cX1_chosenBy 14 = .ok (.if_icmp .ne 20, 3) := by decide +kernel
theorem dX1_chosenBy_17 : decode cX1_chosenBy 17 = .ok (.aload_n 0, 1) := by decide +kernel
theorem dX1_chosenBy_18 : decode cX1_chosenBy 18 = .ok (.getfield 15, 3) := by decide +kernel
theorem dX1_chosenBy_21 : decode cX1_chosenBy 21 = .ok (.iconst 1, 1) := by decide +kernel
theorem dX1_chosenBy_22 : decode cX1_chosenBy 22 = .ok (.iadd, 1) := by decide +kernel
theorem dX1_chosenBy_23 : decode cX1_chosenBy 23 = .ok (.iload_n 2, 1) := by decide +kernel
theorem dX1_chosenBy_24 : decode cX1_chosenBy 24 = .ok (.iadd, 1) := by decide +kernel
theorem dX1_chosenBy_25 : decode cX1_chosenBy 25 = .ok (.aload_n 0, 1) := by decide +kernel
theorem dX1_chosenBy_26 : decode cX1_chosenBy 26 = .ok (.getfield 9, 3) := by decide +kernel
theorem dX1_chosenBy_29 : decode cX1_chosenBy 29 = .ok (.irem, 1) := by decide +kernel
theorem dX1_chosenBy_30 : decode cX1_chosenBy 30 = .ok (.istore_n 3, 1) := by decide +kernel
theorem dX1_chosenBy_31 : decode cX1_chosenBy 31 = .ok (.goto 17, 3) := by decide +kernel
theorem dX1_chosenBy_34 : decode cX1_chosenBy 34 = .ok (.iload_n 1, 1) := by decide +kernel
theorem dX1_chosenBy_35 : decode cX1_chosenBy 35 = .ok (.iconst 2, 1) := by decide +kernel
theorem dX1_chosenBy_36 : decode cX1_chosenBy 36 = .ok (.if_icmp .ne 12, 3) := by decide +kernel
theorem dX1_chosenBy_39 : decode cX1_chosenBy 39 = .ok (.aload_n 0, 1) := by decide +kernel
theorem dX1_chosenBy_40 : decode cX1_chosenBy 40 = .ok (.getfield 9, 3) := by decide +kernel
theorem dX1_chosenBy_43 : decode cX1_chosenBy 43 = .ok (.iconst 1, 1) := by decide +kernel
theorem dX1_chosenBy_44 : decode cX1_chosenBy 44 = .ok (.isub, 1) := by decide +kernel
theorem dX1_chosenBy_45 : decode cX1_chosenBy 45 = .ok (.iload_n 2, 1) := by decide +kernel
theorem dX1_chosenBy_46 : decode cX1_chosenBy 46 = .ok (.isub, 1) := by decide +kernel
theorem dX1_chosenBy_47 : decode cX1_chosenBy 47 = .ok (.istore_n 3, 1) := by decide +kernel
theorem dX1_chosenBy_48 : decode cX1_chosenBy 48 = .ok (.aload_n 0, 1) := by decide +kernel
theorem dX1_chosenBy_49 : decode cX1_chosenBy 49 = .ok (.getfield 28, 3) := by decide +kernel
theorem dX1_chosenBy_52 : decode cX1_chosenBy 52 = .ok (.iload_n 3, 1) := by decide +kernel
theorem dX1_chosenBy_53 : decode cX1_chosenBy 53 = .ok (.iaload, 1) := by decide +kernel
theorem dX1_chosenBy_54 : decode cX1_chosenBy 54 = .ok (.ifCond .ne 5, 3) := by decide +kernel
theorem dX1_chosenBy_57 : decode cX1_chosenBy 57 = .ok (.iload_n 3, 1) := by decide +kernel
theorem dX1_chosenBy_58 : decode cX1_chosenBy 58 = .ok (.ireturn, 1) := by decide +kernel
theorem dX1_chosenBy_59 : decode cX1_chosenBy 59 = .ok (.iinc 2 1, 3) := by decide +kernel
theorem dX1_chosenBy_62 : decode cX1_chosenBy 62 = .ok (.goto (-60), 3) := by decide +kernel
theorem dX1_chosenBy_65 : decode cX1_chosenBy 65 = .ok (.iconst (-1), 1) := by decide +kernel
theorem dX1_chosenBy_66 : decode cX1_chosenBy 66 = .ok (.ireturn, 1) := by decide +kernel
theorem dX1_copyFrom_0 : decode cX1_copyFrom 0 = .ok (.aload_n 0, 1) := by decide +kernel
theorem dX1_copyFrom_1 : decode cX1_copyFrom 1 = .ok (.aload_n 1, 1) := by decide +kernel
theorem dX1_copyFrom_2 : decode cX1_copyFrom 2 = .ok (.getfield 9, 3) := by decide +kernel
theorem dX1_copyFrom_5 : decode cX1_copyFrom 5 = .ok (.putfield 9, 3) := by decide +kernel
theorem dX1_copyFrom_8 : decode cX1_copyFrom 8 = .ok (.aload_n 0, 1) := by decide +kernel
theorem dX1_copyFrom_9 : decode cX1_copyFrom 9 = .ok (.aload_n 1, 1) := by decide +kernel
theorem dX1_copyFrom_10 : decode cX1_copyFrom 10 = .ok (.getfield 15, 3) := by decide +kernel
theorem dX1_copyFrom_13 : decode cX1_copyFrom 13 = .ok (.putfield 15, 3) := by decide +kernel
theorem dX1_copyFrom_16 : decode cX1_copyFrom 16 = .ok (.iconst 0, 1) := by decide +kernel
theorem dX1_copyFrom_17 : decode cX1_copyFrom 17 = .ok (.istore_n 2, 1) := by decide +kernel
theorem dX1_copyFrom_18 : decode cX1_copyFrom 18 = .ok (.iload_n 2, 1) := by decide +kernel
theorem dX1_copyFrom_19 : decode cX1_copyFrom 19 = .ok (.iconst 4, 1) := by decide +kernel
theorem dX1_copyFrom_20 : decode cX1_copyFrom 20 = .ok (.if_icmp .ge 24, 3) := by decide +kernel
theorem dX1_copyFrom_23 : decode cX1_copyFrom 23 = .ok (.aload_n 0, 1) := by decide +kernel
theorem dX1_copyFrom_24 : decode cX1_copyFrom 24 = .ok (.getfield 20, 3) := by decide +kernel
theorem dX1_copyFrom_27 : decode cX1_copyFrom 27 = .ok (.iload_n 2, 1) := by decide +kernel
theorem dX1_copyFrom_28 : decode cX1_copyFrom 28 = .ok (.aaload, 1) := by decide +kernel
theorem dX1_copyFrom_29 : decode cX1_copyFrom 29 = .ok (.aload_n 1, 1) := by decide +kernel
theorem dX1_copyFrom_30 : decode cX1_copyFrom 30 = .ok (.getfield 20, 3) := by decide +kernel
theorem dX1_copyFrom_33 : decode cX1_copyFrom 33 = .ok (.iload_n 2, 1) := by decide +kernel
theorem dX1_copyFrom_34 : decode cX1_copyFrom 34 = .ok (.aaload, 1) := by decide +kernel
theorem dX1_copyFrom_35 : decode cX1_copyFrom 35 = .ok (.invokevirtual 72, 3) := by decide +kernel
theorem dX1_copyFrom_38 : decode cX1_copyFrom 38 = .ok (.iinc 2 1, 3) := by decide +kernel
theorem dX1_copyFrom_41 : decode cX1_copyFrom 41 = .ok (.goto (-23), 3) := by decide +kernel
theorem dX1_copyFrom_44 : decode cX1_copyFrom 44 = .ok (.aload_n 1, 1) := by decide +kernel
theorem dX1_copyFrom_45 : decode cX1_copyFrom 45 = .ok (.getfield 24, 3) := by decide +kernel
theorem dX1_copyFrom_48 : decode cX1_copyFrom 48 = .ok (.iconst 0, 1) := by decide +kernel
theorem dX1_copyFrom_49 : decode cX1_copyFrom 49 = .ok (.aload_n 0, 1) := by decide +kernel
theorem dX1_copyFrom_50 : decode cX1_copyFrom 50 = .ok (.getfield 24, 3) := by decide +kernel
theorem dX1_copyFrom_53 : decode cX1_copyFrom 53 = .ok (.iconst 0, 1) := by decide +kernel
theorem dX1_copyFrom_54 : decode cX1_copyFrom 54 = .ok (.iconst 4, 1) := by decide +kernel
theorem dX1_copyFrom_55 : decode cX1_copyFrom 55 = .ok (.invokestatic 76, 3) := by decide +kernel
theorem dX1_copyFrom_58 : decode cX1_copyFrom 58 = .ok (.aload_n 1, 1) := by decide +kernel
theorem dX1_copyFrom_59 : decode cX1_copyFrom 59 = .ok (.getfield 28, 3) := by decide +kernel
theorem dX1_copyFrom_62 : decode cX1_copyFrom 62 = .ok (.iconst 0, 1) := by decide +kernel
theorem dX1_copyFrom_63 : decode cX1_copyFrom 63 = .ok (.aload_n 0, 1) := by decide +kernel
theorem dX1_copyFrom_64 : decode cX1_copyFrom 64 = .ok (.getfield 28, 3) := by decide +kernel
theorem dX1_copyFrom_67 : decode cX1_copyFrom 67 = .ok (.iconst 0, 1) := by decide +kernel
theorem dX1_copyFrom_68 : decode cX1_copyFrom 68 = .ok (.iconst 4, 1) := by decide +kernel
theorem dX1_copyFrom_69 : decode cX1_copyFrom 69 = .ok (.invokestatic 76, 3) := by decide +kernel
theorem dX1_copyFrom_72 : decode cX1_copyFrom 72 = .ok (.aload_n 1, 1) := by decide +kernel
theorem dX1_copyFrom_73 : decode cX1_copyFrom 73 = .ok (.getfield 31, 3) := by decide +kernel
theorem dX1_copyFrom_76 : decode cX1_copyFrom 76 = .ok (.iconst 0, 1) := by decide +kernel
theorem dX1_copyFrom_77 : decode cX1_copyFrom 77 = .ok (.aload_n 0, 1) := by decide +kernel
theorem dX1_copyFrom_78 : decode cX1_copyFrom 78 = .ok (.getfield 31, 3) := by decide +kernel
theorem dX1_copyFrom_81 : decode cX1_copyFrom 81 = .ok (.iconst 0, 1) := by decide +kernel
theorem dX1_copyFrom_82 : decode cX1_copyFrom 82 = .ok (.iconst 4, 1) := by decide +kernel
theorem dX1_copyFrom_83 : decode cX1_copyFrom 83 = .ok (.invokestatic 76, 3) := by decide +kernel
theorem dX1_copyFrom_86 : decode cX1_copyFrom 86 = .ok (.aload_n 1, 1) := by decide +kernel
theorem dX1_copyFrom_87 : decode cX1_copyFrom 87 = .ok (.getfield 34, 3) := by decide +kernel
theorem dX1_copyFrom_90 : decode cX1_copyFrom 90 = .ok (.iconst 0, 1) := by decide +kernel
theorem dX1_copyFrom_91 : decode cX1_copyFrom 91 = .ok (.aload_n 0, 1) := by decide +kernel
theorem dX1_copyFrom_92 : decode cX1_copyFrom 92 = .ok (.getfield 34, 3) := by decide +kernel
theorem dX1_copyFrom_95 : decode cX1_copyFrom 95 = .ok (.iconst 0, 1) := by decide +kernel
theorem dX1_copyFrom_96 : decode cX1_copyFrom 96 = .ok (.iconst 4, 1) := by decide +kernel
theorem dX1_copyFrom_97 : decode cX1_copyFrom 97 = .ok (.invokestatic 76, 3) := by decide +kernel
theorem dX1_copyFrom_100 : decode cX1_copyFrom 100 = .ok (.aload_n 1, 1) := by decide +kernel
theorem dX1_copyFrom_101 : decode cX1_copyFrom 101 = .ok (.getfield 37, 3) := by decide +kernel
theorem dX1_copyFrom_104 : decode cX1_copyFrom 104 = .ok (.iconst 0, 1) := by decide +kernel
theorem dX1_copyFrom_105 : decode cX1_copyFrom 105 = .ok (.aload_n 0, 1) := by decide +kernel
theorem dX1_copyFrom_106 : decode cX1_copyFrom 106 = .ok (.getfield 37, 3) := by decide +kernel
theorem dX1_copyFrom_109 : decode cX1_copyFrom 109 = .ok (.iconst 0, 1) := by decide +kernel
theorem dX1_copyFrom_110 : decode cX1_copyFrom 110 = .ok (.iconst 4, 1) := by decide +kernel
theorem dX1_copyFrom_111 : decode cX1_copyFrom 111 = .ok (.invokestatic 76, 3) := by decide +kernel
theorem dX1_copyFrom_114 : decode cX1_copyFrom 114 = .ok (.aload_n 1, 1) := by decide +kernel
theorem dX1_copyFrom_115 : decode cX1_copyFrom 115 = .ok (.getfield 44, 3) := by decide +kernel
theorem dX1_copyFrom_118 : decode cX1_copyFrom 118 = .ok (.iconst 0, 1) := by decide +kernel
theorem dX1_copyFrom_119 : decode cX1_copyFrom 119 = .ok (.aload_n 0, 1) := by decide +kernel
theorem dX1_copyFrom_120 : decode cX1_copyFrom 120 = .ok (.getfield 44, 3) := by decide +kernel
theorem dX1_copyFrom_123 : decode cX1_copyFrom 123 = .ok (.iconst 0, 1) := by decide +kernel
theorem dX1_copyFrom_124 : decode cX1_copyFrom 124 = .ok (.iconst 3, 1) := by decide +kernel
theorem dX1_copyFrom_125 : decode cX1_copyFrom 125 = .ok (.invokestatic 76, 3) := by decide +kernel
theorem dX1_copyFrom_128 : decode cX1_copyFrom 128 = .ok (.aload_n 1, 1) := by decide +kernel
theorem dX1_copyFrom_129 : decode cX1_copyFrom 129 = .ok (.getfield 47, 3) := by decide +kernel
theorem dX1_copyFrom_132 : decode cX1_copyFrom 132 = .ok (.iconst 0, 1) := by decide +kernel
theorem dX1_copyFrom_133 : decode cX1_copyFrom 133 = .ok (.aload_n 0, 1) := by decide +kernel
theorem dX1_copyFrom_134 : decode cX1_copyFrom 134 = .ok (.getfield 47, 3) := by decide +kernel
theorem dX1_copyFrom_137 : decode cX1_copyFrom 137 = .ok (.iconst 0, 1) := by decide +kernel
theorem dX1_copyFrom_138 : decode cX1_copyFrom 138 = .ok (.iconst 3, 1) := by decide +kernel
theorem dX1_copyFrom_139 : decode cX1_copyFrom 139 = .ok (.invokestatic 76, 3) := by decide +kernel
theorem dX1_copyFrom_142 : decode cX1_copyFrom 142 = .ok (.aload_n 1, 1) := by decide +kernel
theorem dX1_copyFrom_143 : decode cX1_copyFrom 143 = .ok (.getfield 50, 3) := by decide +kernel
theorem dX1_copyFrom_146 : decode cX1_copyFrom 146 = .ok (.iconst 0, 1) := by decide +kernel
theorem dX1_copyFrom_147 : decode cX1_copyFrom 147 = .ok (.aload_n 0, 1) := by decide +kernel
theorem dX1_copyFrom_148 : decode cX1_copyFrom 148 = .ok (.getfield 50, 3) := by decide +kernel
theorem dX1_copyFrom_151 : decode cX1_copyFrom 151 = .ok (.iconst 0, 1) := by decide +kernel
theorem dX1_copyFrom_152 : decode cX1_copyFrom 152 = .ok (.iconst 3, 1) := by decide +kernel
theorem dX1_copyFrom_153 : decode cX1_copyFrom 153 = .ok (.invokestatic 76, 3) := by decide +kernel
theorem dX1_copyFrom_156 : decode cX1_copyFrom 156 = .ok (.aload_n 1, 1) := by decide +kernel
theorem dX1_copyFrom_157 : decode cX1_copyFrom 157 = .ok (.getfield 53, 3) := by decide +kernel
theorem dX1_copyFrom_160 : decode cX1_copyFrom 160 = .ok (.iconst 0, 1) := by decide +kernel
theorem dX1_copyFrom_161 : decode cX1_copyFrom 161 = .ok (.aload_n 0, 1) := by decide +kernel
theorem dX1_copyFrom_162 : decode cX1_copyFrom 162 = .ok (.getfield 53, 3) := by decide +kernel
theorem dX1_copyFrom_165 : decode cX1_copyFrom 165 = .ok (.iconst 0, 1) := by decide +kernel
theorem dX1_copyFrom_166 : decode cX1_copyFrom 166 = .ok (.iconst 3, 1) := by decide +kernel
theorem dX1_copyFrom_167 : decode cX1_copyFrom 167 = .ok (.invokestatic 76, 3) := by decide +kernel
theorem dX1_copyFrom_170 : decode cX1_copyFrom 170 = .ok (.aload_n 1, 1) := by decide +kernel
theorem dX1_copyFrom_171 : decode cX1_copyFrom 171 = .ok (.getfield 56, 3) := by decide +kernel
theorem dX1_copyFrom_174 : decode cX1_copyFrom 174 = .ok (.iconst 0, 1) := by decide +kernel
theorem dX1_copyFrom_175 : decode cX1_copyFrom 175 = .ok (.aload_n 0, 1) := by decide +kernel
theorem dX1_copyFrom_176 : decode cX1_copyFrom 176 = .ok (.getfield 56, 3) := by decide +kernel
theorem dX1_copyFrom_179 : decode cX1_copyFrom 179 = .ok (.iconst 0, 1) := by decide +kernel
theorem dX1_copyFrom_180 : decode cX1_copyFrom 180 = .ok (.iconst 4, 1) := by decide +kernel
theorem dX1_copyFrom_181 : decode cX1_copyFrom 181 = .ok (.invokestatic 76, 3) := by decide +kernel
theorem dX1_copyFrom_184 : decode cX1_copyFrom 184 = .ok (.iconst 0, 1) := by decide +kernel
theorem dX1_copyFrom_185 : decode cX1_copyFrom 185 = .ok (.istore_n 2, 1) := by decide +kernel
theorem dX1_copyFrom_186 : decode cX1_copyFrom 186 = .ok (.iload_n 2, 1) := by decide +kernel
theorem dX1_copyFrom_187 : decode cX1_copyFrom 187 = .ok (.iconst 3, 1) := by decide +kernel
theorem dX1_copyFrom_188 : decode cX1_copyFrom 188 = .ok (.if_icmp .ge 21, 3) := by decide +kernel
theorem dX1_copyFrom_191 : decode cX1_copyFrom 191 = .ok (.aload_n 0, 1) := by decide +kernel
theorem dX1_copyFrom_192 : decode cX1_copyFrom 192 = .ok (.getfield 40, 3) := by decide +kernel
theorem dX1_copyFrom_195 : decode cX1_copyFrom 195 = .ok (.iload_n 2, 1) := by decide +kernel
theorem dX1_copyFrom_196 : decode cX1_copyFrom 196 = .ok (.aload_n 1, 1) := by decide +kernel
theorem dX1_copyFrom_197 : decode cX1_copyFrom 197 = .ok (.getfield 40, 3) := by decide +kernel
theorem dX1_copyFrom_200 : decode cX1_copyFrom 200 = .ok (.iload_n 2, 1) := by decide +kernel
theorem dX1_copyFrom_201 : decode cX1_copyFrom 201 = .ok (.baload, 1) := by decide +kernel
theorem dX1_copyFrom_202 : decode cX1_copyFrom 202 = .ok (.bastore, 1) := by decide +kernel
theorem dX1_copyFrom_203 : decode cX1_copyFrom 203 = .ok (.iinc 2 1, 3) := by decide +kernel
theorem dX1_copyFrom_206 : decode cX1_copyFrom 206 = .ok (.goto (-20), 3) := by decide +kernel
theorem dX1_copyFrom_209 : decode cX1_copyFrom 209 = .ok (.return_, 1) := by decide +kernel
theorem dX1_doAtMonitor_0 : decode cX1_doAtMonitor 0 = .ok (.iload_n 3, 1) := by decide +kernel
theorem dX1_doAtMonitor_1 : decode cX1_doAtMonitor 1 = .ok (.invokestatic 98, 3) := by decide +kernel
theorem dX1_doAtMonitor_4 : decode cX1_doAtMonitor 4 = .ok (.ifCond .eq 12, 3) := by decide +kernel
theorem dX1_doAtMonitor_7 : decode cX1_doAtMonitor 7 = .ok (.aload_n 0, 1) := by decide +kernel
theorem dX1_doAtMonitor_8 : decode cX1_doAtMonitor 8 = .ok (.getfield 40, 3) := by decide +kernel
theorem dX1_doAtMonitor_11 : decode cX1_doAtMonitor 11 = .ok (.iload_n 3, 1) := by decide +kernel
theorem dX1_doAtMonitor_12 : decode cX1_doAtMonitor 12 = .ok (.baload, 1) := by decide +kernel
theorem dX1_doAtMonitor_13 : decode cX1_doAtMonitor 13 = .ok (.ifCond .eq 5, 3) := by decide +kernel
theorem dX1_doAtMonitor_16 : decode cX1_doAtMonitor 16 = .ok (.iconst 1, 1) := by decide +kernel
theorem dX1_doAtMonitor_17 : decode cX1_doAtMonitor 17 = .ok (.ireturn, 1) := by decide +kernel
theorem dX1_doAtMonitor_18 : decode cX1_doAtMonitor 18 = .ok (.iload_n 2, 1) := by decide +kernel
theorem dX1_doAtMonitor_19 : decode cX1_doAtMonitor 19 = .ok (.ifCond .ne 10, 3) := by decide +kernel
theorem dX1_doAtMonitor_22 : decode cX1_doAtMonitor 22 = .ok (.aload_n 0, 1) := by decide +kernel
theorem dX1_doAtMonitor_23 : decode cX1_doAtMonitor 23 = .ok (.iload_n 1, 1) := by decide +kernel
theorem dX1_doAtMonitor_24 : decode cX1_doAtMonitor 24 = .ok (.iload_n 3, 1) := by decide +kernel
theorem dX1_doAtMonitor_25 : decode cX1_doAtMonitor 25 = .ok (.invokevirtual 102, 3) := by decide +kernel
theorem dX1_doAtMonitor_28 : decode cX1_doAtMonitor 28 = .ok (.ireturn, 1) := by decide +kernel
theorem dX1_doAtMonitor_29 : decode cX1_doAtMonitor 29 = .ok (.aload_n 0, 1) := by decide +kernel
theorem dX1_doAtMonitor_30 : decode cX1_doAtMonitor 30 = .ok (.getfield 44, 3) := by decide +kernel
theorem dX1_doAtMonitor_33 : decode cX1_doAtMonitor 33 = .ok (.iload_n 3, 1) := by decide +kernel
theorem dX1_doAtMonitor_34 : decode cX1_doAtMonitor 34 = .ok (.iaload, 1) := by decide +kernel
theorem dX1_doAtMonitor_35 : decode cX1_doAtMonitor 35 = .ok (.iload_n 1, 1) := by decide +kernel
theorem dX1_doAtMonitor_36 : decode cX1_doAtMonitor 36 = .ok (.if_icmp .eq 5, 3) := by decide +kernel
theorem dX1_doAtMonitor_39 : decode cX1_doAtMonitor 39 = .ok (.iconst 2, 1) := by decide +kernel
theorem dX1_doAtMonitor_40 : decode cX1_doAtMonitor 40 = .ok (.ireturn, 1) := by decide +kernel
theorem dX1_doAtMonitor_41 : decode cX1_doAtMonitor 41 = .ok (.iload_n 2, 1) := by decide +kernel
theorem dX1_doAtMonitor_42 : decode cX1_doAtMonitor 42 = .ok (.iconst 1, 1) := by decide +kernel
theorem dX1_doAtMonitor_43 : decode cX1_doAtMonitor 43 = .ok (.if_icmp .ne 30, 3) := by decide +kernel
theorem dX1_doAtMonitor_46 : decode cX1_doAtMonitor 46 = .ok (.aload_n 0, 1) := by decide +kernel
theorem dX1_doAtMonitor_47 : decode cX1_doAtMonitor 47 = .ok (.getfield 47, 3) := by decide +kernel
theorem dX1_doAtMonitor_50 : decode cX1_doAtMonitor 50 = .ok (.iload_n 3, 1) := by decide +kernel
theorem dX1_doAtMonitor_51 : decode cX1_doAtMonitor 51 = .ok (.dup2, 1) := by decide +kernel
theorem dX1_doAtMonitor_52 : decode cX1_doAtMonitor 52 = .ok (.iaload, 1) := by decide +kernel
theorem dX1_doAtMonitor_53 : decode cX1_doAtMonitor 53 = .ok (.iconst 1, 1) := by decide +kernel
theorem dX1_doAtMonitor_54 : decode cX1_doAtMonitor 54 = .ok (.isub, 1) := by decide +kernel
theorem dX1_doAtMonitor_55 : decode cX1_doAtMonitor 55 = .ok (.iastore, 1) := by decide +kernel
theorem dX1_doAtMonitor_56 : decode cX1_doAtMonitor 56 = .ok (.aload_n 0, 1) := by decide +kernel
theorem dX1_doAtMonitor_57 : decode cX1_doAtMonitor 57 = .ok (.getfield 47, 3) := by decide +kernel
theorem dX1_doAtMonitor_60 : decode cX1_doAtMonitor 60 = .ok (.iload_n 3, 1) := by decide +kernel
theorem dX1_doAtMonitor_61 : decode cX1_doAtMonitor 61 = .ok (.iaload, 1) := by decide +kernel
theorem dX1_doAtMonitor_62 : decode cX1_doAtMonitor 62 = .ok (.ifCond .ne 74, 3) := by decide +kernel
theorem dX1_doAtMonitor_65 : decode cX1_doAtMonitor 65 = .ok (.aload_n 0, 1) := by decide +kernel
theorem dX1_doAtMonitor_66 : decode cX1_doAtMonitor 66 = .ok (.iload_n 3, 1) := by decide +kernel
theorem dX1_doAtMonitor_67 : decode cX1_doAtMonitor 67 = .ok (.invokevirtual 105, 3) := by decide +kernel
theorem dX1_doAtMonitor_70 : decode cX1_doAtMonitor 70 = .ok (.goto 66, 3) := by decide +kernel
theorem dX1_doAtMonitor_73 : decode cX1_doAtMonitor 73 = .ok (.iload_n 2, 1) := by decide +kernel
theorem dX1_doAtMonitor_74 : decode cX1_doAtMonitor 74 = .ok (.iconst 2, 1) := by decide +kernel
theorem dX1_doAtMonitor_75 : decode cX1_doAtMonitor 75 = .ok (.if_icmp .ne 46, 3) := by decide +kernel
theorem dX1_doAtMonitor_78 : decode cX1_doAtMonitor 78 = .ok (.aload_n 0, 1) := by decide +kernel
theorem dX1_doAtMonitor_79 : decode cX1_doAtMonitor 79 = .ok (.getfield 28, 3) := by decide +kernel
theorem dX1_doAtMonitor_82 : decode cX1_doAtMonitor 82 = .ok (.iload_n 1, 1) := by decide +kernel
theorem dX1_doAtMonitor_83 : decode cX1_doAtMonitor 83 = .ok (.iconst 2, 1) := by decide +kernel
theorem dX1_doAtMonitor_84 : decode cX1_doAtMonitor 84 = .ok (.iastore, 1) := by decide +kernel
theorem dX1_doAtMonitor_85 : decode cX1_doAtMonitor 85 = .ok (.aload_n 0, 1) := by decide +kernel
theorem dX1_doAtMonitor_86 : decode cX1_doAtMonitor 86 = .ok (.getfield 31, 3) := by decide +kernel
theorem dX1_doAtMonitor_89 : decode cX1_doAtMonitor 89 = .ok (.iload_n 1, 1) := by decide +kernel
theorem dX1_doAtMonitor_90 : decode cX1_doAtMonitor 90 = .ok (.aload_n 0, 1) := by decide +kernel
theorem dX1_doAtMonitor_91 : decode cX1_doAtMonitor 91 = .ok (.getfield 47, 3) := by decide +kernel
theorem dX1_doAtMonitor_94 : decode cX1_doAtMonitor 94 = .ok (.iload_n 3, 1) := by decide +kernel
theorem dX1_doAtMonitor_95 : decode cX1_doAtMonitor 95 = .ok (.iaload, 1) := by decide +kernel
theorem dX1_doAtMonitor_96 : decode cX1_doAtMonitor 96 = .ok (.iastore, 1) := by decide +kernel
theorem dX1_doAtMonitor_97 : decode cX1_doAtMonitor 97 = .ok (.aload_n 0, 1) := by decide +kernel
theorem dX1_doAtMonitor_98 : decode cX1_doAtMonitor 98 = .ok (.getfield 53, 3) := by decide +kernel
theorem dX1_doAtMonitor_101 : decode cX1_doAtMonitor 101 = .ok (.iload_n 3, 1) := by decide +kernel
theorem dX1_doAtMonitor_102 : decode cX1_doAtMonitor 102 = .ok (.aload_n 0, 1) := by decide +kernel
theorem dX1_doAtMonitor_103 : decode cX1_doAtMonitor 103 = .ok (.getfield 53, 3) := by decide +kernel
theorem dX1_doAtMonitor_106 : decode cX1_doAtMonitor 106 = .ok (.iload_n 3, 1) := by decide +kernel
theorem dX1_doAtMonitor_107 : decode cX1_doAtMonitor 107 = .ok (.iaload, 1) := by decide +kernel
theorem dX1_doAtMonitor_108 : decode cX1_doAtMonitor 108 = .ok (.iload_n 1, 1) := by decide +kernel
theorem dX1_doAtMonitor_109 : decode cX1_doAtMonitor 109 = .ok (.invokestatic 109, 3) := by decide +kernel
theorem dX1_doAtMonitor_112 : decode cX1_doAtMonitor 112 = .ok (.iastore, 1) := by decide +kernel
theorem dX1_doAtMonitor_113 : decode cX1_doAtMonitor 113 = .ok (.aload_n 0, 1) := by decide +kernel
theorem dX1_doAtMonitor_114 : decode cX1_doAtMonitor 114 = .ok (.iload_n 3, 1) := by decide +kernel
theorem dX1_doAtMonitor_115 : decode cX1_doAtMonitor 115 = .ok (.invokevirtual 105, 3) := by decide +kernel
theorem dX1_doAtMonitor_118 : decode cX1_doAtMonitor 118 = .ok (.goto 18, 3) := by decide +kernel
theorem dX1_doAtMonitor_121 : decode cX1_doAtMonitor 121 = .ok (.aload_n 0, 1) := by decide +kernel
theorem dX1_doAtMonitor_122 : decode cX1_doAtMonitor 122 = .ok (.iload_n 3, 1) := by decide +kernel
theorem dX1_doAtMonitor_123 : decode cX1_doAtMonitor 123 = .ok (.iload_n 2, 1) := by decide +kernel
theorem dX1_doAtMonitor_124 : decode cX1_doAtMonitor 124 = .ok (.iconst 3, 1) := by decide +kernel
theorem dX1_doAtMonitor_125 : decode cX1_doAtMonitor 125 = .ok (.if_icmp .ne 7, 3) := by decide +kernel
theorem dX1_doAtMonitor_128 : decode cX1_doAtMonitor 128 = .ok (.iconst 1, 1) := by decide +kernel
theorem dX1_doAtMonitor_129 : decode cX1_doAtMonitor 129 = .ok (.goto 4, 3) := by decide +kernel
theorem dX1_doAtMonitor_132 : decode cX1_doAtMonitor 132 = .ok (.iconst 4, 1) := by decide +kernel
theorem dX1_doAtMonitor_133 : decode cX1_doAtMonitor 133 = .ok (.invokevirtual 114, 3) := by decide +kernel
theorem dX1_doAtMonitor_136 : decode cX1_doAtMonitor 136 = .ok (.iconst 0, 1) := by decide +kernel
theorem dX1_doAtMonitor_137 : decode cX1_doAtMonitor 137 = .ok (.ireturn, 1) := by decide +kernel
theorem dX1_doWithCells_0 : decode cX1_doWithCells 0 = .ok (.aload_n 2, 1) := by decide +kernel
theorem dX1_doWithCells_1 : decode cX1_doWithCells 1 = .ok (.iload_n 3, 1) := by decide +kernel
theorem dX1_doWithCells_2 : decode cX1_doWithCells 2 = .ok (.iconst 1, 1) := by decide +kernel
theorem dX1_doWithCells_3 : decode cX1_doWithCells 3 = .ok (.invokevirtual 86, 3) := by decide +kernel
theorem dX1_doWithCells_6 : decode cX1_doWithCells 6 = .ok (.istore 4, 2) := by decide +kernel
theorem dX1_doWithCells_8 : decode cX1_doWithCells 8 = .ok (.aload_n 2, 1) := by decide +kernel
theorem dX1_doWithCells_9 : decode cX1_doWithCells 9 = .ok (.iload_n 3, 1) := by decide +kernel
theorem dX1_doWithCells_10 : decode cX1_doWithCells 10 = .ok (.iconst 2, 1) := by decide +kernel
theorem dX1_doWithCells_11 : decode cX1_doWithCells 11 = .ok (.invokevirtual 86, 3) := by decide +kernel
theorem dX1_doWithCells_14 : decode cX1_doWithCells 14 = .ok (.istore 5, 2) := by decide +kernel
theorem dX1_doWithCells_16 : decode cX1_doWithCells 16 = .ok (.aload_n 2, 1) := by decide +kernel
theorem dX1_doWithCells_17 : decode cX1_doWithCells 17 = .ok (.iload_n 3, 1) := by decide +kernel
theorem dX1_doWithCells_18 : decode cX1_doWithCells 18 = .ok (.iconst 0, 1) := by decide +kernel
theorem dX1_doWithCells_19 : decode cX1_doWithCells 19 = .ok (.invokevirtual 86, 3) := by decide +kernel
theorem dX1_doWithCells_22 : decode cX1_doWithCells 22 = .ok (.istore 6, 2) := by decide +kernel
theorem dX1_doWithCells_24 : decode cX1_doWithCells 24 = .ok (.iload 6, 2) := by decide +kernel
theorem dX1_doWithCells_26 : decode cX1_doWithCells 26 = .ok (.bipush 8, 2) := by decide +kernel
theorem dX1_doWithCells_28 : decode cX1_doWithCells 28 = .ok (.if_icmp .ne 20, 3) := by decide +kernel
theorem dX1_doWithCells_31 : decode cX1_doWithCells 31 = .ok (.aload_n 0, 1) := by decide +kernel
theorem dX1_doWithCells_32 : decode cX1_doWithCells 32 = .ok (.getfield 24, 3) := by decide +kernel
theorem dX1_doWithCells_35 : decode cX1_doWithCells 35 = .ok (.iload_n 1, 1) := by decide +kernel
theorem dX1_doWithCells_36 : decode cX1_doWithCells 36 = .ok (.iload 4, 2) := by decide +kernel
theorem dX1_doWithCells_38 : decode cX1_doWithCells 38 = .ok (.aload_n 2, 1) := by decide +kernel
theorem dX1_doWithCells_39 : decode cX1_doWithCells 39 = .ok (.getfield 66, 3) := by decide +kernel
theorem dX1_doWithCells_42 : decode cX1_doWithCells 42 = .ok (.invokestatic 124, 3) := by decide +kernel
theorem dX1_doWithCells_45 : decode cX1_doWithCells 45 = .ok (.iastore, 1) := by decide +kernel
theorem dX1_doWithCells_46 : decode cX1_doWithCells 46 = .ok (.iconst 0, 1) := by decide +kernel
theorem dX1_doWithCells_47 : decode cX1_doWithCells 47 = .ok (.ireturn, 1) := by decide +kernel
theorem dX1_doWithCells_48 : decode cX1_doWithCells 48 = .ok (.iload 4, 2) := by decide +kernel
theorem dX1_doWithCells_50 : decode cX1_doWithCells 50 = .ok (.invokestatic 129, 3) := by decide +kernel
theorem dX1_doWithCells_53 : decode cX1_doWithCells 53 = .ok (.ifCond .ne 5, 3) := by decide +kernel
theorem dX1_doWithCells_56 : decode cX1_doWithCells 56 = .ok (.iconst 4, 1) := by decide +kernel
theorem dX1_doWithCells_57 : decode cX1_doWithCells 57 = .ok (.ireturn, 1) := by decide +kernel
theorem dX1_doWithCells_58 : decode cX1_doWithCells 58 = .ok (.iload 6, 2) := by decide +kernel
theorem dX1_doWithCells_60 : decode cX1_doWithCells 60 = .ok (.lookupswitch 73 #[(5, 28), (6, 61)], 28) := by decide +kernel
theorem dX1_doWithCells_88 : decode cX1_doWithCells 88 = .ok (.aload_n 0, 1) := by decide +kernel
theorem dX1_doWithCells_89 : decode cX1_doWithCells 89 = .ok (.getfield 56, 3) := by decide +kernel
theorem dX1_doWithCells_92 : decode cX1_doWithCells 92 = .ok (.iload 4, 2) := by decide +kernel
theorem dX1_doWithCells_94 : decode cX1_doWithCells 94 = .ok (.iaload, 1) := by decide +kernel
theorem dX1_doWithCells_95 : decode cX1_doWithCells 95 = .ok (.iload 5, 2) := by decide +kernel
theorem dX1_doWithCells_97 : decode cX1_doWithCells 97 = .ok (.iadd, 1) := by decide +kernel
theorem dX1_doWithCells_98 : decode cX1_doWithCells 98 = .ok (.invokestatic 132, 3) := by decide +kernel
theorem dX1_doWithCells_101 : decode cX1_doWithCells 101 = .ok (.ifCond .ne 5, 3) := by decide +kernel
theorem dX1_doWithCells_104 : decode cX1_doWithCells 104 = .ok (.iconst 4, 1) := by decide +kernel
theorem dX1_doWithCells_105 : decode cX1_doWithCells 105 = .ok (.ireturn, 1) := by decide +kernel
theorem dX1_doWithCells_106 : decode cX1_doWithCells 106 = .ok (.aload_n 0, 1) := by decide +kernel
theorem dX1_doWithCells_107 : decode cX1_doWithCells 107 = .ok (.getfield 56, 3) := by decide +kernel
theorem dX1_doWithCells_110 : decode cX1_doWithCells 110 = .ok (.iload 4, 2) := by decide +kernel
theorem dX1_doWithCells_112 : decode cX1_doWithCells 112 = .ok (.dup2, 1) := by decide +kernel
theorem dX1_doWithCells_113 : decode cX1_doWithCells 113 = .ok (.iaload, 1) := by decide +kernel
theorem dX1_doWithCells_114 : decode cX1_doWithCells 114 = .ok (.iload 5, 2) := by decide +kernel
theorem dX1_doWithCells_116 : decode cX1_doWithCells 116 = .ok (.iadd, 1) := by decide +kernel
theorem dX1_doWithCells_117 : decode cX1_doWithCells 117 = .ok (.iastore, 1) := by decide +kernel
theorem dX1_doWithCells_118 : decode cX1_doWithCells 118 = .ok (.goto 46, 3) := by decide +kernel
theorem dX1_doWithCells_121 : decode cX1_doWithCells 121 = .ok (.aload_n 0, 1) := by decide +kernel
theorem dX1_doWithCells_122 : decode cX1_doWithCells 122 = .ok (.getfield 56, 3) := by decide +kernel
theorem dX1_doWithCells_125 : decode cX1_doWithCells 125 = .ok (.iload 4, 2) := by decide +kernel
theorem dX1_doWithCells_127 : decode cX1_doWithCells 127 = .ok (.iload 5, 2) := by decide +kernel
theorem dX1_doWithCells_129 : decode cX1_doWithCells 129 = .ok (.iastore, 1) := by decide +kernel
theorem dX1_doWithCells_130 : decode cX1_doWithCells 130 = .ok (.goto 34, 3) := by decide +kernel
theorem dX1_doWithCells_133 : decode cX1_doWithCells 133 = .ok (.aload_n 0, 1) := by decide +kernel
theorem dX1_doWithCells_134 : decode cX1_doWithCells 134 = .ok (.getfield 56, 3) := by decide +kernel
theorem dX1_doWithCells_137 : decode cX1_doWithCells 137 = .ok (.iload 4, 2) := by decide +kernel
theorem dX1_doWithCells_139 : decode cX1_doWithCells 139 = .ok (.iaload, 1) := by decide +kernel
theorem dX1_doWithCells_140 : decode cX1_doWithCells 140 = .ok (.iload 5, 2) := by decide +kernel
theorem dX1_doWithCells_142 : decode cX1_doWithCells 142 = .ok (.if_icmp .eq 22, 3) := by decide +kernel
theorem dX1_doWithCells_145 : decode cX1_doWithCells 145 = .ok (.aload_n 0, 1) := by decide +kernel
theorem dX1_doWithCells_146 : decode cX1_doWithCells 146 = .ok (.getfield 24, 3) := by decide +kernel
theorem dX1_doWithCells_149 : decode cX1_doWithCells 149 = .ok (.iload_n 1, 1) := by decide +kernel
theorem dX1_doWithCells_150 : decode cX1_doWithCells 150 = .ok (.aload_n 2, 1) := by decide +kernel
theorem dX1_doWithCells_151 : decode cX1_doWithCells 151 = .ok (.iload_n 3, 1) := by decide +kernel
theorem dX1_doWithCells_152 : decode cX1_doWithCells 152 = .ok (.iconst 3, 1) := by decide +kernel
theorem dX1_doWithCells_153 : decode cX1_doWithCells 153 = .ok (.invokevirtual 86, 3) := by decide +kernel
theorem dX1_doWithCells_156 : decode cX1_doWithCells 156 = .ok (.aload_n 2, 1) := by decide +kernel
theorem dX1_doWithCells_157 : decode cX1_doWithCells 157 = .ok (.getfield 66, 3) := by decide +kernel
theorem dX1_doWithCells_160 : decode cX1_doWithCells 160 = .ok (.invokestatic 124, 3) := by decide +kernel
theorem dX1_doWithCells_163 : decode cX1_doWithCells 163 = .ok (.iastore, 1) := by decide +kernel
theorem dX1_doWithCells_164 : decode cX1_doWithCells 164 = .ok (.iconst 0, 1) := by decide +kernel
theorem dX1_doWithCells_165 : decode cX1_doWithCells 165 = .ok (.ireturn, 1) := by decide +kernel
theorem dX1_end_0 : decode cX1_end 0 = .ok (.iconst 0, 1) := by decide +kernel
theorem dX1_end_1 : decode cX1_end 1 = .ok (.istore_n 3, 1) := by decide +kernel
theorem dX1_end_2 : decode cX1_end 2 = .ok (.aload_n 0, 1) := by decide +kernel
theorem dX1_end_3 : decode cX1_end 3 = .ok (.getfield 28, 3) := by decide +kernel
theorem dX1_end_6 : decode cX1_end 6 = .ok (.iload_n 1, 1) := by decide +kernel
theorem dX1_end_7 : decode cX1_end 7 = .ok (.iload_n 2, 1) := by decide +kernel
theorem dX1_end_8 : decode cX1_end 8 = .ok (.iastore, 1) := by decide +kernel
theorem dX1_end_9 : decode cX1_end 9 = .ok (.iconst 0, 1) := by decide +kernel
theorem dX1_end_10 : decode cX1_end 10 = .ok (.istore 4, 2) := by decide +kernel
theorem dX1_end_12 : decode cX1_end 12 = .ok (.iload 4, 2) := by decide +kernel
theorem dX1_end_14 : decode cX1_end 14 = .ok (.iconst 3, 1) := by decide +kernel
theorem dX1_end_15 : decode cX1_end 15 = .ok (.if_icmp .ge 29, 3) := by decide +kernel
theorem dX1_end_18 : decode cX1_end 18 = .ok (.aload_n 0, 1) := by decide +kernel
theorem dX1_end_19 : decode cX1_end 19 = .ok (.getfield 44, 3) := by decide +kernel
theorem dX1_end_22 : decode cX1_end 22 = .ok (.iload 4, 2) := by decide +kernel
theorem dX1_end_24 : decode cX1_end 24 = .ok (.iaload, 1) := by decide +kernel
theorem dX1_end_25 : decode cX1_end 25 = .ok (.iload_n 1, 1) := by decide +kernel
theorem dX1_end_26 : decode cX1_end 26 = .ok (.if_icmp .ne 12, 3) := by decide +kernel
theorem dX1_end_29 : decode cX1_end 29 = .ok (.aload_n 0, 1) := by decide +kernel
theorem dX1_end_30 : decode cX1_end 30 = .ok (.iload 4, 2) := by decide +kernel
theorem dX1_end_32 : decode cX1_end 32 = .ok (.invokevirtual 105, 3) := by decide +kernel
theorem dX1_end_35 : decode cX1_end 35 = .ok (.iinc 3 1, 3) := by decide +kernel
theorem dX1_end_38 : decode cX1_end 38 = .ok (.iinc 4 1, 3) := by decide +kernel
theorem dX1_end_41 : decode cX1_end 41 = .ok (.goto (-29), 3) := by decide +kernel
theorem dX1_end_44 : decode cX1_end 44 = .ok (.aload_n 0, 1) := by decide +kernel
theorem dX1_end_45 : decode cX1_end 45 = .ok (.getfield 37, 3) := by decide +kernel
theorem dX1_end_48 : decode cX1_end 48 = .ok (.iload_n 1, 1) := by decide +kernel
theorem dX1_end_49 : decode cX1_end 49 = .ok (.iload_n 2, 1) := by decide +kernel
theorem dX1_end_50 : decode cX1_end 50 = .ok (.iconst 3, 1) := by decide +kernel
theorem dX1_end_51 : decode cX1_end 51 = .ok (.if_icmp .ne 7, 3) := by decide +kernel
theorem dX1_end_54 : decode cX1_end 54 = .ok (.iload_n 3, 1) := by decide +kernel
theorem dX1_end_55 : decode cX1_end 55 = .ok (.goto 4, 3) := by decide +kernel
theorem dX1_end_58 : decode cX1_end 58 = .ok (.iconst 0, 1) := by decide +kernel
theorem dX1_end_59 : decode cX1_end 59 = .ok (.iastore, 1) := by decide +kernel
theorem dX1_end_60 : decode cX1_end 60 = .ok (.return_, 1) := by decide +kernel
theorem dX1_enter_0 : decode cX1_enter 0 = .ok (.aload_n 0, 1) := by decide +kernel
theorem dX1_enter_1 : decode cX1_enter 1 = .ok (.getfield 44, 3) := by decide +kernel
theorem dX1_enter_4 : decode cX1_enter 4 = .ok (.iload_n 2, 1) := by decide +kernel
theorem dX1_enter_5 : decode cX1_enter 5 = .ok (.iaload, 1) := by decide +kernel
theorem dX1_enter_6 : decode cX1_enter 6 = .ok (.iconst (-1), 1) := by decide +kernel
theorem dX1_enter_7 : decode cX1_enter 7 = .ok (.if_icmp .ne 20, 3) := by decide +kernel
theorem dX1_enter_10 : decode cX1_enter 10 = .ok (.aload_n 0, 1) := by decide +kernel
theorem dX1_enter_11 : decode cX1_enter 11 = .ok (.getfield 44, 3) := by decide +kernel
theorem dX1_enter_14 : decode cX1_enter 14 = .ok (.iload_n 2, 1) := by decide +kernel
theorem dX1_enter_15 : decode cX1_enter 15 = .ok (.iload_n 1, 1) := by decide +kernel
theorem dX1_enter_16 : decode cX1_enter 16 = .ok (.iastore, 1) := by decide +kernel
theorem dX1_enter_17 : decode cX1_enter 17 = .ok (.aload_n 0, 1) := by decide +kernel
theorem dX1_enter_18 : decode cX1_enter 18 = .ok (.getfield 47, 3) := by decide +kernel
theorem dX1_enter_21 : decode cX1_enter 21 = .ok (.iload_n 2, 1) := by decide +kernel
theorem dX1_enter_22 : decode cX1_enter 22 = .ok (.iconst 1, 1) := by decide +kernel
theorem dX1_enter_23 : decode cX1_enter 23 = .ok (.iastore, 1) := by decide +kernel
theorem dX1_enter_24 : decode cX1_enter 24 = .ok (.goto 69, 3) := by decide +kernel
theorem dX1_enter_27 : decode cX1_enter 27 = .ok (.aload_n 0, 1) := by decide +kernel
theorem dX1_enter_28 : decode cX1_enter 28 = .ok (.getfield 44, 3) := by decide +kernel
theorem dX1_enter_31 : decode cX1_enter 31 = .ok (.iload_n 2, 1) := by decide +kernel
theorem dX1_enter_32 : decode cX1_enter 32 = .ok (.iaload, 1) := by decide +kernel
theorem dX1_enter_33 : decode cX1_enter 33 = .ok (.iload_n 1, 1) := by decide +kernel
theorem dX1_enter_34 : decode cX1_enter 34 = .ok (.if_icmp .eq 36, 3) := by decide +kernel
theorem dX1_enter_37 : decode cX1_enter 37 = .ok (.aload_n 0, 1) := by decide +kernel
theorem dX1_enter_38 : decode cX1_enter 38 = .ok (.getfield 28, 3) := by decide +kernel
theorem dX1_enter_41 : decode cX1_enter 41 = .ok (.iload_n 1, 1) := by decide +kernel
theorem dX1_enter_42 : decode cX1_enter 42 = .ok (.iconst 1, 1) := by decide +kernel
theorem dX1_enter_43 : decode cX1_enter 43 = .ok (.iastore, 1) := by decide +kernel
theorem dX1_enter_44 : decode cX1_enter 44 = .ok (.aload_n 0, 1) := by decide +kernel
theorem dX1_enter_45 : decode cX1_enter 45 = .ok (.getfield 31, 3) := by decide +kernel
theorem dX1_enter_48 : decode cX1_enter 48 = .ok (.iload_n 1, 1) := by decide +kernel
theorem dX1_enter_49 : decode cX1_enter 49 = .ok (.iconst 1, 1) := by decide +kernel
theorem dX1_enter_50 : decode cX1_enter 50 = .ok (.iastore, 1) := by decide +kernel
theorem dX1_enter_51 : decode cX1_enter 51 = .ok (.aload_n 0, 1) := by decide +kernel
theorem dX1_enter_52 : decode cX1_enter 52 = .ok (.getfield 50, 3) := by decide +kernel
theorem dX1_enter_55 : decode cX1_enter 55 = .ok (.iload_n 2, 1) := by decide +kernel
theorem dX1_enter_56 : decode cX1_enter 56 = .ok (.aload_n 0, 1) := by decide +kernel
theorem dX1_enter_57 : decode cX1_enter 57 = .ok (.getfield 50, 3) := by decide +kernel
theorem dX1_enter_60 : decode cX1_enter 60 = .ok (.iload_n 2, 1) := by decide +kernel
theorem dX1_enter_61 : decode cX1_enter 61 = .ok (.iaload, 1) := by decide +kernel
theorem dX1_enter_62 : decode cX1_enter 62 = .ok (.iload_n 1, 1) := by decide +kernel
theorem dX1_enter_63 : decode cX1_enter 63 = .ok (.invokestatic 109, 3) := by decide +kernel
theorem dX1_enter_66 : decode cX1_enter 66 = .ok (.iastore, 1) := by decide +kernel
theorem dX1_enter_67 : decode cX1_enter 67 = .ok (.goto 26, 3) := by decide +kernel
theorem dX1_enter_70 : decode cX1_enter 70 = .ok (.aload_n 0, 1) := by decide +kernel
theorem dX1_enter_71 : decode cX1_enter 71 = .ok (.getfield 47, 3) := by decide +kernel
theorem dX1_enter_74 : decode cX1_enter 74 = .ok (.iload_n 2, 1) := by decide +kernel
theorem dX1_enter_75 : decode cX1_enter 75 = .ok (.iaload, 1) := by decide +kernel
theorem dX1_enter_76 : decode cX1_enter 76 = .ok (.bipush 9, 2) := by decide +kernel
theorem dX1_enter_78 : decode cX1_enter 78 = .ok (.if_icmp .lt 5, 3) := by decide +kernel
theorem dX1_enter_81 : decode cX1_enter 81 = .ok (.iconst 3, 1) := by decide +kernel
theorem dX1_enter_82 : decode cX1_enter 82 = .ok (.ireturn, 1) := by decide +kernel
theorem dX1_enter_83 : decode cX1_enter 83 = .ok (.aload_n 0, 1) := by decide +kernel
theorem dX1_enter_84 : decode cX1_enter 84 = .ok (.getfield 47, 3) := by decide +kernel
theorem dX1_enter_87 : decode cX1_enter 87 = .ok (.iload_n 2, 1) := by decide +kernel
theorem dX1_enter_88 : decode cX1_enter 88 = .ok (.dup2, 1) := by decide +kernel
theorem dX1_enter_89 : decode cX1_enter 89 = .ok (.iaload, 1) := by decide +kernel
theorem dX1_enter_90 : decode cX1_enter 90 = .ok (.iconst 1, 1) := by decide +kernel
theorem dX1_enter_91 : decode cX1_enter 91 = .ok (.iadd, 1) := by decide +kernel
theorem dX1_enter_92 : decode cX1_enter 92 = .ok (.iastore, 1) := by decide +kernel
theorem dX1_enter_93 : decode cX1_enter 93 = .ok (.iconst 0, 1) := by decide +kernel
theorem dX1_enter_94 : decode cX1_enter 94 = .ok (.ireturn, 1) := by decide +kernel
theorem dX1_forgetReasons_0 : decode cX1_forgetReasons 0 = .ok (.aload_n 0, 1) := by decide +kernel
theorem dX1_forgetReasons_1 : decode cX1_forgetReasons 1 = .ok (.getfield 34, 3) := by decide +kernel
theorem dX1_forgetReasons_4 : decode cX1_forgetReasons 4 = .ok (.iconst 0, 1) := by decide +kernel
theorem dX1_forgetReasons_5 : decode cX1_forgetReasons 5 = .ok (.invokestatic 60, 3) := by decide +kernel
theorem dX1_forgetReasons_8 : decode cX1_forgetReasons 8 = .ok (.aload_n 0, 1) := by decide +kernel
theorem dX1_forgetReasons_9 : decode cX1_forgetReasons 9 = .ok (.getfield 37, 3) := by decide +kernel
theorem dX1_forgetReasons_12 : decode cX1_forgetReasons 12 = .ok (.iconst 0, 1) := by decide +kernel
theorem dX1_forgetReasons_13 : decode cX1_forgetReasons 13 = .ok (.invokestatic 60, 3) := by decide +kernel
theorem dX1_forgetReasons_16 : decode cX1_forgetReasons 16 = .ok (.return_, 1) := by decide +kernel
theorem dX1_free_0 : decode cX1_free 0 = .ok (.aload_n 0, 1) := by decide +kernel
theorem dX1_free_1 : decode cX1_free 1 = .ok (.getfield 44, 3) := by decide +kernel
theorem dX1_free_4 : decode cX1_free 4 = .ok (.iload_n 1, 1) := by decide +kernel
theorem dX1_free_5 : decode cX1_free 5 = .ok (.iconst (-1), 1) := by decide +kernel
theorem dX1_free_6 : decode cX1_free 6 = .ok (.iastore, 1) := by decide +kernel
theorem dX1_free_7 : decode cX1_free 7 = .ok (.aload_n 0, 1) := by decide +kernel
theorem dX1_free_8 : decode cX1_free 8 = .ok (.getfield 47, 3) := by decide +kernel
theorem dX1_free_11 : decode cX1_free 11 = .ok (.iload_n 1, 1) := by decide +kernel
theorem dX1_free_12 : decode cX1_free 12 = .ok (.iconst 0, 1) := by decide +kernel
theorem dX1_free_13 : decode cX1_free 13 = .ok (.iastore, 1) := by decide +kernel
theorem dX1_free_14 : decode cX1_free 14 = .ok (.aload_n 0, 1) := by decide +kernel
theorem dX1_free_15 : decode cX1_free 15 = .ok (.getfield 50, 3) := by decide +kernel
theorem dX1_free_18 : decode cX1_free 18 = .ok (.iload_n 1, 1) := by decide +kernel
theorem dX1_free_19 : decode cX1_free 19 = .ok (.iaload, 1) := by decide +kernel
theorem dX1_free_20 : decode cX1_free 20 = .ok (.iconst 0, 1) := by decide +kernel
theorem dX1_free_21 : decode cX1_free 21 = .ok (.invokestatic 117, 3) := by decide +kernel
theorem dX1_free_24 : decode cX1_free 24 = .ok (.istore_n 2, 1) := by decide +kernel
theorem dX1_free_25 : decode cX1_free 25 = .ok (.iload_n 2, 1) := by decide +kernel
theorem dX1_free_26 : decode cX1_free 26 = .ok (.ifCond .lt 56, 3) := by decide +kernel
theorem dX1_free_29 : decode cX1_free 29 = .ok (.iload_n 2, 1) := by decide +kernel
theorem dX1_free_30 : decode cX1_free 30 = .ok (.iconst 4, 1) := by decide +kernel
theorem dX1_free_31 : decode cX1_free 31 = .ok (.if_icmp .ge 51, 3) := by decide +kernel
theorem dX1_free_34 : decode cX1_free 34 = .ok (.aload_n 0, 1) := by decide +kernel
theorem dX1_free_35 : decode cX1_free 35 = .ok (.getfield 50, 3) := by decide +kernel
theorem dX1_free_38 : decode cX1_free 38 = .ok (.iload_n 1, 1) := by decide +kernel
theorem dX1_free_39 : decode cX1_free 39 = .ok (.aload_n 0, 1) := by decide +kernel
theorem dX1_free_40 : decode cX1_free 40 = .ok (.getfield 50, 3) := by decide +kernel
theorem dX1_free_43 : decode cX1_free 43 = .ok (.iload_n 1, 1) := by decide +kernel
theorem dX1_free_44 : decode cX1_free 44 = .ok (.iaload, 1) := by decide +kernel
theorem dX1_free_45 : decode cX1_free 45 = .ok (.invokestatic 120, 3) := by decide +kernel
theorem dX1_free_48 : decode cX1_free 48 = .ok (.iastore, 1) := by decide +kernel
theorem dX1_free_49 : decode cX1_free 49 = .ok (.aload_n 0, 1) := by decide +kernel
theorem dX1_free_50 : decode cX1_free 50 = .ok (.getfield 44, 3) := by decide +kernel
theorem dX1_free_53 : decode cX1_free 53 = .ok (.iload_n 1, 1) := by decide +kernel
theorem dX1_free_54 : decode cX1_free 54 = .ok (.iload_n 2, 1) := by decide +kernel
theorem dX1_free_55 : decode cX1_free 55 = .ok (.iastore, 1) := by decide +kernel
theorem dX1_free_56 : decode cX1_free 56 = .ok (.aload_n 0, 1) := by decide +kernel
theorem dX1_free_57 : decode cX1_free 57 = .ok (.getfield 47, 3) := by decide +kernel
theorem dX1_free_60 : decode cX1_free 60 = .ok (.iload_n 1, 1) := by decide +kernel
theorem dX1_free_61 : decode cX1_free 61 = .ok (.aload_n 0, 1) := by decide +kernel
theorem dX1_free_62 : decode cX1_free 62 = .ok (.getfield 31, 3) := by decide +kernel
theorem dX1_free_65 : decode cX1_free 65 = .ok (.iload_n 2, 1) := by decide +kernel
theorem dX1_free_66 : decode cX1_free 66 = .ok (.iaload, 1) := by decide +kernel
theorem dX1_free_67 : decode cX1_free 67 = .ok (.iastore, 1) := by decide +kernel
theorem dX1_free_68 : decode cX1_free 68 = .ok (.aload_n 0, 1) := by decide +kernel
theorem dX1_free_69 : decode cX1_free 69 = .ok (.getfield 31, 3) := by decide +kernel
theorem dX1_free_72 : decode cX1_free 72 = .ok (.iload_n 2, 1) := by decide +kernel
theorem dX1_free_73 : decode cX1_free 73 = .ok (.iconst 0, 1) := by decide +kernel
theorem dX1_free_74 : decode cX1_free 74 = .ok (.iastore, 1) := by decide +kernel
theorem dX1_free_75 : decode cX1_free 75 = .ok (.aload_n 0, 1) := by decide +kernel
theorem dX1_free_76 : decode cX1_free 76 = .ok (.getfield 28, 3) := by decide +kernel
theorem dX1_free_79 : decode cX1_free 79 = .ok (.iload_n 2, 1) := by decide +kernel
theorem dX1_free_80 : decode cX1_free 80 = .ok (.iconst 0, 1) := by decide +kernel
theorem dX1_free_81 : decode cX1_free 81 = .ok (.iastore, 1) := by decide +kernel
theorem dX1_free_82 : decode cX1_free 82 = .ok (.return_, 1) := by decide +kernel
theorem dX1_init_0 : decode cX1_init 0 = .ok (.aload_n 0, 1) := by decide +kernel
theorem dX1_init_1 : decode cX1_init 1 = .ok (.invokespecial 3, 3) := by decide +kernel
theorem dX1_init_4 : decode cX1_init 4 = .ok (.aload_n 0, 1) := by decide +kernel
theorem dX1_init_5 : decode cX1_init 5 = .ok (.iconst 0, 1) := by decide +kernel
theorem dX1_init_6 : decode cX1_init 6 = .ok (.putfield 9, 3) := by decide +kernel
theorem dX1_init_9 : decode cX1_init 9 = .ok (.aload_n 0, 1) := by decide +kernel
theorem dX1_init_10 : decode cX1_init 10 = .ok (.iconst (-1), 1) := by decide +kernel
theorem dX1_init_11 : decode cX1_init 11 = .ok (.putfield 15, 3) := by decide +kernel
theorem dX1_init_14 : decode cX1_init 14 = .ok (.aload_n 0, 1) := by decide +kernel
theorem dX1_init_15 : decode cX1_init 15 = .ok (.iconst 4, 1) := by decide +kernel
theorem dX1_init_16 : decode cX1_init 16 = .ok (.anewarray 18, 3) := by decide +kernel
theorem dX1_init_19 : decode cX1_init 19 = .ok (.putfield 20, 3) := by decide +kernel
theorem dX1_init_22 : decode cX1_init 22 = .ok (.aload_n 0, 1) := by decide +kernel
theorem dX1_init_23 : decode cX1_init 23 = .ok (.iconst 4, 1) := by decide +kernel
theorem dX1_init_24 : decode cX1_init 24 = .ok (.newarray .int, 2) := by decide +kernel
theorem dX1_init_26 : decode cX1_init 26 = .ok (.putfield 24, 3) := by decide +kernel
theorem dX1_init_29 : decode cX1_init 29 = .ok (.aload_n 0, 1) := by decide +kernel
theorem dX1_init_30 : decode cX1_init 30 = .ok (.iconst 4, 1) := by decide +kernel
theorem dX1_init_31 : decode cX1_init 31 = .ok (.newarray .int, 2) := by decide +kernel
theorem dX1_init_33 : decode cX1_init 33 = .ok (.putfield 28, 3) := by decide +kernel
theorem dX1_init_36 : decode cX1_init 36 = .ok (.aload_n 0, 1) := by decide +kernel
theorem dX1_init_37 : decode cX1_init 37 = .ok (.iconst 4, 1) := by decide +kernel
theorem dX1_init_38 : decode cX1_init 38 = .ok (.newarray .int, 2) := by decide +kernel
theorem dX1_init_40 : decode cX1_init 40 = .ok (.putfield 31, 3) := by decide +kernel
theorem dX1_init_43 : decode cX1_init 43 = .ok (.aload_n 0, 1) := by decide +kernel
theorem dX1_init_44 : decode cX1_init 44 = .ok (.iconst 4, 1) := by decide +kernel
theorem dX1_init_45 : decode cX1_init 45 = .ok (.newarray .int, 2) := by decide +kernel
theorem dX1_init_47 : decode cX1_init 47 = .ok (.putfield 34, 3) := by decide +kernel
theorem dX1_init_50 : decode cX1_init 50 = .ok (.aload_n 0, 1) := by decide +kernel
theorem dX1_init_51 : decode cX1_init 51 = .ok (.iconst 4, 1) := by decide +kernel
theorem dX1_init_52 : decode cX1_init 52 = .ok (.newarray .int, 2) := by decide +kernel
theorem dX1_init_54 : decode cX1_init 54 = .ok (.putfield 37, 3) := by decide +kernel
theorem dX1_init_57 : decode cX1_init 57 = .ok (.aload_n 0, 1) := by decide +kernel
theorem dX1_init_58 : decode cX1_init 58 = .ok (.iconst 3, 1) := by decide +kernel
theorem dX1_init_59 : decode cX1_init 59 = .ok (.newarray .boolean, 2) := by decide +kernel
theorem dX1_init_61 : decode cX1_init 61 = .ok (.putfield 40, 3) := by decide +kernel
theorem dX1_init_64 : decode cX1_init 64 = .ok (.aload_n 0, 1) := by decide +kernel
theorem dX1_init_65 : decode cX1_init 65 = .ok (.iconst 3, 1) := by decide +kernel
theorem dX1_init_66 : decode cX1_init 66 = .ok (.newarray .int, 2) := by decide +kernel
theorem dX1_init_68 : decode cX1_init 68 = .ok (.putfield 44, 3) := by decide +kernel
theorem dX1_init_71 : decode cX1_init 71 = .ok (.aload_n 0, 1) := by decide +kernel
theorem dX1_init_72 : decode cX1_init 72 = .ok (.iconst 3, 1) := by decide +kernel
theorem dX1_init_73 : decode cX1_init 73 = .ok (.newarray .int, 2) := by decide +kernel
theorem dX1_init_75 : decode cX1_init 75 = .ok (.putfield 47, 3) := by decide +kernel
theorem dX1_init_78 : decode cX1_init 78 = .ok (.aload_n 0, 1) := by decide +kernel
theorem dX1_init_79 : decode cX1_init 79 = .ok (.iconst 3, 1) := by decide +kernel
theorem dX1_init_80 : decode cX1_init 80 = .ok (.newarray .int, 2) := by decide +kernel
theorem dX1_init_82 : decode cX1_init 82 = .ok (.putfield 50, 3) := by decide +kernel
theorem dX1_init_85 : decode cX1_init 85 = .ok (.aload_n 0, 1) := by decide +kernel
theorem dX1_init_86 : decode cX1_init 86 = .ok (.iconst 3, 1) := by decide +kernel
theorem dX1_init_87 : decode cX1_init 87 = .ok (.newarray .int, 2) := by decide +kernel
theorem dX1_init_89 : decode cX1_init 89 = .ok (.putfield 53, 3) := by decide +kernel
theorem dX1_init_92 : decode cX1_init 92 = .ok (.aload_n 0, 1) := by decide +kernel
theorem dX1_init_93 : decode cX1_init 93 = .ok (.iconst 4, 1) := by decide +kernel
theorem dX1_init_94 : decode cX1_init 94 = .ok (.newarray .int, 2) := by decide +kernel
theorem dX1_init_96 : decode cX1_init 96 = .ok (.putfield 56, 3) := by decide +kernel
theorem dX1_init_99 : decode cX1_init 99 = .ok (.iconst 0, 1) := by decide +kernel
theorem dX1_init_100 : decode cX1_init 100 = .ok (.istore_n 1, 1) := by decide +kernel
theorem dX1_init_101 : decode cX1_init 101 = .ok (.iload_n 1, 1) := by decide +kernel
theorem dX1_init_102 : decode cX1_init 102 = .ok (.iconst 4, 1) := by decide +kernel
theorem dX1_init_103 : decode cX1_init 103 = .ok (.if_icmp .ge 22, 3) := by decide +kernel
theorem dX1_init_106 : decode cX1_init 106 = .ok (.aload_n 0, 1) := by decide +kernel
theorem dX1_init_107 : decode cX1_init 107 = .ok (.getfield 20, 3) := by decide +kernel
theorem dX1_init_110 : decode cX1_init 110 = .ok (.iload_n 1, 1) := by decide +kernel
theorem dX1_init_111 : decode cX1_init 111 = .ok (.new 18, 3) := by decide +kernel
theorem dX1_init_114 : decode cX1_init 114 = .ok (.dup, 1) := by decide +kernel
theorem dX1_init_115 : decode cX1_init 115 = .ok (.invokespecial 59, 3) := by decide +kernel
theorem dX1_init_118 : decode cX1_init 118 = .ok (.aastore, 1) := by decide +kernel
theorem dX1_init_119 : decode cX1_init 119 = .ok (.iinc 1 1, 3) := by decide +kernel
theorem dX1_init_122 : decode cX1_init 122 = .ok (.goto (-21), 3) := by decide +kernel
theorem dX1_init_125 : decode cX1_init 125 = .ok (.aload_n 0, 1) := by decide +kernel
theorem dX1_init_126 : decode cX1_init 126 = .ok (.getfield 44, 3) := by decide +kernel
theorem dX1_init_129 : decode cX1_init 129 = .ok (.iconst (-1), 1) := by decide +kernel
theorem dX1_init_130 : decode cX1_init 130 = .ok (.invokestatic 60, 3) := by decide +kernel
theorem dX1_init_133 : decode cX1_init 133 = .ok (.return_, 1) := by decide +kernel
theorem dX1_isOver_0 : decode cX1_isOver 0 = .ok (.aload_n 0, 1) := by decide +kernel
theorem dX1_isOver_1 : decode cX1_isOver 1 = .ok (.getfield 9, 3) := by decide +kernel
theorem dX1_isOver_4 : decode cX1_isOver 4 = .ok (.ifCond .le 27, 3) := by decide +kernel
theorem dX1_isOver_7 : decode cX1_isOver 7 = .ok (.aload_n 0, 1) := by decide +kernel
theorem dX1_isOver_8 : decode cX1_isOver 8 = .ok (.iconst 0, 1) := by decide +kernel
theorem dX1_isOver_9 : decode cX1_isOver 9 = .ok (.invokevirtual 139, 3) := by decide +kernel
theorem dX1_isOver_12 : decode cX1_isOver 12 = .ok (.aload_n 0, 1) := by decide +kernel
theorem dX1_isOver_13 : decode cX1_isOver 13 = .ok (.iconst 1, 1) := by decide +kernel
theorem dX1_isOver_14 : decode cX1_isOver 14 = .ok (.invokevirtual 139, 3) := by decide +kernel
theorem dX1_isOver_17 : decode cX1_isOver 17 = .ok (.ior, 1) := by decide +kernel
theorem dX1_isOver_18 : decode cX1_isOver 18 = .ok (.aload_n 0, 1) := by decide +kernel
theorem dX1_isOver_19 : decode cX1_isOver 19 = .ok (.iconst 2, 1) := by decide +kernel
theorem dX1_isOver_20 : decode cX1_isOver 20 = .ok (.invokevirtual 139, 3) := by decide +kernel
theorem dX1_isOver_23 : decode cX1_isOver 23 = .ok (.ior, 1) := by decide +kernel
theorem dX1_isOver_24 : decode cX1_isOver 24 = .ok (.ifCond .ne 7, 3) := by decide +kernel
theorem dX1_isOver_27 : decode cX1_isOver 27 = .ok (.iconst 1, 1) := by decide +kernel
theorem dX1_isOver_28 : decode cX1_isOver 28 = .ok (.goto 4, 3) := by decide +kernel
theorem dX1_isOver_31 : decode cX1_isOver 31 = .ok (.iconst 0, 1) := by decide +kernel
theorem dX1_isOver_32 : decode cX1_isOver 32 = .ok (.ireturn, 1) := by decide +kernel
theorem dX1_isUsed_0 : decode cX1_isUsed 0 = .ok (.aload_n 0, 1) := by decide +kernel
theorem dX1_isUsed_1 : decode cX1_isUsed 1 = .ok (.getfield 44, 3) := by decide +kernel
theorem dX1_isUsed_4 : decode cX1_isUsed 4 = .ok (.iload_n 1, 1) := by decide +kernel
theorem dX1_isUsed_5 : decode cX1_isUsed 5 = .ok (.iaload, 1) := by decide +kernel
theorem dX1_isUsed_6 : decode cX1_isUsed 6 = .ok (.iconst (-1), 1) := by decide +kernel
theorem dX1_isUsed_7 : decode cX1_isUsed 7 = .ok (.if_icmp .ne 21, 3) := by decide +kernel
theorem dX1_isUsed_10 : decode cX1_isUsed 10 = .ok (.aload_n 0, 1) := by decide +kernel
theorem dX1_isUsed_11 : decode cX1_isUsed 11 = .ok (.getfield 50, 3) := by decide +kernel
theorem dX1_isUsed_14 : decode cX1_isUsed 14 = .ok (.iload_n 1, 1) := by decide +kernel
theorem dX1_isUsed_15 : decode cX1_isUsed 15 = .ok (.iaload, 1) := by decide +kernel
theorem dX1_isUsed_16 : decode cX1_isUsed 16 = .ok (.ifCond .ne 12, 3) := by decide +kernel
theorem dX1_isUsed_19 : decode cX1_isUsed 19 = .ok (.aload_n 0, 1) := by decide +kernel
theorem dX1_isUsed_20 : decode cX1_isUsed 20 = .ok (.getfield 53, 3) := by decide +kernel
theorem dX1_isUsed_23 : decode cX1_isUsed 23 = .ok (.iload_n 1, 1) := by decide +kernel
theorem dX1_isUsed_24 : decode cX1_isUsed 24 = .ok (.iaload, 1) := by decide +kernel
theorem dX1_isUsed_25 : decode cX1_isUsed 25 = .ok (.ifCond .eq 7, 3) := by decide +kernel
theorem dX1_isUsed_28 : decode cX1_isUsed 28 = .ok (.iconst 1, 1) := by decide +kernel
theorem dX1_isUsed_29 : decode cX1_isUsed 29 = .ok (.goto 4, 3) := by decide +kernel
theorem dX1_isUsed_32 : decode cX1_isUsed 32 = .ok (.iconst 0, 1) := by decide +kernel
theorem dX1_isUsed_33 : decode cX1_isUsed 33 = .ok (.ireturn, 1) := by decide +kernel
theorem dX1_newTask_0 : decode cX1_newTask 0 = .ok (.aload_n 0, 1) := by decide +kernel
theorem dX1_newTask_1 : decode cX1_newTask 1 = .ok (.getfield 9, 3) := by decide +kernel
theorem dX1_newTask_4 : decode cX1_newTask 4 = .ok (.iconst 4, 1) := by decide +kernel
theorem dX1_newTask_5 : decode cX1_newTask 5 = .ok (.if_icmp .lt 6, 3) := by decide +kernel
theorem dX1_newTask_8 : decode cX1_newTask 8 = .ok (.bipush (-4), 2) := by decide +kernel
theorem dX1_newTask_10 : decode cX1_newTask 10 = .ok (.ireturn, 1) := by decide +kernel
theorem dX1_newTask_11 : decode cX1_newTask 11 = .ok (.aload_n 0, 1) := by decide +kernel
theorem dX1_newTask_12 : decode cX1_newTask 12 = .ok (.getfield 20, 3) := by decide +kernel
theorem dX1_newTask_15 : decode cX1_newTask 15 = .ok (.aload_n 0, 1) := by decide +kernel
theorem dX1_newTask_16 : decode cX1_newTask 16 = .ok (.getfield 9, 3) := by decide +kernel
theorem dX1_newTask_19 : decode cX1_newTask 19 = .ok (.aaload, 1) := by decide +kernel
theorem dX1_newTask_20 : decode cX1_newTask 20 = .ok (.iconst 0, 1) := by decide +kernel
theorem dX1_newTask_21 : decode cX1_newTask 21 = .ok (.putfield 66, 3) := by decide +kernel
theorem dX1_newTask_24 : decode cX1_newTask 24 = .ok (.aload_n 0, 1) := by decide +kernel
theorem dX1_newTask_25 : decode cX1_newTask 25 = .ok (.dup, 1) := by decide +kernel
theorem dX1_newTask_26 : decode cX1_newTask 26 = .ok (.getfield 9, 3) := by decide +kernel
theorem dX1_newTask_29 : decode cX1_newTask 29 = .ok (.iconst 1, 1) := by decide +kernel
theorem dX1_newTask_30 : decode cX1_newTask 30 = .ok (.iadd, 1) := by decide +kernel
theorem dX1_newTask_31 : decode cX1_newTask 31 = .ok (.putfield 9, 3) := by decide +kernel
theorem dX1_newTask_34 : decode cX1_newTask 34 = .ok (.aload_n 0, 1) := by decide +kernel
theorem dX1_newTask_35 : decode cX1_newTask 35 = .ok (.getfield 9, 3) := by decide +kernel
theorem dX1_newTask_38 : decode cX1_newTask 38 = .ok (.iconst 1, 1) := by decide +kernel
theorem dX1_newTask_39 : decode cX1_newTask 39 = .ok (.isub, 1) := by decide +kernel
theorem dX1_newTask_40 : decode cX1_newTask 40 = .ok (.ireturn, 1) := by decide +kernel
theorem dX1_ownedBy_0 : decode cX1_ownedBy 0 = .ok (.iconst 0, 1) := by decide +kernel
theorem dX1_ownedBy_1 : decode cX1_ownedBy 1 = .ok (.istore_n 2, 1) := by decide +kernel
theorem dX1_ownedBy_2 : decode cX1_ownedBy 2 = .ok (.iconst 0, 1) := by decide +kernel
theorem dX1_ownedBy_3 : decode cX1_ownedBy 3 = .ok (.istore_n 3, 1) := by decide +kernel
theorem dX1_ownedBy_4 : decode cX1_ownedBy 4 = .ok (.iload_n 3, 1) := by decide +kernel
theorem dX1_ownedBy_5 : decode cX1_ownedBy 5 = .ok (.iconst 3, 1) := by decide +kernel
theorem dX1_ownedBy_6 : decode cX1_ownedBy 6 = .ok (.if_icmp .ge 25, 3) := by decide +kernel
theorem dX1_ownedBy_9 : decode cX1_ownedBy 9 = .ok (.aload_n 0, 1) := by decide +kernel
theorem dX1_ownedBy_10 : decode cX1_ownedBy 10 = .ok (.getfield 44, 3) := by decide +kernel
theorem dX1_ownedBy_13 : decode cX1_ownedBy 13 = .ok (.iload_n 3, 1) := by decide +kernel
theorem dX1_ownedBy_14 : decode cX1_ownedBy 14 = .ok (.iaload, 1) := by decide +kernel
theorem dX1_ownedBy_15 : decode cX1_ownedBy 15 = .ok (.iload_n 1, 1) := by decide +kernel
theorem dX1_ownedBy_16 : decode cX1_ownedBy 16 = .ok (.if_icmp .ne 9, 3) := by decide +kernel
theorem dX1_ownedBy_19 : decode cX1_ownedBy 19 = .ok (.iload_n 2, 1) := by decide +kernel
theorem dX1_ownedBy_20 : decode cX1_ownedBy 20 = .ok (.iconst 1, 1) := by decide +kernel
theorem dX1_ownedBy_21 : decode cX1_ownedBy 21 = .ok (.iload_n 3, 1) := by decide +kernel
theorem dX1_ownedBy_22 : decode cX1_ownedBy 22 = .ok (.ishl, 1) := by decide +kernel
theorem dX1_ownedBy_23 : decode cX1_ownedBy 23 = .ok (.ior, 1) := by decide +kernel
theorem dX1_ownedBy_24 : decode cX1_ownedBy 24 = .ok (.istore_n 2, 1) := by decide +kernel
theorem dX1_ownedBy_25 : decode cX1_ownedBy 25 = .ok (.iinc 3 1, 3) := by decide +kernel
theorem dX1_ownedBy_28 : decode cX1_ownedBy 28 = .ok (.goto (-24), 3) := by decide +kernel
theorem dX1_ownedBy_31 : decode cX1_ownedBy 31 = .ok (.iload_n 2, 1) := by decide +kernel
theorem dX1_ownedBy_32 : decode cX1_ownedBy 32 = .ok (.ireturn, 1) := by decide +kernel
theorem dX1_startAgain_0 : decode cX1_startAgain 0 = .ok (.aload_n 0, 1) := by decide +kernel
theorem dX1_startAgain_1 : decode cX1_startAgain 1 = .ok (.iconst (-1), 1) := by decide +kernel
theorem dX1_startAgain_2 : decode cX1_startAgain 2 = .ok (.putfield 15, 3) := by decide +kernel
theorem dX1_startAgain_5 : decode cX1_startAgain 5 = .ok (.aload_n 0, 1) := by decide +kernel
theorem dX1_startAgain_6 : decode cX1_startAgain 6 = .ok (.getfield 24, 3) := by decide +kernel
theorem dX1_startAgain_9 : decode cX1_startAgain 9 = .ok (.iconst 0, 1) := by decide +kernel
theorem dX1_startAgain_10 : decode cX1_startAgain 10 = .ok (.invokestatic 60, 3) := by decide +kernel
theorem dX1_startAgain_13 : decode cX1_startAgain 13 = .ok (.aload_n 0, 1) := by decide +kernel
theorem dX1_startAgain_14 : decode cX1_startAgain 14 = .ok (.getfield 28, 3) := by decide +kernel
theorem dX1_startAgain_17 : decode cX1_startAgain 17 = .ok (.iconst 0, 1) := by decide +kernel
theorem dX1_startAgain_18 : decode cX1_startAgain 18 = .ok (.invokestatic 60, 3) := by decide +kernel
theorem dX1_startAgain_21 : decode cX1_startAgain 21 = .ok (.aload_n 0, 1) := by decide +kernel
theorem dX1_startAgain_22 : decode cX1_startAgain 22 = .ok (.getfield 31, 3) := by decide +kernel
theorem dX1_startAgain_25 : decode cX1_startAgain 25 = .ok (.iconst 0, 1) := by decide +kernel
theorem dX1_startAgain_26 : decode cX1_startAgain 26 = .ok (.invokestatic 60, 3) := by decide +kernel
theorem dX1_startAgain_29 : decode cX1_startAgain 29 = .ok (.aload_n 0, 1) := by decide +kernel
theorem dX1_startAgain_30 : decode cX1_startAgain 30 = .ok (.invokevirtual 69, 3) := by decide +kernel
theorem dX1_startAgain_33 : decode cX1_startAgain 33 = .ok (.aload_n 0, 1) := by decide +kernel
theorem dX1_startAgain_34 : decode cX1_startAgain 34 = .ok (.getfield 44, 3) := by decide +kernel
theorem dX1_startAgain_37 : decode cX1_startAgain 37 = .ok (.iconst (-1), 1) := by decide +kernel
theorem dX1_startAgain_38 : decode cX1_startAgain 38 = .ok (.invokestatic 60, 3) := by decide +kernel
theorem dX1_startAgain_41 : decode cX1_startAgain 41 = .ok (.aload_n 0, 1) := by decide +kernel
theorem dX1_startAgain_42 : decode cX1_startAgain 42 = .ok (.getfield 47, 3) := by decide +kernel
theorem dX1_startAgain_45 : decode cX1_startAgain 45 = .ok (.iconst 0, 1) := by decide +kernel
theorem dX1_startAgain_46 : decode cX1_startAgain 46 = .ok (.invokestatic 60, 3) := by decide +kernel
theorem dX1_startAgain_49 : decode cX1_startAgain 49 = .ok (.aload_n 0, 1) := by decide +kernel
theorem dX1_startAgain_50 : decode cX1_startAgain 50 = .ok (.getfield 50, 3) := by decide +kernel
theorem dX1_startAgain_53 : decode cX1_startAgain 53 = .ok (.iconst 0, 1) := by decide +kernel
theorem dX1_startAgain_54 : decode cX1_startAgain 54 = .ok (.invokestatic 60, 3) := by decide +kernel
theorem dX1_startAgain_57 : decode cX1_startAgain 57 = .ok (.aload_n 0, 1) := by decide +kernel
theorem dX1_startAgain_58 : decode cX1_startAgain 58 = .ok (.getfield 53, 3) := by decide +kernel
theorem dX1_startAgain_61 : decode cX1_startAgain 61 = .ok (.iconst 0, 1) := by decide +kernel
theorem dX1_startAgain_62 : decode cX1_startAgain 62 = .ok (.invokestatic 60, 3) := by decide +kernel
theorem dX1_startAgain_65 : decode cX1_startAgain 65 = .ok (.aload_n 0, 1) := by decide +kernel
theorem dX1_startAgain_66 : decode cX1_startAgain 66 = .ok (.getfield 56, 3) := by decide +kernel
theorem dX1_startAgain_69 : decode cX1_startAgain 69 = .ok (.iconst 0, 1) := by decide +kernel
theorem dX1_startAgain_70 : decode cX1_startAgain 70 = .ok (.invokestatic 60, 3) := by decide +kernel
theorem dX1_startAgain_73 : decode cX1_startAgain 73 = .ok (.return_, 1) := by decide +kernel
theorem dX1_sticks_0 : decode cX1_sticks 0 = .ok (.aload_n 0, 1) := by decide +kernel
theorem dX1_sticks_1 : decode cX1_sticks 1 = .ok (.iconst 0, 1) := by decide +kernel
theorem dX1_sticks_2 : decode cX1_sticks 2 = .ok (.invokevirtual 139, 3) := by decide +kernel
theorem dX1_sticks_5 : decode cX1_sticks 5 = .ok (.ifCond .ne 21, 3) := by decide +kernel
theorem dX1_sticks_8 : decode cX1_sticks 8 = .ok (.aload_n 0, 1) := by decide +kernel
theorem dX1_sticks_9 : decode cX1_sticks 9 = .ok (.iconst 1, 1) := by decide +kernel
theorem dX1_sticks_10 : decode cX1_sticks 10 = .ok (.invokevirtual 139, 3) := by decide +kernel
theorem dX1_sticks_13 : decode cX1_sticks 13 = .ok (.aload_n 0, 1) := by decide +kernel
theorem dX1_sticks_14 : decode cX1_sticks 14 = .ok (.iconst 2, 1) := by decide +kernel
theorem dX1_sticks_15 : decode cX1_sticks 15 = .ok (.invokevirtual 139, 3) := by decide +kernel
theorem dX1_sticks_18 : decode cX1_sticks 18 = .ok (.ior, 1) := by decide +kernel
theorem dX1_sticks_19 : decode cX1_sticks 19 = .ok (.ifCond .eq 7, 3) := by decide +kernel
theorem dX1_sticks_22 : decode cX1_sticks 22 = .ok (.iconst 1, 1) := by decide +kernel
theorem dX1_sticks_23 : decode cX1_sticks 23 = .ok (.goto 4, 3) := by decide +kernel
theorem dX1_sticks_26 : decode cX1_sticks 26 = .ok (.iconst 0, 1) := by decide +kernel
theorem dX1_sticks_27 : decode cX1_sticks 27 = .ok (.ireturn, 1) := by decide +kernel
theorem dX1_take_0 : decode cX1_take 0 = .ok (.aload_n 0, 1) := by decide +kernel
theorem dX1_take_1 : decode cX1_take 1 = .ok (.iload_n 1, 1) := by decide +kernel
theorem dX1_take_2 : decode cX1_take 2 = .ok (.putfield 15, 3) := by decide +kernel
theorem dX1_take_5 : decode cX1_take 5 = .ok (.aload_n 0, 1) := by decide +kernel
theorem dX1_take_6 : decode cX1_take 6 = .ok (.getfield 20, 3) := by decide +kernel
theorem dX1_take_9 : decode cX1_take 9 = .ok (.iload_n 1, 1) := by decide +kernel
theorem dX1_take_10 : decode cX1_take 10 = .ok (.aaload, 1) := by decide +kernel
theorem dX1_take_11 : decode cX1_take 11 = .ok (.astore_n 2, 1) := by decide +kernel
theorem dX1_take_12 : decode cX1_take 12 = .ok (.aload_n 0, 1) := by decide +kernel
theorem dX1_take_13 : decode cX1_take 13 = .ok (.getfield 24, 3) := by decide +kernel
theorem dX1_take_16 : decode cX1_take 16 = .ok (.iload_n 1, 1) := by decide +kernel
theorem dX1_take_17 : decode cX1_take 17 = .ok (.iaload, 1) := by decide +kernel
theorem dX1_take_18 : decode cX1_take 18 = .ok (.istore_n 3, 1) := by decide +kernel
theorem dX1_take_19 : decode cX1_take 19 = .ok (.iload_n 3, 1) := by decide +kernel
theorem dX1_take_20 : decode cX1_take 20 = .ok (.aload_n 2, 1) := by decide +kernel
theorem dX1_take_21 : decode cX1_take 21 = .ok (.getfield 66, 3) := by decide +kernel
theorem dX1_take_24 : decode cX1_take 24 = .ok (.if_icmp .lt 10, 3) := by decide +kernel
theorem dX1_take_27 : decode cX1_take 27 = .ok (.aload_n 0, 1) := by decide +kernel
theorem dX1_take_28 : decode cX1_take 28 = .ok (.iload_n 1, 1) := by decide +kernel
theorem dX1_take_29 : decode cX1_take 29 = .ok (.iconst 3, 1) := by decide +kernel
theorem dX1_take_30 : decode cX1_take 30 = .ok (.invokevirtual 82, 3) := by decide +kernel
theorem dX1_take_33 : decode cX1_take 33 = .ok (.return_, 1) := by decide +kernel
theorem dX1_take_34 : decode cX1_take 34 = .ok (.aload_n 0, 1) := by decide +kernel
theorem dX1_take_35 : decode cX1_take 35 = .ok (.getfield 24, 3) := by decide +kernel
theorem dX1_take_38 : decode cX1_take 38 = .ok (.iload_n 1, 1) := by decide +kernel
theorem dX1_take_39 : decode cX1_take 39 = .ok (.iload_n 3, 1) := by decide +kernel
theorem dX1_take_40 : decode cX1_take 40 = .ok (.iconst 1, 1) := by decide +kernel
theorem dX1_take_41 : decode cX1_take 41 = .ok (.iadd, 1) := by decide +kernel
theorem dX1_take_42 : decode cX1_take 42 = .ok (.iastore, 1) := by decide +kernel
theorem dX1_take_43 : decode cX1_take 43 = .ok (.aload_n 2, 1) := by decide +kernel
theorem dX1_take_44 : decode cX1_take 44 = .ok (.iload_n 3, 1) := by decide +kernel
theorem dX1_take_45 : decode cX1_take 45 = .ok (.iconst 0, 1) := by decide +kernel
theorem dX1_take_46 : decode cX1_take 46 = .ok (.invokevirtual 86, 3) := by decide +kernel
theorem dX1_take_49 : decode cX1_take 49 = .ok (.iconst 4, 1) := by decide +kernel
theorem dX1_take_50 : decode cX1_take 50 = .ok (.if_icmp .gt 23, 3) := by decide +kernel
theorem dX1_take_53 : decode cX1_take 53 = .ok (.aload_n 0, 1) := by decide +kernel
theorem dX1_take_54 : decode cX1_take 54 = .ok (.iload_n 1, 1) := by decide +kernel
theorem dX1_take_55 : decode cX1_take 55 = .ok (.aload_n 2, 1) := by decide +kernel
theorem dX1_take_56 : decode cX1_take 56 = .ok (.iload_n 3, 1) := by decide +kernel
theorem dX1_take_57 : decode cX1_take 57 = .ok (.iconst 0, 1) := by decide +kernel
theorem dX1_take_58 : decode cX1_take 58 = .ok (.invokevirtual 86, 3) := by decide +kernel
theorem dX1_take_61 : decode cX1_take 61 = .ok (.aload_n 2, 1) := by decide +kernel
theorem dX1_take_62 : decode cX1_take 62 = .ok (.iload_n 3, 1) := by decide +kernel
theorem dX1_take_63 : decode cX1_take 63 = .ok (.iconst 1, 1) := by decide +kernel
theorem dX1_take_64 : decode cX1_take 64 = .ok (.invokevirtual 86, 3) := by decide +kernel
theorem dX1_take_67 : decode cX1_take 67 = .ok (.invokevirtual 90, 3) := by decide +kernel
theorem dX1_take_70 : decode cX1_take 70 = .ok (.goto 10, 3) := by decide +kernel
theorem dX1_take_73 : decode cX1_take 73 = .ok (.aload_n 0, 1) := by decide +kernel
theorem dX1_take_74 : decode cX1_take 74 = .ok (.iload_n 1, 1) := by decide +kernel
theorem dX1_take_75 : decode cX1_take 75 = .ok (.aload_n 2, 1) := by decide +kernel
theorem dX1_take_76 : decode cX1_take 76 = .ok (.iload_n 3, 1) := by decide +kernel
theorem dX1_take_77 : decode cX1_take 77 = .ok (.invokevirtual 94, 3) := by decide +kernel
theorem dX1_take_80 : decode cX1_take 80 = .ok (.istore 4, 2) := by decide +kernel
theorem dX1_take_82 : decode cX1_take 82 = .ok (.iload 4, 2) := by decide +kernel
theorem dX1_take_84 : decode cX1_take 84 = .ok (.ifCond .eq 24, 3) := by decide +kernel
theorem dX1_take_87 : decode cX1_take 87 = .ok (.aload_n 0, 1) := by decide +kernel
theorem dX1_take_88 : decode cX1_take 88 = .ok (.getfield 24, 3) := by decide +kernel
theorem dX1_take_91 : decode cX1_take 91 = .ok (.iload_n 1, 1) := by decide +kernel
theorem dX1_take_92 : decode cX1_take 92 = .ok (.iload_n 3, 1) := by decide +kernel
theorem dX1_take_93 : decode cX1_take 93 = .ok (.iastore, 1) := by decide +kernel
theorem dX1_take_94 : decode cX1_take 94 = .ok (.aload_n 0, 1) := by decide +kernel
theorem dX1_take_95 : decode cX1_take 95 = .ok (.getfield 34, 3) := by decide +kernel
theorem dX1_take_98 : decode cX1_take 98 = .ok (.iload_n 1, 1) := by decide +kernel
theorem dX1_take_99 : decode cX1_take 99 = .ok (.iload 4, 2) := by decide +kernel
theorem dX1_take_101 : decode cX1_take 101 = .ok (.iastore, 1) := by decide +kernel
theorem dX1_take_102 : decode cX1_take 102 = .ok (.aload_n 0, 1) := by decide +kernel
theorem dX1_take_103 : decode cX1_take 103 = .ok (.iload_n 1, 1) := by decide +kernel
theorem dX1_take_104 : decode cX1_take 104 = .ok (.iconst 4, 1) := by decide +kernel
theorem dX1_take_105 : decode cX1_take 105 = .ok (.invokevirtual 82, 3) := by decide +kernel
theorem dX1_take_108 : decode cX1_take 108 = .ok (.return_, 1) := by decide +kernel
theorem dX1_wake_0 : decode cX1_wake 0 = .ok (.iconst 0, 1) := by decide +kernel
theorem dX1_wake_1 : decode cX1_wake 1 = .ok (.istore_n 3, 1) := by decide +kernel
theorem dX1_wake_2 : decode cX1_wake 2 = .ok (.iload_n 3, 1) := by decide +kernel
theorem dX1_wake_3 : decode cX1_wake 3 = .ok (.iload_n 2, 1) := by decide +kernel
theorem dX1_wake_4 : decode cX1_wake 4 = .ok (.if_icmp .ge 81, 3) := by decide +kernel
theorem dX1_wake_7 : decode cX1_wake 7 = .ok (.aload_n 0, 1) := by decide +kernel
theorem dX1_wake_8 : decode cX1_wake 8 = .ok (.getfield 53, 3) := by decide +kernel
theorem dX1_wake_11 : decode cX1_wake 11 = .ok (.iload_n 1, 1) := by decide +kernel
theorem dX1_wake_12 : decode cX1_wake 12 = .ok (.iaload, 1) := by decide +kernel
theorem dX1_wake_13 : decode cX1_wake 13 = .ok (.ifCond .eq 72, 3) := by decide +kernel
theorem dX1_wake_16 : decode cX1_wake 16 = .ok (.aload_n 0, 1) := by decide +kernel
theorem dX1_wake_17 : decode cX1_wake 17 = .ok (.getfield 53, 3) := by decide +kernel
theorem dX1_wake_20 : decode cX1_wake 20 = .ok (.iload_n 1, 1) := by decide +kernel
theorem dX1_wake_21 : decode cX1_wake 21 = .ok (.iaload, 1) := by decide +kernel
theorem dX1_wake_22 : decode cX1_wake 22 = .ok (.iconst 0, 1) := by decide +kernel
theorem dX1_wake_23 : decode cX1_wake 23 = .ok (.invokestatic 117, 3) := by decide +kernel
theorem dX1_wake_26 : decode cX1_wake 26 = .ok (.istore 4, 2) := by decide +kernel
theorem dX1_wake_28 : decode cX1_wake 28 = .ok (.aload_n 0, 1) := by decide +kernel
theorem dX1_wake_29 : decode cX1_wake 29 = .ok (.getfield 53, 3) := by decide +kernel
theorem dX1_wake_32 : decode cX1_wake 32 = .ok (.iload_n 1, 1) := by decide +kernel
theorem dX1_wake_33 : decode cX1_wake 33 = .ok (.aload_n 0, 1) := by decide +kernel
theorem dX1_wake_34 : decode cX1_wake 34 = .ok (.getfield 53, 3) := by decide +kernel
theorem dX1_wake_37 : decode cX1_wake 37 = .ok (.iload_n 1, 1) := by decide +kernel
theorem dX1_wake_38 : decode cX1_wake 38 = .ok (.iaload, 1) := by decide +kernel
theorem dX1_wake_39 : decode cX1_wake 39 = .ok (.invokestatic 120, 3) := by decide +kernel
theorem dX1_wake_42 : decode cX1_wake 42 = .ok (.iastore, 1) := by decide +kernel
theorem dX1_wake_43 : decode cX1_wake 43 = .ok (.iload 4, 2) := by decide +kernel
theorem dX1_wake_45 : decode cX1_wake 45 = .ok (.ifCond .lt 34, 3) := by decide +kernel
theorem dX1_wake_48 : decode cX1_wake 48 = .ok (.iload 4, 2) := by decide +kernel
theorem dX1_wake_50 : decode cX1_wake 50 = .ok (.iconst 4, 1) := by decide +kernel
theorem dX1_wake_51 : decode cX1_wake 51 = .ok (.if_icmp .ge 28, 3) := by decide +kernel
theorem dX1_wake_54 : decode cX1_wake 54 = .ok (.aload_n 0, 1) := by decide +kernel
theorem dX1_wake_55 : decode cX1_wake 55 = .ok (.getfield 28, 3) := by decide +kernel
theorem dX1_wake_58 : decode cX1_wake 58 = .ok (.iload 4, 2) := by decide +kernel
theorem dX1_wake_60 : decode cX1_wake 60 = .ok (.iconst 1, 1) := by decide +kernel
theorem dX1_wake_61 : decode cX1_wake 61 = .ok (.iastore, 1) := by decide +kernel
theorem dX1_wake_62 : decode cX1_wake 62 = .ok (.aload_n 0, 1) := by decide +kernel
theorem dX1_wake_63 : decode cX1_wake 63 = .ok (.getfield 50, 3) := by decide +kernel
theorem dX1_wake_66 : decode cX1_wake 66 = .ok (.iload_n 1, 1) := by decide +kernel
theorem dX1_wake_67 : decode cX1_wake 67 = .ok (.aload_n 0, 1) := by decide +kernel
theorem dX1_wake_68 : decode cX1_wake 68 = .ok (.getfield 50, 3) := by decide +kernel
theorem dX1_wake_71 : decode cX1_wake 71 = .ok (.iload_n 1, 1) := by decide +kernel
theorem dX1_wake_72 : decode cX1_wake 72 = .ok (.iaload, 1) := by decide +kernel
theorem dX1_wake_73 : decode cX1_wake 73 = .ok (.iload 4, 2) := by decide +kernel
theorem dX1_wake_75 : decode cX1_wake 75 = .ok (.invokestatic 109, 3) := by decide +kernel
theorem dX1_wake_78 : decode cX1_wake 78 = .ok (.iastore, 1) := by decide +kernel
theorem dX1_wake_79 : decode cX1_wake 79 = .ok (.iinc 3 1, 3) := by decide +kernel
theorem dX1_wake_82 : decode cX1_wake 82 = .ok (.goto (-80), 3) := by decide +kernel
theorem dX1_wake_85 : decode cX1_wake 85 = .ok (.return_, 1) := by decide +kernel
theorem dX1_whereStands_0 : decode cX1_whereStands 0 = .ok (.iconst 0, 1) := by decide +kernel
theorem dX1_whereStands_1 : decode cX1_whereStands 1 = .ok (.istore_n 2, 1) := by decide +kernel
theorem dX1_whereStands_2 : decode cX1_whereStands 2 = .ok (.iload_n 2, 1) := by decide +kernel
theorem dX1_whereStands_3 : decode cX1_whereStands 3 = .ok (.iconst 3, 1) := by decide +kernel
theorem dX1_whereStands_4 : decode cX1_whereStands 4 = .ok (.if_icmp .ge 37, 3) := by decide +kernel
theorem dX1_whereStands_7 : decode cX1_whereStands 7 = .ok (.aload_n 0, 1) := by decide +kernel
theorem dX1_whereStands_8 : decode cX1_whereStands 8 = .ok (.getfield 50, 3) := by decide +kernel
theorem dX1_whereStands_11 : decode cX1_whereStands 11 = .ok (.iload_n 2, 1) := by decide +kernel
theorem dX1_whereStands_12 : decode cX1_whereStands 12 = .ok (.iaload, 1) := by decide +kernel
theorem dX1_whereStands_13 : decode cX1_whereStands 13 = .ok (.iload_n 1, 1) := by decide +kernel
theorem dX1_whereStands_14 : decode cX1_whereStands 14 = .ok (.invokestatic 135, 3) := by decide +kernel
theorem dX1_whereStands_17 : decode cX1_whereStands 17 = .ok (.ifCond .ne 16, 3) := by decide +kernel
theorem dX1_whereStands_20 : decode cX1_whereStands 20 = .ok (.aload_n 0, 1) := by decide +kernel
theorem dX1_whereStands_21 : decode cX1_whereStands 21 = .ok (.getfield 53, 3) := by decide +kernel
theorem dX1_whereStands_24 : decode cX1_whereStands 24 = .ok (.iload_n 2, 1) := by decide +kernel
theorem dX1_whereStands_25 : decode cX1_whereStands 25 = .ok (.iaload, 1) := by decide +kernel
theorem dX1_whereStands_26 : decode cX1_whereStands 26 = .ok (.iload_n 1, 1) := by decide +kernel
theorem dX1_whereStands_27 : decode cX1_whereStands 27 = .ok (.invokestatic 135, 3) := by decide +kernel
theorem dX1_whereStands_30 : decode cX1_whereStands 30 = .ok (.ifCond .eq 5, 3) := by decide +kernel
theorem dX1_whereStands_33 : decode cX1_whereStands 33 = .ok (.iload_n 2, 1) := by decide +kernel
theorem dX1_whereStands_34 : decode cX1_whereStands 34 = .ok (.ireturn, 1) := by decide +kernel
theorem dX1_whereStands_35 : decode cX1_whereStands 35 = .ok (.iinc 2 1, 3) := by decide +kernel
theorem dX1_whereStands_38 : decode cX1_whereStands 38 = .ok (.goto (-36), 3) := by decide +kernel
theorem dX1_whereStands_41 : decode cX1_whereStands 41 = .ok (.bipush (-5), 2) := by decide +kernel
theorem dX1_whereStands_43 : decode cX1_whereStands 43 = .ok (.ireturn, 1) := by decide +kernel
theorem dX2_begin_0 : decode cX2_begin 0 = .ok (.aload_n 0, 1) := by decide +kernel
theorem dX2_begin_1 : decode cX2_begin 1 = .ok (.getfield 9, 3) := by decide +kernel
theorem dX2_begin_4 : decode cX2_begin 4 = .ok (.iload_n 1, 1) := by decide +kernel
theorem dX2_begin_5 : decode cX2_begin 5 = .ok (.iload_n 2, 1) := by decide +kernel
theorem dX2_begin_6 : decode cX2_begin 6 = .ok (.iastore, 1) := by decide +kernel
theorem dX2_begin_7 : decode cX2_begin 7 = .ok (.aload_n 0, 1) := by decide +kernel
theorem dX2_begin_8 : decode cX2_begin 8 = .ok (.getfield 17, 3) := by decide +kernel
theorem dX2_begin_11 : decode cX2_begin 11 = .ok (.iload_n 1, 1) := by decide +kernel
theorem dX2_begin_12 : decode cX2_begin 12 = .ok (.aaload, 1) := by decide +kernel
theorem dX2_begin_13 : decode cX2_begin 13 = .ok (.iconst 0, 1) := by decide +kernel
theorem dX2_begin_14 : decode cX2_begin 14 = .ok (.invokestatic 20, 3) := by decide +kernel
theorem dX2_begin_17 : decode cX2_begin 17 = .ok (.return_, 1) := by decide +kernel
theorem dX2_hasPlace_0 : decode cX2_hasPlace 0 = .ok (.iload_n 2, 1) := by decide +kernel
theorem dX2_hasPlace_1 : decode cX2_hasPlace 1 = .ok (.ifCond .lt 17, 3) := by decide +kernel
theorem dX2_hasPlace_4 : decode cX2_hasPlace 4 = .ok (.iload_n 2, 1) := by decide +kernel
theorem dX2_hasPlace_5 : decode cX2_hasPlace 5 = .ok (.aload_n 0, 1) := by decide +kernel
theorem dX2_hasPlace_6 : decode cX2_hasPlace 6 = .ok (.getfield 9, 3) := by decide +kernel
theorem dX2_hasPlace_9 : decode cX2_hasPlace 9 = .ok (.iload_n 1, 1) := by decide +kernel
theorem dX2_hasPlace_10 : decode cX2_hasPlace 10 = .ok (.iaload, 1) := by decide +kernel
theorem dX2_hasPlace_11 : decode cX2_hasPlace 11 = .ok (.if_icmp .ge 7, 3) := by decide +kernel
theorem dX2_hasPlace_14 : decode cX2_hasPlace 14 = .ok (.iconst 1, 1) := by decide +kernel
theorem dX2_hasPlace_15 : decode cX2_hasPlace 15 = .ok (.goto 4, 3) := by decide +kernel
theorem dX2_hasPlace_18 : decode cX2_hasPlace 18 = .ok (.iconst 0, 1) := by decide +kernel
theorem dX2_hasPlace_19 : decode cX2_hasPlace 19 = .ok (.ireturn, 1) := by decide +kernel
theorem dX2_init_0 : decode cX2_init 0 = .ok (.aload_n 0, 1) := by decide +kernel
theorem dX2_init_1 : decode cX2_init 1 = .ok (.invokespecial 3, 3) := by decide +kernel
theorem dX2_init_4 : decode cX2_init 4 = .ok (.aload_n 0, 1) := by decide +kernel
theorem dX2_init_5 : decode cX2_init 5 = .ok (.iconst 4, 1) := by decide +kernel
theorem dX2_init_6 : decode cX2_init 6 = .ok (.newarray .int, 2) := by decide +kernel
theorem dX2_init_8 : decode cX2_init 8 = .ok (.putfield 9, 3) := by decide +kernel
theorem dX2_init_11 : decode cX2_init 11 = .ok (.aload_n 0, 1) := by decide +kernel
theorem dX2_init_12 : decode cX2_init 12 = .ok (.iconst 4, 1) := by decide +kernel
theorem dX2_init_13 : decode cX2_init 13 = .ok (.bipush 40, 2) := by decide +kernel
theorem dX2_init_15 : decode cX2_init 15 = .ok (.multianewarray 15 2, 4) := by decide +kernel
theorem dX2_init_19 : decode cX2_init 19 = .ok (.putfield 17, 3) := by decide +kernel
theorem dX2_init_22 : decode cX2_init 22 = .ok (.aload_n 0, 1) := by decide +kernel
theorem dX2_init_23 : decode cX2_init 23 = .ok (.getfield 9, 3) := by decide +kernel
theorem dX2_init_26 : decode cX2_init 26 = .ok (.bipush (-11), 2) := by decide +kernel
theorem dX2_init_28 : decode cX2_init 28 = .ok (.invokestatic 20, 3) := by decide +kernel
theorem dX2_init_31 : decode cX2_init 31 = .ok (.return_, 1) := by decide +kernel
theorem dX2_refusalOf_0 : decode cX2_refusalOf 0 = .ok (.iload_n 1, 1) := by decide +kernel
theorem dX2_refusalOf_1 : decode cX2_refusalOf 1 = .ok (.invokestatic 26, 3) := by decide +kernel
theorem dX2_refusalOf_4 : decode cX2_refusalOf 4 = .ok (.ifCond .ne 5, 3) := by decide +kernel
theorem dX2_refusalOf_7 : decode cX2_refusalOf 7 = .ok (.iconst (-1), 1) := by decide +kernel
theorem dX2_refusalOf_8 : decode cX2_refusalOf 8 = .ok (.ireturn, 1) := by decide +kernel
theorem dX2_refusalOf_9 : decode cX2_refusalOf 9 = .ok (.aload_n 0, 1) := by decide +kernel
theorem dX2_refusalOf_10 : decode cX2_refusalOf 10 = .ok (.getfield 9, 3) := by decide +kernel
theorem dX2_refusalOf_13 : decode cX2_refusalOf 13 = .ok (.iload_n 1, 1) := by decide +kernel
theorem dX2_refusalOf_14 : decode cX2_refusalOf 14 = .ok (.iaload, 1) := by decide +kernel
theorem dX2_refusalOf_15 : decode cX2_refusalOf 15 = .ok (.ifCond .ge 8, 3) := by decide +kernel
theorem dX2_refusalOf_18 : decode cX2_refusalOf 18 = .ok (.bipush (-11), 2) := by decide +kernel
theorem dX2_refusalOf_20 : decode cX2_refusalOf 20 = .ok (.goto 4, 3) := by decide +kernel
theorem dX2_refusalOf_23 : decode cX2_refusalOf 23 = .ok (.iconst 0, 1) := by decide +kernel
theorem dX2_refusalOf_24 : decode cX2_refusalOf 24 = .ok (.ireturn, 1) := by decide +kernel
theorem dX3_append_0 : decode cX3_append 0 = .ok (.aload_n 0, 1) := by decide +kernel
theorem dX3_append_1 : decode cX3_append 1 = .ok (.getfield 9, 3) := by decide +kernel
theorem dX3_append_4 : decode cX3_append 4 = .ok (.bipush 12, 2) := by decide +kernel
theorem dX3_append_6 : decode cX3_append 6 = .ok (.if_icmp .ge 62, 3) := by decide +kernel
theorem dX3_append_9 : decode cX3_append 9 = .ok (.aload_n 0, 1) := by decide +kernel
theorem dX3_append_10 : decode cX3_append 10 = .ok (.getfield 9, 3) := by decide +kernel
theorem dX3_append_13 : decode cX3_append 13 = .ok (.iconst 4, 1) := by decide +kernel
theorem dX3_append_14 : decode cX3_append 14 = .ok (.imul, 1) := by decide +kernel
theorem dX3_append_15 : decode cX3_append 15 = .ok (.istore 5, 2) := by decide +kernel
theorem dX3_append_17 : decode cX3_append 17 = .ok (.aload_n 0, 1) := by decide +kernel
theorem dX3_append_18 : decode cX3_append 18 = .ok (.getfield 15, 3) := by decide +kernel
theorem dX3_append_21 : decode cX3_append 21 = .ok (.iload 5, 2) := by decide +kernel
theorem dX3_append_23 : decode cX3_append 23 = .ok (.iconst 0, 1) := by decide +kernel
theorem dX3_append_24 : decode cX3_append 24 = .ok (.iadd, 1) := by decide +kernel
theorem dX3_append_25 : decode cX3_append 25 = .ok (.iload_n 1, 1) := by decide +kernel
theorem dX3_append_26 : decode cX3_append 26 = .ok (.iastore, 1) := by decide +kernel
theorem dX3_append_27 : decode cX3_append 27 = .ok (.aload_n 0, 1) := by decide +kernel
theorem dX3_append_28 : decode cX3_append 28 = .ok (.getfield 15, 3) := by decide +kernel
theorem dX3_append_31 : decode cX3_append 31 = .ok (.iload 5, 2) := by decide +kernel
theorem dX3_append_33 : decode cX3_append 33 = .ok (.iconst 1, 1) := by decide +kernel
theorem dX3_append_34 : decode cX3_append 34 = .ok (.iadd, 1) := by decide +kernel
theorem dX3_append_35 : decode cX3_append 35 = .ok (.iload_n 2, 1) := by decide +kernel
theorem dX3_append_36 : decode cX3_append 36 = .ok (.iastore, 1) := by decide +kernel
theorem dX3_append_37 : decode cX3_append 37 = .ok (.aload_n 0, 1) := by decide +kernel
theorem dX3_append_38 : decode cX3_append 38 = .ok (.getfield 15, 3) := by decide +kernel
theorem dX3_append_41 : decode cX3_append 41 = .ok (.iload 5, 2) := by decide +kernel
theorem dX3_append_43 : decode cX3_append 43 = .ok (.iconst 2, 1) := by decide +kernel
theorem dX3_append_44 : decode cX3_append 44 = .ok (.iadd, 1) := by decide +kernel
theorem dX3_append_45 : decode cX3_append 45 = .ok (.iload_n 3, 1) := by decide +kernel
theorem dX3_append_46 : decode cX3_append 46 = .ok (.iastore, 1) := by decide +kernel
theorem dX3_append_47 : decode cX3_append 47 = .ok (.aload_n 0, 1) := by decide +kernel
theorem dX3_append_48 : decode cX3_append 48 = .ok (.getfield 15, 3) := by decide +kernel
theorem dX3_append_51 : decode cX3_append 51 = .ok (.iload 5, 2) := by decide +kernel
theorem dX3_append_53 : decode cX3_append 53 = .ok (.iconst 3, 1) := by decide +kernel
theorem dX3_append_54 : decode cX3_append 54 = .ok (.iadd, 1) := by decide +kernel
theorem dX3_append_55 : decode cX3_append 55 = .ok (.iload 4, 2) := by decide +kernel
theorem dX3_append_57 : decode cX3_append 57 = .ok (.iastore, 1) := by decide +kernel
theorem dX3_append_58 : decode cX3_append 58 = .ok (.aload_n 0, 1) := by decide +kernel
theorem dX3_append_59 : decode cX3_append 59 = .ok (.dup, 1) := by decide +kernel
theorem dX3_append_60 : decode cX3_append 60 = .ok (.getfield 9, 3) := by decide +kernel
theorem dX3_append_63 : decode cX3_append 63 = .ok (.iconst 1, 1) := by decide +kernel
theorem dX3_append_64 : decode cX3_append 64 = .ok (.iadd, 1) := by decide +kernel
theorem dX3_append_65 : decode cX3_append 65 = .ok (.putfield 9, 3) := by decide +kernel
theorem dX3_append_68 : decode cX3_append 68 = .ok (.return_, 1) := by decide +kernel
theorem dX3_copyFrom_0 : decode cX3_copyFrom 0 = .ok (.aload_n 0, 1) := by decide +kernel
theorem dX3_copyFrom_1 : decode cX3_copyFrom 1 = .ok (.aload_n 1, 1) := by decide +kernel
theorem dX3_copyFrom_2 : decode cX3_copyFrom 2 = .ok (.getfield 9, 3) := by decide +kernel
theorem dX3_copyFrom_5 : decode cX3_copyFrom 5 = .ok (.putfield 9, 3) := by decide +kernel
theorem dX3_copyFrom_8 : decode cX3_copyFrom 8 = .ok (.aload_n 1, 1) := by decide +kernel
theorem dX3_copyFrom_9 : decode cX3_copyFrom 9 = .ok (.getfield 15, 3) := by decide +kernel
theorem dX3_copyFrom_12 : decode cX3_copyFrom 12 = .ok (.iconst 0, 1) := by decide +kernel
theorem dX3_copyFrom_13 : decode cX3_copyFrom 13 = .ok (.aload_n 0, 1) := by decide +kernel
theorem dX3_copyFrom_14 : decode cX3_copyFrom 14 = .ok (.getfield 15, 3) := by decide +kernel
theorem dX3_copyFrom_17 : decode cX3_copyFrom 17 = .ok (.iconst 0, 1) := by decide +kernel
theorem dX3_copyFrom_18 : decode cX3_copyFrom 18 = .ok (.aload_n 0, 1) := by decide +kernel
theorem dX3_copyFrom_19 : decode cX3_copyFrom 19 = .ok (.getfield 15, 3) := by decide +kernel
theorem dX3_copyFrom_22 : decode cX3_copyFrom 22 = .ok (.arraylength, 1) := by decide +kernel
theorem dX3_copyFrom_23 : decode cX3_copyFrom 23 = .ok (.invokestatic 19, 3) := by decide +kernel
theorem dX3_copyFrom_26 : decode cX3_copyFrom 26 = .ok (.return_, 1) := by decide +kernel
theorem dX3_init_0 : decode cX3_init 0 = .ok (.aload_n 0, 1) := by decide +kernel
theorem dX3_init_1 : decode cX3_init 1 = .ok (.invokespecial 3, 3) := by decide +kernel
theorem dX3_init_4 : decode cX3_init 4 = .ok (.aload_n 0, 1) := by decide +kernel
theorem dX3_init_5 : decode cX3_init 5 = .ok (.iconst 0, 1) := by decide +kernel
theorem dX3_init_6 : decode cX3_init 6 = .ok (.putfield 9, 3) := by decide +kernel
theorem dX3_init_9 : decode cX3_init 9 = .ok (.aload_n 0, 1) := by decide +kernel
theorem dX3_init_10 : decode cX3_init 10 = .ok (.bipush 48, 2) := by decide +kernel
theorem dX3_init_12 : decode cX3_init 12 = .ok (.newarray .int, 2) := by decide +kernel
theorem dX3_init_14 : decode cX3_init 14 = .ok (.putfield 15, 3) := by decide +kernel
theorem dX3_init_17 : decode cX3_init 17 = .ok (.return_, 1) := by decide +kernel
theorem dX3_part_0 : decode cX3_part 0 = .ok (.iload_n 1, 1) := by decide +kernel
theorem dX3_part_1 : decode cX3_part 1 = .ok (.ifCond .lt 20, 3) := by decide +kernel
theorem dX3_part_4 : decode cX3_part 4 = .ok (.iload_n 1, 1) := by decide +kernel
theorem dX3_part_5 : decode cX3_part 5 = .ok (.aload_n 0, 1) := by decide +kernel
theorem dX3_part_6 : decode cX3_part 6 = .ok (.getfield 9, 3) := by decide +kernel
theorem dX3_part_9 : decode cX3_part 9 = .ok (.if_icmp .ge 12, 3) := by decide +kernel
theorem dX3_part_12 : decode cX3_part 12 = .ok (.iload_n 2, 1) := by decide +kernel
theorem dX3_part_13 : decode cX3_part 13 = .ok (.ifCond .lt 8, 3) := by decide +kernel
theorem dX3_part_16 : decode cX3_part 16 = .ok (.iload_n 2, 1) := by decide +kernel
theorem dX3_part_17 : decode cX3_part 17 = .ok (.iconst 4, 1) := by decide +kernel
theorem dX3_part_18 : decode cX3_part 18 = .ok (.if_icmp .lt 8, 3) := by decide +kernel
theorem dX3_part_21 : decode cX3_part 21 = .ok (.bipush (-100), 2) := by decide +kernel
theorem dX3_part_23 : decode cX3_part 23 = .ok (.goto 13, 3) := by decide +kernel
theorem dX3_part_26 : decode cX3_part 26 = .ok (.aload_n 0, 1) := by decide +kernel
theorem dX3_part_27 : decode cX3_part 27 = .ok (.getfield 15, 3) := by decide +kernel
theorem dX3_part_30 : decode cX3_part 30 = .ok (.iload_n 1, 1) := by decide +kernel
theorem dX3_part_31 : decode cX3_part 31 = .ok (.iconst 4, 1) := by decide +kernel
theorem dX3_part_32 : decode cX3_part 32 = .ok (.imul, 1) := by decide +kernel
theorem dX3_part_33 : decode cX3_part 33 = .ok (.iload_n 2, 1) := by decide +kernel
theorem dX3_part_34 : decode cX3_part 34 = .ok (.iadd, 1) := by decide +kernel
theorem dX3_part_35 : decode cX3_part 35 = .ok (.iaload, 1) := by decide +kernel
theorem dX3_part_36 : decode cX3_part 36 = .ok (.ireturn, 1) := by decide +kernel
theorem dX4_allowed_0 : decode cX4_allowed 0 = .ok (.aload_n 0, 1) := by decide +kernel
theorem dX4_allowed_1 : decode cX4_allowed 1 = .ok (.getfield 29, 3) := by decide +kernel
theorem dX4_allowed_4 : decode cX4_allowed 4 = .ok (.iconst (-1), 1) := by decide +kernel
theorem dX4_allowed_5 : decode cX4_allowed 5 = .ok (.if_icmp .ne 13, 3) := by decide +kernel
theorem dX4_allowed_8 : decode cX4_allowed 8 = .ok (.iload_n 1, 1) := by decide +kernel
theorem dX4_allowed_9 : decode cX4_allowed 9 = .ok (.iload_n 2, 1) := by decide +kernel
theorem dX4_allowed_10 : decode cX4_allowed 10 = .ok (.if_icmp .le 8, 3) := by decide +kernel
theorem dX4_allowed_13 : decode cX4_allowed 13 = .ok (.aload_n 0, 1) := by decide +kernel
theorem dX4_allowed_14 : decode cX4_allowed 14 = .ok (.iload_n 3, 1) := by decide +kernel
theorem dX4_allowed_15 : decode cX4_allowed 15 = .ok (.putfield 29, 3) := by decide +kernel
theorem dX4_allowed_18 : decode cX4_allowed 18 = .ok (.iload_n 1, 1) := by decide +kernel
theorem dX4_allowed_19 : decode cX4_allowed 19 = .ok (.ireturn, 1) := by decide +kernel
theorem dX4_init_0 : decode cX4_init 0 = .ok (.aload_n 0, 1) := by decide +kernel
theorem dX4_init_1 : decode cX4_init 1 = .ok (.invokespecial 3, 3) := by decide +kernel
theorem dX4_init_4 : decode cX4_init 4 = .ok (.aload_n 0, 1) := by decide +kernel
theorem dX4_init_5 : decode cX4_init 5 = .ok (.new 9, 3) := by decide +kernel
theorem dX4_init_8 : decode cX4_init 8 = .ok (.dup, 1) := by decide +kernel
theorem dX4_init_9 : decode cX4_init 9 = .ok (.invokespecial 11, 3) := by decide +kernel
theorem dX4_init_12 : decode cX4_init 12 = .ok (.putfield 12, 3) := by decide +kernel
theorem dX4_init_15 : decode cX4_init 15 = .ok (.aload_n 0, 1) := by decide +kernel
theorem dX4_init_16 : decode cX4_init 16 = .ok (.new 18, 3) := by decide +kernel
theorem dX4_init_19 : decode cX4_init 19 = .ok (.dup, 1) := by decide +kernel
theorem dX4_init_20 : decode cX4_init 20 = .ok (.invokespecial 20, 3) := by decide +kernel
theorem dX4_init_23 : decode cX4_init 23 = .ok (.putfield 21, 3) := by decide +kernel
theorem dX4_init_26 : decode cX4_init 26 = .ok (.aload_n 0, 1) := by decide +kernel
theorem dX4_init_27 : decode cX4_init 27 = .ok (.iconst 0, 1) := by decide +kernel
theorem dX4_init_28 : decode cX4_init 28 = .ok (.putfield 25, 3) := by decide +kernel
theorem dX4_init_31 : decode cX4_init 31 = .ok (.aload_n 0, 1) := by decide +kernel
theorem dX4_init_32 : decode cX4_init 32 = .ok (.iconst (-1), 1) := by decide +kernel
theorem dX4_init_33 : decode cX4_init 33 = .ok (.putfield 29, 3) := by decide +kernel
theorem dX4_init_36 : decode cX4_init 36 = .ok (.return_, 1) := by decide +kernel
theorem dX4_isWord_0 : decode cX4_isWord 0 = .ok (.aload_n 0, 1) := by decide +kernel
theorem dX4_isWord_1 : decode cX4_isWord 1 = .ok (.getfield 25, 3) := by decide +kernel
theorem dX4_isWord_4 : decode cX4_isWord 4 = .ok (.iload_n 2, 1) := by decide +kernel
theorem dX4_isWord_5 : decode cX4_isWord 5 = .ok (.isub, 1) := by decide +kernel
theorem dX4_isWord_6 : decode cX4_isWord 6 = .ok (.aload_n 1, 1) := by decide +kernel
theorem dX4_isWord_7 : decode cX4_isWord 7 = .ok (.invokevirtual 67, 3) := by decide +kernel
theorem dX4_isWord_10 : decode cX4_isWord 10 = .ok (.if_icmp .eq 5, 3) := by decide +kernel
theorem dX4_isWord_13 : decode cX4_isWord 13 = .ok (.iconst 0, 1) := by decide +kernel
theorem dX4_isWord_14 : decode cX4_isWord 14 = .ok (.ireturn, 1) := by decide +kernel
theorem dX4_isWord_15 : decode cX4_isWord 15 = .ok (.iconst 0, 1) := by decide +kernel
theorem dX4_isWord_16 : decode cX4_isWord 16 = .ok (.istore_n 3, 1) := by decide +kernel
theorem dX4_isWord_17 : decode cX4_isWord 17 = .ok (.iload_n 3, 1) := by decide +kernel
theorem dX4_isWord_18 : decode cX4_isWord 18 = .ok (.aload_n 1, 1) := by decide +kernel
theorem dX4_isWord_19 : decode cX4_isWord 19 = .ok (.invokevirtual 67, 3) := by decide +kernel
theorem dX4_isWord_22 : decode cX4_isWord 22 = .ok (.if_icmp .ge 29, 3) := by decide +kernel
theorem dX4_isWord_25 : decode cX4_isWord 25 = .ok (.aload_n 0, 1) := by decide +kernel
theorem dX4_isWord_26 : decode cX4_isWord 26 = .ok (.getfield 12, 3) := by decide +kernel
theorem dX4_isWord_29 : decode cX4_isWord 29 = .ok (.iload_n 2, 1) := by decide +kernel
theorem dX4_isWord_30 : decode cX4_isWord 30 = .ok (.iload_n 3, 1) := by decide +kernel
theorem dX4_isWord_31 : decode cX4_isWord 31 = .ok (.iadd, 1) := by decide +kernel
theorem dX4_isWord_32 : decode cX4_isWord 32 = .ok (.invokevirtual 38, 3) := by decide +kernel
theorem dX4_isWord_35 : decode cX4_isWord 35 = .ok (.aload_n 1, 1) := by decide +kernel
theorem dX4_isWord_36 : decode cX4_isWord 36 = .ok (.iload_n 3, 1) := by decide +kernel
theorem dX4_isWord_37 : decode cX4_isWord 37 = .ok (.invokevirtual 72, 3) := by decide +kernel
theorem dX4_isWord_40 : decode cX4_isWord 40 = .ok (.if_icmp .eq 5, 3) := by decide +kernel
theorem dX4_isWord_43 : decode cX4_isWord 43 = .ok (.iconst 0, 1) := by decide +kernel
theorem dX4_isWord_44 : decode cX4_isWord 44 = .ok (.ireturn, 1) := by decide +kernel
theorem dX4_isWord_45 : decode cX4_isWord 45 = .ok (.iinc 3 1, 3) := by decide +kernel
theorem dX4_isWord_48 : decode cX4_isWord 48 = .ok (.goto (-31), 3) := by decide +kernel
theorem dX4_isWord_51 : decode cX4_isWord 51 = .ok (.iconst 1, 1) := by decide +kernel
theorem dX4_isWord_52 : decode cX4_isWord 52 = .ok (.ireturn, 1) := by decide +kernel
theorem dX4_read_0 : decode cX4_read 0 = .ok (.aload_n 0, 1) := by decide +kernel
theorem dX4_read_1 : decode cX4_read 1 = .ok (.iconst 0, 1) := by decide +kernel
theorem dX4_read_2 : decode cX4_read 2 = .ok (.putfield 25, 3) := by decide +kernel
theorem dX4_read_5 : decode cX4_read 5 = .ok (.aload_n 0, 1) := by decide +kernel
theorem dX4_read_6 : decode cX4_read 6 = .ok (.iconst (-1), 1) := by decide +kernel
theorem dX4_read_7 : decode cX4_read 7 = .ok (.putfield 29, 3) := by decide +kernel
theorem dX4_read_10 : decode cX4_read 10 = .ok (.aload_n 0, 1) := by decide +kernel
theorem dX4_read_11 : decode cX4_read 11 = .ok (.getfield 21, 3) := by decide +kernel
theorem dX4_read_14 : decode cX4_read 14 = .ok (.iconst 0, 1) := by decide +kernel
theorem dX4_read_15 : decode cX4_read 15 = .ok (.putfield 32, 3) := by decide +kernel
theorem dX4_read_18 : decode cX4_read 18 = .ok (.iconst 1, 1) := by decide +kernel
theorem dX4_read_19 : decode cX4_read 19 = .ok (.istore_n 1, 1) := by decide +kernel
theorem dX4_read_20 : decode cX4_read 20 = .ok (.iconst 1, 1) := by decide +kernel
theorem dX4_read_21 : decode cX4_read 21 = .ok (.istore_n 2, 1) := by decide +kernel
theorem dX4_read_22 : decode cX4_read 22 = .ok (.iload_n 2, 1) := by decide +kernel
theorem dX4_read_23 : decode cX4_read 23 = .ok (.bipush 12, 2) := by decide +kernel
theorem dX4_read_25 : decode cX4_read 25 = .ok (.if_icmp .gt 67, 3) := by decide +kernel
theorem dX4_read_28 : decode cX4_read 28 = .ok (.iload_n 1, 1) := by decide +kernel
theorem dX4_read_29 : decode cX4_read 29 = .ok (.ifCond .eq 63, 3) := by decide +kernel
theorem dX4_read_32 : decode cX4_read 32 = .ok (.aload_n 0, 1) := by decide +kernel
theorem dX4_read_33 : decode cX4_read 33 = .ok (.invokevirtual 35, 3) := by decide +kernel
theorem dX4_read_36 : decode cX4_read 36 = .ok (.iload_n 2, 1) := by decide +kernel
theorem dX4_read_37 : decode cX4_read 37 = .ok (.bipush 12, 2) := by decide +kernel
theorem dX4_read_39 : decode cX4_read 39 = .ok (.if_icmp .ge 31, 3) := by decide +kernel
theorem dX4_read_42 : decode cX4_read 42 = .ok (.aload_n 0, 1) := by decide +kernel
theorem dX4_read_43 : decode cX4_read 43 = .ok (.getfield 29, 3) := by decide +kernel
theorem dX4_read_46 : decode cX4_read 46 = .ok (.iconst (-1), 1) := by decide +kernel
theorem dX4_read_47 : decode cX4_read 47 = .ok (.if_icmp .ne 23, 3) := by decide +kernel
theorem dX4_read_50 : decode cX4_read 50 = .ok (.aload_n 0, 1) := by decide +kernel
theorem dX4_read_51 : decode cX4_read 51 = .ok (.getfield 12, 3) := by decide +kernel
theorem dX4_read_54 : decode cX4_read 54 = .ok (.aload_n 0, 1) := by decide +kernel
theorem dX4_read_55 : decode cX4_read 55 = .ok (.getfield 25, 3) := by decide +kernel
theorem dX4_read_58 : decode cX4_read 58 = .ok (.invokevirtual 38, 3) := by decide +kernel
theorem dX4_read_61 : decode cX4_read 61 = .ok (.bipush 59, 2) := by decide +kernel
theorem dX4_read_63 : decode cX4_read 63 = .ok (.if_icmp .ne 7, 3) := by decide +kernel
theorem dX4_read_66 : decode cX4_read 66 = .ok (.iconst 1, 1) := by decide +kernel
theorem dX4_read_67 : decode cX4_read 67 = .ok (.goto 4, 3) := by decide +kernel
theorem dX4_read_70 : decode cX4_read 70 = .ok (.iconst 0, 1) := by decide +kernel
theorem dX4_read_71 : decode cX4_read 71 = .ok (.istore_n 1, 1) := by decide +kernel
theorem dX4_read_72 : decode cX4_read 72 = .ok (.iload_n 1, 1) := by decide +kernel
theorem dX4_read_73 : decode cX4_read 73 = .ok (.ifCond .eq 13, 3) := by decide +kernel
theorem dX4_read_76 : decode cX4_read 76 = .ok (.aload_n 0, 1) := by decide +kernel
theorem dX4_read_77 : decode cX4_read 77 = .ok (.dup, 1) := by decide +kernel
theorem dX4_read_78 : decode cX4_read 78 = .ok (.getfield 25, 3) := by decide +kernel
theorem dX4_read_81 : decode cX4_read 81 = .ok (.iconst 1, 1) := by decide +kernel
theorem dX4_read_82 : decode cX4_read 82 = .ok (.iadd, 1) := by decide +kernel
theorem dX4_read_83 : decode cX4_read 83 = .ok (.putfield 25, 3) := by decide +kernel
theorem dX4_read_86 : decode cX4_read 86 = .ok (.iinc 2 1, 3) := by decide +kernel
theorem dX4_read_89 : decode cX4_read 89 = .ok (.goto (-67), 3) := by decide +kernel
theorem dX4_read_92 : decode cX4_read 92 = .ok (.aload_n 0, 1) := by decide +kernel
theorem dX4_read_93 : decode cX4_read 93 = .ok (.getfield 29, 3) := by decide +kernel
theorem dX4_read_96 : decode cX4_read 96 = .ok (.iconst (-1), 1) := by decide +kernel
theorem dX4_read_97 : decode cX4_read 97 = .ok (.if_icmp .ne 25, 3) := by decide +kernel
theorem dX4_read_100 : decode cX4_read 100 = .ok (.aload_n 0, 1) := by decide +kernel
theorem dX4_read_101 : decode cX4_read 101 = .ok (.getfield 25, 3) := by decide +kernel
theorem dX4_read_104 : decode cX4_read 104 = .ok (.aload_n 0, 1) := by decide +kernel
theorem dX4_read_105 : decode cX4_read 105 = .ok (.getfield 12, 3) := by decide +kernel
theorem dX4_read_108 : decode cX4_read 108 = .ok (.getfield 41, 3) := by decide +kernel
theorem dX4_read_111 : decode cX4_read 111 = .ok (.if_icmp .ge 11, 3) := by decide +kernel
theorem dX4_read_114 : decode cX4_read 114 = .ok (.aload_n 0, 1) := by decide +kernel
theorem dX4_read_115 : decode cX4_read 115 = .ok (.aload_n 0, 1) := by decide +kernel
theorem dX4_read_116 : decode cX4_read 116 = .ok (.getfield 25, 3) := by decide +kernel
theorem dX4_read_119 : decode cX4_read 119 = .ok (.putfield 29, 3) := by decide +kernel
theorem dX4_read_122 : decode cX4_read 122 = .ok (.aload_n 0, 1) := by decide +kernel
theorem dX4_read_123 : decode cX4_read 123 = .ok (.getfield 29, 3) := by decide +kernel
theorem dX4_read_126 : decode cX4_read 126 = .ok (.ireturn, 1) := by decide +kernel
theorem dX4_readBlank_0 : decode cX4_readBlank 0 = .ok (.aload_n 0, 1) := by decide +kernel
theorem dX4_readBlank_1 : decode cX4_readBlank 1 = .ok (.getfield 29, 3) := by decide +kernel
theorem dX4_readBlank_4 : decode cX4_readBlank 4 = .ok (.iconst (-1), 1) := by decide +kernel
theorem dX4_readBlank_5 : decode cX4_readBlank 5 = .ok (.if_icmp .eq 4, 3) := by decide +kernel
theorem dX4_readBlank_8 : decode cX4_readBlank 8 = .ok (.return_, 1) := by decide +kernel
theorem dX4_readBlank_9 : decode cX4_readBlank 9 = .ok (.aload_n 0, 1) := by decide +kernel
theorem dX4_readBlank_10 : decode cX4_readBlank 10 = .ok (.getfield 12, 3) := by decide +kernel
theorem dX4_readBlank_13 : decode cX4_readBlank 13 = .ok (.aload_n 0, 1) := by decide +kernel
theorem dX4_readBlank_14 : decode cX4_readBlank 14 = .ok (.getfield 25, 3) := by decide +kernel
theorem dX4_readBlank_17 : decode cX4_readBlank 17 = .ok (.invokevirtual 38, 3) := by decide +kernel
theorem dX4_readBlank_20 : decode cX4_readBlank 20 = .ok (.bipush 32, 2) := by decide +kernel
theorem dX4_readBlank_22 : decode cX4_readBlank 22 = .ok (.if_icmp .ne 16, 3) := by decide +kernel
theorem dX4_readBlank_25 : decode cX4_readBlank 25 = .ok (.aload_n 0, 1) := by decide +kernel
theorem dX4_readBlank_26 : decode cX4_readBlank 26 = .ok (.dup, 1) := by decide +kernel
theorem dX4_readBlank_27 : decode cX4_readBlank 27 = .ok (.getfield 25, 3) := by decide +kernel
theorem dX4_readBlank_30 : decode cX4_readBlank 30 = .ok (.iconst 1, 1) := by decide +kernel
theorem dX4_readBlank_31 : decode cX4_readBlank 31 = .ok (.iadd, 1) := by decide +kernel
theorem dX4_readBlank_32 : decode cX4_readBlank 32 = .ok (.putfield 25, 3) := by decide +kernel
theorem dX4_readBlank_35 : decode cX4_readBlank 35 = .ok (.goto 11, 3) := by decide +kernel
theorem dX4_readBlank_38 : decode cX4_readBlank 38 = .ok (.aload_n 0, 1) := by decide +kernel
theorem dX4_readBlank_39 : decode cX4_readBlank 39 = .ok (.aload_n 0, 1) := by decide +kernel
theorem dX4_readBlank_40 : decode cX4_readBlank 40 = .ok (.getfield 25, 3) := by decide +kernel
theorem dX4_readBlank_43 : decode cX4_readBlank 43 = .ok (.putfield 29, 3) := by decide +kernel
theorem dX4_readBlank_46 : decode cX4_readBlank 46 = .ok (.return_, 1) := by decide +kernel
theorem dX4_readFigureBelow_0 : decode cX4_readFigureBelow 0 = .ok (.aload_n 0, 1) := by decide +kernel
theorem dX4_readFigureBelow_1 : decode cX4_readFigureBelow 1 = .ok (.invokevirtual 94, 3) := by decide +kernel
theorem dX4_readFigureBelow_4 : decode cX4_readFigureBelow 4 = .ok (.aload_n 0, 1) := by decide +kernel
theorem dX4_readFigureBelow_5 : decode cX4_readFigureBelow 5 = .ok (.iconst 1, 1) := by decide +kernel
theorem dX4_readFigureBelow_6 : decode cX4_readFigureBelow 6 = .ok (.invokevirtual 97, 3) := by decide +kernel
theorem dX4_readFigureBelow_9 : decode cX4_readFigureBelow 9 = .ok (.istore_n 2, 1) := by decide +kernel
theorem dX4_readFigureBelow_10 : decode cX4_readFigureBelow 10 = .ok (.aload_n 0, 1) := by decide +kernel
theorem dX4_readFigureBelow_11 : decode cX4_readFigureBelow 11 = .ok (.iload_n 2, 1) := by decide +kernel
theorem dX4_readFigureBelow_12 : decode cX4_readFigureBelow 12 = .ok (.iload_n 1, 1) := by decide +kernel
theorem dX4_readFigureBelow_13 : decode cX4_readFigureBelow 13 = .ok (.iconst 1, 1) := by decide +kernel
theorem dX4_readFigureBelow_14 : decode cX4_readFigureBelow 14 = .ok (.isub, 1) := by decide +kernel
theorem dX4_readFigureBelow_15 : decode cX4_readFigureBelow 15 = .ok (.aload_n 0, 1) := by decide +kernel
theorem dX4_readFigureBelow_16 : decode cX4_readFigureBelow 16 = .ok (.getfield 25, 3) := by decide +kernel
theorem dX4_readFigureBelow_19 : decode cX4_readFigureBelow 19 = .ok (.iconst 1, 1) := by decide +kernel
theorem dX4_readFigureBelow_20 : decode cX4_readFigureBelow 20 = .ok (.isub, 1) := by decide +kernel
theorem dX4_readFigureBelow_21 : decode cX4_readFigureBelow 21 = .ok (.invokevirtual 100, 3) := by decide +kernel
theorem dX4_readFigureBelow_24 : decode cX4_readFigureBelow 24 = .ok (.ireturn, 1) := by decide +kernel
theorem dX4_readNumber_0 : decode cX4_readNumber 0 = .ok (.aload_n 0, 1) := by decide +kernel
theorem dX4_readNumber_1 : decode cX4_readNumber 1 = .ok (.invokevirtual 94, 3) := by decide +kernel
theorem dX4_readNumber_4 : decode cX4_readNumber 4 = .ok (.aload_n 0, 1) := by decide +kernel
theorem dX4_readNumber_5 : decode cX4_readNumber 5 = .ok (.getfield 29, 3) := by decide +kernel
theorem dX4_readNumber_8 : decode cX4_readNumber 8 = .ok (.iconst (-1), 1) := by decide +kernel
theorem dX4_readNumber_9 : decode cX4_readNumber 9 = .ok (.if_icmp .ne 23, 3) := by decide +kernel
theorem dX4_readNumber_12 : decode cX4_readNumber 12 = .ok (.aload_n 0, 1) := by decide +kernel
theorem dX4_readNumber_13 : decode cX4_readNumber 13 = .ok (.getfield 12, 3) := by decide +kernel
theorem dX4_readNumber_16 : decode cX4_readNumber 16 = .ok (.aload_n 0, 1) := by decide +kernel
theorem dX4_readNumber_17 : decode cX4_readNumber 17 = .ok (.getfield 25, 3) := by decide +kernel
theorem dX4_readNumber_20 : decode cX4_readNumber 20 = .ok (.invokevirtual 38, 3) := by decide +kernel
theorem dX4_readNumber_23 : decode cX4_readNumber 23 = .ok (.bipush 45, 2) := by decide +kernel
theorem dX4_readNumber_25 : decode cX4_readNumber 25 = .ok (.if_icmp .ne 7, 3) := by decide +kernel
theorem dX4_readNumber_28 : decode cX4_readNumber 28 = .ok (.iconst 1, 1) := by decide +kernel
theorem dX4_readNumber_29 : decode cX4_readNumber 29 = .ok (.goto 4, 3) := by decide +kernel
theorem dX4_readNumber_32 : decode cX4_readNumber 32 = .ok (.iconst 0, 1) := by decide +kernel

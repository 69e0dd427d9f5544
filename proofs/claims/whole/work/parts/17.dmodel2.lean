theorem dX11_program_15 : decode cX11_program 15 = .ok (.iaload, 1) := by decide +kernel
theorem dX11_program_16 : decode cX11_program 16 = .ok (.ifCond .ne 14, 3) := by decide +kernel
theorem dX11_program_19 : decode cX11_program 19 = .ok (.aload_n 0, 1) := by decide +kernel
theorem dX11_program_20 : decode cX11_program 20 = .ok (.getfield 9, 3) := by decide +kernel
theorem dX11_program_23 : decode cX11_program 23 = .ok (.iconst 4, 1) := by decide +kernel
theorem dX11_program_24 : decode cX11_program 24 = .ok (.iload_n 1, 1) := by decide +kernel
theorem dX11_program_25 : decode cX11_program 25 = .ok (.iadd, 1) := by decide +kernel
theorem dX11_program_26 : decode cX11_program 26 = .ok (.iaload, 1) := by decide +kernel
theorem dX11_program_27 : decode cX11_program 27 = .ok (.ifCond .eq 6, 3) := by decide +kernel
theorem dX11_program_30 : decode cX11_program 30 = .ok (.bipush (-3), 2) := by decide +kernel
theorem dX11_program_32 : decode cX11_program 32 = .ok (.ireturn, 1) := by decide +kernel
theorem dX11_program_33 : decode cX11_program 33 = .ok (.aload_n 0, 1) := by decide +kernel
theorem dX11_program_34 : decode cX11_program 34 = .ok (.iconst 0, 1) := by decide +kernel
theorem dX11_program_35 : decode cX11_program 35 = .ok (.putfield 89, 3) := by decide +kernel
theorem dX11_program_38 : decode cX11_program 38 = .ok (.aload_n 0, 1) := by decide +kernel
theorem dX11_program_39 : decode cX11_program 39 = .ok (.iconst (-1), 1) := by decide +kernel
theorem dX11_program_40 : decode cX11_program 40 = .ok (.putfield 92, 3) := by decide +kernel
theorem dX11_program_43 : decode cX11_program 43 = .ok (.aload_n 0, 1) := by decide +kernel
theorem dX11_program_44 : decode cX11_program 44 = .ok (.iconst 0, 1) := by decide +kernel
theorem dX11_program_45 : decode cX11_program 45 = .ok (.putfield 136, 3) := by decide +kernel
theorem dX11_program_48 : decode cX11_program 48 = .ok (.iconst 1, 1) := by decide +kernel
theorem dX11_program_49 : decode cX11_program 49 = .ok (.istore_n 2, 1) := by decide +kernel
theorem dX11_program_50 : decode cX11_program 50 = .ok (.iload_n 2, 1) := by decide +kernel
theorem dX11_program_51 : decode cX11_program 51 = .ok (.ifCond .eq 91, 3) := by decide +kernel
theorem dX11_program_54 : decode cX11_program 54 = .ok (.aload_n 0, 1) := by decide +kernel
theorem dX11_program_55 : decode cX11_program 55 = .ok (.getfield 92, 3) := by decide +kernel
theorem dX11_program_58 : decode cX11_program 58 = .ok (.ifCond .ge 84, 3) := by decide +kernel
theorem dX11_program_61 : decode cX11_program 61 = .ok (.aload_n 0, 1) := by decide +kernel
theorem dX11_program_62 : decode cX11_program 62 = .ok (.aload_n 0, 1) := by decide +kernel
theorem dX11_program_63 : decode cX11_program 63 = .ok (.getfield 136, 3) := by decide +kernel
theorem dX11_program_66 : decode cX11_program 66 = .ok (.invokevirtual 139, 3) := by decide +kernel
theorem dX11_program_69 : decode cX11_program 69 = .ok (.aload_n 0, 1) := by decide +kernel
theorem dX11_program_70 : decode cX11_program 70 = .ok (.dup, 1) := by decide +kernel
theorem dX11_program_71 : decode cX11_program 71 = .ok (.getfield 136, 3) := by decide +kernel
theorem dX11_program_74 : decode cX11_program 74 = .ok (.aload_n 0, 1) := by decide +kernel
theorem dX11_program_75 : decode cX11_program 75 = .ok (.getfield 92, 3) := by decide +kernel
theorem dX11_program_78 : decode cX11_program 78 = .ok (.ifCond .ge 7, 3) := by decide +kernel
theorem dX11_program_81 : decode cX11_program 81 = .ok (.iconst 1, 1) := by decide +kernel
theorem dX11_program_82 : decode cX11_program 82 = .ok (.goto 4, 3) := by decide +kernel
theorem dX11_program_85 : decode cX11_program 85 = .ok (.iconst 0, 1) := by decide +kernel
theorem dX11_program_86 : decode cX11_program 86 = .ok (.iadd, 1) := by decide +kernel
theorem dX11_program_87 : decode cX11_program 87 = .ok (.putfield 136, 3) := by decide +kernel
theorem dX11_program_90 : decode cX11_program 90 = .ok (.aload_n 0, 1) := by decide +kernel
theorem dX11_program_91 : decode cX11_program 91 = .ok (.getfield 92, 3) := by decide +kernel
theorem dX11_program_94 : decode cX11_program 94 = .ok (.ifCond .ge 25, 3) := by decide +kernel
theorem dX11_program_97 : decode cX11_program 97 = .ok (.aload_n 0, 1) := by decide +kernel
theorem dX11_program_98 : decode cX11_program 98 = .ok (.invokevirtual 95, 3) := by decide +kernel
theorem dX11_program_101 : decode cX11_program 101 = .ok (.bipush 59, 2) := by decide +kernel
theorem dX11_program_103 : decode cX11_program 103 = .ok (.if_icmp .ne 16, 3) := by decide +kernel
theorem dX11_program_106 : decode cX11_program 106 = .ok (.aload_n 0, 1) := by decide +kernel
theorem dX11_program_107 : decode cX11_program 107 = .ok (.getfield 136, 3) := by decide +kernel
theorem dX11_program_110 : decode cX11_program 110 = .ok (.bipush 12, 2) := by decide +kernel
theorem dX11_program_112 : decode cX11_program 112 = .ok (.if_icmp .ge 7, 3) := by decide +kernel
theorem dX11_program_115 : decode cX11_program 115 = .ok (.iconst 1, 1) := by decide +kernel
theorem dX11_program_116 : decode cX11_program 116 = .ok (.goto 4, 3) := by decide +kernel
theorem dX11_program_119 : decode cX11_program 119 = .ok (.iconst 0, 1) := by decide +kernel
theorem dX11_program_120 : decode cX11_program 120 = .ok (.istore_n 2, 1) := by decide +kernel
theorem dX11_program_121 : decode cX11_program 121 = .ok (.aload_n 0, 1) := by decide +kernel
theorem dX11_program_122 : decode cX11_program 122 = .ok (.dup, 1) := by decide +kernel
theorem dX11_program_123 : decode cX11_program 123 = .ok (.getfield 89, 3) := by decide +kernel
theorem dX11_program_126 : decode cX11_program 126 = .ok (.iload_n 2, 1) := by decide +kernel
theorem dX11_program_127 : decode cX11_program 127 = .ok (.ifCond .eq 7, 3) := by decide +kernel
theorem dX11_program_130 : decode cX11_program 130 = .ok (.iconst 1, 1) := by decide +kernel
theorem dX11_program_131 : decode cX11_program 131 = .ok (.goto 4, 3) := by decide +kernel
theorem dX11_program_134 : decode cX11_program 134 = .ok (.iconst 0, 1) := by decide +kernel
theorem dX11_program_135 : decode cX11_program 135 = .ok (.iadd, 1) := by decide +kernel
theorem dX11_program_136 : decode cX11_program 136 = .ok (.putfield 89, 3) := by decide +kernel
theorem dX11_program_139 : decode cX11_program 139 = .ok (.goto (-89), 3) := by decide +kernel
theorem dX11_program_142 : decode cX11_program 142 = .ok (.aload_n 0, 1) := by decide +kernel
theorem dX11_program_143 : decode cX11_program 143 = .ok (.aload_n 0, 1) := by decide +kernel
theorem dX11_program_144 : decode cX11_program 144 = .ok (.getfield 89, 3) := by decide +kernel
theorem dX11_program_147 : decode cX11_program 147 = .ok (.aload_n 0, 1) := by decide +kernel
theorem dX11_program_148 : decode cX11_program 148 = .ok (.getfield 85, 3) := by decide +kernel
theorem dX11_program_151 : decode cX11_program 151 = .ok (.if_icmp .lt 7, 3) := by decide +kernel
theorem dX11_program_154 : decode cX11_program 154 = .ok (.iconst 1, 1) := by decide +kernel
theorem dX11_program_155 : decode cX11_program 155 = .ok (.goto 4, 3) := by decide +kernel
theorem dX11_program_158 : decode cX11_program 158 = .ok (.iconst 0, 1) := by decide +kernel
theorem dX11_program_159 : decode cX11_program 159 = .ok (.aload_n 0, 1) := by decide +kernel
theorem dX11_program_160 : decode cX11_program 160 = .ok (.getfield 89, 3) := by decide +kernel
theorem dX11_program_163 : decode cX11_program 163 = .ok (.invokevirtual 99, 3) := by decide +kernel
theorem dX11_program_166 : decode cX11_program 166 = .ok (.aload_n 0, 1) := by decide +kernel
theorem dX11_program_167 : decode cX11_program 167 = .ok (.iconst 0, 1) := by decide +kernel
theorem dX11_program_168 : decode cX11_program 168 = .ok (.putfield 85, 3) := by decide +kernel
theorem dX11_program_171 : decode cX11_program 171 = .ok (.aload_n 0, 1) := by decide +kernel
theorem dX11_program_172 : decode cX11_program 172 = .ok (.getfield 92, 3) := by decide +kernel
theorem dX11_program_175 : decode cX11_program 175 = .ok (.ifCond .lt 26, 3) := by decide +kernel
theorem dX11_program_178 : decode cX11_program 178 = .ok (.aload_n 0, 1) := by decide +kernel
theorem dX11_program_179 : decode cX11_program 179 = .ok (.iconst 1, 1) := by decide +kernel
theorem dX11_program_180 : decode cX11_program 180 = .ok (.iload_n 1, 1) := by decide +kernel
theorem dX11_program_181 : decode cX11_program 181 = .ok (.aload_n 0, 1) := by decide +kernel
theorem dX11_program_182 : decode cX11_program 182 = .ok (.getfield 136, 3) := by decide +kernel
theorem dX11_program_185 : decode cX11_program 185 = .ok (.iconst 3, 1) := by decide +kernel
theorem dX11_program_186 : decode cX11_program 186 = .ok (.aload_n 0, 1) := by decide +kernel
theorem dX11_program_187 : decode cX11_program 187 = .ok (.getfield 92, 3) := by decide +kernel
theorem dX11_program_190 : decode cX11_program 190 = .ok (.invokevirtual 142, 3) := by decide +kernel
theorem dX11_program_193 : decode cX11_program 193 = .ok (.bipush (-100), 2) := by decide +kernel
theorem dX11_program_195 : decode cX11_program 195 = .ok (.aload_n 0, 1) := by decide +kernel
theorem dX11_program_196 : decode cX11_program 196 = .ok (.getfield 92, 3) := by decide +kernel
theorem dX11_program_199 : decode cX11_program 199 = .ok (.isub, 1) := by decide +kernel
theorem dX11_program_200 : decode cX11_program 200 = .ok (.ireturn, 1) := by decide +kernel
theorem dX11_program_201 : decode cX11_program 201 = .ok (.aload_n 0, 1) := by decide +kernel
theorem dX11_program_202 : decode cX11_program 202 = .ok (.getfield 9, 3) := by decide +kernel
theorem dX11_program_205 : decode cX11_program 205 = .ok (.bipush 57, 2) := by decide +kernel
theorem dX11_program_207 : decode cX11_program 207 = .ok (.iload_n 1, 1) := by decide +kernel
theorem dX11_program_208 : decode cX11_program 208 = .ok (.iadd, 1) := by decide +kernel
theorem dX11_program_209 : decode cX11_program 209 = .ok (.aload_n 0, 1) := by decide +kernel
theorem dX11_program_210 : decode cX11_program 210 = .ok (.getfield 136, 3) := by decide +kernel
theorem dX11_program_213 : decode cX11_program 213 = .ok (.iastore, 1) := by decide +kernel
theorem dX11_program_214 : decode cX11_program 214 = .ok (.aload_n 0, 1) := by decide +kernel
theorem dX11_program_215 : decode cX11_program 215 = .ok (.getfield 28, 3) := by decide +kernel
theorem dX11_program_218 : decode cX11_program 218 = .ok (.iconst 0, 1) := by decide +kernel
theorem dX11_program_219 : decode cX11_program 219 = .ok (.aload_n 0, 1) := by decide +kernel
theorem dX11_program_220 : decode cX11_program 220 = .ok (.getfield 9, 3) := by decide +kernel
theorem dX11_program_223 : decode cX11_program 223 = .ok (.bipush 61, 2) := by decide +kernel
theorem dX11_program_225 : decode cX11_program 225 = .ok (.bipush 48, 2) := by decide +kernel
theorem dX11_program_227 : decode cX11_program 227 = .ok (.iload_n 1, 1) := by decide +kernel
theorem dX11_program_228 : decode cX11_program 228 = .ok (.imul, 1) := by decide +kernel
theorem dX11_program_229 : decode cX11_program 229 = .ok (.iadd, 1) := by decide +kernel
theorem dX11_program_230 : decode cX11_program 230 = .ok (.iconst 4, 1) := by decide +kernel
theorem dX11_program_231 : decode cX11_program 231 = .ok (.aload_n 0, 1) := by decide +kernel
theorem dX11_program_232 : decode cX11_program 232 = .ok (.getfield 136, 3) := by decide +kernel
theorem dX11_program_235 : decode cX11_program 235 = .ok (.imul, 1) := by decide +kernel
theorem dX11_program_236 : decode cX11_program 236 = .ok (.invokestatic 146, 3) := by decide +kernel
theorem dX11_program_239 : decode cX11_program 239 = .ok (.aload_n 0, 1) := by decide +kernel
theorem dX11_program_240 : decode cX11_program 240 = .ok (.getfield 136, 3) := by decide +kernel
theorem dX11_program_243 : decode cX11_program 243 = .ok (.ireturn, 1) := by decide +kernel
theorem dX11_put_0 : decode cX11_put 0 = .ok (.iload_n 1, 1) := by decide +kernel
theorem dX11_put_1 : decode cX11_put 1 = .ok (.invokestatic 76, 3) := by decide +kernel
theorem dX11_put_4 : decode cX11_put 4 = .ok (.ifCond .eq 17, 3) := by decide +kernel
theorem dX11_put_7 : decode cX11_put 7 = .ok (.iload_n 2, 1) := by decide +kernel
theorem dX11_put_8 : decode cX11_put 8 = .ok (.i2l, 1) := by decide +kernel
theorem dX11_put_9 : decode cX11_put 9 = .ok (.ldc2_w 79, 3) := by decide +kernel
theorem dX11_put_12 : decode cX11_put 12 = .ok (.ldc2_w 81, 3) := by decide +kernel
theorem dX11_put_15 : decode cX11_put 15 = .ok (.invokestatic 64, 3) := by decide +kernel
theorem dX11_put_18 : decode cX11_put 18 = .ok (.ifCond .ne 6, 3) := by decide +kernel
theorem dX11_put_21 : decode cX11_put 21 = .ok (.bipush (-100), 2) := by decide +kernel
theorem dX11_put_23 : decode cX11_put 23 = .ok (.ireturn, 1) := by decide +kernel
theorem dX11_put_24 : decode cX11_put 24 = .ok (.aload_n 0, 1) := by decide +kernel
theorem dX11_put_25 : decode cX11_put 25 = .ok (.getfield 9, 3) := by decide +kernel
theorem dX11_put_28 : decode cX11_put 28 = .ok (.bipush 48, 2) := by decide +kernel
theorem dX11_put_30 : decode cX11_put 30 = .ok (.iload_n 1, 1) := by decide +kernel
theorem dX11_put_31 : decode cX11_put 31 = .ok (.iadd, 1) := by decide +kernel
theorem dX11_put_32 : decode cX11_put 32 = .ok (.iaload, 1) := by decide +kernel
theorem dX11_put_33 : decode cX11_put 33 = .ok (.istore_n 3, 1) := by decide +kernel
theorem dX11_put_34 : decode cX11_put 34 = .ok (.aload_n 0, 1) := by decide +kernel
theorem dX11_put_35 : decode cX11_put 35 = .ok (.getfield 9, 3) := by decide +kernel
theorem dX11_put_38 : decode cX11_put 38 = .ok (.bipush 48, 2) := by decide +kernel
theorem dX11_put_40 : decode cX11_put 40 = .ok (.iload_n 1, 1) := by decide +kernel
theorem dX11_put_41 : decode cX11_put 41 = .ok (.iadd, 1) := by decide +kernel
theorem dX11_put_42 : decode cX11_put 42 = .ok (.iload_n 2, 1) := by decide +kernel
theorem dX11_put_43 : decode cX11_put 43 = .ok (.iastore, 1) := by decide +kernel
theorem dX11_put_44 : decode cX11_put 44 = .ok (.iload_n 3, 1) := by decide +kernel
theorem dX11_put_45 : decode cX11_put 45 = .ok (.ireturn, 1) := by decide +kernel
theorem dX11_restart_0 : decode cX11_restart 0 = .ok (.iconst 0, 1) := by decide +kernel
theorem dX11_restart_1 : decode cX11_restart 1 = .ok (.istore_n 1, 1) := by decide +kernel
theorem dX11_restart_2 : decode cX11_restart 2 = .ok (.iload_n 1, 1) := by decide +kernel
theorem dX11_restart_3 : decode cX11_restart 3 = .ok (.bipush 52, 2) := by decide +kernel
theorem dX11_restart_5 : decode cX11_restart 5 = .ok (.if_icmp .ge 16, 3) := by decide +kernel
theorem dX11_restart_8 : decode cX11_restart 8 = .ok (.aload_n 0, 1) := by decide +kernel
theorem dX11_restart_9 : decode cX11_restart 9 = .ok (.getfield 9, 3) := by decide +kernel
theorem dX11_restart_12 : decode cX11_restart 12 = .ok (.iload_n 1, 1) := by decide +kernel
theorem dX11_restart_13 : decode cX11_restart 13 = .ok (.iconst 0, 1) := by decide +kernel
theorem dX11_restart_14 : decode cX11_restart 14 = .ok (.iastore, 1) := by decide +kernel
theorem dX11_restart_15 : decode cX11_restart 15 = .ok (.iinc 1 1, 3) := by decide +kernel
theorem dX11_restart_18 : decode cX11_restart 18 = .ok (.goto (-16), 3) := by decide +kernel
theorem dX11_restart_21 : decode cX11_restart 21 = .ok (.aload_n 0, 1) := by decide +kernel
theorem dX11_restart_22 : decode cX11_restart 22 = .ok (.getfield 9, 3) := by decide +kernel
theorem dX11_restart_25 : decode cX11_restart 25 = .ok (.bipush 56, 2) := by decide +kernel
theorem dX11_restart_27 : decode cX11_restart 27 = .ok (.bipush (-5), 2) := by decide +kernel
theorem dX11_restart_29 : decode cX11_restart 29 = .ok (.iastore, 1) := by decide +kernel
theorem dX11_restart_30 : decode cX11_restart 30 = .ok (.aload_n 0, 1) := by decide +kernel
theorem dX11_restart_31 : decode cX11_restart 31 = .ok (.getfield 9, 3) := by decide +kernel
theorem dX11_restart_34 : decode cX11_restart 34 = .ok (.bipush 52, 2) := by decide +kernel
theorem dX11_restart_36 : decode cX11_restart 36 = .ok (.iaload, 1) := by decide +kernel
theorem dX11_restart_37 : decode cX11_restart 37 = .ok (.ireturn, 1) := by decide +kernel
theorem dX11_round_0 : decode cX11_round 0 = .ok (.aload_n 0, 1) := by decide +kernel
theorem dX11_round_1 : decode cX11_round 1 = .ok (.invokevirtual 252, 3) := by decide +kernel
theorem dX11_round_4 : decode cX11_round 4 = .ok (.iconst 0, 1) := by decide +kernel
theorem dX11_round_5 : decode cX11_round 5 = .ok (.istore_n 1, 1) := by decide +kernel
theorem dX11_round_6 : decode cX11_round 6 = .ok (.iconst 0, 1) := by decide +kernel
theorem dX11_round_7 : decode cX11_round 7 = .ok (.istore_n 2, 1) := by decide +kernel
theorem dX11_round_8 : decode cX11_round 8 = .ok (.iload_n 2, 1) := by decide +kernel
theorem dX11_round_9 : decode cX11_round 9 = .ok (.iconst 3, 1) := by decide +kernel
theorem dX11_round_10 : decode cX11_round 10 = .ok (.if_icmp .ge 81, 3) := by decide +kernel
theorem dX11_round_13 : decode cX11_round 13 = .ok (.aload_n 0, 1) := by decide +kernel
theorem dX11_round_14 : decode cX11_round 14 = .ok (.iload_n 2, 1) := by decide +kernel
theorem dX11_round_15 : decode cX11_round 15 = .ok (.invokevirtual 285, 3) := by decide +kernel
theorem dX11_round_18 : decode cX11_round 18 = .ok (.istore_n 3, 1) := by decide +kernel
theorem dX11_round_19 : decode cX11_round 19 = .ok (.iconst 0, 1) := by decide +kernel
theorem dX11_round_20 : decode cX11_round 20 = .ok (.istore 4, 2) := by decide +kernel
theorem dX11_round_22 : decode cX11_round 22 = .ok (.iload 4, 2) := by decide +kernel
theorem dX11_round_24 : decode cX11_round 24 = .ok (.iconst 3, 1) := by decide +kernel
theorem dX11_round_25 : decode cX11_round 25 = .ok (.if_icmp .ge 46, 3) := by decide +kernel
theorem dX11_round_28 : decode cX11_round 28 = .ok (.iconst 0, 1) := by decide +kernel
theorem dX11_round_29 : decode cX11_round 29 = .ok (.istore 5, 2) := by decide +kernel
theorem dX11_round_31 : decode cX11_round 31 = .ok (.iload 5, 2) := by decide +kernel
theorem dX11_round_33 : decode cX11_round 33 = .ok (.iconst 3, 1) := by decide +kernel
theorem dX11_round_34 : decode cX11_round 34 = .ok (.if_icmp .ge 31, 3) := by decide +kernel
theorem dX11_round_37 : decode cX11_round 37 = .ok (.iload_n 3, 1) := by decide +kernel
theorem dX11_round_38 : decode cX11_round 38 = .ok (.iload_n 3, 1) := by decide +kernel
theorem dX11_round_39 : decode cX11_round 39 = .ok (.iload 5, 2) := by decide +kernel
theorem dX11_round_41 : decode cX11_round 41 = .ok (.invokestatic 282, 3) := by decide +kernel
theorem dX11_round_44 : decode cX11_round 44 = .ok (.ifCond .eq 12, 3) := by decide +kernel
theorem dX11_round_47 : decode cX11_round 47 = .ok (.aload_n 0, 1) := by decide +kernel
theorem dX11_round_48 : decode cX11_round 48 = .ok (.iload 5, 2) := by decide +kernel
theorem dX11_round_50 : decode cX11_round 50 = .ok (.invokevirtual 285, 3) := by decide +kernel
theorem dX11_round_53 : decode cX11_round 53 = .ok (.goto 4, 3) := by decide +kernel
theorem dX11_round_56 : decode cX11_round 56 = .ok (.iconst 0, 1) := by decide +kernel
theorem dX11_round_57 : decode cX11_round 57 = .ok (.ior, 1) := by decide +kernel
theorem dX11_round_58 : decode cX11_round 58 = .ok (.istore_n 3, 1) := by decide +kernel
theorem dX11_round_59 : decode cX11_round 59 = .ok (.iinc 5 1, 3) := by decide +kernel
theorem dX11_round_62 : decode cX11_round 62 = .ok (.goto (-31), 3) := by decide +kernel
theorem dX11_round_65 : decode cX11_round 65 = .ok (.iinc 4 1, 3) := by decide +kernel
theorem dX11_round_68 : decode cX11_round 68 = .ok (.goto (-46), 3) := by decide +kernel
theorem dX11_round_71 : decode cX11_round 71 = .ok (.iload_n 3, 1) := by decide +kernel
theorem dX11_round_72 : decode cX11_round 72 = .ok (.iload_n 2, 1) := by decide +kernel
theorem dX11_round_73 : decode cX11_round 73 = .ok (.invokestatic 282, 3) := by decide +kernel
theorem dX11_round_76 : decode cX11_round 76 = .ok (.ifCond .eq 7, 3) := by decide +kernel
theorem dX11_round_79 : decode cX11_round 79 = .ok (.iconst 1, 1) := by decide +kernel
theorem dX11_round_80 : decode cX11_round 80 = .ok (.goto 4, 3) := by decide +kernel
theorem dX11_round_83 : decode cX11_round 83 = .ok (.iload_n 1, 1) := by decide +kernel
theorem dX11_round_84 : decode cX11_round 84 = .ok (.istore_n 1, 1) := by decide +kernel
theorem dX11_round_85 : decode cX11_round 85 = .ok (.iinc 2 1, 3) := by decide +kernel
theorem dX11_round_88 : decode cX11_round 88 = .ok (.goto (-80), 3) := by decide +kernel
theorem dX11_round_91 : decode cX11_round 91 = .ok (.iload_n 1, 1) := by decide +kernel
theorem dX11_round_92 : decode cX11_round 92 = .ok (.ireturn, 1) := by decide +kernel
theorem dX11_run_0 : decode cX11_run 0 = .ok (.iload_n 1, 1) := by decide +kernel
theorem dX11_run_1 : decode cX11_run 1 = .ok (.i2l, 1) := by decide +kernel
theorem dX11_run_2 : decode cX11_run 2 = .ok (.lconst 0, 1) := by decide +kernel
theorem dX11_run_3 : decode cX11_run 3 = .ok (.ldc2_w 68, 3) := by decide +kernel
theorem dX11_run_6 : decode cX11_run 6 = .ok (.invokestatic 64, 3) := by decide +kernel
theorem dX11_run_9 : decode cX11_run 9 = .ok (.ifCond .ne 5, 3) := by decide +kernel
theorem dX11_run_12 : decode cX11_run 12 = .ok (.iconst (-1), 1) := by decide +kernel
theorem dX11_run_13 : decode cX11_run 13 = .ok (.ireturn, 1) := by decide +kernel
theorem dX11_run_14 : decode cX11_run 14 = .ok (.iload_n 2, 1) := by decide +kernel
theorem dX11_run_15 : decode cX11_run 15 = .ok (.i2l, 1) := by decide +kernel
theorem dX11_run_16 : decode cX11_run 16 = .ok (.lconst 0, 1) := by decide +kernel
theorem dX11_run_17 : decode cX11_run 17 = .ok (.ldc2_w 197, 3) := by decide +kernel
theorem dX11_run_20 : decode cX11_run 20 = .ok (.invokestatic 64, 3) := by decide +kernel
theorem dX11_run_23 : decode cX11_run 23 = .ok (.ifCond .ne 6, 3) := by decide +kernel
theorem dX11_run_26 : decode cX11_run 26 = .ok (.bipush (-2), 2) := by decide +kernel
theorem dX11_run_28 : decode cX11_run 28 = .ok (.ireturn, 1) := by decide +kernel
theorem dX11_run_29 : decode cX11_run 29 = .ok (.iconst 0, 1) := by decide +kernel
theorem dX11_run_30 : decode cX11_run 30 = .ok (.istore_n 3, 1) := by decide +kernel
theorem dX11_run_31 : decode cX11_run 31 = .ok (.iload_n 3, 1) := by decide +kernel
theorem dX11_run_32 : decode cX11_run 32 = .ok (.iload_n 2, 1) := by decide +kernel
theorem dX11_run_33 : decode cX11_run 33 = .ok (.if_icmp .ge 26, 3) := by decide +kernel
theorem dX11_run_36 : decode cX11_run 36 = .ok (.aload_n 0, 1) := by decide +kernel
theorem dX11_run_37 : decode cX11_run 37 = .ok (.iload_n 1, 1) := by decide +kernel
theorem dX11_run_38 : decode cX11_run 38 = .ok (.invokevirtual 199, 3) := by decide +kernel
theorem dX11_run_41 : decode cX11_run 41 = .ok (.ifCond .lt 18, 3) := by decide +kernel
theorem dX11_run_44 : decode cX11_run 44 = .ok (.aload_n 0, 1) := by decide +kernel
theorem dX11_run_45 : decode cX11_run 45 = .ok (.aload_n 0, 1) := by decide +kernel
theorem dX11_run_46 : decode cX11_run 46 = .ok (.iload_n 1, 1) := by decide +kernel
theorem dX11_run_47 : decode cX11_run 47 = .ok (.invokevirtual 199, 3) := by decide +kernel
theorem dX11_run_50 : decode cX11_run 50 = .ok (.invokevirtual 194, 3) := by decide +kernel
theorem dX11_run_53 : decode cX11_run 53 = .ok (.iinc 3 1, 3) := by decide +kernel
theorem dX11_run_56 : decode cX11_run 56 = .ok (.goto (-25), 3) := by decide +kernel
theorem dX11_run_59 : decode cX11_run 59 = .ok (.iload_n 3, 1) := by decide +kernel
theorem dX11_run_60 : decode cX11_run 60 = .ok (.ireturn, 1) := by decide +kernel
theorem dX11_schedule_0 : decode cX11_schedule 0 = .ok (.iload_n 1, 1) := by decide +kernel
theorem dX11_schedule_1 : decode cX11_schedule 1 = .ok (.i2l, 1) := by decide +kernel
theorem dX11_schedule_2 : decode cX11_schedule 2 = .ok (.lconst 0, 1) := by decide +kernel
theorem dX11_schedule_3 : decode cX11_schedule 3 = .ok (.lconst 1, 1) := by decide +kernel
theorem dX11_schedule_4 : decode cX11_schedule 4 = .ok (.invokestatic 64, 3) := by decide +kernel
theorem dX11_schedule_7 : decode cX11_schedule 7 = .ok (.ifCond .eq 11, 3) := by decide +kernel
theorem dX11_schedule_10 : decode cX11_schedule 10 = .ok (.aload_n 0, 1) := by decide +kernel
theorem dX11_schedule_11 : decode cX11_schedule 11 = .ok (.iload_n 1, 1) := by decide +kernel
theorem dX11_schedule_12 : decode cX11_schedule 12 = .ok (.invokevirtual 275, 3) := by decide +kernel
theorem dX11_schedule_15 : decode cX11_schedule 15 = .ok (.goto 4, 3) := by decide +kernel
theorem dX11_schedule_18 : decode cX11_schedule 18 = .ok (.iconst (-1), 1) := by decide +kernel
theorem dX11_schedule_19 : decode cX11_schedule 19 = .ok (.istore_n 3, 1) := by decide +kernel
theorem dX11_schedule_20 : decode cX11_schedule 20 = .ok (.iload_n 3, 1) := by decide +kernel
theorem dX11_schedule_21 : decode cX11_schedule 21 = .ok (.ifCond .lt 21, 3) := by decide +kernel
theorem dX11_schedule_24 : decode cX11_schedule 24 = .ok (.iload_n 2, 1) := by decide +kernel
theorem dX11_schedule_25 : decode cX11_schedule 25 = .ok (.i2l, 1) := by decide +kernel
theorem dX11_schedule_26 : decode cX11_schedule 26 = .ok (.lconst 0, 1) := by decide +kernel
theorem dX11_schedule_27 : decode cX11_schedule 27 = .ok (.aload_n 0, 1) := by decide +kernel
theorem dX11_schedule_28 : decode cX11_schedule 28 = .ok (.getfield 49, 3) := by decide +kernel
theorem dX11_schedule_31 : decode cX11_schedule 31 = .ok (.iload_n 3, 1) := by decide +kernel
theorem dX11_schedule_32 : decode cX11_schedule 32 = .ok (.iaload, 1) := by decide +kernel
theorem dX11_schedule_33 : decode cX11_schedule 33 = .ok (.iconst 1, 1) := by decide +kernel
theorem dX11_schedule_34 : decode cX11_schedule 34 = .ok (.isub, 1) := by decide +kernel
theorem dX11_schedule_35 : decode cX11_schedule 35 = .ok (.i2l, 1) := by decide +kernel
theorem dX11_schedule_36 : decode cX11_schedule 36 = .ok (.invokestatic 64, 3) := by decide +kernel
theorem dX11_schedule_39 : decode cX11_schedule 39 = .ok (.ifCond .ne 7, 3) := by decide +kernel
theorem dX11_schedule_42 : decode cX11_schedule 42 = .ok (.iconst (-1), 1) := by decide +kernel
theorem dX11_schedule_43 : decode cX11_schedule 43 = .ok (.goto 9, 3) := by decide +kernel
theorem dX11_schedule_46 : decode cX11_schedule 46 = .ok (.aload_n 0, 1) := by decide +kernel
theorem dX11_schedule_47 : decode cX11_schedule 47 = .ok (.iload_n 3, 1) := by decide +kernel
theorem dX11_schedule_48 : decode cX11_schedule 48 = .ok (.iload_n 2, 1) := by decide +kernel
theorem dX11_schedule_49 : decode cX11_schedule 49 = .ok (.invokevirtual 278, 3) := by decide +kernel
theorem dX11_schedule_52 : decode cX11_schedule 52 = .ok (.ireturn, 1) := by decide +kernel
theorem dX11_set_0 : decode cX11_set 0 = .ok (.iload_n 1, 1) := by decide +kernel
theorem dX11_set_1 : decode cX11_set 1 = .ok (.invokestatic 203, 3) := by decide +kernel
theorem dX11_set_4 : decode cX11_set 4 = .ok (.ifCond .ne 5, 3) := by decide +kernel
theorem dX11_set_7 : decode cX11_set 7 = .ok (.iconst (-1), 1) := by decide +kernel
theorem dX11_set_8 : decode cX11_set 8 = .ok (.ireturn, 1) := by decide +kernel
theorem dX11_set_9 : decode cX11_set 9 = .ok (.aload_n 0, 1) := by decide +kernel
theorem dX11_set_10 : decode cX11_set 10 = .ok (.getfield 58, 3) := by decide +kernel
theorem dX11_set_13 : decode cX11_set 13 = .ok (.iload_n 1, 1) := by decide +kernel
theorem dX11_set_14 : decode cX11_set 14 = .ok (.iaload, 1) := by decide +kernel
theorem dX11_set_15 : decode cX11_set 15 = .ok (.ifCond .ge 6, 3) := by decide +kernel
theorem dX11_set_18 : decode cX11_set 18 = .ok (.bipush (-11), 2) := by decide +kernel
theorem dX11_set_20 : decode cX11_set 20 = .ok (.ireturn, 1) := by decide +kernel
theorem dX11_set_21 : decode cX11_set 21 = .ok (.iload_n 2, 1) := by decide +kernel
theorem dX11_set_22 : decode cX11_set 22 = .ok (.i2l, 1) := by decide +kernel
theorem dX11_set_23 : decode cX11_set 23 = .ok (.lconst 0, 1) := by decide +kernel
theorem dX11_set_24 : decode cX11_set 24 = .ok (.aload_n 0, 1) := by decide +kernel
theorem dX11_set_25 : decode cX11_set 25 = .ok (.getfield 58, 3) := by decide +kernel
theorem dX11_set_28 : decode cX11_set 28 = .ok (.iload_n 1, 1) := by decide +kernel
theorem dX11_set_29 : decode cX11_set 29 = .ok (.iaload, 1) := by decide +kernel
theorem dX11_set_30 : decode cX11_set 30 = .ok (.iconst 1, 1) := by decide +kernel
theorem dX11_set_31 : decode cX11_set 31 = .ok (.isub, 1) := by decide +kernel
theorem dX11_set_32 : decode cX11_set 32 = .ok (.i2l, 1) := by decide +kernel
theorem dX11_set_33 : decode cX11_set 33 = .ok (.invokestatic 64, 3) := by decide +kernel
theorem dX11_set_36 : decode cX11_set 36 = .ok (.ifCond .ne 6, 3) := by decide +kernel
theorem dX11_set_39 : decode cX11_set 39 = .ok (.bipush (-13), 2) := by decide +kernel
theorem dX11_set_41 : decode cX11_set 41 = .ok (.ireturn, 1) := by decide +kernel
theorem dX11_set_42 : decode cX11_set 42 = .ok (.aload_n 0, 1) := by decide +kernel
theorem dX11_set_43 : decode cX11_set 43 = .ok (.getfield 61, 3) := by decide +kernel
theorem dX11_set_46 : decode cX11_set 46 = .ok (.bipush 40, 2) := by decide +kernel
theorem dX11_set_48 : decode cX11_set 48 = .ok (.iload_n 1, 1) := by decide +kernel
theorem dX11_set_49 : decode cX11_set 49 = .ok (.imul, 1) := by decide +kernel
theorem dX11_set_50 : decode cX11_set 50 = .ok (.iload_n 2, 1) := by decide +kernel
theorem dX11_set_51 : decode cX11_set 51 = .ok (.iadd, 1) := by decide +kernel
theorem dX11_set_52 : decode cX11_set 52 = .ok (.iload_n 3, 1) := by decide +kernel
theorem dX11_set_53 : decode cX11_set 53 = .ok (.iastore, 1) := by decide +kernel
theorem dX11_set_54 : decode cX11_set 54 = .ok (.iconst 1, 1) := by decide +kernel
theorem dX11_set_55 : decode cX11_set 55 = .ok (.ireturn, 1) := by decide +kernel
theorem dX11_stands_0 : decode cX11_stands 0 = .ok (.iload_n 1, 1) := by decide +kernel
theorem dX11_stands_1 : decode cX11_stands 1 = .ok (.invokestatic 72, 3) := by decide +kernel
theorem dX11_stands_4 : decode cX11_stands 4 = .ok (.ifCond .eq 43, 3) := by decide +kernel
theorem dX11_stands_7 : decode cX11_stands 7 = .ok (.iload_n 2, 1) := by decide +kernel
theorem dX11_stands_8 : decode cX11_stands 8 = .ok (.i2l, 1) := by decide +kernel
theorem dX11_stands_9 : decode cX11_stands 9 = .ok (.lconst 0, 1) := by decide +kernel
theorem dX11_stands_10 : decode cX11_stands 10 = .ok (.lconst 1, 1) := by decide +kernel
theorem dX11_stands_11 : decode cX11_stands 11 = .ok (.invokestatic 64, 3) := by decide +kernel
theorem dX11_stands_14 : decode cX11_stands 14 = .ok (.ifCond .eq 33, 3) := by decide +kernel
theorem dX11_stands_17 : decode cX11_stands 17 = .ok (.iload_n 3, 1) := by decide +kernel
theorem dX11_stands_18 : decode cX11_stands 18 = .ok (.i2l, 1) := by decide +kernel
theorem dX11_stands_19 : decode cX11_stands 19 = .ok (.lconst 0, 1) := by decide +kernel
theorem dX11_stands_20 : decode cX11_stands 20 = .ok (.aload_n 0, 1) := by decide +kernel
theorem dX11_stands_21 : decode cX11_stands 21 = .ok (.getfield 9, 3) := by decide +kernel
theorem dX11_stands_24 : decode cX11_stands 24 = .ok (.iload_n 2, 1) := by decide +kernel
theorem dX11_stands_25 : decode cX11_stands 25 = .ok (.ifCond .ne 8, 3) := by decide +kernel
theorem dX11_stands_28 : decode cX11_stands 28 = .ok (.bipush 18, 2) := by decide +kernel
theorem dX11_stands_30 : decode cX11_stands 30 = .ok (.goto 5, 3) := by decide +kernel
theorem dX11_stands_33 : decode cX11_stands 33 = .ok (.bipush 33, 2) := by decide +kernel
theorem dX11_stands_35 : decode cX11_stands 35 = .ok (.iload_n 1, 1) := by decide +kernel
theorem dX11_stands_36 : decode cX11_stands 36 = .ok (.iadd, 1) := by decide +kernel
theorem dX11_stands_37 : decode cX11_stands 37 = .ok (.iaload, 1) := by decide +kernel
theorem dX11_stands_38 : decode cX11_stands 38 = .ok (.iconst 1, 1) := by decide +kernel
theorem dX11_stands_39 : decode cX11_stands 39 = .ok (.isub, 1) := by decide +kernel
theorem dX11_stands_40 : decode cX11_stands 40 = .ok (.i2l, 1) := by decide +kernel
theorem dX11_stands_41 : decode cX11_stands 41 = .ok (.invokestatic 64, 3) := by decide +kernel
theorem dX11_stands_44 : decode cX11_stands 44 = .ok (.ifCond .ne 5, 3) := by decide +kernel
theorem dX11_stands_47 : decode cX11_stands 47 = .ok (.iconst (-1), 1) := by decide +kernel
theorem dX11_stands_48 : decode cX11_stands 48 = .ok (.ireturn, 1) := by decide +kernel
theorem dX11_stands_49 : decode cX11_stands 49 = .ok (.aload_n 0, 1) := by decide +kernel
theorem dX11_stands_50 : decode cX11_stands 50 = .ok (.getfield 9, 3) := by decide +kernel
theorem dX11_stands_53 : decode cX11_stands 53 = .ok (.iload_n 2, 1) := by decide +kernel
theorem dX11_stands_54 : decode cX11_stands 54 = .ok (.ifCond .ne 8, 3) := by decide +kernel
theorem dX11_stands_57 : decode cX11_stands 57 = .ok (.bipush 21, 2) := by decide +kernel
theorem dX11_stands_59 : decode cX11_stands 59 = .ok (.goto 5, 3) := by decide +kernel
theorem dX11_stands_62 : decode cX11_stands 62 = .ok (.bipush 36, 2) := by decide +kernel
theorem dX11_stands_64 : decode cX11_stands 64 = .ok (.iconst 4, 1) := by decide +kernel
theorem dX11_stands_65 : decode cX11_stands 65 = .ok (.iload_n 1, 1) := by decide +kernel
theorem dX11_stands_66 : decode cX11_stands 66 = .ok (.imul, 1) := by decide +kernel
theorem dX11_stands_67 : decode cX11_stands 67 = .ok (.iadd, 1) := by decide +kernel
theorem dX11_stands_68 : decode cX11_stands 68 = .ok (.iload_n 3, 1) := by decide +kernel
theorem dX11_stands_69 : decode cX11_stands 69 = .ok (.iadd, 1) := by decide +kernel
theorem dX11_stands_70 : decode cX11_stands 70 = .ok (.iaload, 1) := by decide +kernel
theorem dX11_stands_71 : decode cX11_stands 71 = .ok (.iconst 1, 1) := by decide +kernel
theorem dX11_stands_72 : decode cX11_stands 72 = .ok (.isub, 1) := by decide +kernel
theorem dX11_stands_73 : decode cX11_stands 73 = .ok (.ireturn, 1) := by decide +kernel
theorem dX11_standsAt_0 : decode cX11_standsAt 0 = .ok (.bipush (-5), 2) := by decide +kernel
theorem dX11_standsAt_2 : decode cX11_standsAt 2 = .ok (.istore_n 2, 1) := by decide +kernel
theorem dX11_standsAt_3 : decode cX11_standsAt 3 = .ok (.iconst 0, 1) := by decide +kernel
theorem dX11_standsAt_4 : decode cX11_standsAt 4 = .ok (.istore_n 3, 1) := by decide +kernel
theorem dX11_standsAt_5 : decode cX11_standsAt 5 = .ok (.iload_n 3, 1) := by decide +kernel
theorem dX11_standsAt_6 : decode cX11_standsAt 6 = .ok (.iconst 3, 1) := by decide +kernel
theorem dX11_standsAt_7 : decode cX11_standsAt 7 = .ok (.if_icmp .ge 82, 3) := by decide +kernel
theorem dX11_standsAt_10 : decode cX11_standsAt 10 = .ok (.iconst 0, 1) := by decide +kernel
theorem dX11_standsAt_11 : decode cX11_standsAt 11 = .ok (.istore 4, 2) := by decide +kernel
theorem dX11_standsAt_13 : decode cX11_standsAt 13 = .ok (.iload 4, 2) := by decide +kernel
theorem dX11_standsAt_15 : decode cX11_standsAt 15 = .ok (.iconst 4, 1) := by decide +kernel
theorem dX11_standsAt_16 : decode cX11_standsAt 16 = .ok (.if_icmp .ge 67, 3) := by decide +kernel
theorem dX11_standsAt_19 : decode cX11_standsAt 19 = .ok (.aload_n 0, 1) := by decide +kernel
theorem dX11_standsAt_20 : decode cX11_standsAt 20 = .ok (.getfield 9, 3) := by decide +kernel
theorem dX11_standsAt_23 : decode cX11_standsAt 23 = .ok (.bipush 21, 2) := by decide +kernel
theorem dX11_standsAt_25 : decode cX11_standsAt 25 = .ok (.iconst 4, 1) := by decide +kernel
theorem dX11_standsAt_26 : decode cX11_standsAt 26 = .ok (.iload_n 3, 1) := by decide +kernel
theorem dX11_standsAt_27 : decode cX11_standsAt 27 = .ok (.imul, 1) := by decide +kernel
theorem dX11_standsAt_28 : decode cX11_standsAt 28 = .ok (.iadd, 1) := by decide +kernel
theorem dX11_standsAt_29 : decode cX11_standsAt 29 = .ok (.iload 4, 2) := by decide +kernel
theorem dX11_standsAt_31 : decode cX11_standsAt 31 = .ok (.iadd, 1) := by decide +kernel
theorem dX11_standsAt_32 : decode cX11_standsAt 32 = .ok (.iaload, 1) := by decide +kernel
theorem dX11_standsAt_33 : decode cX11_standsAt 33 = .ok (.iload_n 1, 1) := by decide +kernel
theorem dX11_standsAt_34 : decode cX11_standsAt 34 = .ok (.iconst 1, 1) := by decide +kernel
theorem dX11_standsAt_35 : decode cX11_standsAt 35 = .ok (.iadd, 1) := by decide +kernel
theorem dX11_standsAt_36 : decode cX11_standsAt 36 = .ok (.if_icmp .eq 23, 3) := by decide +kernel
theorem dX11_standsAt_39 : decode cX11_standsAt 39 = .ok (.aload_n 0, 1) := by decide +kernel
theorem dX11_standsAt_40 : decode cX11_standsAt 40 = .ok (.getfield 9, 3) := by decide +kernel
theorem dX11_standsAt_43 : decode cX11_standsAt 43 = .ok (.bipush 36, 2) := by decide +kernel
theorem dX11_standsAt_45 : decode cX11_standsAt 45 = .ok (.iconst 4, 1) := by decide +kernel
theorem dX11_standsAt_46 : decode cX11_standsAt 46 = .ok (.iload_n 3, 1) := by decide +kernel
theorem dX11_standsAt_47 : decode cX11_standsAt 47 = .ok (.imul, 1) := by decide +kernel
theorem dX11_standsAt_48 : decode cX11_standsAt 48 = .ok (.iadd, 1) := by decide +kernel
theorem dX11_standsAt_49 : decode cX11_standsAt 49 = .ok (.iload 4, 2) := by decide +kernel
theorem dX11_standsAt_51 : decode cX11_standsAt 51 = .ok (.iadd, 1) := by decide +kernel
theorem dX11_standsAt_52 : decode cX11_standsAt 52 = .ok (.iaload, 1) := by decide +kernel
theorem dX11_standsAt_53 : decode cX11_standsAt 53 = .ok (.iload_n 1, 1) := by decide +kernel
theorem dX11_standsAt_54 : decode cX11_standsAt 54 = .ok (.iconst 1, 1) := by decide +kernel
theorem dX11_standsAt_55 : decode cX11_standsAt 55 = .ok (.iadd, 1) := by decide +kernel
theorem dX11_standsAt_56 : decode cX11_standsAt 56 = .ok (.if_icmp .ne 7, 3) := by decide +kernel
theorem dX11_standsAt_59 : decode cX11_standsAt 59 = .ok (.iconst 1, 1) := by decide +kernel
theorem dX11_standsAt_60 : decode cX11_standsAt 60 = .ok (.goto 4, 3) := by decide +kernel
theorem dX11_standsAt_63 : decode cX11_standsAt 63 = .ok (.iconst 0, 1) := by decide +kernel
theorem dX11_standsAt_64 : decode cX11_standsAt 64 = .ok (.istore 5, 2) := by decide +kernel
theorem dX11_standsAt_66 : decode cX11_standsAt 66 = .ok (.iload 5, 2) := by decide +kernel
theorem dX11_standsAt_68 : decode cX11_standsAt 68 = .ok (.ifCond .eq 7, 3) := by decide +kernel
theorem dX11_standsAt_71 : decode cX11_standsAt 71 = .ok (.iload_n 3, 1) := by decide +kernel
theorem dX11_standsAt_72 : decode cX11_standsAt 72 = .ok (.goto 4, 3) := by decide +kernel
theorem dX11_standsAt_75 : decode cX11_standsAt 75 = .ok (.iload_n 2, 1) := by decide +kernel
theorem dX11_standsAt_76 : decode cX11_standsAt 76 = .ok (.istore_n 2, 1) := by decide +kernel
theorem dX11_standsAt_77 : decode cX11_standsAt 77 = .ok (.iinc 4 1, 3) := by decide +kernel
theorem dX11_standsAt_80 : decode cX11_standsAt 80 = .ok (.goto (-67), 3) := by decide +kernel
theorem dX11_standsAt_83 : decode cX11_standsAt 83 = .ok (.iinc 3 1, 3) := by decide +kernel
theorem dX11_standsAt_86 : decode cX11_standsAt 86 = .ok (.goto (-81), 3) := by decide +kernel
theorem dX11_standsAt_89 : decode cX11_standsAt 89 = .ok (.iload_n 2, 1) := by decide +kernel
theorem dX11_standsAt_90 : decode cX11_standsAt 90 = .ok (.ireturn, 1) := by decide +kernel
theorem dX11_statement_0 : decode cX11_statement 0 = .ok (.aload_n 0, 1) := by decide +kernel
theorem dX11_statement_1 : decode cX11_statement 1 = .ok (.iload_n 1, 1) := by decide +kernel
theorem dX11_statement_2 : decode cX11_statement 2 = .ok (.invokevirtual 133, 3) := by decide +kernel
theorem dX11_statement_5 : decode cX11_statement 5 = .ok (.ifCond .eq 46, 3) := by decide +kernel
theorem dX11_statement_8 : decode cX11_statement 8 = .ok (.iload_n 2, 1) := by decide +kernel
theorem dX11_statement_9 : decode cX11_statement 9 = .ok (.i2l, 1) := by decide +kernel
theorem dX11_statement_10 : decode cX11_statement 10 = .ok (.lconst 0, 1) := by decide +kernel
theorem dX11_statement_11 : decode cX11_statement 11 = .ok (.aload_n 0, 1) := by decide +kernel
theorem dX11_statement_12 : decode cX11_statement 12 = .ok (.getfield 9, 3) := by decide +kernel
theorem dX11_statement_15 : decode cX11_statement 15 = .ok (.bipush 57, 2) := by decide +kernel
theorem dX11_statement_17 : decode cX11_statement 17 = .ok (.iload_n 1, 1) := by decide +kernel
theorem dX11_statement_18 : decode cX11_statement 18 = .ok (.iadd, 1) := by decide +kernel
theorem dX11_statement_19 : decode cX11_statement 19 = .ok (.iaload, 1) := by decide +kernel
theorem dX11_statement_20 : decode cX11_statement 20 = .ok (.iconst 1, 1) := by decide +kernel
theorem dX11_statement_21 : decode cX11_statement 21 = .ok (.isub, 1) := by decide +kernel
theorem dX11_statement_22 : decode cX11_statement 22 = .ok (.i2l, 1) := by decide +kernel
theorem dX11_statement_23 : decode cX11_statement 23 = .ok (.invokestatic 64, 3) := by decide +kernel
theorem dX11_statement_26 : decode cX11_statement 26 = .ok (.ifCond .eq 25, 3) := by decide +kernel
theorem dX11_statement_29 : decode cX11_statement 29 = .ok (.iload_n 3, 1) := by decide +kernel
theorem dX11_statement_30 : decode cX11_statement 30 = .ok (.i2l, 1) := by decide +kernel
theorem dX11_statement_31 : decode cX11_statement 31 = .ok (.lconst 0, 1) := by decide +kernel
theorem dX11_statement_32 : decode cX11_statement 32 = .ok (.ldc2_w 70, 3) := by decide +kernel
theorem dX11_statement_35 : decode cX11_statement 35 = .ok (.invokestatic 64, 3) := by decide +kernel
theorem dX11_statement_38 : decode cX11_statement 38 = .ok (.ifCond .eq 13, 3) := by decide +kernel
theorem dX11_statement_41 : decode cX11_statement 41 = .ok (.aload_n 0, 1) := by decide +kernel
theorem dX11_statement_42 : decode cX11_statement 42 = .ok (.iload_n 1, 1) := by decide +kernel
theorem dX11_statement_43 : decode cX11_statement 43 = .ok (.iload_n 2, 1) := by decide +kernel
theorem dX11_statement_44 : decode cX11_statement 44 = .ok (.iload_n 3, 1) := by decide +kernel
theorem dX11_statement_45 : decode cX11_statement 45 = .ok (.invokevirtual 150, 3) := by decide +kernel
theorem dX11_statement_48 : decode cX11_statement 48 = .ok (.goto 5, 3) := by decide +kernel
theorem dX11_statement_51 : decode cX11_statement 51 = .ok (.bipush (-100), 2) := by decide +kernel
theorem dX11_statement_53 : decode cX11_statement 53 = .ok (.ireturn, 1) := by decide +kernel
theorem dX11_statement1_0 : decode cX11_statement1 0 = .ok (.aload_n 0, 1) := by decide +kernel
theorem dX11_statement1_1 : decode cX11_statement1 1 = .ok (.invokevirtual 119, 3) := by decide +kernel
theorem dX11_statement1_4 : decode cX11_statement1 4 = .ok (.istore_n 2, 1) := by decide +kernel
theorem dX11_statement1_5 : decode cX11_statement1 5 = .ok (.aload_n 0, 1) := by decide +kernel
theorem dX11_statement1_6 : decode cX11_statement1 6 = .ok (.getfield 92, 3) := by decide +kernel
theorem dX11_statement1_9 : decode cX11_statement1 9 = .ok (.ifCond .lt 7, 3) := by decide +kernel
theorem dX11_statement1_12 : decode cX11_statement1 12 = .ok (.iconst 0, 1) := by decide +kernel
theorem dX11_statement1_13 : decode cX11_statement1 13 = .ok (.goto 42, 3) := by decide +kernel
theorem dX11_statement1_16 : decode cX11_statement1 16 = .ok (.iload_n 2, 1) := by decide +kernel
theorem dX11_statement1_17 : decode cX11_statement1 17 = .ok (.iconst 5, 1) := by decide +kernel
theorem dX11_statement1_18 : decode cX11_statement1 18 = .ok (.if_icmp .ge 13, 3) := by decide +kernel
theorem dX11_statement1_21 : decode cX11_statement1 21 = .ok (.aload_n 0, 1) := by decide +kernel
theorem dX11_statement1_22 : decode cX11_statement1 22 = .ok (.iconst 1, 1) := by decide +kernel
theorem dX11_statement1_23 : decode cX11_statement1 23 = .ok (.iconst 2, 1) := by decide +kernel
theorem dX11_statement1_24 : decode cX11_statement1 24 = .ok (.iconst 0, 1) := by decide +kernel
theorem dX11_statement1_25 : decode cX11_statement1 25 = .ok (.invokevirtual 122, 3) := by decide +kernel
theorem dX11_statement1_28 : decode cX11_statement1 28 = .ok (.goto 27, 3) := by decide +kernel
theorem dX11_statement1_31 : decode cX11_statement1 31 = .ok (.iload_n 2, 1) := by decide +kernel
theorem dX11_statement1_32 : decode cX11_statement1 32 = .ok (.bipush 8, 2) := by decide +kernel
theorem dX11_statement1_34 : decode cX11_statement1 34 = .ok (.if_icmp .ge 13, 3) := by decide +kernel
theorem dX11_statement1_37 : decode cX11_statement1 37 = .ok (.aload_n 0, 1) := by decide +kernel
theorem dX11_statement1_38 : decode cX11_statement1 38 = .ok (.iconst 1, 1) := by decide +kernel
theorem dX11_statement1_39 : decode cX11_statement1 39 = .ok (.iconst 3, 1) := by decide +kernel
theorem dX11_statement1_40 : decode cX11_statement1 40 = .ok (.iconst 0, 1) := by decide +kernel
theorem dX11_statement1_41 : decode cX11_statement1 41 = .ok (.invokevirtual 122, 3) := by decide +kernel
theorem dX11_statement1_44 : decode cX11_statement1 44 = .ok (.goto 11, 3) := by decide +kernel
theorem dX11_statement1_47 : decode cX11_statement1 47 = .ok (.aload_n 0, 1) := by decide +kernel
theorem dX11_statement1_48 : decode cX11_statement1 48 = .ok (.iconst 2, 1) := by decide +kernel
theorem dX11_statement1_49 : decode cX11_statement1 49 = .ok (.bipush 12, 2) := by decide +kernel
theorem dX11_statement1_51 : decode cX11_statement1 51 = .ok (.iconst 0, 1) := by decide +kernel
theorem dX11_statement1_52 : decode cX11_statement1 52 = .ok (.invokevirtual 122, 3) := by decide +kernel
theorem dX11_statement1_55 : decode cX11_statement1 55 = .ok (.istore_n 3, 1) := by decide +kernel
theorem dX11_statement1_56 : decode cX11_statement1 56 = .ok (.aload_n 0, 1) := by decide +kernel
theorem dX11_statement1_57 : decode cX11_statement1 57 = .ok (.getfield 92, 3) := by decide +kernel
theorem dX11_statement1_60 : decode cX11_statement1 60 = .ok (.ifCond .ge 28, 3) := by decide +kernel
theorem dX11_statement1_63 : decode cX11_statement1 63 = .ok (.iload_n 2, 1) := by decide +kernel
theorem dX11_statement1_64 : decode cX11_statement1 64 = .ok (.i2l, 1) := by decide +kernel
theorem dX11_statement1_65 : decode cX11_statement1 65 = .ok (.ldc2_w 126, 3) := by decide +kernel
theorem dX11_statement1_68 : decode cX11_statement1 68 = .ok (.ldc2_w 128, 3) := by decide +kernel
theorem dX11_statement1_71 : decode cX11_statement1 71 = .ok (.invokestatic 64, 3) := by decide +kernel
theorem dX11_statement1_74 : decode cX11_statement1 74 = .ok (.ifCond .eq 14, 3) := by decide +kernel
theorem dX11_statement1_77 : decode cX11_statement1 77 = .ok (.aload_n 0, 1) := by decide +kernel
theorem dX11_statement1_78 : decode cX11_statement1 78 = .ok (.iconst 2, 1) := by decide +kernel
theorem dX11_statement1_79 : decode cX11_statement1 79 = .ok (.bipush 99, 2) := by decide +kernel
theorem dX11_statement1_81 : decode cX11_statement1 81 = .ok (.iconst 1, 1) := by decide +kernel
theorem dX11_statement1_82 : decode cX11_statement1 82 = .ok (.invokevirtual 122, 3) := by decide +kernel
theorem dX11_statement1_85 : decode cX11_statement1 85 = .ok (.goto 4, 3) := by decide +kernel
theorem dX11_statement1_88 : decode cX11_statement1 88 = .ok (.iconst 0, 1) := by decide +kernel
theorem dX11_statement1_89 : decode cX11_statement1 89 = .ok (.istore 4, 2) := by decide +kernel
theorem dX11_statement1_91 : decode cX11_statement1 91 = .ok (.aload_n 0, 1) := by decide +kernel
theorem dX11_statement1_92 : decode cX11_statement1 92 = .ok (.getfield 92, 3) := by decide +kernel
theorem dX11_statement1_95 : decode cX11_statement1 95 = .ok (.ifCond .ge 20, 3) := by decide +kernel
theorem dX11_statement1_98 : decode cX11_statement1 98 = .ok (.iload_n 2, 1) := by decide +kernel
theorem dX11_statement1_99 : decode cX11_statement1 99 = .ok (.bipush 7, 2) := by decide +kernel
theorem dX11_statement1_101 : decode cX11_statement1 101 = .ok (.if_icmp .ne 14, 3) := by decide +kernel
theorem dX11_statement1_104 : decode cX11_statement1 104 = .ok (.aload_n 0, 1) := by decide +kernel
theorem dX11_statement1_105 : decode cX11_statement1 105 = .ok (.iconst 2, 1) := by decide +kernel
theorem dX11_statement1_106 : decode cX11_statement1 106 = .ok (.bipush 12, 2) := by decide +kernel
theorem dX11_statement1_108 : decode cX11_statement1 108 = .ok (.iconst 0, 1) := by decide +kernel
theorem dX11_statement1_109 : decode cX11_statement1 109 = .ok (.invokevirtual 122, 3) := by decide +kernel
theorem dX11_statement1_112 : decode cX11_statement1 112 = .ok (.goto 4, 3) := by decide +kernel
theorem dX11_statement1_115 : decode cX11_statement1 115 = .ok (.iconst 0, 1) := by decide +kernel
theorem dX11_statement1_116 : decode cX11_statement1 116 = .ok (.istore 5, 2) := by decide +kernel
theorem dX11_statement1_118 : decode cX11_statement1 118 = .ok (.aload_n 0, 1) := by decide +kernel
theorem dX11_statement1_119 : decode cX11_statement1 119 = .ok (.getfield 28, 3) := by decide +kernel
theorem dX11_statement1_122 : decode cX11_statement1 122 = .ok (.iconst 4, 1) := by decide +kernel
theorem dX11_statement1_123 : decode cX11_statement1 123 = .ok (.iload_n 1, 1) := by decide +kernel
theorem dX11_statement1_124 : decode cX11_statement1 124 = .ok (.imul, 1) := by decide +kernel
theorem dX11_statement1_125 : decode cX11_statement1 125 = .ok (.iload_n 2, 1) := by decide +kernel
theorem dX11_statement1_126 : decode cX11_statement1 126 = .ok (.iastore, 1) := by decide +kernel
theorem dX11_statement1_127 : decode cX11_statement1 127 = .ok (.aload_n 0, 1) := by decide +kernel
theorem dX11_statement1_128 : decode cX11_statement1 128 = .ok (.getfield 28, 3) := by decide +kernel
theorem dX11_statement1_131 : decode cX11_statement1 131 = .ok (.iconst 4, 1) := by decide +kernel
theorem dX11_statement1_132 : decode cX11_statement1 132 = .ok (.iload_n 1, 1) := by decide +kernel
theorem dX11_statement1_133 : decode cX11_statement1 133 = .ok (.imul, 1) := by decide +kernel
theorem dX11_statement1_134 : decode cX11_statement1 134 = .ok (.iconst 1, 1) := by decide +kernel
theorem dX11_statement1_135 : decode cX11_statement1 135 = .ok (.iadd, 1) := by decide +kernel
theorem dX11_statement1_136 : decode cX11_statement1 136 = .ok (.iload_n 3, 1) := by decide +kernel
theorem dX11_statement1_137 : decode cX11_statement1 137 = .ok (.iastore, 1) := by decide +kernel
theorem dX11_statement1_138 : decode cX11_statement1 138 = .ok (.aload_n 0, 1) := by decide +kernel
theorem dX11_statement1_139 : decode cX11_statement1 139 = .ok (.getfield 28, 3) := by decide +kernel
theorem dX11_statement1_142 : decode cX11_statement1 142 = .ok (.iconst 4, 1) := by decide +kernel
theorem dX11_statement1_143 : decode cX11_statement1 143 = .ok (.iload_n 1, 1) := by decide +kernel
theorem dX11_statement1_144 : decode cX11_statement1 144 = .ok (.imul, 1) := by decide +kernel
theorem dX11_statement1_145 : decode cX11_statement1 145 = .ok (.iconst 2, 1) := by decide +kernel
theorem dX11_statement1_146 : decode cX11_statement1 146 = .ok (.iadd, 1) := by decide +kernel
theorem dX11_statement1_147 : decode cX11_statement1 147 = .ok (.iload 4, 2) := by decide +kernel
theorem dX11_statement1_149 : decode cX11_statement1 149 = .ok (.iastore, 1) := by decide +kernel
theorem dX11_statement1_150 : decode cX11_statement1 150 = .ok (.aload_n 0, 1) := by decide +kernel
theorem dX11_statement1_151 : decode cX11_statement1 151 = .ok (.getfield 28, 3) := by decide +kernel
theorem dX11_statement1_154 : decode cX11_statement1 154 = .ok (.iconst 4, 1) := by decide +kernel
theorem dX11_statement1_155 : decode cX11_statement1 155 = .ok (.iload_n 1, 1) := by decide +kernel
theorem dX11_statement1_156 : decode cX11_statement1 156 = .ok (.imul, 1) := by decide +kernel
theorem dX11_statement1_157 : decode cX11_statement1 157 = .ok (.iconst 3, 1) := by decide +kernel
theorem dX11_statement1_158 : decode cX11_statement1 158 = .ok (.iadd, 1) := by decide +kernel
theorem dX11_statement1_159 : decode cX11_statement1 159 = .ok (.iload 5, 2) := by decide +kernel
theorem dX11_statement1_161 : decode cX11_statement1 161 = .ok (.iastore, 1) := by decide +kernel
theorem dX11_statement1_162 : decode cX11_statement1 162 = .ok (.return_, 1) := by decide +kernel
theorem dX11_step_0 : decode cX11_step 0 = .ok (.aload_n 0, 1) := by decide +kernel
theorem dX11_step_1 : decode cX11_step 1 = .ok (.iload_n 1, 1) := by decide +kernel
theorem dX11_step_2 : decode cX11_step 2 = .ok (.invokevirtual 133, 3) := by decide +kernel
theorem dX11_step_5 : decode cX11_step 5 = .ok (.ifCond .ne 5, 3) := by decide +kernel
theorem dX11_step_8 : decode cX11_step 8 = .ok (.iconst (-1), 1) := by decide +kernel
theorem dX11_step_9 : decode cX11_step 9 = .ok (.ireturn, 1) := by decide +kernel
theorem dX11_step_10 : decode cX11_step 10 = .ok (.aload_n 0, 1) := by decide +kernel
theorem dX11_step_11 : decode cX11_step 11 = .ok (.iload_n 1, 1) := by decide +kernel
theorem dX11_step_12 : decode cX11_step 12 = .ok (.invokevirtual 191, 3) := by decide +kernel
theorem dX11_step_15 : decode cX11_step 15 = .ok (.ifCond .ne 6, 3) := by decide +kernel
theorem dX11_step_18 : decode cX11_step 18 = .ok (.bipush (-3), 2) := by decide +kernel
theorem dX11_step_20 : decode cX11_step 20 = .ok (.ireturn, 1) := by decide +kernel
theorem dX11_step_21 : decode cX11_step 21 = .ok (.aload_n 0, 1) := by decide +kernel
theorem dX11_step_22 : decode cX11_step 22 = .ok (.iload_n 1, 1) := by decide +kernel
theorem dX11_step_23 : decode cX11_step 23 = .ok (.invokevirtual 194, 3) := by decide +kernel
theorem dX11_step_26 : decode cX11_step 26 = .ok (.aload_n 0, 1) := by decide +kernel
theorem dX11_step_27 : decode cX11_step 27 = .ok (.getfield 9, 3) := by decide +kernel
theorem dX11_step_30 : decode cX11_step 30 = .ok (.iconst 4, 1) := by decide +kernel
theorem dX11_step_31 : decode cX11_step 31 = .ok (.iload_n 1, 1) := by decide +kernel
theorem dX11_step_32 : decode cX11_step 32 = .ok (.iadd, 1) := by decide +kernel
theorem dX11_step_33 : decode cX11_step 33 = .ok (.iaload, 1) := by decide +kernel
theorem dX11_step_34 : decode cX11_step 34 = .ok (.ireturn, 1) := by decide +kernel
theorem dX11_steps_0 : decode cX11_steps 0 = .ok (.aload_n 0, 1) := by decide +kernel
theorem dX11_steps_1 : decode cX11_steps 1 = .ok (.iconst 0, 1) := by decide +kernel
theorem dX11_steps_2 : decode cX11_steps 2 = .ok (.putfield 166, 3) := by decide +kernel
theorem dX11_steps_5 : decode cX11_steps 5 = .ok (.aload_n 0, 1) := by decide +kernel
theorem dX11_steps_6 : decode cX11_steps 6 = .ok (.getfield 16, 3) := by decide +kernel
theorem dX11_steps_9 : decode cX11_steps 9 = .ok (.iload_n 1, 1) := by decide +kernel
theorem dX11_steps_10 : decode cX11_steps 10 = .ok (.iaload, 1) := by decide +kernel
theorem dX11_steps_11 : decode cX11_steps 11 = .ok (.istore_n 2, 1) := by decide +kernel
theorem dX11_steps_12 : decode cX11_steps 12 = .ok (.aload_n 0, 1) := by decide +kernel
theorem dX11_steps_13 : decode cX11_steps 13 = .ok (.getfield 9, 3) := by decide +kernel
theorem dX11_steps_16 : decode cX11_steps 16 = .ok (.bipush 57, 2) := by decide +kernel
theorem dX11_steps_18 : decode cX11_steps 18 = .ok (.iload_n 1, 1) := by decide +kernel
theorem dX11_steps_19 : decode cX11_steps 19 = .ok (.iadd, 1) := by decide +kernel
theorem dX11_steps_20 : decode cX11_steps 20 = .ok (.iaload, 1) := by decide +kernel
theorem dX11_steps_21 : decode cX11_steps 21 = .ok (.istore_n 3, 1) := by decide +kernel
theorem dX11_steps_22 : decode cX11_steps 22 = .ok (.iload_n 2, 1) := by decide +kernel
theorem dX11_steps_23 : decode cX11_steps 23 = .ok (.iload_n 3, 1) := by decide +kernel
theorem dX11_steps_24 : decode cX11_steps 24 = .ok (.if_icmp .ne 10, 3) := by decide +kernel
theorem dX11_steps_27 : decode cX11_steps 27 = .ok (.aload_n 0, 1) := by decide +kernel
theorem dX11_steps_28 : decode cX11_steps 28 = .ok (.iload_n 1, 1) := by decide +kernel
theorem dX11_steps_29 : decode cX11_steps 29 = .ok (.iconst 3, 1) := by decide +kernel
theorem dX11_steps_30 : decode cX11_steps 30 = .ok (.invokevirtual 181, 3) := by decide +kernel
theorem dX11_steps_33 : decode cX11_steps 33 = .ok (.return_, 1) := by decide +kernel
theorem dX11_steps_34 : decode cX11_steps 34 = .ok (.aload_n 0, 1) := by decide +kernel
theorem dX11_steps_35 : decode cX11_steps 35 = .ok (.iload_n 1, 1) := by decide +kernel
theorem dX11_steps_36 : decode cX11_steps 36 = .ok (.iload_n 2, 1) := by decide +kernel
theorem dX11_steps_37 : decode cX11_steps 37 = .ok (.iconst 0, 1) := by decide +kernel
theorem dX11_steps_38 : decode cX11_steps 38 = .ok (.invokevirtual 150, 3) := by decide +kernel
theorem dX11_steps_41 : decode cX11_steps 41 = .ok (.istore 4, 2) := by decide +kernel
theorem dX11_steps_43 : decode cX11_steps 43 = .ok (.aload_n 0, 1) := by decide +kernel
theorem dX11_steps_44 : decode cX11_steps 44 = .ok (.iload_n 1, 1) := by decide +kernel
theorem dX11_steps_45 : decode cX11_steps 45 = .ok (.iload_n 2, 1) := by decide +kernel
theorem dX11_steps_46 : decode cX11_steps 46 = .ok (.iconst 1, 1) := by decide +kernel
theorem dX11_steps_47 : decode cX11_steps 47 = .ok (.invokevirtual 150, 3) := by decide +kernel
theorem dX11_steps_50 : decode cX11_steps 50 = .ok (.istore 5, 2) := by decide +kernel
theorem dX11_steps_52 : decode cX11_steps 52 = .ok (.aload_n 0, 1) := by decide +kernel
theorem dX11_steps_53 : decode cX11_steps 53 = .ok (.iload_n 1, 1) := by decide +kernel
theorem dX11_steps_54 : decode cX11_steps 54 = .ok (.iload_n 2, 1) := by decide +kernel
theorem dX11_steps_55 : decode cX11_steps 55 = .ok (.iconst 2, 1) := by decide +kernel
theorem dX11_steps_56 : decode cX11_steps 56 = .ok (.invokevirtual 150, 3) := by decide +kernel
theorem dX11_steps_59 : decode cX11_steps 59 = .ok (.istore 6, 2) := by decide +kernel
theorem dX11_steps_61 : decode cX11_steps 61 = .ok (.aload_n 0, 1) := by decide +kernel
theorem dX11_steps_62 : decode cX11_steps 62 = .ok (.getfield 16, 3) := by decide +kernel
theorem dX11_steps_65 : decode cX11_steps 65 = .ok (.iload_n 1, 1) := by decide +kernel
theorem dX11_steps_66 : decode cX11_steps 66 = .ok (.iload_n 2, 1) := by decide +kernel
theorem dX11_steps_67 : decode cX11_steps 67 = .ok (.iconst 1, 1) := by decide +kernel
theorem dX11_steps_68 : decode cX11_steps 68 = .ok (.iadd, 1) := by decide +kernel
theorem dX11_steps_69 : decode cX11_steps 69 = .ok (.iastore, 1) := by decide +kernel
theorem dX11_steps_70 : decode cX11_steps 70 = .ok (.iload_n 2, 1) := by decide +kernel
theorem dX11_steps_71 : decode cX11_steps 71 = .ok (.iconst 1, 1) := by decide +kernel
theorem dX11_steps_72 : decode cX11_steps 72 = .ok (.iadd, 1) := by decide +kernel
theorem dX11_steps_73 : decode cX11_steps 73 = .ok (.istore 7, 2) := by decide +kernel
theorem dX11_steps_75 : decode cX11_steps 75 = .ok (.iload 4, 2) := by decide +kernel
theorem dX11_steps_77 : decode cX11_steps 77 = .ok (.iconst 5, 1) := by decide +kernel
theorem dX11_steps_78 : decode cX11_steps 78 = .ok (.if_icmp .ge 15, 3) := by decide +kernel
theorem dX11_steps_81 : decode cX11_steps 81 = .ok (.aload_n 0, 1) := by decide +kernel
theorem dX11_steps_82 : decode cX11_steps 82 = .ok (.iload_n 1, 1) := by decide +kernel
theorem dX11_steps_83 : decode cX11_steps 83 = .ok (.iload 4, 2) := by decide +kernel
theorem dX11_steps_85 : decode cX11_steps 85 = .ok (.iload 5, 2) := by decide +kernel
theorem dX11_steps_87 : decode cX11_steps 87 = .ok (.invokevirtual 184, 3) := by decide +kernel
theorem dX11_steps_90 : decode cX11_steps 90 = .ok (.goto 138, 3) := by decide +kernel
theorem dX11_steps_93 : decode cX11_steps 93 = .ok (.iload 4, 2) := by decide +kernel
theorem dX11_steps_95 : decode cX11_steps 95 = .ok (.iconst 5, 1) := by decide +kernel
theorem dX11_steps_96 : decode cX11_steps 96 = .ok (.if_icmp .ne 67, 3) := by decide +kernel
theorem dX11_steps_99 : decode cX11_steps 99 = .ok (.aload_n 0, 1) := by decide +kernel
theorem dX11_steps_100 : decode cX11_steps 100 = .ok (.aload_n 0, 1) := by decide +kernel
theorem dX11_steps_101 : decode cX11_steps 101 = .ok (.getfield 16, 3) := by decide +kernel
theorem dX11_steps_104 : decode cX11_steps 104 = .ok (.bipush 48, 2) := by decide +kernel
theorem dX11_steps_106 : decode cX11_steps 106 = .ok (.iload 5, 2) := by decide +kernel
theorem dX11_steps_108 : decode cX11_steps 108 = .ok (.iadd, 1) := by decide +kernel
theorem dX11_steps_109 : decode cX11_steps 109 = .ok (.iaload, 1) := by decide +kernel
theorem dX11_steps_110 : decode cX11_steps 110 = .ok (.iload 6, 2) := by decide +kernel
theorem dX11_steps_112 : decode cX11_steps 112 = .ok (.iadd, 1) := by decide +kernel
theorem dX11_steps_113 : decode cX11_steps 113 = .ok (.i2l, 1) := by decide +kernel
theorem dX11_steps_114 : decode cX11_steps 114 = .ok (.ldc2_w 79, 3) := by decide +kernel
theorem dX11_steps_117 : decode cX11_steps 117 = .ok (.ldc2_w 81, 3) := by decide +kernel
theorem dX11_steps_120 : decode cX11_steps 120 = .ok (.invokestatic 64, 3) := by decide +kernel
theorem dX11_steps_123 : decode cX11_steps 123 = .ok (.ifCond .eq 7, 3) := by decide +kernel
theorem dX11_steps_126 : decode cX11_steps 126 = .ok (.iconst 0, 1) := by decide +kernel
theorem dX11_steps_127 : decode cX11_steps 127 = .ok (.goto 4, 3) := by decide +kernel
theorem dX11_steps_130 : decode cX11_steps 130 = .ok (.iconst 4, 1) := by decide +kernel
theorem dX11_steps_131 : decode cX11_steps 131 = .ok (.putfield 166, 3) := by decide +kernel
theorem dX11_steps_134 : decode cX11_steps 134 = .ok (.aload_n 0, 1) := by decide +kernel
theorem dX11_steps_135 : decode cX11_steps 135 = .ok (.getfield 16, 3) := by decide +kernel
theorem dX11_steps_138 : decode cX11_steps 138 = .ok (.bipush 48, 2) := by decide +kernel
theorem dX11_steps_140 : decode cX11_steps 140 = .ok (.iload 5, 2) := by decide +kernel
theorem dX11_steps_142 : decode cX11_steps 142 = .ok (.iadd, 1) := by decide +kernel
theorem dX11_steps_143 : decode cX11_steps 143 = .ok (.dup2, 1) := by decide +kernel
theorem dX11_steps_144 : decode cX11_steps 144 = .ok (.iaload, 1) := by decide +kernel
theorem dX11_steps_145 : decode cX11_steps 145 = .ok (.aload_n 0, 1) := by decide +kernel
theorem dX11_steps_146 : decode cX11_steps 146 = .ok (.getfield 166, 3) := by decide +kernel
theorem dX11_steps_149 : decode cX11_steps 149 = .ok (.ifCond .ne 8, 3) := by decide +kernel
theorem dX11_steps_152 : decode cX11_steps 152 = .ok (.iload 6, 2) := by decide +kernel
theorem dX11_steps_154 : decode cX11_steps 154 = .ok (.goto 4, 3) := by decide +kernel
theorem dX11_steps_157 : decode cX11_steps 157 = .ok (.iconst 0, 1) := by decide +kernel
theorem dX11_steps_158 : decode cX11_steps 158 = .ok (.iadd, 1) := by decide +kernel
theorem dX11_steps_159 : decode cX11_steps 159 = .ok (.iastore, 1) := by decide +kernel
theorem dX11_steps_160 : decode cX11_steps 160 = .ok (.goto 68, 3) := by decide +kernel
theorem dX11_steps_163 : decode cX11_steps 163 = .ok (.iload 4, 2) := by decide +kernel
theorem dX11_steps_165 : decode cX11_steps 165 = .ok (.bipush 6, 2) := by decide +kernel
theorem dX11_steps_167 : decode cX11_steps 167 = .ok (.if_icmp .ne 18, 3) := by decide +kernel
theorem dX11_steps_170 : decode cX11_steps 170 = .ok (.aload_n 0, 1) := by decide +kernel
theorem dX11_steps_171 : decode cX11_steps 171 = .ok (.getfield 16, 3) := by decide +kernel
theorem dX11_steps_174 : decode cX11_steps 174 = .ok (.bipush 48, 2) := by decide +kernel
theorem dX11_steps_176 : decode cX11_steps 176 = .ok (.iload 5, 2) := by decide +kernel
theorem dX11_steps_178 : decode cX11_steps 178 = .ok (.iadd, 1) := by decide +kernel
theorem dX11_steps_179 : decode cX11_steps 179 = .ok (.iload 6, 2) := by decide +kernel
theorem dX11_steps_181 : decode cX11_steps 181 = .ok (.iastore, 1) := by decide +kernel
theorem dX11_steps_182 : decode cX11_steps 182 = .ok (.goto 46, 3) := by decide +kernel
theorem dX11_steps_185 : decode cX11_steps 185 = .ok (.iload 4, 2) := by decide +kernel
theorem dX11_steps_187 : decode cX11_steps 187 = .ok (.bipush 7, 2) := by decide +kernel
theorem dX11_steps_189 : decode cX11_steps 189 = .ok (.if_icmp .ne 35, 3) := by decide +kernel
theorem dX11_steps_192 : decode cX11_steps 192 = .ok (.aload_n 0, 1) := by decide +kernel
theorem dX11_steps_193 : decode cX11_steps 193 = .ok (.getfield 16, 3) := by decide +kernel
theorem dX11_steps_196 : decode cX11_steps 196 = .ok (.bipush 48, 2) := by decide +kernel
theorem dX11_steps_198 : decode cX11_steps 198 = .ok (.iload 5, 2) := by decide +kernel
theorem dX11_steps_200 : decode cX11_steps 200 = .ok (.iadd, 1) := by decide +kernel
theorem dX11_steps_201 : decode cX11_steps 201 = .ok (.iaload, 1) := by decide +kernel
theorem dX11_steps_202 : decode cX11_steps 202 = .ok (.iload 6, 2) := by decide +kernel
theorem dX11_steps_204 : decode cX11_steps 204 = .ok (.if_icmp .ne 8, 3) := by decide +kernel
theorem dX11_steps_207 : decode cX11_steps 207 = .ok (.iload 7, 2) := by decide +kernel
theorem dX11_steps_209 : decode cX11_steps 209 = .ok (.goto 10, 3) := by decide +kernel
theorem dX11_steps_212 : decode cX11_steps 212 = .ok (.aload_n 0, 1) := by decide +kernel
theorem dX11_steps_213 : decode cX11_steps 213 = .ok (.iload_n 1, 1) := by decide +kernel
theorem dX11_steps_214 : decode cX11_steps 214 = .ok (.iload_n 2, 1) := by decide +kernel
theorem dX11_steps_215 : decode cX11_steps 215 = .ok (.iconst 3, 1) := by decide +kernel
theorem dX11_steps_216 : decode cX11_steps 216 = .ok (.invokevirtual 150, 3) := by decide +kernel
theorem dX11_steps_219 : decode cX11_steps 219 = .ok (.istore 7, 2) := by decide +kernel
theorem dX11_steps_221 : decode cX11_steps 221 = .ok (.goto 7, 3) := by decide +kernel
theorem dX11_steps_224 : decode cX11_steps 224 = .ok (.iload 5, 2) := by decide +kernel
theorem dX11_steps_226 : decode cX11_steps 226 = .ok (.istore 7, 2) := by decide +kernel
theorem dX11_steps_228 : decode cX11_steps 228 = .ok (.aload_n 0, 1) := by decide +kernel
theorem dX11_steps_229 : decode cX11_steps 229 = .ok (.getfield 16, 3) := by decide +kernel
theorem dX11_steps_232 : decode cX11_steps 232 = .ok (.iload_n 1, 1) := by decide +kernel
theorem dX11_steps_233 : decode cX11_steps 233 = .ok (.iload 7, 2) := by decide +kernel
theorem dX11_steps_235 : decode cX11_steps 235 = .ok (.iload_n 3, 1) := by decide +kernel
theorem dX11_steps_236 : decode cX11_steps 236 = .ok (.if_icmp .le 7, 3) := by decide +kernel
theorem dX11_steps_239 : decode cX11_steps 239 = .ok (.iload_n 3, 1) := by decide +kernel
theorem dX11_steps_240 : decode cX11_steps 240 = .ok (.goto 5, 3) := by decide +kernel
theorem dX11_steps_243 : decode cX11_steps 243 = .ok (.iload 7, 2) := by decide +kernel
theorem dX11_steps_245 : decode cX11_steps 245 = .ok (.iastore, 1) := by decide +kernel
theorem dX11_steps_246 : decode cX11_steps 246 = .ok (.aload_n 0, 1) := by decide +kernel
theorem dX11_steps_247 : decode cX11_steps 247 = .ok (.getfield 166, 3) := by decide +kernel
theorem dX11_steps_250 : decode cX11_steps 250 = .ok (.ifCond .le 16, 3) := by decide +kernel
theorem dX11_steps_253 : decode cX11_steps 253 = .ok (.aload_n 0, 1) := by decide +kernel
theorem dX11_steps_254 : decode cX11_steps 254 = .ok (.getfield 16, 3) := by decide +kernel
theorem dX11_steps_257 : decode cX11_steps 257 = .ok (.iload_n 1, 1) := by decide +kernel
theorem dX11_steps_258 : decode cX11_steps 258 = .ok (.iload_n 2, 1) := by decide +kernel
theorem dX11_steps_259 : decode cX11_steps 259 = .ok (.iastore, 1) := by decide +kernel
theorem dX11_steps_260 : decode cX11_steps 260 = .ok (.aload_n 0, 1) := by decide +kernel
theorem dX11_steps_261 : decode cX11_steps 261 = .ok (.iload_n 1, 1) := by decide +kernel
theorem dX11_steps_262 : decode cX11_steps 262 = .ok (.iconst 4, 1) := by decide +kernel
theorem dX11_steps_263 : decode cX11_steps 263 = .ok (.invokevirtual 181, 3) := by decide +kernel
theorem dX11_steps_266 : decode cX11_steps 266 = .ok (.return_, 1) := by decide +kernel
theorem dX11_stepsTruly_0 : decode cX11_stepsTruly 0 = .ok (.aload_n 0, 1) := by decide +kernel
theorem dX11_stepsTruly_1 : decode cX11_stepsTruly 1 = .ok (.getfield 9, 3) := by decide +kernel
theorem dX11_stepsTruly_4 : decode cX11_stepsTruly 4 = .ok (.iload_n 1, 1) := by decide +kernel
theorem dX11_stepsTruly_5 : decode cX11_stepsTruly 5 = .ok (.iaload, 1) := by decide +kernel
theorem dX11_stepsTruly_6 : decode cX11_stepsTruly 6 = .ok (.istore_n 2, 1) := by decide +kernel
theorem dX11_stepsTruly_7 : decode cX11_stepsTruly 7 = .ok (.aload_n 0, 1) := by decide +kernel
theorem dX11_stepsTruly_8 : decode cX11_stepsTruly 8 = .ok (.getfield 9, 3) := by decide +kernel
theorem dX11_stepsTruly_11 : decode cX11_stepsTruly 11 = .ok (.iconst 0, 1) := by decide +kernel
theorem dX11_stepsTruly_12 : decode cX11_stepsTruly 12 = .ok (.aload_n 0, 1) := by decide +kernel
theorem dX11_stepsTruly_13 : decode cX11_stepsTruly 13 = .ok (.getfield 16, 3) := by decide +kernel
theorem dX11_stepsTruly_16 : decode cX11_stepsTruly 16 = .ok (.iconst 0, 1) := by decide +kernel
theorem dX11_stepsTruly_17 : decode cX11_stepsTruly 17 = .ok (.bipush 52, 2) := by decide +kernel
theorem dX11_stepsTruly_19 : decode cX11_stepsTruly 19 = .ok (.invokestatic 146, 3) := by decide +kernel
theorem dX11_stepsTruly_22 : decode cX11_stepsTruly 22 = .ok (.aload_n 0, 1) := by decide +kernel
theorem dX11_stepsTruly_23 : decode cX11_stepsTruly 23 = .ok (.iload_n 1, 1) := by decide +kernel
theorem dX11_stepsTruly_24 : decode cX11_stepsTruly 24 = .ok (.invokevirtual 188, 3) := by decide +kernel
theorem dX11_stepsTruly_27 : decode cX11_stepsTruly 27 = .ok (.aload_n 0, 1) := by decide +kernel
theorem dX11_stepsTruly_28 : decode cX11_stepsTruly 28 = .ok (.getfield 16, 3) := by decide +kernel
theorem dX11_stepsTruly_31 : decode cX11_stepsTruly 31 = .ok (.iconst 0, 1) := by decide +kernel
theorem dX11_stepsTruly_32 : decode cX11_stepsTruly 32 = .ok (.aload_n 0, 1) := by decide +kernel
theorem dX11_stepsTruly_33 : decode cX11_stepsTruly 33 = .ok (.getfield 9, 3) := by decide +kernel
theorem dX11_stepsTruly_36 : decode cX11_stepsTruly 36 = .ok (.iconst 0, 1) := by decide +kernel
theorem dX11_stepsTruly_37 : decode cX11_stepsTruly 37 = .ok (.bipush 52, 2) := by decide +kernel
theorem dX11_stepsTruly_39 : decode cX11_stepsTruly 39 = .ok (.invokestatic 146, 3) := by decide +kernel
theorem dX11_stepsTruly_42 : decode cX11_stepsTruly 42 = .ok (.aload_n 0, 1) := by decide +kernel
theorem dX11_stepsTruly_43 : decode cX11_stepsTruly 43 = .ok (.getfield 9, 3) := by decide +kernel
theorem dX11_stepsTruly_46 : decode cX11_stepsTruly 46 = .ok (.bipush 56, 2) := by decide +kernel
theorem dX11_stepsTruly_48 : decode cX11_stepsTruly 48 = .ok (.iload_n 1, 1) := by decide +kernel
theorem dX11_stepsTruly_49 : decode cX11_stepsTruly 49 = .ok (.iastore, 1) := by decide +kernel
theorem dX11_stepsTruly_50 : decode cX11_stepsTruly 50 = .ok (.aload_n 0, 1) := by decide +kernel
theorem dX11_stepsTruly_51 : decode cX11_stepsTruly 51 = .ok (.getfield 19, 3) := by decide +kernel
theorem dX11_stepsTruly_54 : decode cX11_stepsTruly 54 = .ok (.iload_n 1, 1) := by decide +kernel
theorem dX11_stepsTruly_55 : decode cX11_stepsTruly 55 = .ok (.aload_n 0, 1) := by decide +kernel
theorem dX11_stepsTruly_56 : decode cX11_stepsTruly 56 = .ok (.getfield 166, 3) := by decide +kernel
theorem dX11_stepsTruly_59 : decode cX11_stepsTruly 59 = .ok (.iastore, 1) := by decide +kernel
theorem dX11_stepsTruly_60 : decode cX11_stepsTruly 60 = .ok (.aload_n 0, 1) := by decide +kernel
theorem dX11_stepsTruly_61 : decode cX11_stepsTruly 61 = .ok (.getfield 22, 3) := by decide +kernel
theorem dX11_stepsTruly_64 : decode cX11_stepsTruly 64 = .ok (.iload_n 1, 1) := by decide +kernel
theorem dX11_stepsTruly_65 : decode cX11_stepsTruly 65 = .ok (.aload_n 0, 1) := by decide +kernel
theorem dX11_stepsTruly_66 : decode cX11_stepsTruly 66 = .ok (.getfield 9, 3) := by decide +kernel
theorem dX11_stepsTruly_69 : decode cX11_stepsTruly 69 = .ok (.iconst 4, 1) := by decide +kernel
theorem dX11_stepsTruly_70 : decode cX11_stepsTruly 70 = .ok (.iload_n 1, 1) := by decide +kernel
theorem dX11_stepsTruly_71 : decode cX11_stepsTruly 71 = .ok (.iadd, 1) := by decide +kernel
theorem dX11_stepsTruly_72 : decode cX11_stepsTruly 72 = .ok (.iaload, 1) := by decide +kernel
theorem dX11_stepsTruly_73 : decode cX11_stepsTruly 73 = .ok (.iconst 3, 1) := by decide +kernel
theorem dX11_stepsTruly_74 : decode cX11_stepsTruly 74 = .ok (.if_icmp .ne 10, 3) := by decide +kernel
theorem dX11_stepsTruly_77 : decode cX11_stepsTruly 77 = .ok (.aload_n 0, 1) := by decide +kernel
theorem dX11_stepsTruly_78 : decode cX11_stepsTruly 78 = .ok (.getfield 157, 3) := by decide +kernel
theorem dX11_stepsTruly_81 : decode cX11_stepsTruly 81 = .ok (.goto 4, 3) := by decide +kernel
theorem dX11_stepsTruly_84 : decode cX11_stepsTruly 84 = .ok (.iconst 0, 1) := by decide +kernel
theorem dX11_stepsTruly_85 : decode cX11_stepsTruly 85 = .ok (.iastore, 1) := by decide +kernel
theorem dX11_stepsTruly_86 : decode cX11_stepsTruly 86 = .ok (.aload_n 0, 1) := by decide +kernel
theorem dX11_stepsTruly_87 : decode cX11_stepsTruly 87 = .ok (.getfield 166, 3) := by decide +kernel
theorem dX11_stepsTruly_90 : decode cX11_stepsTruly 90 = .ok (.ifCond .le 32, 3) := by decide +kernel
theorem dX11_stepsTruly_93 : decode cX11_stepsTruly 93 = .ok (.aload_n 0, 1) := by decide +kernel
theorem dX11_stepsTruly_94 : decode cX11_stepsTruly 94 = .ok (.iconst 4, 1) := by decide +kernel
theorem dX11_stepsTruly_95 : decode cX11_stepsTruly 95 = .ok (.iload_n 1, 1) := by decide +kernel
theorem dX11_stepsTruly_96 : decode cX11_stepsTruly 96 = .ok (.iload_n 2, 1) := by decide +kernel
theorem dX11_stepsTruly_97 : decode cX11_stepsTruly 97 = .ok (.aload_n 0, 1) := by decide +kernel
theorem dX11_stepsTruly_98 : decode cX11_stepsTruly 98 = .ok (.getfield 166, 3) := by decide +kernel
theorem dX11_stepsTruly_101 : decode cX11_stepsTruly 101 = .ok (.iconst 3, 1) := by decide +kernel
theorem dX11_stepsTruly_102 : decode cX11_stepsTruly 102 = .ok (.if_icmp .ge 8, 3) := by decide +kernel
theorem dX11_stepsTruly_105 : decode cX11_stepsTruly 105 = .ok (.bipush 6, 2) := by decide +kernel
theorem dX11_stepsTruly_107 : decode cX11_stepsTruly 107 = .ok (.goto 5, 3) := by decide +kernel
theorem dX11_stepsTruly_110 : decode cX11_stepsTruly 110 = .ok (.bipush 7, 2) := by decide +kernel
theorem dX11_stepsTruly_112 : decode cX11_stepsTruly 112 = .ok (.aload_n 0, 1) := by decide +kernel
theorem dX11_stepsTruly_113 : decode cX11_stepsTruly 113 = .ok (.iload_n 1, 1) := by decide +kernel
theorem dX11_stepsTruly_114 : decode cX11_stepsTruly 114 = .ok (.iload_n 2, 1) := by decide +kernel
theorem dX11_stepsTruly_115 : decode cX11_stepsTruly 115 = .ok (.iconst 1, 1) := by decide +kernel
theorem dX11_stepsTruly_116 : decode cX11_stepsTruly 116 = .ok (.invokevirtual 150, 3) := by decide +kernel
theorem dX11_stepsTruly_119 : decode cX11_stepsTruly 119 = .ok (.invokevirtual 142, 3) := by decide +kernel
theorem dX11_stepsTruly_122 : decode cX11_stepsTruly 122 = .ok (.return_, 1) := by decide +kernel
theorem dX11_sticks_0 : decode cX11_sticks 0 = .ok (.aload_n 0, 1) := by decide +kernel
theorem dX11_sticks_1 : decode cX11_sticks 1 = .ok (.aload_n 1, 1) := by decide +kernel
theorem dX11_sticks_2 : decode cX11_sticks 2 = .ok (.iload_n 2, 1) := by decide +kernel
theorem dX11_sticks_3 : decode cX11_sticks 3 = .ok (.iconst 0, 1) := by decide +kernel
theorem dX11_sticks_4 : decode cX11_sticks 4 = .ok (.invokevirtual 215, 3) := by decide +kernel
theorem dX11_sticks_7 : decode cX11_sticks 7 = .ok (.ifCond .ne 25, 3) := by decide +kernel
theorem dX11_sticks_10 : decode cX11_sticks 10 = .ok (.aload_n 0, 1) := by decide +kernel
theorem dX11_sticks_11 : decode cX11_sticks 11 = .ok (.aload_n 1, 1) := by decide +kernel
theorem dX11_sticks_12 : decode cX11_sticks 12 = .ok (.iload_n 2, 1) := by decide +kernel
theorem dX11_sticks_13 : decode cX11_sticks 13 = .ok (.iconst 1, 1) := by decide +kernel
theorem dX11_sticks_14 : decode cX11_sticks 14 = .ok (.invokevirtual 215, 3) := by decide +kernel
theorem dX11_sticks_17 : decode cX11_sticks 17 = .ok (.aload_n 0, 1) := by decide +kernel
theorem dX11_sticks_18 : decode cX11_sticks 18 = .ok (.aload_n 1, 1) := by decide +kernel
theorem dX11_sticks_19 : decode cX11_sticks 19 = .ok (.iload_n 2, 1) := by decide +kernel
theorem dX11_sticks_20 : decode cX11_sticks 20 = .ok (.iconst 2, 1) := by decide +kernel
theorem dX11_sticks_21 : decode cX11_sticks 21 = .ok (.invokevirtual 215, 3) := by decide +kernel
theorem dX11_sticks_24 : decode cX11_sticks 24 = .ok (.ior, 1) := by decide +kernel
theorem dX11_sticks_25 : decode cX11_sticks 25 = .ok (.ifCond .eq 7, 3) := by decide +kernel
theorem dX11_sticks_28 : decode cX11_sticks 28 = .ok (.iconst 1, 1) := by decide +kernel
theorem dX11_sticks_29 : decode cX11_sticks 29 = .ok (.goto 4, 3) := by decide +kernel
theorem dX11_sticks_32 : decode cX11_sticks 32 = .ok (.iconst 0, 1) := by decide +kernel
theorem dX11_sticks_33 : decode cX11_sticks 33 = .ok (.ireturn, 1) := by decide +kernel
theorem dX11_takes_0 : decode cX11_takes 0 = .ok (.aload_n 0, 1) := by decide +kernel
theorem dX11_takes_1 : decode cX11_takes 1 = .ok (.aload_n 0, 1) := by decide +kernel
theorem dX11_takes_2 : decode cX11_takes 2 = .ok (.invokevirtual 95, 3) := by decide +kernel
theorem dX11_takes_5 : decode cX11_takes 5 = .ok (.iload_n 1, 1) := by decide +kernel
theorem dX11_takes_6 : decode cX11_takes 6 = .ok (.if_icmp .ne 7, 3) := by decide +kernel
theorem dX11_takes_9 : decode cX11_takes 9 = .ok (.iconst 1, 1) := by decide +kernel
theorem dX11_takes_10 : decode cX11_takes 10 = .ok (.goto 4, 3) := by decide +kernel
theorem dX11_takes_13 : decode cX11_takes 13 = .ok (.iconst 0, 1) := by decide +kernel
theorem dX11_takes_14 : decode cX11_takes 14 = .ok (.aload_n 0, 1) := by decide +kernel
theorem dX11_takes_15 : decode cX11_takes 15 = .ok (.getfield 89, 3) := by decide +kernel
theorem dX11_takes_18 : decode cX11_takes 18 = .ok (.invokevirtual 99, 3) := by decide +kernel
theorem dX11_takes_21 : decode cX11_takes 21 = .ok (.aload_n 0, 1) := by decide +kernel
theorem dX11_takes_22 : decode cX11_takes 22 = .ok (.dup, 1) := by decide +kernel
theorem dX11_takes_23 : decode cX11_takes 23 = .ok (.getfield 89, 3) := by decide +kernel
theorem dX11_takes_26 : decode cX11_takes 26 = .ok (.iconst 1, 1) := by decide +kernel
theorem dX11_takes_27 : decode cX11_takes 27 = .ok (.iadd, 1) := by decide +kernel
theorem dX11_takes_28 : decode cX11_takes 28 = .ok (.putfield 89, 3) := by decide +kernel
theorem dX11_takes_31 : decode cX11_takes 31 = .ok (.return_, 1) := by decide +kernel
theorem dX11_task_0 : decode cX11_task 0 = .ok (.aload_n 0, 1) := by decide +kernel
theorem dX11_task_1 : decode cX11_task 1 = .ok (.getfield 9, 3) := by decide +kernel
theorem dX11_task_4 : decode cX11_task 4 = .ok (.bipush 52, 2) := by decide +kernel
theorem dX11_task_6 : decode cX11_task 6 = .ok (.iaload, 1) := by decide +kernel
theorem dX11_task_7 : decode cX11_task 7 = .ok (.iconst 4, 1) := by decide +kernel
theorem dX11_task_8 : decode cX11_task 8 = .ok (.if_icmp .ne 6, 3) := by decide +kernel
theorem dX11_task_11 : decode cX11_task 11 = .ok (.bipush (-4), 2) := by decide +kernel
theorem dX11_task_13 : decode cX11_task 13 = .ok (.ireturn, 1) := by decide +kernel
theorem dX11_task_14 : decode cX11_task 14 = .ok (.aload_n 0, 1) := by decide +kernel
theorem dX11_task_15 : decode cX11_task 15 = .ok (.getfield 9, 3) := by decide +kernel
theorem dX11_task_18 : decode cX11_task 18 = .ok (.bipush 52, 2) := by decide +kernel
theorem dX11_task_20 : decode cX11_task 20 = .ok (.dup2, 1) := by decide +kernel
theorem dX11_task_21 : decode cX11_task 21 = .ok (.iaload, 1) := by decide +kernel
theorem dX11_task_22 : decode cX11_task 22 = .ok (.iconst 1, 1) := by decide +kernel
theorem dX11_task_23 : decode cX11_task 23 = .ok (.iadd, 1) := by decide +kernel
theorem dX11_task_24 : decode cX11_task 24 = .ok (.iastore, 1) := by decide +kernel
theorem dX11_task_25 : decode cX11_task 25 = .ok (.aload_n 0, 1) := by decide +kernel
theorem dX11_task_26 : decode cX11_task 26 = .ok (.getfield 9, 3) := by decide +kernel
theorem dX11_task_29 : decode cX11_task 29 = .ok (.bipush 52, 2) := by decide +kernel
theorem dX11_task_31 : decode cX11_task 31 = .ok (.iaload, 1) := by decide +kernel
theorem dX11_task_32 : decode cX11_task 32 = .ok (.iconst 1, 1) := by decide +kernel
theorem dX11_task_33 : decode cX11_task 33 = .ok (.isub, 1) := by decide +kernel
theorem dX11_task_34 : decode cX11_task 34 = .ok (.ireturn, 1) := by decide +kernel
theorem dX11_tells_0 : decode cX11_tells 0 = .ok (.aload_n 0, 1) := by decide +kernel
theorem dX11_tells_1 : decode cX11_tells 1 = .ok (.iconst 3, 1) := by decide +kernel
theorem dX11_tells_2 : decode cX11_tells 2 = .ok (.putfield 130, 3) := by decide +kernel
theorem dX11_tells_5 : decode cX11_tells 5 = .ok (.aload_n 0, 1) := by decide +kernel
theorem dX11_tells_6 : decode cX11_tells 6 = .ok (.getfield 34, 3) := by decide +kernel
theorem dX11_tells_9 : decode cX11_tells 9 = .ok (.iconst 0, 1) := by decide +kernel
theorem dX11_tells_10 : decode cX11_tells 10 = .ok (.iload_n 1, 1) := by decide +kernel
theorem dX11_tells_11 : decode cX11_tells 11 = .ok (.iastore, 1) := by decide +kernel
theorem dX11_tells_12 : decode cX11_tells 12 = .ok (.aload_n 0, 1) := by decide +kernel
theorem dX11_tells_13 : decode cX11_tells 13 = .ok (.getfield 37, 3) := by decide +kernel
theorem dX11_tells_16 : decode cX11_tells 16 = .ok (.iconst 0, 1) := by decide +kernel
theorem dX11_tells_17 : decode cX11_tells 17 = .ok (.iload_n 2, 1) := by decide +kernel
theorem dX11_tells_18 : decode cX11_tells 18 = .ok (.iastore, 1) := by decide +kernel
theorem dX11_tells_19 : decode cX11_tells 19 = .ok (.aload_n 0, 1) := by decide +kernel
theorem dX11_tells_20 : decode cX11_tells 20 = .ok (.getfield 34, 3) := by decide +kernel
theorem dX11_tells_23 : decode cX11_tells 23 = .ok (.iconst 1, 1) := by decide +kernel
theorem dX11_tells_24 : decode cX11_tells 24 = .ok (.iload_n 1, 1) := by decide +kernel
theorem dX11_tells_25 : decode cX11_tells 25 = .ok (.iconst 1, 1) := by decide +kernel
theorem dX11_tells_26 : decode cX11_tells 26 = .ok (.iadd, 1) := by decide +kernel
theorem dX11_tells_27 : decode cX11_tells 27 = .ok (.iastore, 1) := by decide +kernel
theorem dX11_tells_28 : decode cX11_tells 28 = .ok (.aload_n 0, 1) := by decide +kernel
theorem dX11_tells_29 : decode cX11_tells 29 = .ok (.getfield 37, 3) := by decide +kernel
theorem dX11_tells_32 : decode cX11_tells 32 = .ok (.iconst 1, 1) := by decide +kernel
theorem dX11_tells_33 : decode cX11_tells 33 = .ok (.iload_n 3, 1) := by decide +kernel
theorem dX11_tells_34 : decode cX11_tells 34 = .ok (.iastore, 1) := by decide +kernel
theorem dX11_tells_35 : decode cX11_tells 35 = .ok (.aload_n 0, 1) := by decide +kernel
theorem dX11_tells_36 : decode cX11_tells 36 = .ok (.getfield 34, 3) := by decide +kernel
theorem dX11_tells_39 : decode cX11_tells 39 = .ok (.iconst 2, 1) := by decide +kernel
theorem dX11_tells_40 : decode cX11_tells 40 = .ok (.iload 4, 2) := by decide +kernel
theorem dX11_tells_42 : decode cX11_tells 42 = .ok (.iastore, 1) := by decide +kernel
theorem dX11_tells_43 : decode cX11_tells 43 = .ok (.aload_n 0, 1) := by decide +kernel
theorem dX11_tells_44 : decode cX11_tells 44 = .ok (.getfield 37, 3) := by decide +kernel
theorem dX11_tells_47 : decode cX11_tells 47 = .ok (.iconst 2, 1) := by decide +kernel
theorem dX11_tells_48 : decode cX11_tells 48 = .ok (.iload 5, 2) := by decide +kernel
theorem dX11_tells_50 : decode cX11_tells 50 = .ok (.iastore, 1) := by decide +kernel
theorem dX11_tells_51 : decode cX11_tells 51 = .ok (.return_, 1) := by decide +kernel
theorem dX11_told_0 : decode cX11_told 0 = .ok (.iload_n 1, 1) := by decide +kernel
theorem dX11_told_1 : decode cX11_told 1 = .ok (.tableswitch 101 0 5 #[39, 47, 52, 57, 75, 93], 39) := by decide +kernel
theorem dX11_told_40 : decode cX11_told 40 = .ok (.aload_n 0, 1) := by decide +kernel
theorem dX11_told_41 : decode cX11_told 41 = .ok (.getfield 9, 3) := by decide +kernel
theorem dX11_told_44 : decode cX11_told 44 = .ok (.bipush 52, 2) := by decide +kernel
theorem dX11_told_46 : decode cX11_told 46 = .ok (.iaload, 1) := by decide +kernel
theorem dX11_told_47 : decode cX11_told 47 = .ok (.ireturn, 1) := by decide +kernel
theorem dX11_told_48 : decode cX11_told 48 = .ok (.aload_n 0, 1) := by decide +kernel
theorem dX11_told_49 : decode cX11_told 49 = .ok (.getfield 85, 3) := by decide +kernel
theorem dX11_told_52 : decode cX11_told 52 = .ok (.ireturn, 1) := by decide +kernel
theorem dX11_told_53 : decode cX11_told 53 = .ok (.aload_n 0, 1) := by decide +kernel
theorem dX11_told_54 : decode cX11_told 54 = .ok (.getfield 218, 3) := by decide +kernel
theorem dX11_told_57 : decode cX11_told 57 = .ok (.ireturn, 1) := by decide +kernel
theorem dX11_told_58 : decode cX11_told 58 = .ok (.aload_n 0, 1) := by decide +kernel
theorem dX11_told_59 : decode cX11_told 59 = .ok (.aload_n 0, 1) := by decide +kernel
theorem dX11_told_60 : decode cX11_told 60 = .ok (.getfield 9, 3) := by decide +kernel
theorem dX11_told_63 : decode cX11_told 63 = .ok (.iconst 0, 1) := by decide +kernel
theorem dX11_told_64 : decode cX11_told 64 = .ok (.invokevirtual 221, 3) := by decide +kernel
theorem dX11_told_67 : decode cX11_told 67 = .ok (.ifCond .eq 7, 3) := by decide +kernel
theorem dX11_told_70 : decode cX11_told 70 = .ok (.iconst 1, 1) := by decide +kernel
theorem dX11_told_71 : decode cX11_told 71 = .ok (.goto 4, 3) := by decide +kernel
theorem dX11_told_74 : decode cX11_told 74 = .ok (.iconst 0, 1) := by decide +kernel
theorem dX11_told_75 : decode cX11_told 75 = .ok (.ireturn, 1) := by decide +kernel
theorem dX11_told_76 : decode cX11_told 76 = .ok (.aload_n 0, 1) := by decide +kernel
theorem dX11_told_77 : decode cX11_told 77 = .ok (.aload_n 0, 1) := by decide +kernel
theorem dX11_told_78 : decode cX11_told 78 = .ok (.getfield 9, 3) := by decide +kernel
theorem dX11_told_81 : decode cX11_told 81 = .ok (.iconst 0, 1) := by decide +kernel
theorem dX11_told_82 : decode cX11_told 82 = .ok (.invokevirtual 225, 3) := by decide +kernel
theorem dX11_told_85 : decode cX11_told 85 = .ok (.ifCond .eq 7, 3) := by decide +kernel
theorem dX11_told_88 : decode cX11_told 88 = .ok (.iconst 1, 1) := by decide +kernel
theorem dX11_told_89 : decode cX11_told 89 = .ok (.goto 4, 3) := by decide +kernel
theorem dX11_told_92 : decode cX11_told 92 = .ok (.iconst 0, 1) := by decide +kernel
theorem dX11_told_93 : decode cX11_told 93 = .ok (.ireturn, 1) := by decide +kernel
theorem dX11_told_94 : decode cX11_told 94 = .ok (.aload_n 0, 1) := by decide +kernel
theorem dX11_told_95 : decode cX11_told 95 = .ok (.getfield 9, 3) := by decide +kernel
theorem dX11_told_98 : decode cX11_told 98 = .ok (.bipush 56, 2) := by decide +kernel
theorem dX11_told_100 : decode cX11_told 100 = .ok (.iaload, 1) := by decide +kernel
theorem dX11_told_101 : decode cX11_told 101 = .ok (.ireturn, 1) := by decide +kernel
theorem dX11_told_102 : decode cX11_told 102 = .ok (.iconst (-1), 1) := by decide +kernel
theorem dX11_told_103 : decode cX11_told 103 = .ok (.ireturn, 1) := by decide +kernel
theorem dX11_under_0 : decode cX11_under 0 = .ok (.iload_n 1, 1) := by decide +kernel
theorem dX11_under_1 : decode cX11_under 1 = .ok (.invokestatic 72, 3) := by decide +kernel
theorem dX11_under_4 : decode cX11_under 4 = .ok (.ifCond .ne 5, 3) := by decide +kernel
theorem dX11_under_7 : decode cX11_under 7 = .ok (.iconst (-1), 1) := by decide +kernel
theorem dX11_under_8 : decode cX11_under 8 = .ok (.ireturn, 1) := by decide +kernel
theorem dX11_under_9 : decode cX11_under 9 = .ok (.aload_n 0, 1) := by decide +kernel
theorem dX11_under_10 : decode cX11_under 10 = .ok (.invokevirtual 252, 3) := by decide +kernel
theorem dX11_under_13 : decode cX11_under 13 = .ok (.aload_n 0, 1) := by decide +kernel
theorem dX11_under_14 : decode cX11_under 14 = .ok (.iload_n 1, 1) := by decide +kernel
theorem dX11_under_15 : decode cX11_under 15 = .ok (.invokevirtual 285, 3) := by decide +kernel
theorem dX11_under_18 : decode cX11_under 18 = .ok (.ireturn, 1) := by decide +kernel
theorem dX11_underIn_0 : decode cX11_underIn 0 = .ok (.iconst 0, 1) := by decide +kernel
theorem dX11_underIn_1 : decode cX11_underIn 1 = .ok (.istore_n 2, 1) := by decide +kernel
theorem dX11_underIn_2 : decode cX11_underIn 2 = .ok (.iconst 0, 1) := by decide +kernel
theorem dX11_underIn_3 : decode cX11_underIn 3 = .ok (.istore_n 3, 1) := by decide +kernel
theorem dX11_underIn_4 : decode cX11_underIn 4 = .ok (.iload_n 3, 1) := by decide +kernel
theorem dX11_underIn_5 : decode cX11_underIn 5 = .ok (.aload_n 0, 1) := by decide +kernel
theorem dX11_underIn_6 : decode cX11_underIn 6 = .ok (.getfield 231, 3) := by decide +kernel
theorem dX11_underIn_9 : decode cX11_underIn 9 = .ok (.if_icmp .ge 179, 3) := by decide +kernel
theorem dX11_underIn_12 : decode cX11_underIn 12 = .ok (.iconst 0, 1) := by decide +kernel
theorem dX11_underIn_13 : decode cX11_underIn 13 = .ok (.istore 4, 2) := by decide +kernel
theorem dX11_underIn_15 : decode cX11_underIn 15 = .ok (.iload 4, 2) := by decide +kernel
theorem dX11_underIn_17 : decode cX11_underIn 17 = .ok (.aload_n 0, 1) := by decide +kernel
theorem dX11_underIn_18 : decode cX11_underIn 18 = .ok (.getfield 9, 3) := by decide +kernel
theorem dX11_underIn_21 : decode cX11_underIn 21 = .ok (.bipush 52, 2) := by decide +kernel
theorem dX11_underIn_23 : decode cX11_underIn 23 = .ok (.iaload, 1) := by decide +kernel
theorem dX11_underIn_24 : decode cX11_underIn 24 = .ok (.if_icmp .ge 158, 3) := by decide +kernel
theorem dX11_underIn_27 : decode cX11_underIn 27 = .ok (.aload_n 0, 1) := by decide +kernel
theorem dX11_underIn_28 : decode cX11_underIn 28 = .ok (.getfield 40, 3) := by decide +kernel
theorem dX11_underIn_31 : decode cX11_underIn 31 = .ok (.bipush 52, 2) := by decide +kernel
theorem dX11_underIn_33 : decode cX11_underIn 33 = .ok (.iload_n 3, 1) := by decide +kernel
theorem dX11_underIn_34 : decode cX11_underIn 34 = .ok (.imul, 1) := by decide +kernel
theorem dX11_underIn_35 : decode cX11_underIn 35 = .ok (.iload 4, 2) := by decide +kernel
theorem dX11_underIn_37 : decode cX11_underIn 37 = .ok (.iadd, 1) := by decide +kernel
theorem dX11_underIn_38 : decode cX11_underIn 38 = .ok (.iaload, 1) := by decide +kernel
theorem dX11_underIn_39 : decode cX11_underIn 39 = .ok (.istore 5, 2) := by decide +kernel
theorem dX11_underIn_41 : decode cX11_underIn 41 = .ok (.aload_n 0, 1) := by decide +kernel
theorem dX11_underIn_42 : decode cX11_underIn 42 = .ok (.aload_n 0, 1) := by decide +kernel
theorem dX11_underIn_43 : decode cX11_underIn 43 = .ok (.getfield 40, 3) := by decide +kernel
theorem dX11_underIn_46 : decode cX11_underIn 46 = .ok (.bipush 52, 2) := by decide +kernel
theorem dX11_underIn_48 : decode cX11_underIn 48 = .ok (.iload_n 3, 1) := by decide +kernel
theorem dX11_underIn_49 : decode cX11_underIn 49 = .ok (.imul, 1) := by decide +kernel
theorem dX11_underIn_50 : decode cX11_underIn 50 = .ok (.iload 4, 2) := by decide +kernel
theorem dX11_underIn_52 : decode cX11_underIn 52 = .ok (.invokevirtual 209, 3) := by decide +kernel
theorem dX11_underIn_55 : decode cX11_underIn 55 = .ok (.istore 6, 2) := by decide +kernel
theorem dX11_underIn_57 : decode cX11_underIn 57 = .ok (.aload_n 0, 1) := by decide +kernel
theorem dX11_underIn_58 : decode cX11_underIn 58 = .ok (.getfield 40, 3) := by decide +kernel
theorem dX11_underIn_61 : decode cX11_underIn 61 = .ok (.bipush 52, 2) := by decide +kernel
theorem dX11_underIn_63 : decode cX11_underIn 63 = .ok (.iload_n 3, 1) := by decide +kernel
theorem dX11_underIn_64 : decode cX11_underIn 64 = .ok (.imul, 1) := by decide +kernel
theorem dX11_underIn_65 : decode cX11_underIn 65 = .ok (.iconst 4, 1) := by decide +kernel
theorem dX11_underIn_66 : decode cX11_underIn 66 = .ok (.iadd, 1) := by decide +kernel
theorem dX11_underIn_67 : decode cX11_underIn 67 = .ok (.iload 4, 2) := by decide +kernel
theorem dX11_underIn_69 : decode cX11_underIn 69 = .ok (.iadd, 1) := by decide +kernel
theorem dX11_underIn_70 : decode cX11_underIn 70 = .ok (.iaload, 1) := by decide +kernel
theorem dX11_underIn_71 : decode cX11_underIn 71 = .ok (.ifCond .ne 43, 3) := by decide +kernel
theorem dX11_underIn_74 : decode cX11_underIn 74 = .ok (.iload 6, 2) := by decide +kernel
theorem dX11_underIn_76 : decode cX11_underIn 76 = .ok (.iload_n 1, 1) := by decide +kernel
theorem dX11_underIn_77 : decode cX11_underIn 77 = .ok (.invokestatic 282, 3) := by decide +kernel
theorem dX11_underIn_80 : decode cX11_underIn 80 = .ok (.ifCond .eq 34, 3) := by decide +kernel
theorem dX11_underIn_83 : decode cX11_underIn 83 = .ok (.iload 5, 2) := by decide +kernel
theorem dX11_underIn_85 : decode cX11_underIn 85 = .ok (.aload_n 0, 1) := by decide +kernel
theorem dX11_underIn_86 : decode cX11_underIn 86 = .ok (.getfield 9, 3) := by decide +kernel
theorem dX11_underIn_89 : decode cX11_underIn 89 = .ok (.bipush 57, 2) := by decide +kernel
theorem dX11_underIn_91 : decode cX11_underIn 91 = .ok (.iload 4, 2) := by decide +kernel
theorem dX11_underIn_93 : decode cX11_underIn 93 = .ok (.iadd, 1) := by decide +kernel
theorem dX11_underIn_94 : decode cX11_underIn 94 = .ok (.iaload, 1) := by decide +kernel
theorem dX11_underIn_95 : decode cX11_underIn 95 = .ok (.if_icmp .ge 19, 3) := by decide +kernel
theorem dX11_underIn_98 : decode cX11_underIn 98 = .ok (.aload_n 0, 1) := by decide +kernel
theorem dX11_underIn_99 : decode cX11_underIn 99 = .ok (.iload 4, 2) := by decide +kernel
theorem dX11_underIn_101 : decode cX11_underIn 101 = .ok (.iload 5, 2) := by decide +kernel
theorem dX11_underIn_103 : decode cX11_underIn 103 = .ok (.iconst 0, 1) := by decide +kernel
theorem dX11_underIn_104 : decode cX11_underIn 104 = .ok (.invokevirtual 150, 3) := by decide +kernel
theorem dX11_underIn_107 : decode cX11_underIn 107 = .ok (.ifCond .ne 7, 3) := by decide +kernel
theorem dX11_underIn_110 : decode cX11_underIn 110 = .ok (.iconst 1, 1) := by decide +kernel
theorem dX11_underIn_111 : decode cX11_underIn 111 = .ok (.goto 4, 3) := by decide +kernel
theorem dX11_underIn_114 : decode cX11_underIn 114 = .ok (.iconst 0, 1) := by decide +kernel
theorem dX11_underIn_115 : decode cX11_underIn 115 = .ok (.istore 7, 2) := by decide +kernel
theorem dX11_underIn_117 : decode cX11_underIn 117 = .ok (.iload 7, 2) := by decide +kernel
theorem dX11_underIn_119 : decode cX11_underIn 119 = .ok (.ifCond .eq 15, 3) := by decide +kernel
theorem dX11_underIn_122 : decode cX11_underIn 122 = .ok (.aload_n 0, 1) := by decide +kernel
theorem dX11_underIn_123 : decode cX11_underIn 123 = .ok (.iload 4, 2) := by decide +kernel
theorem dX11_underIn_125 : decode cX11_underIn 125 = .ok (.iload 5, 2) := by decide +kernel
theorem dX11_underIn_127 : decode cX11_underIn 127 = .ok (.iconst 1, 1) := by decide +kernel
theorem dX11_underIn_128 : decode cX11_underIn 128 = .ok (.invokevirtual 150, 3) := by decide +kernel
theorem dX11_underIn_131 : decode cX11_underIn 131 = .ok (.goto 4, 3) := by decide +kernel
theorem dX11_underIn_134 : decode cX11_underIn 134 = .ok (.iload_n 1, 1) := by decide +kernel
theorem dX11_underIn_135 : decode cX11_underIn 135 = .ok (.istore 8, 2) := by decide +kernel
theorem dX11_underIn_137 : decode cX11_underIn 137 = .ok (.iload_n 2, 1) := by decide +kernel
theorem dX11_underIn_138 : decode cX11_underIn 138 = .ok (.iload 7, 2) := by decide +kernel
theorem dX11_underIn_140 : decode cX11_underIn 140 = .ok (.ifCond .eq 33, 3) := by decide +kernel
theorem dX11_underIn_143 : decode cX11_underIn 143 = .ok (.iload 6, 2) := by decide +kernel
theorem dX11_underIn_145 : decode cX11_underIn 145 = .ok (.iload 8, 2) := by decide +kernel
theorem dX11_underIn_147 : decode cX11_underIn 147 = .ok (.invokestatic 282, 3) := by decide +kernel
theorem dX11_underIn_150 : decode cX11_underIn 150 = .ok (.ifCond .ne 23, 3) := by decide +kernel
theorem dX11_underIn_153 : decode cX11_underIn 153 = .ok (.aload_n 0, 1) := by decide +kernel
theorem dX11_underIn_154 : decode cX11_underIn 154 = .ok (.getfield 9, 3) := by decide +kernel
theorem dX11_underIn_157 : decode cX11_underIn 157 = .ok (.bipush 53, 2) := by decide +kernel
theorem dX11_underIn_159 : decode cX11_underIn 159 = .ok (.iload 8, 2) := by decide +kernel
theorem dX11_underIn_161 : decode cX11_underIn 161 = .ok (.iadd, 1) := by decide +kernel
theorem dX11_underIn_162 : decode cX11_underIn 162 = .ok (.iaload, 1) := by decide +kernel
theorem dX11_underIn_163 : decode cX11_underIn 163 = .ok (.ifCond .ne 10, 3) := by decide +kernel
theorem dX11_underIn_166 : decode cX11_underIn 166 = .ok (.iconst 1, 1) := by decide +kernel
theorem dX11_underIn_167 : decode cX11_underIn 167 = .ok (.iload 8, 2) := by decide +kernel
theorem dX11_underIn_169 : decode cX11_underIn 169 = .ok (.ishl, 1) := by decide +kernel
theorem dX11_underIn_170 : decode cX11_underIn 170 = .ok (.goto 4, 3) := by decide +kernel
theorem dX11_underIn_173 : decode cX11_underIn 173 = .ok (.iconst 0, 1) := by decide +kernel
theorem dX11_underIn_174 : decode cX11_underIn 174 = .ok (.ior, 1) := by decide +kernel
theorem dX11_underIn_175 : decode cX11_underIn 175 = .ok (.istore_n 2, 1) := by decide +kernel
theorem dX11_underIn_176 : decode cX11_underIn 176 = .ok (.iinc 4 1, 3) := by decide +kernel
theorem dX11_underIn_179 : decode cX11_underIn 179 = .ok (.goto (-164), 3) := by decide +kernel
theorem dX11_underIn_182 : decode cX11_underIn 182 = .ok (.iinc 3 1, 3) := by decide +kernel
theorem dX11_underIn_185 : decode cX11_underIn 185 = .ok (.goto (-181), 3) := by decide +kernel
theorem dX11_underIn_188 : decode cX11_underIn 188 = .ok (.iload_n 2, 1) := by decide +kernel
theorem dX11_underIn_189 : decode cX11_underIn 189 = .ok (.ireturn, 1) := by decide +kernel
theorem dX11_word_0 : decode cX11_word 0 = .ok (.aload_n 0, 1) := by decide +kernel
theorem dX11_word_1 : decode cX11_word 1 = .ok (.getfield 89, 3) := by decide +kernel
theorem dX11_word_4 : decode cX11_word 4 = .ok (.istore_n 1, 1) := by decide +kernel
theorem dX11_word_5 : decode cX11_word 5 = .ok (.aload_n 0, 1) := by decide +kernel
theorem dX11_word_6 : decode cX11_word 6 = .ok (.invokevirtual 95, 3) := by decide +kernel
theorem dX11_word_9 : decode cX11_word 9 = .ok (.i2l, 1) := by decide +kernel
theorem dX11_word_10 : decode cX11_word 10 = .ok (.ldc2_w 103, 3) := by decide +kernel
theorem dX11_word_13 : decode cX11_word 13 = .ok (.ldc2_w 105, 3) := by decide +kernel
theorem dX11_word_16 : decode cX11_word 16 = .ok (.invokestatic 64, 3) := by decide +kernel
theorem dX11_word_19 : decode cX11_word 19 = .ok (.ifCond .eq 16, 3) := by decide +kernel
theorem dX11_word_22 : decode cX11_word 22 = .ok (.aload_n 0, 1) := by decide +kernel
theorem dX11_word_23 : decode cX11_word 23 = .ok (.dup, 1) := by decide +kernel
theorem dX11_word_24 : decode cX11_word 24 = .ok (.getfield 89, 3) := by decide +kernel
theorem dX11_word_27 : decode cX11_word 27 = .ok (.iconst 1, 1) := by decide +kernel
theorem dX11_word_28 : decode cX11_word 28 = .ok (.iadd, 1) := by decide +kernel
theorem dX11_word_29 : decode cX11_word 29 = .ok (.putfield 89, 3) := by decide +kernel
theorem dX11_word_32 : decode cX11_word 32 = .ok (.goto (-27), 3) := by decide +kernel
theorem dX11_word_35 : decode cX11_word 35 = .ok (.iconst (-1), 1) := by decide +kernel
theorem dX11_word_36 : decode cX11_word 36 = .ok (.istore_n 2, 1) := by decide +kernel
theorem dX11_word_37 : decode cX11_word 37 = .ok (.iconst 0, 1) := by decide +kernel
theorem dX11_word_38 : decode cX11_word 38 = .ok (.istore_n 3, 1) := by decide +kernel
theorem dX11_word_39 : decode cX11_word 39 = .ok (.iload_n 3, 1) := by decide +kernel
theorem dX11_word_40 : decode cX11_word 40 = .ok (.bipush 9, 2) := by decide +kernel
theorem dX11_word_42 : decode cX11_word 42 = .ok (.if_icmp .ge 24, 3) := by decide +kernel
theorem dX11_word_45 : decode cX11_word 45 = .ok (.aload_n 0, 1) := by decide +kernel
theorem dX11_word_46 : decode cX11_word 46 = .ok (.iload_n 3, 1) := by decide +kernel
theorem dX11_word_47 : decode cX11_word 47 = .ok (.iload_n 1, 1) := by decide +kernel
theorem dX11_word_48 : decode cX11_word 48 = .ok (.invokevirtual 107, 3) := by decide +kernel
theorem dX11_word_51 : decode cX11_word 51 = .ok (.ifCond .eq 7, 3) := by decide +kernel
theorem dX11_word_54 : decode cX11_word 54 = .ok (.iload_n 3, 1) := by decide +kernel
theorem dX11_word_55 : decode cX11_word 55 = .ok (.goto 4, 3) := by decide +kernel
theorem dX11_word_58 : decode cX11_word 58 = .ok (.iload_n 2, 1) := by decide +kernel
theorem dX11_word_59 : decode cX11_word 59 = .ok (.istore_n 2, 1) := by decide +kernel
theorem dX11_word_60 : decode cX11_word 60 = .ok (.iinc 3 1, 3) := by decide +kernel
theorem dX11_word_63 : decode cX11_word 63 = .ok (.goto (-24), 3) := by decide +kernel
theorem dX11_word_66 : decode cX11_word 66 = .ok (.aload_n 0, 1) := by decide +kernel
theorem dX11_word_67 : decode cX11_word 67 = .ok (.iload_n 2, 1) := by decide +kernel
theorem dX11_word_68 : decode cX11_word 68 = .ok (.ifCond .lt 7, 3) := by decide +kernel
theorem dX11_word_71 : decode cX11_word 71 = .ok (.iconst 1, 1) := by decide +kernel
theorem dX11_word_72 : decode cX11_word 72 = .ok (.goto 4, 3) := by decide +kernel
theorem dX11_word_75 : decode cX11_word 75 = .ok (.iconst 0, 1) := by decide +kernel
theorem dX11_word_76 : decode cX11_word 76 = .ok (.iload_n 1, 1) := by decide +kernel
theorem dX11_word_77 : decode cX11_word 77 = .ok (.invokevirtual 99, 3) := by decide +kernel
theorem dX11_word_80 : decode cX11_word 80 = .ok (.iload_n 2, 1) := by decide +kernel
theorem dX11_word_81 : decode cX11_word 81 = .ok (.ireturn, 1) := by decide +kernel

/-! decode rows, as printed -/
theorem dL_cell_0 : decode cL_cell 0 = .ok (.iload_n 1, 1) := by decide +kernel
theorem dL_cell_1 : decode cL_cell 1 = .ok (.aload_n 0, 1) := by decide +kernel
theorem dL_cell_2 : decode cL_cell 2 = .ok (.arraylength, 1) := by decide +kernel
theorem dL_cell_3 : decode cL_cell 3 = .ok (.if_icmp .ge 9, 3) := by decide +kernel
theorem dL_cell_6 : decode cL_cell 6 = .ok (.aload_n 0, 1) := by decide +kernel
theorem dL_cell_7 : decode cL_cell 7 = .ok (.iload_n 1, 1) := by decide +kernel
theorem dL_cell_8 : decode cL_cell 8 = .ok (.iaload, 1) := by decide +kernel
theorem dL_cell_9 : decode cL_cell 9 = .ok (.goto 17, 3) := by decide +kernel
theorem dL_cell_12 : decode cL_cell 12 = .ok (.sipush 7919, 3) := by decide +kernel
theorem dL_cell_15 : decode cL_cell 15 = .ok (.iload_n 1, 1) := by decide +kernel
theorem dL_cell_16 : decode cL_cell 16 = .ok (.bipush 7, 2) := by decide +kernel
theorem dL_cell_18 : decode cL_cell 18 = .ok (.iadd, 1) := by decide +kernel
theorem dL_cell_19 : decode cL_cell 19 = .ok (.imul, 1) := by decide +kernel
theorem dL_cell_20 : decode cL_cell 20 = .ok (.iload_n 1, 1) := by decide +kernel
theorem dL_cell_21 : decode cL_cell 21 = .ok (.sipush 139, 3) := by decide +kernel
theorem dL_cell_24 : decode cL_cell 24 = .ok (.iadd, 1) := by decide +kernel
theorem dL_cell_25 : decode cL_cell 25 = .ok (.imul, 1) := by decide +kernel
theorem dL_cell_26 : decode cL_cell 26 = .ok (.ireturn, 1) := by decide +kernel
theorem dL_low_0 : decode cL_low 0 = .ok (.iload_n 0, 1) := by decide +kernel
theorem dL_low_1 : decode cL_low 1 = .ok (.ldc 7, 2) := by decide +kernel
theorem dL_low_3 : decode cL_low 3 = .ok (.iand, 1) := by decide +kernel
theorem dL_low_4 : decode cL_low 4 = .ok (.iload_n 1, 1) := by decide +kernel
theorem dL_low_5 : decode cL_low 5 = .ok (.irem, 1) := by decide +kernel
theorem dL_low_6 : decode cL_low 6 = .ok (.ireturn, 1) := by decide +kernel
theorem dL_changes_0 : decode cL_changes 0 = .ok (.aload 5, 2) := by decide +kernel
theorem dL_changes_2 : decode cL_changes 2 = .ok (.iconst 0, 1) := by decide +kernel
theorem dL_changes_3 : decode cL_changes 3 = .ok (.iload_n 1, 1) := by decide +kernel
theorem dL_changes_4 : decode cL_changes 4 = .ok (.ifCond .ne 12, 3) := by decide +kernel
theorem dL_changes_7 : decode cL_changes 7 = .ok (.aload_n 0, 1) := by decide +kernel
theorem dL_changes_8 : decode cL_changes 8 = .ok (.iload_n 2, 1) := by decide +kernel
theorem dL_changes_9 : decode cL_changes 9 = .ok (.iload_n 3, 1) := by decide +kernel
theorem dL_changes_10 : decode cL_changes 10 = .ok (.invokevirtual 8, 3) := by decide +kernel
theorem dL_changes_13 : decode cL_changes 13 = .ok (.goto 37, 3) := by decide +kernel
theorem dL_changes_16 : decode cL_changes 16 = .ok (.iload_n 1, 1) := by decide +kernel
theorem dL_changes_17 : decode cL_changes 17 = .ok (.iconst 1, 1) := by decide +kernel
theorem dL_changes_18 : decode cL_changes 18 = .ok (.if_icmp .ne 14, 3) := by decide +kernel
theorem dL_changes_21 : decode cL_changes 21 = .ok (.aload_n 0, 1) := by decide +kernel
theorem dL_changes_22 : decode cL_changes 22 = .ok (.iload_n 2, 1) := by decide +kernel
theorem dL_changes_23 : decode cL_changes 23 = .ok (.iload_n 3, 1) := by decide +kernel
theorem dL_changes_24 : decode cL_changes 24 = .ok (.iload 4, 2) := by decide +kernel
theorem dL_changes_26 : decode cL_changes 26 = .ok (.invokevirtual 14, 3) := by decide +kernel
theorem dL_changes_29 : decode cL_changes 29 = .ok (.goto 21, 3) := by decide +kernel
theorem dL_changes_32 : decode cL_changes 32 = .ok (.iload_n 1, 1) := by decide +kernel
theorem dL_changes_33 : decode cL_changes 33 = .ok (.iconst 2, 1) := by decide +kernel
theorem dL_changes_34 : decode cL_changes 34 = .ok (.if_icmp .ne 11, 3) := by decide +kernel
theorem dL_changes_37 : decode cL_changes 37 = .ok (.aload_n 0, 1) := by decide +kernel
theorem dL_changes_38 : decode cL_changes 38 = .ok (.iload_n 2, 1) := by decide +kernel
theorem dL_changes_39 : decode cL_changes 39 = .ok (.invokevirtual 18, 3) := by decide +kernel
theorem dL_changes_42 : decode cL_changes 42 = .ok (.goto 8, 3) := by decide +kernel
theorem dL_changes_45 : decode cL_changes 45 = .ok (.aload_n 0, 1) := by decide +kernel
theorem dL_changes_46 : decode cL_changes 46 = .ok (.iload_n 2, 1) := by decide +kernel
theorem dL_changes_47 : decode cL_changes 47 = .ok (.invokevirtual 22, 3) := by decide +kernel
theorem dL_changes_50 : decode cL_changes 50 = .ok (.iastore, 1) := by decide +kernel
theorem dL_changes_51 : decode cL_changes 51 = .ok (.goto 11, 3) := by decide +kernel
theorem dL_changes_54 : decode cL_changes 54 = .ok (.astore 6, 2) := by decide +kernel
theorem dL_changes_56 : decode cL_changes 56 = .ok (.iconst 1, 1) := by decide +kernel
theorem dL_changes_57 : decode cL_changes 57 = .ok (.ireturn, 1) := by decide +kernel
theorem dL_changes_58 : decode cL_changes 58 = .ok (.astore 6, 2) := by decide +kernel
theorem dL_changes_60 : decode cL_changes 60 = .ok (.iconst 2, 1) := by decide +kernel
theorem dL_changes_61 : decode cL_changes 61 = .ok (.ireturn, 1) := by decide +kernel
theorem dL_changes_62 : decode cL_changes 62 = .ok (.iconst 0, 1) := by decide +kernel
theorem dL_changes_63 : decode cL_changes 63 = .ok (.ireturn, 1) := by decide +kernel
theorem dL_act_0 : decode cL_act 0 = .ok (.iload_n 1, 1) := by decide +kernel
theorem dL_act_1 : decode cL_act 1 = .ok (.bipush 32, 2) := by decide +kernel
theorem dL_act_3 : decode cL_act 3 = .ok (.invokestatic 29, 3) := by decide +kernel
theorem dL_act_6 : decode cL_act 6 = .ok (.istore_n 3, 1) := by decide +kernel
theorem dL_act_7 : decode cL_act 7 = .ok (.iload_n 1, 1) := by decide +kernel
theorem dL_act_8 : decode cL_act 8 = .ok (.iconst 5, 1) := by decide +kernel
theorem dL_act_9 : decode cL_act 9 = .ok (.ishr, 1) := by decide +kernel
theorem dL_act_10 : decode cL_act 10 = .ok (.istore 4, 2) := by decide +kernel
theorem dL_act_12 : decode cL_act 12 = .ok (.iload_n 1, 1) := by decide +kernel
theorem dL_act_13 : decode cL_act 13 = .ok (.bipush 22, 2) := by decide +kernel
theorem dL_act_15 : decode cL_act 15 = .ok (.ishr, 1) := by decide +kernel
theorem dL_act_16 : decode cL_act 16 = .ok (.bipush 6, 2) := by decide +kernel
theorem dL_act_18 : decode cL_act 18 = .ok (.invokestatic 29, 3) := by decide +kernel
theorem dL_act_21 : decode cL_act 21 = .ok (.ifCond .le 7, 3) := by decide +kernel
theorem dL_act_24 : decode cL_act 24 = .ok (.iconst 1, 1) := by decide +kernel
theorem dL_act_25 : decode cL_act 25 = .ok (.goto 4, 3) := by decide +kernel
theorem dL_act_28 : decode cL_act 28 = .ok (.iconst 0, 1) := by decide +kernel
theorem dL_act_29 : decode cL_act 29 = .ok (.istore 5, 2) := by decide +kernel
theorem dL_act_31 : decode cL_act 31 = .ok (.iload_n 3, 1) := by decide +kernel
theorem dL_act_32 : decode cL_act 32 = .ok (.ifCond .ne 59, 3) := by decide +kernel
theorem dL_act_35 : decode cL_act 35 = .ok (.aload_n 0, 1) := by decide +kernel
theorem dL_act_36 : decode cL_act 36 = .ok (.iconst 0, 1) := by decide +kernel
theorem dL_act_37 : decode cL_act 37 = .ok (.iload 4, 2) := by decide +kernel
theorem dL_act_39 : decode cL_act 39 = .ok (.iload 5, 2) := by decide +kernel
theorem dL_act_41 : decode cL_act 41 = .ok (.ifCond .eq 7, 3) := by decide +kernel
theorem dL_act_44 : decode cL_act 44 = .ok (.iconst 3, 1) := by decide +kernel
theorem dL_act_45 : decode cL_act 45 = .ok (.goto 5, 3) := by decide +kernel
theorem dL_act_48 : decode cL_act 48 = .ok (.bipush 6, 2) := by decide +kernel
theorem dL_act_50 : decode cL_act 50 = .ok (.invokestatic 29, 3) := by decide +kernel
theorem dL_act_53 : decode cL_act 53 = .ok (.iload 5, 2) := by decide +kernel
theorem dL_act_55 : decode cL_act 55 = .ok (.ifCond .eq 7, 3) := by decide +kernel
theorem dL_act_58 : decode cL_act 58 = .ok (.iconst 2, 1) := by decide +kernel
theorem dL_act_59 : decode cL_act 59 = .ok (.goto 4, 3) := by decide +kernel
theorem dL_act_62 : decode cL_act 62 = .ok (.iconst 0, 1) := by decide +kernel
theorem dL_act_63 : decode cL_act 63 = .ok (.iadd, 1) := by decide +kernel
theorem dL_act_64 : decode cL_act 64 = .ok (.iload 4, 2) := by decide +kernel
theorem dL_act_66 : decode cL_act 66 = .ok (.iconst 3, 1) := by decide +kernel
theorem dL_act_67 : decode cL_act 67 = .ok (.ishr, 1) := by decide +kernel
theorem dL_act_68 : decode cL_act 68 = .ok (.iload 5, 2) := by decide +kernel
theorem dL_act_70 : decode cL_act 70 = .ok (.ifCond .eq 9, 3) := by decide +kernel
theorem dL_act_73 : decode cL_act 73 = .ok (.sipush 10000, 3) := by decide +kernel
theorem dL_act_76 : decode cL_act 76 = .ok (.goto 6, 3) := by decide +kernel
theorem dL_act_79 : decode cL_act 79 = .ok (.sipush 11000, 3) := by decide +kernel
theorem dL_act_82 : decode cL_act 82 = .ok (.invokestatic 29, 3) := by decide +kernel
theorem dL_act_85 : decode cL_act 85 = .ok (.iconst 0, 1) := by decide +kernel
theorem dL_act_86 : decode cL_act 86 = .ok (.aload_n 2, 1) := by decide +kernel
theorem dL_act_87 : decode cL_act 87 = .ok (.invokestatic 34, 3) := by decide +kernel
theorem dL_act_90 : decode cL_act 90 = .ok (.ireturn, 1) := by decide +kernel
theorem dL_act_91 : decode cL_act 91 = .ok (.iload_n 3, 1) := by decide +kernel
theorem dL_act_92 : decode cL_act 92 = .ok (.bipush 13, 2) := by decide +kernel
theorem dL_act_94 : decode cL_act 94 = .ok (.if_icmp .ge 12, 3) := by decide +kernel
theorem dL_act_97 : decode cL_act 97 = .ok (.aload_n 2, 1) := by decide +kernel
theorem dL_act_98 : decode cL_act 98 = .ok (.iconst 0, 1) := by decide +kernel
theorem dL_act_99 : decode cL_act 99 = .ok (.aload_n 0, 1) := by decide +kernel
theorem dL_act_100 : decode cL_act 100 = .ok (.invokevirtual 38, 3) := by decide +kernel
theorem dL_act_103 : decode cL_act 103 = .ok (.iastore, 1) := by decide +kernel
theorem dL_act_104 : decode cL_act 104 = .ok (.iconst 0, 1) := by decide +kernel
theorem dL_act_105 : decode cL_act 105 = .ok (.ireturn, 1) := by decide +kernel
theorem dL_act_106 : decode cL_act 106 = .ok (.iload_n 3, 1) := by decide +kernel
theorem dL_act_107 : decode cL_act 107 = .ok (.bipush 15, 2) := by decide +kernel
theorem dL_act_109 : decode cL_act 109 = .ok (.if_icmp .ge 12, 3) := by decide +kernel
theorem dL_act_112 : decode cL_act 112 = .ok (.aload_n 2, 1) := by decide +kernel
theorem dL_act_113 : decode cL_act 113 = .ok (.iconst 0, 1) := by decide +kernel
theorem dL_act_114 : decode cL_act 114 = .ok (.aload_n 0, 1) := by decide +kernel
theorem dL_act_115 : decode cL_act 115 = .ok (.invokevirtual 42, 3) := by decide +kernel
theorem dL_act_118 : decode cL_act 118 = .ok (.iastore, 1) := by decide +kernel
theorem dL_act_119 : decode cL_act 119 = .ok (.iconst 0, 1) := by decide +kernel
theorem dL_act_120 : decode cL_act 120 = .ok (.ireturn, 1) := by decide +kernel
theorem dL_act_121 : decode cL_act 121 = .ok (.iload_n 3, 1) := by decide +kernel
theorem dL_act_122 : decode cL_act 122 = .ok (.bipush 17, 2) := by decide +kernel
theorem dL_act_124 : decode cL_act 124 = .ok (.if_icmp .ge 28, 3) := by decide +kernel
theorem dL_act_127 : decode cL_act 127 = .ok (.aload_n 0, 1) := by decide +kernel
theorem dL_act_128 : decode cL_act 128 = .ok (.iconst 2, 1) := by decide +kernel
theorem dL_act_129 : decode cL_act 129 = .ok (.iload 4, 2) := by decide +kernel
theorem dL_act_131 : decode cL_act 131 = .ok (.iload 5, 2) := by decide +kernel
theorem dL_act_133 : decode cL_act 133 = .ok (.ifCond .eq 7, 3) := by decide +kernel
theorem dL_act_136 : decode cL_act 136 = .ok (.iconst 5, 1) := by decide +kernel
theorem dL_act_137 : decode cL_act 137 = .ok (.goto 5, 3) := by decide +kernel
theorem dL_act_140 : decode cL_act 140 = .ok (.bipush 30, 2) := by decide +kernel
theorem dL_act_142 : decode cL_act 142 = .ok (.invokestatic 29, 3) := by decide +kernel
theorem dL_act_145 : decode cL_act 145 = .ok (.iconst 0, 1) := by decide +kernel
theorem dL_act_146 : decode cL_act 146 = .ok (.iconst 0, 1) := by decide +kernel
theorem dL_act_147 : decode cL_act 147 = .ok (.aload_n 2, 1) := by decide +kernel
theorem dL_act_148 : decode cL_act 148 = .ok (.invokestatic 34, 3) := by decide +kernel
theorem dL_act_151 : decode cL_act 151 = .ok (.ireturn, 1) := by decide +kernel
theorem dL_act_152 : decode cL_act 152 = .ok (.iload_n 3, 1) := by decide +kernel
theorem dL_act_153 : decode cL_act 153 = .ok (.bipush 17, 2) := by decide +kernel
theorem dL_act_155 : decode cL_act 155 = .ok (.if_icmp .ne 29, 3) := by decide +kernel
theorem dL_act_158 : decode cL_act 158 = .ok (.aload_n 0, 1) := by decide +kernel
theorem dL_act_159 : decode cL_act 159 = .ok (.iconst 3, 1) := by decide +kernel
theorem dL_act_160 : decode cL_act 160 = .ok (.iload 4, 2) := by decide +kernel
theorem dL_act_162 : decode cL_act 162 = .ok (.iload 5, 2) := by decide +kernel
theorem dL_act_164 : decode cL_act 164 = .ok (.ifCond .eq 8, 3) := by decide +kernel
theorem dL_act_167 : decode cL_act 167 = .ok (.bipush 10, 2) := by decide +kernel
theorem dL_act_169 : decode cL_act 169 = .ok (.goto 5, 3) := by decide +kernel
theorem dL_act_172 : decode cL_act 172 = .ok (.bipush 12, 2) := by decide +kernel
theorem dL_act_174 : decode cL_act 174 = .ok (.invokestatic 29, 3) := by decide +kernel
theorem dL_act_177 : decode cL_act 177 = .ok (.iconst 0, 1) := by decide +kernel
theorem dL_act_178 : decode cL_act 178 = .ok (.iconst 0, 1) := by decide +kernel
theorem dL_act_179 : decode cL_act 179 = .ok (.aload_n 2, 1) := by decide +kernel
theorem dL_act_180 : decode cL_act 180 = .ok (.invokestatic 34, 3) := by decide +kernel
theorem dL_act_183 : decode cL_act 183 = .ok (.ireturn, 1) := by decide +kernel
theorem dL_act_184 : decode cL_act 184 = .ok (.aload_n 0, 1) := by decide +kernel
theorem dL_act_185 : decode cL_act 185 = .ok (.invokevirtual 45, 3) := by decide +kernel
theorem dL_act_188 : decode cL_act 188 = .ok (.istore 6, 2) := by decide +kernel
theorem dL_act_190 : decode cL_act 190 = .ok (.iload 6, 2) := by decide +kernel
theorem dL_act_192 : decode cL_act 192 = .ok (.ifCond .lt 18, 3) := by decide +kernel
theorem dL_act_195 : decode cL_act 195 = .ok (.iload 4, 2) := by decide +kernel
theorem dL_act_197 : decode cL_act 197 = .ok (.bipush 8, 2) := by decide +kernel
theorem dL_act_199 : decode cL_act 199 = .ok (.ishr, 1) := by decide +kernel
theorem dL_act_200 : decode cL_act 200 = .ok (.iconst 1, 1) := by decide +kernel
theorem dL_act_201 : decode cL_act 201 = .ok (.iand, 1) := by decide +kernel
theorem dL_act_202 : decode cL_act 202 = .ok (.ifCond .ne 8, 3) := by decide +kernel
theorem dL_act_205 : decode cL_act 205 = .ok (.iload 6, 2) := by decide +kernel
theorem dL_act_207 : decode cL_act 207 = .ok (.goto 10, 3) := by decide +kernel
theorem dL_act_210 : decode cL_act 210 = .ok (.iload 4, 2) := by decide +kernel
theorem dL_act_212 : decode cL_act 212 = .ok (.bipush 8, 2) := by decide +kernel
theorem dL_act_214 : decode cL_act 214 = .ok (.invokestatic 29, 3) := by decide +kernel
theorem dL_act_217 : decode cL_act 217 = .ok (.istore 7, 2) := by decide +kernel
theorem dL_act_219 : decode cL_act 219 = .ok (.aload_n 0, 1) := by decide +kernel
theorem dL_act_220 : decode cL_act 220 = .ok (.iconst 1, 1) := by decide +kernel
theorem dL_act_221 : decode cL_act 221 = .ok (.iload 7, 2) := by decide +kernel
theorem dL_act_223 : decode cL_act 223 = .ok (.iload 4, 2) := by decide +kernel
theorem dL_act_225 : decode cL_act 225 = .ok (.iconst 3, 1) := by decide +kernel
theorem dL_act_226 : decode cL_act 226 = .ok (.ishr, 1) := by decide +kernel
theorem dL_act_227 : decode cL_act 227 = .ok (.iload 5, 2) := by decide +kernel
theorem dL_act_229 : decode cL_act 229 = .ok (.ifCond .eq 7, 3) := by decide +kernel
theorem dL_act_232 : decode cL_act 232 = .ok (.iconst 3, 1) := by decide +kernel
theorem dL_act_233 : decode cL_act 233 = .ok (.goto 4, 3) := by decide +kernel
theorem dL_act_236 : decode cL_act 236 = .ok (.iconst 4, 1) := by decide +kernel
theorem dL_act_237 : decode cL_act 237 = .ok (.invokestatic 29, 3) := by decide +kernel
theorem dL_act_240 : decode cL_act 240 = .ok (.iload 4, 2) := by decide +kernel
theorem dL_act_242 : decode cL_act 242 = .ok (.iconst 5, 1) := by decide +kernel
theorem dL_act_243 : decode cL_act 243 = .ok (.ishr, 1) := by decide +kernel
theorem dL_act_244 : decode cL_act 244 = .ok (.iload 5, 2) := by decide +kernel
theorem dL_act_246 : decode cL_act 246 = .ok (.ifCond .eq 7, 3) := by decide +kernel
theorem dL_act_249 : decode cL_act 249 = .ok (.iconst 2, 1) := by decide +kernel
theorem dL_act_250 : decode cL_act 250 = .ok (.goto 4, 3) := by decide +kernel
theorem dL_act_253 : decode cL_act 253 = .ok (.iconst 3, 1) := by decide +kernel
theorem dL_act_254 : decode cL_act 254 = .ok (.invokestatic 29, 3) := by decide +kernel
theorem dL_act_257 : decode cL_act 257 = .ok (.aload_n 2, 1) := by decide +kernel
theorem dL_act_258 : decode cL_act 258 = .ok (.invokestatic 34, 3) := by decide +kernel
theorem dL_act_261 : decode cL_act 261 = .ok (.ireturn, 1) := by decide +kernel
theorem dL_areAlike_0 : decode cL_areAlike 0 = .ok (.aload_n 0, 1) := by decide +kernel
theorem dL_areAlike_1 : decode cL_areAlike 1 = .ok (.invokevirtual 48, 3) := by decide +kernel
theorem dL_areAlike_4 : decode cL_areAlike 4 = .ok (.aload_n 1, 1) := by decide +kernel
theorem dL_areAlike_5 : decode cL_areAlike 5 = .ok (.invokevirtual 48, 3) := by decide +kernel
theorem dL_areAlike_8 : decode cL_areAlike 8 = .ok (.if_icmp .ne 7, 3) := by decide +kernel
theorem dL_areAlike_11 : decode cL_areAlike 11 = .ok (.iconst 1, 1) := by decide +kernel
theorem dL_areAlike_12 : decode cL_areAlike 12 = .ok (.goto 4, 3) := by decide +kernel
theorem dL_areAlike_15 : decode cL_areAlike 15 = .ok (.iconst 0, 1) := by decide +kernel
theorem dL_areAlike_16 : decode cL_areAlike 16 = .ok (.istore_n 2, 1) := by decide +kernel
theorem dL_areAlike_17 : decode cL_areAlike 17 = .ok (.iconst 0, 1) := by decide +kernel
theorem dL_areAlike_18 : decode cL_areAlike 18 = .ok (.istore_n 3, 1) := by decide +kernel
theorem dL_areAlike_19 : decode cL_areAlike 19 = .ok (.iload_n 3, 1) := by decide +kernel
theorem dL_areAlike_20 : decode cL_areAlike 20 = .ok (.bipush 11, 2) := by decide +kernel
theorem dL_areAlike_22 : decode cL_areAlike 22 = .ok (.if_icmp .ge 32, 3) := by decide +kernel
theorem dL_areAlike_25 : decode cL_areAlike 25 = .ok (.iload_n 2, 1) := by decide +kernel
theorem dL_areAlike_26 : decode cL_areAlike 26 = .ok (.ifCond .eq 20, 3) := by decide +kernel
theorem dL_areAlike_29 : decode cL_areAlike 29 = .ok (.aload_n 0, 1) := by decide +kernel
theorem dL_areAlike_30 : decode cL_areAlike 30 = .ok (.iload_n 3, 1) := by decide +kernel
theorem dL_areAlike_31 : decode cL_areAlike 31 = .ok (.invokevirtual 51, 3) := by decide +kernel
theorem dL_areAlike_34 : decode cL_areAlike 34 = .ok (.aload_n 1, 1) := by decide +kernel
theorem dL_areAlike_35 : decode cL_areAlike 35 = .ok (.iload_n 3, 1) := by decide +kernel
theorem dL_areAlike_36 : decode cL_areAlike 36 = .ok (.invokevirtual 51, 3) := by decide +kernel
theorem dL_areAlike_39 : decode cL_areAlike 39 = .ok (.if_icmp .ne 7, 3) := by decide +kernel
theorem dL_areAlike_42 : decode cL_areAlike 42 = .ok (.iconst 1, 1) := by decide +kernel
theorem dL_areAlike_43 : decode cL_areAlike 43 = .ok (.goto 4, 3) := by decide +kernel
theorem dL_areAlike_46 : decode cL_areAlike 46 = .ok (.iconst 0, 1) := by decide +kernel
theorem dL_areAlike_47 : decode cL_areAlike 47 = .ok (.istore_n 2, 1) := by decide +kernel
theorem dL_areAlike_48 : decode cL_areAlike 48 = .ok (.iinc 3 1, 3) := by decide +kernel
theorem dL_areAlike_51 : decode cL_areAlike 51 = .ok (.goto (-32), 3) := by decide +kernel
theorem dL_areAlike_54 : decode cL_areAlike 54 = .ok (.iconst 0, 1) := by decide +kernel
theorem dL_areAlike_55 : decode cL_areAlike 55 = .ok (.istore_n 3, 1) := by decide +kernel
theorem dL_areAlike_56 : decode cL_areAlike 56 = .ok (.iload_n 3, 1) := by decide +kernel
theorem dL_areAlike_57 : decode cL_areAlike 57 = .ok (.sipush 196, 3) := by decide +kernel
theorem dL_areAlike_60 : decode cL_areAlike 60 = .ok (.if_icmp .ge 46, 3) := by decide +kernel
theorem dL_areAlike_63 : decode cL_areAlike 63 = .ok (.iload_n 2, 1) := by decide +kernel
theorem dL_areAlike_64 : decode cL_areAlike 64 = .ok (.ifCond .eq 34, 3) := by decide +kernel
theorem dL_areAlike_67 : decode cL_areAlike 67 = .ok (.aload_n 0, 1) := by decide +kernel
theorem dL_areAlike_68 : decode cL_areAlike 68 = .ok (.iload_n 3, 1) := by decide +kernel
theorem dL_areAlike_69 : decode cL_areAlike 69 = .ok (.bipush 7, 2) := by decide +kernel
theorem dL_areAlike_71 : decode cL_areAlike 71 = .ok (.idiv, 1) := by decide +kernel
theorem dL_areAlike_72 : decode cL_areAlike 72 = .ok (.iload_n 3, 1) := by decide +kernel
theorem dL_areAlike_73 : decode cL_areAlike 73 = .ok (.bipush 7, 2) := by decide +kernel
theorem dL_areAlike_75 : decode cL_areAlike 75 = .ok (.irem, 1) := by decide +kernel
theorem dL_areAlike_76 : decode cL_areAlike 76 = .ok (.invokevirtual 54, 3) := by decide +kernel
theorem dL_areAlike_79 : decode cL_areAlike 79 = .ok (.aload_n 1, 1) := by decide +kernel
theorem dL_areAlike_80 : decode cL_areAlike 80 = .ok (.iload_n 3, 1) := by decide +kernel
theorem dL_areAlike_81 : decode cL_areAlike 81 = .ok (.bipush 7, 2) := by decide +kernel
theorem dL_areAlike_83 : decode cL_areAlike 83 = .ok (.idiv, 1) := by decide +kernel
theorem dL_areAlike_84 : decode cL_areAlike 84 = .ok (.iload_n 3, 1) := by decide +kernel
theorem dL_areAlike_85 : decode cL_areAlike 85 = .ok (.bipush 7, 2) := by decide +kernel
theorem dL_areAlike_87 : decode cL_areAlike 87 = .ok (.irem, 1) := by decide +kernel
theorem dL_areAlike_88 : decode cL_areAlike 88 = .ok (.invokevirtual 54, 3) := by decide +kernel
theorem dL_areAlike_91 : decode cL_areAlike 91 = .ok (.if_icmp .ne 7, 3) := by decide +kernel
theorem dL_areAlike_94 : decode cL_areAlike 94 = .ok (.iconst 1, 1) := by decide +kernel
theorem dL_areAlike_95 : decode cL_areAlike 95 = .ok (.goto 4, 3) := by decide +kernel
theorem dL_areAlike_98 : decode cL_areAlike 98 = .ok (.iconst 0, 1) := by decide +kernel
theorem dL_areAlike_99 : decode cL_areAlike 99 = .ok (.istore_n 2, 1) := by decide +kernel
theorem dL_areAlike_100 : decode cL_areAlike 100 = .ok (.iinc 3 1, 3) := by decide +kernel
theorem dL_areAlike_103 : decode cL_areAlike 103 = .ok (.goto (-47), 3) := by decide +kernel
theorem dL_areAlike_106 : decode cL_areAlike 106 = .ok (.iconst 0, 1) := by decide +kernel
theorem dL_areAlike_107 : decode cL_areAlike 107 = .ok (.istore_n 3, 1) := by decide +kernel
theorem dL_areAlike_108 : decode cL_areAlike 108 = .ok (.iload_n 3, 1) := by decide +kernel
theorem dL_areAlike_109 : decode cL_areAlike 109 = .ok (.bipush 28, 2) := by decide +kernel
theorem dL_areAlike_111 : decode cL_areAlike 111 = .ok (.aload_n 0, 1) := by decide +kernel
theorem dL_areAlike_112 : decode cL_areAlike 112 = .ok (.iconst 0, 1) := by decide +kernel
theorem dL_areAlike_113 : decode cL_areAlike 113 = .ok (.invokevirtual 51, 3) := by decide +kernel
theorem dL_areAlike_116 : decode cL_areAlike 116 = .ok (.imul, 1) := by decide +kernel
theorem dL_areAlike_117 : decode cL_areAlike 117 = .ok (.if_icmp .ge 46, 3) := by decide +kernel
theorem dL_areAlike_120 : decode cL_areAlike 120 = .ok (.iload_n 2, 1) := by decide +kernel
theorem dL_areAlike_121 : decode cL_areAlike 121 = .ok (.ifCond .eq 34, 3) := by decide +kernel
theorem dL_areAlike_124 : decode cL_areAlike 124 = .ok (.aload_n 0, 1) := by decide +kernel
theorem dL_areAlike_125 : decode cL_areAlike 125 = .ok (.iload_n 3, 1) := by decide +kernel
theorem dL_areAlike_126 : decode cL_areAlike 126 = .ok (.bipush 28, 2) := by decide +kernel
theorem dL_areAlike_128 : decode cL_areAlike 128 = .ok (.idiv, 1) := by decide +kernel
theorem dL_areAlike_129 : decode cL_areAlike 129 = .ok (.iload_n 3, 1) := by decide +kernel
theorem dL_areAlike_130 : decode cL_areAlike 130 = .ok (.bipush 28, 2) := by decide +kernel
theorem dL_areAlike_132 : decode cL_areAlike 132 = .ok (.irem, 1) := by decide +kernel
theorem dL_areAlike_133 : decode cL_areAlike 133 = .ok (.invokevirtual 57, 3) := by decide +kernel
theorem dL_areAlike_136 : decode cL_areAlike 136 = .ok (.aload_n 1, 1) := by decide +kernel
theorem dL_areAlike_137 : decode cL_areAlike 137 = .ok (.iload_n 3, 1) := by decide +kernel
theorem dL_areAlike_138 : decode cL_areAlike 138 = .ok (.bipush 28, 2) := by decide +kernel
theorem dL_areAlike_140 : decode cL_areAlike 140 = .ok (.idiv, 1) := by decide +kernel
theorem dL_areAlike_141 : decode cL_areAlike 141 = .ok (.iload_n 3, 1) := by decide +kernel
theorem dL_areAlike_142 : decode cL_areAlike 142 = .ok (.bipush 28, 2) := by decide +kernel
theorem dL_areAlike_144 : decode cL_areAlike 144 = .ok (.irem, 1) := by decide +kernel
theorem dL_areAlike_145 : decode cL_areAlike 145 = .ok (.invokevirtual 57, 3) := by decide +kernel
theorem dL_areAlike_148 : decode cL_areAlike 148 = .ok (.if_icmp .ne 7, 3) := by decide +kernel
theorem dL_areAlike_151 : decode cL_areAlike 151 = .ok (.iconst 1, 1) := by decide +kernel
theorem dL_areAlike_152 : decode cL_areAlike 152 = .ok (.goto 4, 3) := by decide +kernel
theorem dL_areAlike_155 : decode cL_areAlike 155 = .ok (.iconst 0, 1) := by decide +kernel
theorem dL_areAlike_156 : decode cL_areAlike 156 = .ok (.istore_n 2, 1) := by decide +kernel
theorem dL_areAlike_157 : decode cL_areAlike 157 = .ok (.iinc 3 1, 3) := by decide +kernel
theorem dL_areAlike_160 : decode cL_areAlike 160 = .ok (.goto (-52), 3) := by decide +kernel
theorem dL_areAlike_163 : decode cL_areAlike 163 = .ok (.iconst 0, 1) := by decide +kernel
theorem dL_areAlike_164 : decode cL_areAlike 164 = .ok (.istore_n 3, 1) := by decide +kernel
theorem dL_areAlike_165 : decode cL_areAlike 165 = .ok (.iload_n 3, 1) := by decide +kernel
theorem dL_areAlike_166 : decode cL_areAlike 166 = .ok (.bipush 12, 2) := by decide +kernel
theorem dL_areAlike_168 : decode cL_areAlike 168 = .ok (.if_icmp .ge 42, 3) := by decide +kernel
theorem dL_areAlike_171 : decode cL_areAlike 171 = .ok (.iload_n 2, 1) := by decide +kernel
theorem dL_areAlike_172 : decode cL_areAlike 172 = .ok (.ifCond .eq 30, 3) := by decide +kernel
theorem dL_areAlike_175 : decode cL_areAlike 175 = .ok (.aload_n 0, 1) := by decide +kernel
theorem dL_areAlike_176 : decode cL_areAlike 176 = .ok (.iload_n 3, 1) := by decide +kernel
theorem dL_areAlike_177 : decode cL_areAlike 177 = .ok (.iconst 4, 1) := by decide +kernel
theorem dL_areAlike_178 : decode cL_areAlike 178 = .ok (.idiv, 1) := by decide +kernel
theorem dL_areAlike_179 : decode cL_areAlike 179 = .ok (.iload_n 3, 1) := by decide +kernel
theorem dL_areAlike_180 : decode cL_areAlike 180 = .ok (.iconst 4, 1) := by decide +kernel
theorem dL_areAlike_181 : decode cL_areAlike 181 = .ok (.irem, 1) := by decide +kernel
theorem dL_areAlike_182 : decode cL_areAlike 182 = .ok (.invokevirtual 60, 3) := by decide +kernel
theorem dL_areAlike_185 : decode cL_areAlike 185 = .ok (.aload_n 1, 1) := by decide +kernel
theorem dL_areAlike_186 : decode cL_areAlike 186 = .ok (.iload_n 3, 1) := by decide +kernel
theorem dL_areAlike_187 : decode cL_areAlike 187 = .ok (.iconst 4, 1) := by decide +kernel
theorem dL_areAlike_188 : decode cL_areAlike 188 = .ok (.idiv, 1) := by decide +kernel
theorem dL_areAlike_189 : decode cL_areAlike 189 = .ok (.iload_n 3, 1) := by decide +kernel
theorem dL_areAlike_190 : decode cL_areAlike 190 = .ok (.iconst 4, 1) := by decide +kernel
theorem dL_areAlike_191 : decode cL_areAlike 191 = .ok (.irem, 1) := by decide +kernel
theorem dL_areAlike_192 : decode cL_areAlike 192 = .ok (.invokevirtual 60, 3) := by decide +kernel
theorem dL_areAlike_195 : decode cL_areAlike 195 = .ok (.if_icmp .ne 7, 3) := by decide +kernel
theorem dL_areAlike_198 : decode cL_areAlike 198 = .ok (.iconst 1, 1) := by decide +kernel
theorem dL_areAlike_199 : decode cL_areAlike 199 = .ok (.goto 4, 3) := by decide +kernel
theorem dL_areAlike_202 : decode cL_areAlike 202 = .ok (.iconst 0, 1) := by decide +kernel
theorem dL_areAlike_203 : decode cL_areAlike 203 = .ok (.istore_n 2, 1) := by decide +kernel
theorem dL_areAlike_204 : decode cL_areAlike 204 = .ok (.iinc 3 1, 3) := by decide +kernel
theorem dL_areAlike_207 : decode cL_areAlike 207 = .ok (.goto (-42), 3) := by decide +kernel
theorem dL_areAlike_210 : decode cL_areAlike 210 = .ok (.iload_n 2, 1) := by decide +kernel
theorem dL_areAlike_211 : decode cL_areAlike 211 = .ok (.ireturn, 1) := by decide +kernel
theorem dL_areSums_0 : decode cL_areSums 0 = .ok (.iconst 0, 1) := by decide +kernel
theorem dL_areSums_1 : decode cL_areSums 1 = .ok (.istore_n 1, 1) := by decide +kernel
theorem dL_areSums_2 : decode cL_areSums 2 = .ok (.iconst 0, 1) := by decide +kernel
theorem dL_areSums_3 : decode cL_areSums 3 = .ok (.istore_n 2, 1) := by decide +kernel
theorem dL_areSums_4 : decode cL_areSums 4 = .ok (.iconst 0, 1) := by decide +kernel
theorem dL_areSums_5 : decode cL_areSums 5 = .ok (.istore_n 3, 1) := by decide +kernel
theorem dL_areSums_6 : decode cL_areSums 6 = .ok (.iconst 1, 1) := by decide +kernel
theorem dL_areSums_7 : decode cL_areSums 7 = .ok (.istore 4, 2) := by decide +kernel
theorem dL_areSums_9 : decode cL_areSums 9 = .ok (.iconst 0, 1) := by decide +kernel
theorem dL_areSums_10 : decode cL_areSums 10 = .ok (.istore 5, 2) := by decide +kernel
theorem dL_areSums_12 : decode cL_areSums 12 = .ok (.iload 5, 2) := by decide +kernel
theorem dL_areSums_14 : decode cL_areSums 14 = .ok (.bipush 28, 2) := by decide +kernel
theorem dL_areSums_16 : decode cL_areSums 16 = .ok (.if_icmp .ge 187, 3) := by decide +kernel
theorem dL_areSums_19 : decode cL_areSums 19 = .ok (.aload_n 0, 1) := by decide +kernel
theorem dL_areSums_20 : decode cL_areSums 20 = .ok (.iload 5, 2) := by decide +kernel
theorem dL_areSums_22 : decode cL_areSums 22 = .ok (.iconst 0, 1) := by decide +kernel
theorem dL_areSums_23 : decode cL_areSums 23 = .ok (.invokevirtual 54, 3) := by decide +kernel
theorem dL_areSums_26 : decode cL_areSums 26 = .ok (.istore 6, 2) := by decide +kernel
theorem dL_areSums_28 : decode cL_areSums 28 = .ok (.aload_n 0, 1) := by decide +kernel
theorem dL_areSums_29 : decode cL_areSums 29 = .ok (.iload 5, 2) := by decide +kernel
theorem dL_areSums_31 : decode cL_areSums 31 = .ok (.iconst 1, 1) := by decide +kernel
theorem dL_areSums_32 : decode cL_areSums 32 = .ok (.invokevirtual 54, 3) := by decide +kernel
theorem dL_areSums_35 : decode cL_areSums 35 = .ok (.istore 7, 2) := by decide +kernel
theorem dL_areSums_37 : decode cL_areSums 37 = .ok (.aload_n 0, 1) := by decide +kernel
theorem dL_areSums_38 : decode cL_areSums 38 = .ok (.iload 5, 2) := by decide +kernel
theorem dL_areSums_40 : decode cL_areSums 40 = .ok (.iconst 2, 1) := by decide +kernel
theorem dL_areSums_41 : decode cL_areSums 41 = .ok (.invokevirtual 54, 3) := by decide +kernel
theorem dL_areSums_44 : decode cL_areSums 44 = .ok (.istore 8, 2) := by decide +kernel
theorem dL_areSums_46 : decode cL_areSums 46 = .ok (.iload_n 1, 1) := by decide +kernel
theorem dL_areSums_47 : decode cL_areSums 47 = .ok (.iload 6, 2) := by decide +kernel
theorem dL_areSums_49 : decode cL_areSums 49 = .ok (.iload 7, 2) := by decide +kernel
theorem dL_areSums_51 : decode cL_areSums 51 = .ok (.iadd, 1) := by decide +kernel
theorem dL_areSums_52 : decode cL_areSums 52 = .ok (.iadd, 1) := by decide +kernel
theorem dL_areSums_53 : decode cL_areSums 53 = .ok (.istore_n 1, 1) := by decide +kernel
theorem dL_areSums_54 : decode cL_areSums 54 = .ok (.iload_n 2, 1) := by decide +kernel
theorem dL_areSums_55 : decode cL_areSums 55 = .ok (.aload_n 0, 1) := by decide +kernel
theorem dL_areSums_56 : decode cL_areSums 56 = .ok (.iload 5, 2) := by decide +kernel
theorem dL_areSums_58 : decode cL_areSums 58 = .ok (.bipush 6, 2) := by decide +kernel
theorem dL_areSums_60 : decode cL_areSums 60 = .ok (.invokevirtual 54, 3) := by decide +kernel
theorem dL_areSums_63 : decode cL_areSums 63 = .ok (.iadd, 1) := by decide +kernel
theorem dL_areSums_64 : decode cL_areSums 64 = .ok (.istore_n 2, 1) := by decide +kernel
theorem dL_areSums_65 : decode cL_areSums 65 = .ok (.iload 4, 2) := by decide +kernel
theorem dL_areSums_67 : decode cL_areSums 67 = .ok (.ifCond .eq 127, 3) := by decide +kernel
theorem dL_areSums_70 : decode cL_areSums 70 = .ok (.iload 6, 2) := by decide +kernel
theorem dL_areSums_72 : decode cL_areSums 72 = .ok (.ifCond .lt 122, 3) := by decide +kernel
theorem dL_areSums_75 : decode cL_areSums 75 = .ok (.iload 7, 2) := by decide +kernel
theorem dL_areSums_77 : decode cL_areSums 77 = .ok (.ifCond .lt 117, 3) := by decide +kernel
theorem dL_areSums_80 : decode cL_areSums 80 = .ok (.iload 6, 2) := by decide +kernel
theorem dL_areSums_82 : decode cL_areSums 82 = .ok (.bipush 7, 2) := by decide +kernel
theorem dL_areSums_84 : decode cL_areSums 84 = .ok (.if_icmp .ge 110, 3) := by decide +kernel
theorem dL_areSums_87 : decode cL_areSums 87 = .ok (.iload 7, 2) := by decide +kernel
theorem dL_areSums_89 : decode cL_areSums 89 = .ok (.bipush 7, 2) := by decide +kernel
theorem dL_areSums_91 : decode cL_areSums 91 = .ok (.if_icmp .ge 103, 3) := by decide +kernel
theorem dL_areSums_94 : decode cL_areSums 94 = .ok (.iload 8, 2) := by decide +kernel
theorem dL_areSums_96 : decode cL_areSums 96 = .ok (.ifCond .gt 35, 3) := by decide +kernel
theorem dL_areSums_99 : decode cL_areSums 99 = .ok (.aload_n 0, 1) := by decide +kernel
theorem dL_areSums_100 : decode cL_areSums 100 = .ok (.iload 5, 2) := by decide +kernel
theorem dL_areSums_102 : decode cL_areSums 102 = .ok (.iconst 3, 1) := by decide +kernel
theorem dL_areSums_103 : decode cL_areSums 103 = .ok (.invokevirtual 54, 3) := by decide +kernel
theorem dL_areSums_106 : decode cL_areSums 106 = .ok (.iconst (-1), 1) := by decide +kernel
theorem dL_areSums_107 : decode cL_areSums 107 = .ok (.if_icmp .ne 87, 3) := by decide +kernel
theorem dL_areSums_110 : decode cL_areSums 110 = .ok (.aload_n 0, 1) := by decide +kernel
theorem dL_areSums_111 : decode cL_areSums 111 = .ok (.iload 5, 2) := by decide +kernel
theorem dL_areSums_113 : decode cL_areSums 113 = .ok (.iconst 4, 1) := by decide +kernel
theorem dL_areSums_114 : decode cL_areSums 114 = .ok (.invokevirtual 54, 3) := by decide +kernel
theorem dL_areSums_117 : decode cL_areSums 117 = .ok (.ifCond .ne 77, 3) := by decide +kernel
theorem dL_areSums_120 : decode cL_areSums 120 = .ok (.aload_n 0, 1) := by decide +kernel
theorem dL_areSums_121 : decode cL_areSums 121 = .ok (.iload 5, 2) := by decide +kernel
theorem dL_areSums_123 : decode cL_areSums 123 = .ok (.bipush 6, 2) := by decide +kernel
theorem dL_areSums_125 : decode cL_areSums 125 = .ok (.invokevirtual 54, 3) := by decide +kernel
theorem dL_areSums_128 : decode cL_areSums 128 = .ok (.ifCond .ne 66, 3) := by decide +kernel
theorem dL_areSums_131 : decode cL_areSums 131 = .ok (.iload 8, 2) := by decide +kernel
theorem dL_areSums_133 : decode cL_areSums 133 = .ok (.ifCond .eq 28, 3) := by decide +kernel
theorem dL_areSums_136 : decode cL_areSums 136 = .ok (.aload_n 0, 1) := by decide +kernel
theorem dL_areSums_137 : decode cL_areSums 137 = .ok (.iload 5, 2) := by decide +kernel
theorem dL_areSums_139 : decode cL_areSums 139 = .ok (.iconst 3, 1) := by decide +kernel
theorem dL_areSums_140 : decode cL_areSums 140 = .ok (.invokevirtual 54, 3) := by decide +kernel
theorem dL_areSums_143 : decode cL_areSums 143 = .ok (.ifCond .lt 51, 3) := by decide +kernel
theorem dL_areSums_146 : decode cL_areSums 146 = .ok (.aload_n 0, 1) := by decide +kernel
theorem dL_areSums_147 : decode cL_areSums 147 = .ok (.iload 5, 2) := by decide +kernel
theorem dL_areSums_149 : decode cL_areSums 149 = .ok (.iconst 3, 1) := by decide +kernel
theorem dL_areSums_150 : decode cL_areSums 150 = .ok (.invokevirtual 54, 3) := by decide +kernel
theorem dL_areSums_153 : decode cL_areSums 153 = .ok (.aload_n 0, 1) := by decide +kernel
theorem dL_areSums_154 : decode cL_areSums 154 = .ok (.iconst 0, 1) := by decide +kernel
theorem dL_areSums_155 : decode cL_areSums 155 = .ok (.invokevirtual 51, 3) := by decide +kernel
theorem dL_areSums_158 : decode cL_areSums 158 = .ok (.if_icmp .ge 36, 3) := by decide +kernel
theorem dL_areSums_161 : decode cL_areSums 161 = .ok (.iload 8, 2) := by decide +kernel
theorem dL_areSums_163 : decode cL_areSums 163 = .ok (.iconst 2, 1) := by decide +kernel
theorem dL_areSums_164 : decode cL_areSums 164 = .ok (.if_icmp .ne 7, 3) := by decide +kernel
theorem dL_areSums_167 : decode cL_areSums 167 = .ok (.iconst 1, 1) := by decide +kernel
theorem dL_areSums_168 : decode cL_areSums 168 = .ok (.goto 4, 3) := by decide +kernel
theorem dL_areSums_171 : decode cL_areSums 171 = .ok (.iconst 0, 1) := by decide +kernel
theorem dL_areSums_172 : decode cL_areSums 172 = .ok (.aload_n 0, 1) := by decide +kernel
theorem dL_areSums_173 : decode cL_areSums 173 = .ok (.iload 5, 2) := by decide +kernel
theorem dL_areSums_175 : decode cL_areSums 175 = .ok (.iconst 5, 1) := by decide +kernel
theorem dL_areSums_176 : decode cL_areSums 176 = .ok (.invokevirtual 54, 3) := by decide +kernel
theorem dL_areSums_179 : decode cL_areSums 179 = .ok (.ifCond .lt 7, 3) := by decide +kernel
theorem dL_areSums_182 : decode cL_areSums 182 = .ok (.iconst 1, 1) := by decide +kernel
theorem dL_areSums_183 : decode cL_areSums 183 = .ok (.goto 4, 3) := by decide +kernel
theorem dL_areSums_186 : decode cL_areSums 186 = .ok (.iconst 0, 1) := by decide +kernel
theorem dL_areSums_187 : decode cL_areSums 187 = .ok (.if_icmp .ne 7, 3) := by decide +kernel
theorem dL_areSums_190 : decode cL_areSums 190 = .ok (.iconst 1, 1) := by decide +kernel
theorem dL_areSums_191 : decode cL_areSums 191 = .ok (.goto 4, 3) := by decide +kernel
theorem dL_areSums_194 : decode cL_areSums 194 = .ok (.iconst 0, 1) := by decide +kernel
theorem dL_areSums_195 : decode cL_areSums 195 = .ok (.istore 4, 2) := by decide +kernel
theorem dL_areSums_197 : decode cL_areSums 197 = .ok (.iinc 5 1, 3) := by decide +kernel
theorem dL_areSums_200 : decode cL_areSums 200 = .ok (.goto (-188), 3) := by decide +kernel
theorem dL_areSums_203 : decode cL_areSums 203 = .ok (.iconst 0, 1) := by decide +kernel
theorem dL_areSums_204 : decode cL_areSums 204 = .ok (.istore 5, 2) := by decide +kernel
theorem dL_areSums_206 : decode cL_areSums 206 = .ok (.iload 5, 2) := by decide +kernel
theorem dL_areSums_208 : decode cL_areSums 208 = .ok (.aload_n 0, 1) := by decide +kernel
theorem dL_areSums_209 : decode cL_areSums 209 = .ok (.iconst 0, 1) := by decide +kernel
theorem dL_areSums_210 : decode cL_areSums 210 = .ok (.invokevirtual 51, 3) := by decide +kernel
theorem dL_areSums_213 : decode cL_areSums 213 = .ok (.if_icmp .ge 193, 3) := by decide +kernel
theorem dL_areSums_216 : decode cL_areSums 216 = .ok (.iconst 0, 1) := by decide +kernel
theorem dL_areSums_217 : decode cL_areSums 217 = .ok (.istore 6, 2) := by decide +kernel
theorem dL_areSums_219 : decode cL_areSums 219 = .ok (.iconst 0, 1) := by decide +kernel
theorem dL_areSums_220 : decode cL_areSums 220 = .ok (.istore 7, 2) := by decide +kernel
theorem dL_areSums_222 : decode cL_areSums 222 = .ok (.iload 7, 2) := by decide +kernel
theorem dL_areSums_224 : decode cL_areSums 224 = .ok (.aload_n 0, 1) := by decide +kernel
theorem dL_areSums_225 : decode cL_areSums 225 = .ok (.iload 5, 2) := by decide +kernel
theorem dL_areSums_227 : decode cL_areSums 227 = .ok (.iconst 0, 1) := by decide +kernel
theorem dL_areSums_228 : decode cL_areSums 228 = .ok (.invokevirtual 63, 3) := by decide +kernel
theorem dL_areSums_231 : decode cL_areSums 231 = .ok (.if_icmp .ge 81, 3) := by decide +kernel
theorem dL_areSums_234 : decode cL_areSums 234 = .ok (.aload_n 0, 1) := by decide +kernel
theorem dL_areSums_235 : decode cL_areSums 235 = .ok (.iload 5, 2) := by decide +kernel
theorem dL_areSums_237 : decode cL_areSums 237 = .ok (.iload 7, 2) := by decide +kernel
theorem dL_areSums_239 : decode cL_areSums 239 = .ok (.invokevirtual 57, 3) := by decide +kernel
theorem dL_areSums_242 : decode cL_areSums 242 = .ok (.istore 8, 2) := by decide +kernel
theorem dL_areSums_244 : decode cL_areSums 244 = .ok (.iload_n 3, 1) := by decide +kernel
theorem dL_areSums_245 : decode cL_areSums 245 = .ok (.iconst 1, 1) := by decide +kernel
theorem dL_areSums_246 : decode cL_areSums 246 = .ok (.iload 8, 2) := by decide +kernel
theorem dL_areSums_248 : decode cL_areSums 248 = .ok (.ishl, 1) := by decide +kernel
theorem dL_areSums_249 : decode cL_areSums 249 = .ok (.ixor, 1) := by decide +kernel
theorem dL_areSums_250 : decode cL_areSums 250 = .ok (.istore_n 3, 1) := by decide +kernel
theorem dL_areSums_251 : decode cL_areSums 251 = .ok (.iload 6, 2) := by decide +kernel
theorem dL_areSums_253 : decode cL_areSums 253 = .ok (.aload_n 0, 1) := by decide +kernel
theorem dL_areSums_254 : decode cL_areSums 254 = .ok (.iload 8, 2) := by decide +kernel
theorem dL_areSums_256 : decode cL_areSums 256 = .ok (.iconst 0, 1) := by decide +kernel
theorem dL_areSums_257 : decode cL_areSums 257 = .ok (.invokevirtual 54, 3) := by decide +kernel
theorem dL_areSums_260 : decode cL_areSums 260 = .ok (.aload_n 0, 1) := by decide +kernel
theorem dL_areSums_261 : decode cL_areSums 261 = .ok (.iload 8, 2) := by decide +kernel
theorem dL_areSums_263 : decode cL_areSums 263 = .ok (.iconst 1, 1) := by decide +kernel
theorem dL_areSums_264 : decode cL_areSums 264 = .ok (.invokevirtual 54, 3) := by decide +kernel
theorem dL_areSums_267 : decode cL_areSums 267 = .ok (.iadd, 1) := by decide +kernel
theorem dL_areSums_268 : decode cL_areSums 268 = .ok (.iadd, 1) := by decide +kernel
theorem dL_areSums_269 : decode cL_areSums 269 = .ok (.istore 6, 2) := by decide +kernel
theorem dL_areSums_271 : decode cL_areSums 271 = .ok (.iload 4, 2) := by decide +kernel
theorem dL_areSums_273 : decode cL_areSums 273 = .ok (.ifCond .eq 30, 3) := by decide +kernel
theorem dL_areSums_276 : decode cL_areSums 276 = .ok (.aload_n 0, 1) := by decide +kernel
theorem dL_areSums_277 : decode cL_areSums 277 = .ok (.iload 8, 2) := by decide +kernel
theorem dL_areSums_279 : decode cL_areSums 279 = .ok (.iconst 2, 1) := by decide +kernel
theorem dL_areSums_280 : decode cL_areSums 280 = .ok (.invokevirtual 54, 3) := by decide +kernel
theorem dL_areSums_283 : decode cL_areSums 283 = .ok (.iconst 1, 1) := by decide +kernel
theorem dL_areSums_284 : decode cL_areSums 284 = .ok (.if_icmp .ne 19, 3) := by decide +kernel
theorem dL_areSums_287 : decode cL_areSums 287 = .ok (.aload_n 0, 1) := by decide +kernel
theorem dL_areSums_288 : decode cL_areSums 288 = .ok (.iload 8, 2) := by decide +kernel
theorem dL_areSums_290 : decode cL_areSums 290 = .ok (.iconst 3, 1) := by decide +kernel
theorem dL_areSums_291 : decode cL_areSums 291 = .ok (.invokevirtual 54, 3) := by decide +kernel
theorem dL_areSums_294 : decode cL_areSums 294 = .ok (.iload 5, 2) := by decide +kernel
theorem dL_areSums_296 : decode cL_areSums 296 = .ok (.if_icmp .ne 7, 3) := by decide +kernel
theorem dL_areSums_299 : decode cL_areSums 299 = .ok (.iconst 1, 1) := by decide +kernel
theorem dL_areSums_300 : decode cL_areSums 300 = .ok (.goto 4, 3) := by decide +kernel
theorem dL_areSums_303 : decode cL_areSums 303 = .ok (.iconst 0, 1) := by decide +kernel
theorem dL_areSums_304 : decode cL_areSums 304 = .ok (.istore 4, 2) := by decide +kernel
theorem dL_areSums_306 : decode cL_areSums 306 = .ok (.iinc 7 1, 3) := by decide +kernel
theorem dL_areSums_309 : decode cL_areSums 309 = .ok (.goto (-87), 3) := by decide +kernel
theorem dL_areSums_312 : decode cL_areSums 312 = .ok (.iload 4, 2) := by decide +kernel
theorem dL_areSums_314 : decode cL_areSums 314 = .ok (.ifCond .eq 83, 3) := by decide +kernel
theorem dL_areSums_317 : decode cL_areSums 317 = .ok (.iload 6, 2) := by decide +kernel
theorem dL_areSums_319 : decode cL_areSums 319 = .ok (.aload_n 0, 1) := by decide +kernel
theorem dL_areSums_320 : decode cL_areSums 320 = .ok (.iload 5, 2) := by decide +kernel
theorem dL_areSums_322 : decode cL_areSums 322 = .ok (.iconst 1, 1) := by decide +kernel
theorem dL_areSums_323 : decode cL_areSums 323 = .ok (.invokevirtual 63, 3) := by decide +kernel
theorem dL_areSums_326 : decode cL_areSums 326 = .ok (.if_icmp .ne 71, 3) := by decide +kernel
theorem dL_areSums_329 : decode cL_areSums 329 = .ok (.aload_n 0, 1) := by decide +kernel
theorem dL_areSums_330 : decode cL_areSums 330 = .ok (.iload 5, 2) := by decide +kernel
theorem dL_areSums_332 : decode cL_areSums 332 = .ok (.iconst 3, 1) := by decide +kernel
theorem dL_areSums_333 : decode cL_areSums 333 = .ok (.invokevirtual 63, 3) := by decide +kernel
theorem dL_areSums_336 : decode cL_areSums 336 = .ok (.iload 6, 2) := by decide +kernel
theorem dL_areSums_338 : decode cL_areSums 338 = .ok (.aload_n 0, 1) := by decide +kernel
theorem dL_areSums_339 : decode cL_areSums 339 = .ok (.iload 5, 2) := by decide +kernel
theorem dL_areSums_341 : decode cL_areSums 341 = .ok (.iconst 2, 1) := by decide +kernel
theorem dL_areSums_342 : decode cL_areSums 342 = .ok (.invokevirtual 63, 3) := by decide +kernel
theorem dL_areSums_345 : decode cL_areSums 345 = .ok (.iadd, 1) := by decide +kernel
theorem dL_areSums_346 : decode cL_areSums 346 = .ok (.if_icmp .ne 51, 3) := by decide +kernel
theorem dL_areSums_349 : decode cL_areSums 349 = .ok (.aload_n 0, 1) := by decide +kernel
theorem dL_areSums_350 : decode cL_areSums 350 = .ok (.iload 5, 2) := by decide +kernel
theorem dL_areSums_352 : decode cL_areSums 352 = .ok (.iconst 0, 1) := by decide +kernel
theorem dL_areSums_353 : decode cL_areSums 353 = .ok (.invokevirtual 63, 3) := by decide +kernel
theorem dL_areSums_356 : decode cL_areSums 356 = .ok (.iconst 5, 1) := by decide +kernel
theorem dL_areSums_357 : decode cL_areSums 357 = .ok (.aload_n 0, 1) := by decide +kernel
theorem dL_areSums_358 : decode cL_areSums 358 = .ok (.iload 5, 2) := by decide +kernel
theorem dL_areSums_360 : decode cL_areSums 360 = .ok (.iconst 5, 1) := by decide +kernel
theorem dL_areSums_361 : decode cL_areSums 361 = .ok (.invokevirtual 63, 3) := by decide +kernel
theorem dL_areSums_364 : decode cL_areSums 364 = .ok (.iadd, 1) := by decide +kernel
theorem dL_areSums_365 : decode cL_areSums 365 = .ok (.aload_n 0, 1) := by decide +kernel
theorem dL_areSums_366 : decode cL_areSums 366 = .ok (.iload 5, 2) := by decide +kernel
theorem dL_areSums_368 : decode cL_areSums 368 = .ok (.iconst 4, 1) := by decide +kernel
theorem dL_areSums_369 : decode cL_areSums 369 = .ok (.invokevirtual 63, 3) := by decide +kernel
theorem dL_areSums_372 : decode cL_areSums 372 = .ok (.isub, 1) := by decide +kernel
theorem dL_areSums_373 : decode cL_areSums 373 = .ok (.if_icmp .ne 24, 3) := by decide +kernel
theorem dL_areSums_376 : decode cL_areSums 376 = .ok (.aload_n 0, 1) := by decide +kernel
theorem dL_areSums_377 : decode cL_areSums 377 = .ok (.iload 5, 2) := by decide +kernel
theorem dL_areSums_379 : decode cL_areSums 379 = .ok (.aload_n 0, 1) := by decide +kernel
theorem dL_areSums_380 : decode cL_areSums 380 = .ok (.iload 5, 2) := by decide +kernel
theorem dL_areSums_382 : decode cL_areSums 382 = .ok (.iconst 0, 1) := by decide +kernel
theorem dL_areSums_383 : decode cL_areSums 383 = .ok (.invokevirtual 63, 3) := by decide +kernel
theorem dL_areSums_386 : decode cL_areSums 386 = .ok (.invokevirtual 57, 3) := by decide +kernel
theorem dL_areSums_389 : decode cL_areSums 389 = .ok (.iconst (-1), 1) := by decide +kernel
theorem dL_areSums_390 : decode cL_areSums 390 = .ok (.if_icmp .ne 7, 3) := by decide +kernel
theorem dL_areSums_393 : decode cL_areSums 393 = .ok (.iconst 1, 1) := by decide +kernel
theorem dL_areSums_394 : decode cL_areSums 394 = .ok (.goto 4, 3) := by decide +kernel
theorem dL_areSums_397 : decode cL_areSums 397 = .ok (.iconst 0, 1) := by decide +kernel
theorem dL_areSums_398 : decode cL_areSums 398 = .ok (.istore 4, 2) := by decide +kernel
theorem dL_areSums_400 : decode cL_areSums 400 = .ok (.iinc 5 1, 3) := by decide +kernel
theorem dL_areSums_403 : decode cL_areSums 403 = .ok (.goto (-197), 3) := by decide +kernel
theorem dL_areSums_406 : decode cL_areSums 406 = .ok (.iconst 0, 1) := by decide +kernel
theorem dL_areSums_407 : decode cL_areSums 407 = .ok (.istore 5, 2) := by decide +kernel
theorem dL_areSums_409 : decode cL_areSums 409 = .ok (.iload 5, 2) := by decide +kernel
theorem dL_areSums_411 : decode cL_areSums 411 = .ok (.aload_n 0, 1) := by decide +kernel
theorem dL_areSums_412 : decode cL_areSums 412 = .ok (.iconst 2, 1) := by decide +kernel
theorem dL_areSums_413 : decode cL_areSums 413 = .ok (.invokevirtual 51, 3) := by decide +kernel
theorem dL_areSums_416 : decode cL_areSums 416 = .ok (.if_icmp .ge 46, 3) := by decide +kernel
theorem dL_areSums_419 : decode cL_areSums 419 = .ok (.iload_n 3, 1) := by decide +kernel
theorem dL_areSums_420 : decode cL_areSums 420 = .ok (.iconst 1, 1) := by decide +kernel
theorem dL_areSums_421 : decode cL_areSums 421 = .ok (.aload_n 0, 1) := by decide +kernel
theorem dL_areSums_422 : decode cL_areSums 422 = .ok (.iload 5, 2) := by decide +kernel
theorem dL_areSums_424 : decode cL_areSums 424 = .ok (.invokevirtual 66, 3) := by decide +kernel
theorem dL_areSums_427 : decode cL_areSums 427 = .ok (.ishl, 1) := by decide +kernel
theorem dL_areSums_428 : decode cL_areSums 428 = .ok (.ixor, 1) := by decide +kernel
theorem dL_areSums_429 : decode cL_areSums 429 = .ok (.istore_n 3, 1) := by decide +kernel
theorem dL_areSums_430 : decode cL_areSums 430 = .ok (.iload 4, 2) := by decide +kernel
theorem dL_areSums_432 : decode cL_areSums 432 = .ok (.ifCond .eq 21, 3) := by decide +kernel
theorem dL_areSums_435 : decode cL_areSums 435 = .ok (.aload_n 0, 1) := by decide +kernel
theorem dL_areSums_436 : decode cL_areSums 436 = .ok (.aload_n 0, 1) := by decide +kernel
theorem dL_areSums_437 : decode cL_areSums 437 = .ok (.iload 5, 2) := by decide +kernel
theorem dL_areSums_439 : decode cL_areSums 439 = .ok (.invokevirtual 66, 3) := by decide +kernel
theorem dL_areSums_442 : decode cL_areSums 442 = .ok (.iconst 2, 1) := by decide +kernel
theorem dL_areSums_443 : decode cL_areSums 443 = .ok (.invokevirtual 54, 3) := by decide +kernel
theorem dL_areSums_446 : decode cL_areSums 446 = .ok (.ifCond .ne 7, 3) := by decide +kernel
theorem dL_areSums_449 : decode cL_areSums 449 = .ok (.iconst 1, 1) := by decide +kernel
theorem dL_areSums_450 : decode cL_areSums 450 = .ok (.goto 4, 3) := by decide +kernel
theorem dL_areSums_453 : decode cL_areSums 453 = .ok (.iconst 0, 1) := by decide +kernel
theorem dL_areSums_454 : decode cL_areSums 454 = .ok (.istore 4, 2) := by decide +kernel
theorem dL_areSums_456 : decode cL_areSums 456 = .ok (.iinc 5 1, 3) := by decide +kernel
theorem dL_areSums_459 : decode cL_areSums 459 = .ok (.goto (-50), 3) := by decide +kernel
theorem dL_areSums_462 : decode cL_areSums 462 = .ok (.iconst 0, 1) := by decide +kernel
theorem dL_areSums_463 : decode cL_areSums 463 = .ok (.istore 5, 2) := by decide +kernel
theorem dL_areSums_465 : decode cL_areSums 465 = .ok (.iload 5, 2) := by decide +kernel
theorem dL_areSums_467 : decode cL_areSums 467 = .ok (.bipush 28, 2) := by decide +kernel
theorem dL_areSums_469 : decode cL_areSums 469 = .ok (.if_icmp .ge 31, 3) := by decide +kernel
theorem dL_areSums_472 : decode cL_areSums 472 = .ok (.iload_n 3, 1) := by decide +kernel
theorem dL_areSums_473 : decode cL_areSums 473 = .ok (.aload_n 0, 1) := by decide +kernel
theorem dL_areSums_474 : decode cL_areSums 474 = .ok (.iload 5, 2) := by decide +kernel
theorem dL_areSums_476 : decode cL_areSums 476 = .ok (.iconst 2, 1) := by decide +kernel
theorem dL_areSums_477 : decode cL_areSums 477 = .ok (.invokevirtual 54, 3) := by decide +kernel
theorem dL_areSums_480 : decode cL_areSums 480 = .ok (.iconst 2, 1) := by decide +kernel
theorem dL_areSums_481 : decode cL_areSums 481 = .ok (.if_icmp .ne 10, 3) := by decide +kernel
theorem dL_areSums_484 : decode cL_areSums 484 = .ok (.iconst 1, 1) := by decide +kernel
theorem dL_areSums_485 : decode cL_areSums 485 = .ok (.iload 5, 2) := by decide +kernel
theorem dL_areSums_487 : decode cL_areSums 487 = .ok (.ishl, 1) := by decide +kernel
theorem dL_areSums_488 : decode cL_areSums 488 = .ok (.goto 4, 3) := by decide +kernel
theorem dL_areSums_491 : decode cL_areSums 491 = .ok (.iconst 0, 1) := by decide +kernel
theorem dL_areSums_492 : decode cL_areSums 492 = .ok (.ixor, 1) := by decide +kernel
theorem dL_areSums_493 : decode cL_areSums 493 = .ok (.istore_n 3, 1) := by decide +kernel
theorem dL_areSums_494 : decode cL_areSums 494 = .ok (.iinc 5 1, 3) := by decide +kernel
theorem dL_areSums_497 : decode cL_areSums 497 = .ok (.goto (-32), 3) := by decide +kernel
theorem dL_areSums_500 : decode cL_areSums 500 = .ok (.aload_n 0, 1) := by decide +kernel
theorem dL_areSums_501 : decode cL_areSums 501 = .ok (.iconst 0, 1) := by decide +kernel
theorem dL_areSums_502 : decode cL_areSums 502 = .ok (.iconst 0, 1) := by decide +kernel
theorem dL_areSums_503 : decode cL_areSums 503 = .ok (.invokevirtual 60, 3) := by decide +kernel
theorem dL_areSums_506 : decode cL_areSums 506 = .ok (.aload_n 0, 1) := by decide +kernel
theorem dL_areSums_507 : decode cL_areSums 507 = .ok (.iconst 1, 1) := by decide +kernel
theorem dL_areSums_508 : decode cL_areSums 508 = .ok (.iconst 0, 1) := by decide +kernel
theorem dL_areSums_509 : decode cL_areSums 509 = .ok (.invokevirtual 60, 3) := by decide +kernel
theorem dL_areSums_512 : decode cL_areSums 512 = .ok (.iadd, 1) := by decide +kernel
theorem dL_areSums_513 : decode cL_areSums 513 = .ok (.aload_n 0, 1) := by decide +kernel
theorem dL_areSums_514 : decode cL_areSums 514 = .ok (.iconst 2, 1) := by decide +kernel
theorem dL_areSums_515 : decode cL_areSums 515 = .ok (.iconst 0, 1) := by decide +kernel
theorem dL_areSums_516 : decode cL_areSums 516 = .ok (.invokevirtual 60, 3) := by decide +kernel
theorem dL_areSums_519 : decode cL_areSums 519 = .ok (.iadd, 1) := by decide +kernel
theorem dL_areSums_520 : decode cL_areSums 520 = .ok (.istore 5, 2) := by decide +kernel
theorem dL_areSums_522 : decode cL_areSums 522 = .ok (.iload 4, 2) := by decide +kernel
theorem dL_areSums_524 : decode cL_areSums 524 = .ok (.ifCond .eq 78, 3) := by decide +kernel
theorem dL_areSums_527 : decode cL_areSums 527 = .ok (.iload_n 3, 1) := by decide +kernel
theorem dL_areSums_528 : decode cL_areSums 528 = .ok (.ldc 69, 2) := by decide +kernel
theorem dL_areSums_530 : decode cL_areSums 530 = .ok (.if_icmp .ne 72, 3) := by decide +kernel
theorem dL_areSums_533 : decode cL_areSums 533 = .ok (.iload_n 1, 1) := by decide +kernel
theorem dL_areSums_534 : decode cL_areSums 534 = .ok (.iload_n 2, 1) := by decide +kernel
theorem dL_areSums_535 : decode cL_areSums 535 = .ok (.iadd, 1) := by decide +kernel
theorem dL_areSums_536 : decode cL_areSums 536 = .ok (.sipush 168, 3) := by decide +kernel
theorem dL_areSums_539 : decode cL_areSums 539 = .ok (.if_icmp .ne 63, 3) := by decide +kernel
theorem dL_areSums_542 : decode cL_areSums 542 = .ok (.iload_n 2, 1) := by decide +kernel
theorem dL_areSums_543 : decode cL_areSums 543 = .ok (.aload_n 0, 1) := by decide +kernel
theorem dL_areSums_544 : decode cL_areSums 544 = .ok (.bipush 7, 2) := by decide +kernel
theorem dL_areSums_546 : decode cL_areSums 546 = .ok (.invokevirtual 51, 3) := by decide +kernel
theorem dL_areSums_549 : decode cL_areSums 549 = .ok (.if_icmp .ne 53, 3) := by decide +kernel
theorem dL_areSums_552 : decode cL_areSums 552 = .ok (.aload_n 0, 1) := by decide +kernel
theorem dL_areSums_553 : decode cL_areSums 553 = .ok (.invokevirtual 70, 3) := by decide +kernel
theorem dL_areSums_556 : decode cL_areSums 556 = .ok (.iload_n 2, 1) := by decide +kernel
theorem dL_areSums_557 : decode cL_areSums 557 = .ok (.i2d, 1) := by decide +kernel
theorem dL_areSums_558 : decode cL_areSums 558 = .ok (.ldc2_w 74, 3) := by decide +kernel
theorem dL_areSums_561 : decode cL_areSums 561 = .ok (.ddiv, 1) := by decide +kernel
theorem dL_areSums_562 : decode cL_areSums 562 = .ok (.dcmp .l, 1) := by decide +kernel
theorem dL_areSums_563 : decode cL_areSums 563 = .ok (.ifCond .ne 39, 3) := by decide +kernel
theorem dL_areSums_566 : decode cL_areSums 566 = .ok (.aload_n 0, 1) := by decide +kernel
theorem dL_areSums_567 : decode cL_areSums 567 = .ok (.iconst 2, 1) := by decide +kernel
theorem dL_areSums_568 : decode cL_areSums 568 = .ok (.invokevirtual 51, 3) := by decide +kernel
theorem dL_areSums_571 : decode cL_areSums 571 = .ok (.aload_n 0, 1) := by decide +kernel
theorem dL_areSums_572 : decode cL_areSums 572 = .ok (.iconst 3, 1) := by decide +kernel
theorem dL_areSums_573 : decode cL_areSums 573 = .ok (.invokevirtual 51, 3) := by decide +kernel
theorem dL_areSums_576 : decode cL_areSums 576 = .ok (.iadd, 1) := by decide +kernel
theorem dL_areSums_577 : decode cL_areSums 577 = .ok (.aload_n 0, 1) := by decide +kernel
theorem dL_areSums_578 : decode cL_areSums 578 = .ok (.iconst 4, 1) := by decide +kernel
theorem dL_areSums_579 : decode cL_areSums 579 = .ok (.invokevirtual 51, 3) := by decide +kernel
theorem dL_areSums_582 : decode cL_areSums 582 = .ok (.iadd, 1) := by decide +kernel
theorem dL_areSums_583 : decode cL_areSums 583 = .ok (.bipush 28, 2) := by decide +kernel
theorem dL_areSums_585 : decode cL_areSums 585 = .ok (.if_icmp .ne 17, 3) := by decide +kernel
theorem dL_areSums_588 : decode cL_areSums 588 = .ok (.iload 5, 2) := by decide +kernel
theorem dL_areSums_590 : decode cL_areSums 590 = .ok (.aload_n 0, 1) := by decide +kernel
theorem dL_areSums_591 : decode cL_areSums 591 = .ok (.iconst 4, 1) := by decide +kernel
theorem dL_areSums_592 : decode cL_areSums 592 = .ok (.invokevirtual 51, 3) := by decide +kernel
theorem dL_areSums_595 : decode cL_areSums 595 = .ok (.if_icmp .ne 7, 3) := by decide +kernel
theorem dL_areSums_598 : decode cL_areSums 598 = .ok (.iconst 1, 1) := by decide +kernel
theorem dL_areSums_599 : decode cL_areSums 599 = .ok (.goto 4, 3) := by decide +kernel
theorem dL_areSums_602 : decode cL_areSums 602 = .ok (.iconst 0, 1) := by decide +kernel
theorem dL_areSums_603 : decode cL_areSums 603 = .ok (.istore 4, 2) := by decide +kernel
theorem dL_areSums_605 : decode cL_areSums 605 = .ok (.iload 4, 2) := by decide +kernel
theorem dL_areSums_607 : decode cL_areSums 607 = .ok (.ifCond .eq 83, 3) := by decide +kernel
theorem dL_areSums_610 : decode cL_areSums 610 = .ok (.aload_n 0, 1) := by decide +kernel
theorem dL_areSums_611 : decode cL_areSums 611 = .ok (.bipush 6, 2) := by decide +kernel
theorem dL_areSums_613 : decode cL_areSums 613 = .ok (.invokevirtual 51, 3) := by decide +kernel
theorem dL_areSums_616 : decode cL_areSums 616 = .ok (.aload_n 0, 1) := by decide +kernel
theorem dL_areSums_617 : decode cL_areSums 617 = .ok (.iconst 5, 1) := by decide +kernel
theorem dL_areSums_618 : decode cL_areSums 618 = .ok (.invokevirtual 51, 3) := by decide +kernel
theorem dL_areSums_621 : decode cL_areSums 621 = .ok (.if_icmp .gt 69, 3) := by decide +kernel
theorem dL_areSums_624 : decode cL_areSums 624 = .ok (.aload_n 0, 1) := by decide +kernel
theorem dL_areSums_625 : decode cL_areSums 625 = .ok (.bipush 6, 2) := by decide +kernel
theorem dL_areSums_627 : decode cL_areSums 627 = .ok (.invokevirtual 51, 3) := by decide +kernel
theorem dL_areSums_630 : decode cL_areSums 630 = .ok (.aload_n 0, 1) := by decide +kernel
theorem dL_areSums_631 : decode cL_areSums 631 = .ok (.iconst 0, 1) := by decide +kernel
theorem dL_areSums_632 : decode cL_areSums 632 = .ok (.invokevirtual 51, 3) := by decide +kernel
theorem dL_areSums_635 : decode cL_areSums 635 = .ok (.if_icmp .gt 55, 3) := by decide +kernel
theorem dL_areSums_638 : decode cL_areSums 638 = .ok (.aload_n 0, 1) := by decide +kernel
theorem dL_areSums_639 : decode cL_areSums 639 = .ok (.bipush 6, 2) := by decide +kernel
theorem dL_areSums_641 : decode cL_areSums 641 = .ok (.invokevirtual 51, 3) := by decide +kernel
theorem dL_areSums_644 : decode cL_areSums 644 = .ok (.ifCond .eq 11, 3) := by decide +kernel
theorem dL_areSums_647 : decode cL_areSums 647 = .ok (.aload_n 0, 1) := by decide +kernel
theorem dL_areSums_648 : decode cL_areSums 648 = .ok (.iconst 2, 1) := by decide +kernel
theorem dL_areSums_649 : decode cL_areSums 649 = .ok (.invokevirtual 51, 3) := by decide +kernel
theorem dL_areSums_652 : decode cL_areSums 652 = .ok (.ifCond .ne 38, 3) := by decide +kernel
theorem dL_areSums_655 : decode cL_areSums 655 = .ok (.aload_n 0, 1) := by decide +kernel
theorem dL_areSums_656 : decode cL_areSums 656 = .ok (.bipush 8, 2) := by decide +kernel
theorem dL_areSums_658 : decode cL_areSums 658 = .ok (.invokevirtual 51, 3) := by decide +kernel
theorem dL_areSums_661 : decode cL_areSums 661 = .ok (.iconst (-1), 1) := by decide +kernel
theorem dL_areSums_662 : decode cL_areSums 662 = .ok (.if_icmp .ne 7, 3) := by decide +kernel
theorem dL_areSums_665 : decode cL_areSums 665 = .ok (.iconst 1, 1) := by decide +kernel
theorem dL_areSums_666 : decode cL_areSums 666 = .ok (.goto 4, 3) := by decide +kernel
theorem dL_areSums_669 : decode cL_areSums 669 = .ok (.iconst 0, 1) := by decide +kernel
theorem dL_areSums_670 : decode cL_areSums 670 = .ok (.aload_n 0, 1) := by decide +kernel
theorem dL_areSums_671 : decode cL_areSums 671 = .ok (.iconst 1, 1) := by decide +kernel
theorem dL_areSums_672 : decode cL_areSums 672 = .ok (.invokevirtual 51, 3) := by decide +kernel
theorem dL_areSums_675 : decode cL_areSums 675 = .ok (.ifCond .lt 7, 3) := by decide +kernel
theorem dL_areSums_678 : decode cL_areSums 678 = .ok (.iconst 1, 1) := by decide +kernel
theorem dL_areSums_679 : decode cL_areSums 679 = .ok (.goto 4, 3) := by decide +kernel
theorem dL_areSums_682 : decode cL_areSums 682 = .ok (.iconst 0, 1) := by decide +kernel
theorem dL_areSums_683 : decode cL_areSums 683 = .ok (.if_icmp .ne 7, 3) := by decide +kernel
theorem dL_areSums_686 : decode cL_areSums 686 = .ok (.iconst 1, 1) := by decide +kernel
theorem dL_areSums_687 : decode cL_areSums 687 = .ok (.goto 4, 3) := by decide +kernel
theorem dL_areSums_690 : decode cL_areSums 690 = .ok (.iconst 0, 1) := by decide +kernel
theorem dL_areSums_691 : decode cL_areSums 691 = .ok (.ireturn, 1) := by decide +kernel
theorem dL_isMoveSo_0 : decode cL_isMoveSo 0 = .ok (.aload_n 0, 1) := by decide +kernel
theorem dL_isMoveSo_1 : decode cL_isMoveSo 1 = .ok (.iconst 1, 1) := by decide +kernel
theorem dL_isMoveSo_2 : decode cL_isMoveSo 2 = .ok (.invokevirtual 51, 3) := by decide +kernel
theorem dL_isMoveSo_5 : decode cL_isMoveSo 5 = .ok (.istore_n 1, 1) := by decide +kernel
theorem dL_isMoveSo_6 : decode cL_isMoveSo 6 = .ok (.iconst 0, 1) := by decide +kernel
theorem dL_isMoveSo_7 : decode cL_isMoveSo 7 = .ok (.istore_n 2, 1) := by decide +kernel
theorem dL_isMoveSo_8 : decode cL_isMoveSo 8 = .ok (.iconst 1, 1) := by decide +kernel
theorem dL_isMoveSo_9 : decode cL_isMoveSo 9 = .ok (.istore_n 3, 1) := by decide +kernel
theorem dL_isMoveSo_10 : decode cL_isMoveSo 10 = .ok (.iconst 0, 1) := by decide +kernel
theorem dL_isMoveSo_11 : decode cL_isMoveSo 11 = .ok (.istore 4, 2) := by decide +kernel
theorem dL_isMoveSo_13 : decode cL_isMoveSo 13 = .ok (.iconst 0, 1) := by decide +kernel
theorem dL_isMoveSo_14 : decode cL_isMoveSo 14 = .ok (.istore 5, 2) := by decide +kernel
theorem dL_isMoveSo_16 : decode cL_isMoveSo 16 = .ok (.iload 5, 2) := by decide +kernel
theorem dL_isMoveSo_18 : decode cL_isMoveSo 18 = .ok (.iconst 3, 1) := by decide +kernel
theorem dL_isMoveSo_19 : decode cL_isMoveSo 19 = .ok (.if_icmp .ge 235, 3) := by decide +kernel
theorem dL_isMoveSo_22 : decode cL_isMoveSo 22 = .ok (.iconst 0, 1) := by decide +kernel
theorem dL_isMoveSo_23 : decode cL_isMoveSo 23 = .ok (.istore 6, 2) := by decide +kernel
theorem dL_isMoveSo_25 : decode cL_isMoveSo 25 = .ok (.iload 6, 2) := by decide +kernel
theorem dL_isMoveSo_27 : decode cL_isMoveSo 27 = .ok (.iconst 2, 1) := by decide +kernel
theorem dL_isMoveSo_28 : decode cL_isMoveSo 28 = .ok (.if_icmp .ge 220, 3) := by decide +kernel
theorem dL_isMoveSo_31 : decode cL_isMoveSo 31 = .ok (.iconst 0, 1) := by decide +kernel
theorem dL_isMoveSo_32 : decode cL_isMoveSo 32 = .ok (.istore 7, 2) := by decide +kernel
theorem dL_isMoveSo_34 : decode cL_isMoveSo 34 = .ok (.aload_n 0, 1) := by decide +kernel
theorem dL_isMoveSo_35 : decode cL_isMoveSo 35 = .ok (.iload 5, 2) := by decide +kernel
theorem dL_isMoveSo_37 : decode cL_isMoveSo 37 = .ok (.iconst 1, 1) := by decide +kernel
theorem dL_isMoveSo_38 : decode cL_isMoveSo 38 = .ok (.iload 6, 2) := by decide +kernel
theorem dL_isMoveSo_40 : decode cL_isMoveSo 40 = .ok (.iadd, 1) := by decide +kernel
theorem dL_isMoveSo_41 : decode cL_isMoveSo 41 = .ok (.invokevirtual 60, 3) := by decide +kernel
theorem dL_isMoveSo_44 : decode cL_isMoveSo 44 = .ok (.istore 8, 2) := by decide +kernel
theorem dL_isMoveSo_46 : decode cL_isMoveSo 46 = .ok (.iconst 0, 1) := by decide +kernel
theorem dL_isMoveSo_47 : decode cL_isMoveSo 47 = .ok (.istore 9, 2) := by decide +kernel
theorem dL_isMoveSo_49 : decode cL_isMoveSo 49 = .ok (.iload_n 1, 1) := by decide +kernel
theorem dL_isMoveSo_50 : decode cL_isMoveSo 50 = .ok (.ifCond .lt 120, 3) := by decide +kernel
theorem dL_isMoveSo_53 : decode cL_isMoveSo 53 = .ok (.iload 9, 2) := by decide +kernel
theorem dL_isMoveSo_55 : decode cL_isMoveSo 55 = .ok (.aload_n 0, 1) := by decide +kernel
theorem dL_isMoveSo_56 : decode cL_isMoveSo 56 = .ok (.iload_n 1, 1) := by decide +kernel
theorem dL_isMoveSo_57 : decode cL_isMoveSo 57 = .ok (.iconst 0, 1) := by decide +kernel
theorem dL_isMoveSo_58 : decode cL_isMoveSo 58 = .ok (.invokevirtual 63, 3) := by decide +kernel
theorem dL_isMoveSo_61 : decode cL_isMoveSo 61 = .ok (.if_icmp .ge 109, 3) := by decide +kernel
theorem dL_isMoveSo_64 : decode cL_isMoveSo 64 = .ok (.aload_n 0, 1) := by decide +kernel
theorem dL_isMoveSo_65 : decode cL_isMoveSo 65 = .ok (.iload_n 1, 1) := by decide +kernel
theorem dL_isMoveSo_66 : decode cL_isMoveSo 66 = .ok (.iload 9, 2) := by decide +kernel
theorem dL_isMoveSo_68 : decode cL_isMoveSo 68 = .ok (.invokevirtual 57, 3) := by decide +kernel
theorem dL_isMoveSo_71 : decode cL_isMoveSo 71 = .ok (.istore 10, 2) := by decide +kernel
theorem dL_isMoveSo_73 : decode cL_isMoveSo 73 = .ok (.aload_n 0, 1) := by decide +kernel
theorem dL_isMoveSo_74 : decode cL_isMoveSo 74 = .ok (.iload 5, 2) := by decide +kernel
theorem dL_isMoveSo_76 : decode cL_isMoveSo 76 = .ok (.iconst 0, 1) := by decide +kernel
theorem dL_isMoveSo_77 : decode cL_isMoveSo 77 = .ok (.invokevirtual 60, 3) := by decide +kernel
theorem dL_isMoveSo_80 : decode cL_isMoveSo 80 = .ok (.ifCond .eq 27, 3) := by decide +kernel
theorem dL_isMoveSo_83 : decode cL_isMoveSo 83 = .ok (.aload_n 0, 1) := by decide +kernel
theorem dL_isMoveSo_84 : decode cL_isMoveSo 84 = .ok (.iload 10, 2) := by decide +kernel
theorem dL_isMoveSo_86 : decode cL_isMoveSo 86 = .ok (.iconst 0, 1) := by decide +kernel
theorem dL_isMoveSo_87 : decode cL_isMoveSo 87 = .ok (.invokevirtual 54, 3) := by decide +kernel
theorem dL_isMoveSo_90 : decode cL_isMoveSo 90 = .ok (.iload 8, 2) := by decide +kernel
theorem dL_isMoveSo_92 : decode cL_isMoveSo 92 = .ok (.if_icmp .eq 15, 3) := by decide +kernel
theorem dL_isMoveSo_95 : decode cL_isMoveSo 95 = .ok (.aload_n 0, 1) := by decide +kernel
theorem dL_isMoveSo_96 : decode cL_isMoveSo 96 = .ok (.iload 10, 2) := by decide +kernel
theorem dL_isMoveSo_98 : decode cL_isMoveSo 98 = .ok (.iconst 1, 1) := by decide +kernel
theorem dL_isMoveSo_99 : decode cL_isMoveSo 99 = .ok (.invokevirtual 54, 3) := by decide +kernel
theorem dL_isMoveSo_102 : decode cL_isMoveSo 102 = .ok (.iload 8, 2) := by decide +kernel
theorem dL_isMoveSo_104 : decode cL_isMoveSo 104 = .ok (.if_icmp .ne 7, 3) := by decide +kernel
theorem dL_isMoveSo_107 : decode cL_isMoveSo 107 = .ok (.iconst 1, 1) := by decide +kernel
theorem dL_isMoveSo_108 : decode cL_isMoveSo 108 = .ok (.goto 4, 3) := by decide +kernel
theorem dL_isMoveSo_111 : decode cL_isMoveSo 111 = .ok (.iconst 0, 1) := by decide +kernel
theorem dL_isMoveSo_112 : decode cL_isMoveSo 112 = .ok (.istore 11, 2) := by decide +kernel
theorem dL_isMoveSo_114 : decode cL_isMoveSo 114 = .ok (.iload_n 3, 1) := by decide +kernel
theorem dL_isMoveSo_115 : decode cL_isMoveSo 115 = .ok (.ifCond .eq 30, 3) := by decide +kernel
theorem dL_isMoveSo_118 : decode cL_isMoveSo 118 = .ok (.aload_n 0, 1) := by decide +kernel
theorem dL_isMoveSo_119 : decode cL_isMoveSo 119 = .ok (.iload 9, 2) := by decide +kernel
theorem dL_isMoveSo_121 : decode cL_isMoveSo 121 = .ok (.iload 5, 2) := by decide +kernel
theorem dL_isMoveSo_123 : decode cL_isMoveSo 123 = .ok (.iload 6, 2) := by decide +kernel
theorem dL_isMoveSo_125 : decode cL_isMoveSo 125 = .ok (.invokevirtual 76, 3) := by decide +kernel
theorem dL_isMoveSo_128 : decode cL_isMoveSo 128 = .ok (.iload 11, 2) := by decide +kernel
theorem dL_isMoveSo_130 : decode cL_isMoveSo 130 = .ok (.ifCond .eq 7, 3) := by decide +kernel
theorem dL_isMoveSo_133 : decode cL_isMoveSo 133 = .ok (.iconst 0, 1) := by decide +kernel
theorem dL_isMoveSo_134 : decode cL_isMoveSo 134 = .ok (.goto 4, 3) := by decide +kernel
theorem dL_isMoveSo_137 : decode cL_isMoveSo 137 = .ok (.iconst 3, 1) := by decide +kernel
theorem dL_isMoveSo_138 : decode cL_isMoveSo 138 = .ok (.if_icmp .ne 7, 3) := by decide +kernel
theorem dL_isMoveSo_141 : decode cL_isMoveSo 141 = .ok (.iconst 1, 1) := by decide +kernel
theorem dL_isMoveSo_142 : decode cL_isMoveSo 142 = .ok (.goto 4, 3) := by decide +kernel
theorem dL_isMoveSo_145 : decode cL_isMoveSo 145 = .ok (.iconst 0, 1) := by decide +kernel
theorem dL_isMoveSo_146 : decode cL_isMoveSo 146 = .ok (.istore_n 3, 1) := by decide +kernel
theorem dL_isMoveSo_147 : decode cL_isMoveSo 147 = .ok (.iload 7, 2) := by decide +kernel
theorem dL_isMoveSo_149 : decode cL_isMoveSo 149 = .ok (.ifCond .ne 8, 3) := by decide +kernel
theorem dL_isMoveSo_152 : decode cL_isMoveSo 152 = .ok (.iload 11, 2) := by decide +kernel
theorem dL_isMoveSo_154 : decode cL_isMoveSo 154 = .ok (.ifCond .eq 7, 3) := by decide +kernel
theorem dL_isMoveSo_157 : decode cL_isMoveSo 157 = .ok (.iconst 1, 1) := by decide +kernel
theorem dL_isMoveSo_158 : decode cL_isMoveSo 158 = .ok (.goto 4, 3) := by decide +kernel
theorem dL_isMoveSo_161 : decode cL_isMoveSo 161 = .ok (.iconst 0, 1) := by decide +kernel
theorem dL_isMoveSo_162 : decode cL_isMoveSo 162 = .ok (.istore 7, 2) := by decide +kernel
theorem dL_isMoveSo_164 : decode cL_isMoveSo 164 = .ok (.iinc 9 1, 3) := by decide +kernel
theorem dL_isMoveSo_167 : decode cL_isMoveSo 167 = .ok (.goto (-118), 3) := by decide +kernel
theorem dL_isMoveSo_170 : decode cL_isMoveSo 170 = .ok (.iload_n 2, 1) := by decide +kernel
theorem dL_isMoveSo_171 : decode cL_isMoveSo 171 = .ok (.iload 7, 2) := by decide +kernel
theorem dL_isMoveSo_173 : decode cL_isMoveSo 173 = .ok (.ifCond .eq 22, 3) := by decide +kernel
theorem dL_isMoveSo_176 : decode cL_isMoveSo 176 = .ok (.iload 6, 2) := by decide +kernel
theorem dL_isMoveSo_178 : decode cL_isMoveSo 178 = .ok (.ifCond .eq 13, 3) := by decide +kernel
theorem dL_isMoveSo_181 : decode cL_isMoveSo 181 = .ok (.aload_n 0, 1) := by decide +kernel
theorem dL_isMoveSo_182 : decode cL_isMoveSo 182 = .ok (.iload 5, 2) := by decide +kernel
theorem dL_isMoveSo_184 : decode cL_isMoveSo 184 = .ok (.iconst 0, 1) := by decide +kernel
theorem dL_isMoveSo_185 : decode cL_isMoveSo 185 = .ok (.invokevirtual 60, 3) := by decide +kernel
theorem dL_isMoveSo_188 : decode cL_isMoveSo 188 = .ok (.ifCond .le 7, 3) := by decide +kernel
theorem dL_isMoveSo_191 : decode cL_isMoveSo 191 = .ok (.iconst 1, 1) := by decide +kernel
theorem dL_isMoveSo_192 : decode cL_isMoveSo 192 = .ok (.goto 4, 3) := by decide +kernel
theorem dL_isMoveSo_195 : decode cL_isMoveSo 195 = .ok (.iconst 0, 1) := by decide +kernel
theorem dL_isMoveSo_196 : decode cL_isMoveSo 196 = .ok (.iadd, 1) := by decide +kernel
theorem dL_isMoveSo_197 : decode cL_isMoveSo 197 = .ok (.istore_n 2, 1) := by decide +kernel
theorem dL_isMoveSo_198 : decode cL_isMoveSo 198 = .ok (.iload 4, 2) := by decide +kernel
theorem dL_isMoveSo_200 : decode cL_isMoveSo 200 = .ok (.ifCond .ne 8, 3) := by decide +kernel
theorem dL_isMoveSo_203 : decode cL_isMoveSo 203 = .ok (.iload 7, 2) := by decide +kernel
theorem dL_isMoveSo_205 : decode cL_isMoveSo 205 = .ok (.ifCond .eq 7, 3) := by decide +kernel
theorem dL_isMoveSo_208 : decode cL_isMoveSo 208 = .ok (.iconst 1, 1) := by decide +kernel
theorem dL_isMoveSo_209 : decode cL_isMoveSo 209 = .ok (.goto 4, 3) := by decide +kernel
theorem dL_isMoveSo_212 : decode cL_isMoveSo 212 = .ok (.iconst 0, 1) := by decide +kernel
theorem dL_isMoveSo_213 : decode cL_isMoveSo 213 = .ok (.istore 4, 2) := by decide +kernel
theorem dL_isMoveSo_215 : decode cL_isMoveSo 215 = .ok (.iload_n 3, 1) := by decide +kernel
theorem dL_isMoveSo_216 : decode cL_isMoveSo 216 = .ok (.ifCond .eq 24, 3) := by decide +kernel
theorem dL_isMoveSo_219 : decode cL_isMoveSo 219 = .ok (.iload_n 1, 1) := by decide +kernel
theorem dL_isMoveSo_220 : decode cL_isMoveSo 220 = .ok (.ifCond .ge 16, 3) := by decide +kernel
theorem dL_isMoveSo_223 : decode cL_isMoveSo 223 = .ok (.aload_n 0, 1) := by decide +kernel
theorem dL_isMoveSo_224 : decode cL_isMoveSo 224 = .ok (.iconst 0, 1) := by decide +kernel
theorem dL_isMoveSo_225 : decode cL_isMoveSo 225 = .ok (.iload 5, 2) := by decide +kernel
theorem dL_isMoveSo_227 : decode cL_isMoveSo 227 = .ok (.iload 6, 2) := by decide +kernel
theorem dL_isMoveSo_229 : decode cL_isMoveSo 229 = .ok (.invokevirtual 76, 3) := by decide +kernel
theorem dL_isMoveSo_232 : decode cL_isMoveSo 232 = .ok (.iconst 1, 1) := by decide +kernel
theorem dL_isMoveSo_233 : decode cL_isMoveSo 233 = .ok (.if_icmp .ne 7, 3) := by decide +kernel
theorem dL_isMoveSo_236 : decode cL_isMoveSo 236 = .ok (.iconst 1, 1) := by decide +kernel
theorem dL_isMoveSo_237 : decode cL_isMoveSo 237 = .ok (.goto 4, 3) := by decide +kernel
theorem dL_isMoveSo_240 : decode cL_isMoveSo 240 = .ok (.iconst 0, 1) := by decide +kernel
theorem dL_isMoveSo_241 : decode cL_isMoveSo 241 = .ok (.istore_n 3, 1) := by decide +kernel
theorem dL_isMoveSo_242 : decode cL_isMoveSo 242 = .ok (.iinc 6 1, 3) := by decide +kernel
theorem dL_isMoveSo_245 : decode cL_isMoveSo 245 = .ok (.goto (-220), 3) := by decide +kernel
theorem dL_isMoveSo_248 : decode cL_isMoveSo 248 = .ok (.iinc 5 1, 3) := by decide +kernel
theorem dL_isMoveSo_251 : decode cL_isMoveSo 251 = .ok (.goto (-235), 3) := by decide +kernel
theorem dL_isMoveSo_254 : decode cL_isMoveSo 254 = .ok (.iload_n 1, 1) := by decide +kernel
theorem dL_isMoveSo_255 : decode cL_isMoveSo 255 = .ok (.ifCond .lt 66, 3) := by decide +kernel
theorem dL_isMoveSo_258 : decode cL_isMoveSo 258 = .ok (.iload_n 3, 1) := by decide +kernel
theorem dL_isMoveSo_259 : decode cL_isMoveSo 259 = .ok (.ifCond .eq 60, 3) := by decide +kernel
theorem dL_isMoveSo_262 : decode cL_isMoveSo 262 = .ok (.iload_n 2, 1) := by decide +kernel
theorem dL_isMoveSo_263 : decode cL_isMoveSo 263 = .ok (.aload_n 0, 1) := by decide +kernel
theorem dL_isMoveSo_264 : decode cL_isMoveSo 264 = .ok (.iload_n 1, 1) := by decide +kernel
theorem dL_isMoveSo_265 : decode cL_isMoveSo 265 = .ok (.bipush 6, 2) := by decide +kernel
theorem dL_isMoveSo_267 : decode cL_isMoveSo 267 = .ok (.invokevirtual 63, 3) := by decide +kernel
theorem dL_isMoveSo_270 : decode cL_isMoveSo 270 = .ok (.if_icmp .ne 49, 3) := by decide +kernel
theorem dL_isMoveSo_273 : decode cL_isMoveSo 273 = .ok (.iload 4, 2) := by decide +kernel
theorem dL_isMoveSo_275 : decode cL_isMoveSo 275 = .ok (.aload_n 0, 1) := by decide +kernel
theorem dL_isMoveSo_276 : decode cL_isMoveSo 276 = .ok (.invokevirtual 45, 3) := by decide +kernel
theorem dL_isMoveSo_279 : decode cL_isMoveSo 279 = .ok (.ifCond .lt 7, 3) := by decide +kernel
theorem dL_isMoveSo_282 : decode cL_isMoveSo 282 = .ok (.iconst 1, 1) := by decide +kernel
theorem dL_isMoveSo_283 : decode cL_isMoveSo 283 = .ok (.goto 4, 3) := by decide +kernel
theorem dL_isMoveSo_286 : decode cL_isMoveSo 286 = .ok (.iconst 0, 1) := by decide +kernel
theorem dL_isMoveSo_287 : decode cL_isMoveSo 287 = .ok (.if_icmp .ne 32, 3) := by decide +kernel
theorem dL_isMoveSo_290 : decode cL_isMoveSo 290 = .ok (.aload_n 0, 1) := by decide +kernel
theorem dL_isMoveSo_291 : decode cL_isMoveSo 291 = .ok (.aload_n 0, 1) := by decide +kernel
theorem dL_isMoveSo_292 : decode cL_isMoveSo 292 = .ok (.iload_n 1, 1) := by decide +kernel
theorem dL_isMoveSo_293 : decode cL_isMoveSo 293 = .ok (.iconst 0, 1) := by decide +kernel
theorem dL_isMoveSo_294 : decode cL_isMoveSo 294 = .ok (.invokevirtual 63, 3) := by decide +kernel
theorem dL_isMoveSo_297 : decode cL_isMoveSo 297 = .ok (.iconst 0, 1) := by decide +kernel
theorem dL_isMoveSo_298 : decode cL_isMoveSo 298 = .ok (.iconst 0, 1) := by decide +kernel
theorem dL_isMoveSo_299 : decode cL_isMoveSo 299 = .ok (.invokevirtual 76, 3) := by decide +kernel
theorem dL_isMoveSo_302 : decode cL_isMoveSo 302 = .ok (.iconst 2, 1) := by decide +kernel
theorem dL_isMoveSo_303 : decode cL_isMoveSo 303 = .ok (.if_icmp .ne 16, 3) := by decide +kernel
theorem dL_isMoveSo_306 : decode cL_isMoveSo 306 = .ok (.aload_n 0, 1) := by decide +kernel
theorem dL_isMoveSo_307 : decode cL_isMoveSo 307 = .ok (.iload_n 1, 1) := by decide +kernel
theorem dL_isMoveSo_308 : decode cL_isMoveSo 308 = .ok (.iconst 0, 1) := by decide +kernel
theorem dL_isMoveSo_309 : decode cL_isMoveSo 309 = .ok (.invokevirtual 63, 3) := by decide +kernel
theorem dL_isMoveSo_312 : decode cL_isMoveSo 312 = .ok (.ifCond .le 7, 3) := by decide +kernel
theorem dL_isMoveSo_315 : decode cL_isMoveSo 315 = .ok (.iconst 1, 1) := by decide +kernel
theorem dL_isMoveSo_316 : decode cL_isMoveSo 316 = .ok (.goto 4, 3) := by decide +kernel
theorem dL_isMoveSo_319 : decode cL_isMoveSo 319 = .ok (.iconst 0, 1) := by decide +kernel
theorem dL_isMoveSo_320 : decode cL_isMoveSo 320 = .ok (.ireturn, 1) := by decide +kernel
theorem dL_isMoveSo_321 : decode cL_isMoveSo 321 = .ok (.aload_n 0, 1) := by decide +kernel
theorem dL_isMoveSo_322 : decode cL_isMoveSo 322 = .ok (.bipush 8, 2) := by decide +kernel
theorem dL_isMoveSo_324 : decode cL_isMoveSo 324 = .ok (.invokevirtual 51, 3) := by decide +kernel
theorem dL_isMoveSo_327 : decode cL_isMoveSo 327 = .ok (.istore 5, 2) := by decide +kernel
theorem dL_isMoveSo_329 : decode cL_isMoveSo 329 = .ok (.iconst 0, 1) := by decide +kernel
theorem dL_isMoveSo_330 : decode cL_isMoveSo 330 = .ok (.istore 6, 2) := by decide +kernel
theorem dL_isMoveSo_332 : decode cL_isMoveSo 332 = .ok (.iload 6, 2) := by decide +kernel
theorem dL_isMoveSo_334 : decode cL_isMoveSo 334 = .ok (.aload_n 0, 1) := by decide +kernel
theorem dL_isMoveSo_335 : decode cL_isMoveSo 335 = .ok (.iconst 0, 1) := by decide +kernel
theorem dL_isMoveSo_336 : decode cL_isMoveSo 336 = .ok (.invokevirtual 51, 3) := by decide +kernel
theorem dL_isMoveSo_339 : decode cL_isMoveSo 339 = .ok (.if_icmp .ge 60, 3) := by decide +kernel
theorem dL_isMoveSo_342 : decode cL_isMoveSo 342 = .ok (.iload_n 3, 1) := by decide +kernel
theorem dL_isMoveSo_343 : decode cL_isMoveSo 343 = .ok (.ifCond .eq 48, 3) := by decide +kernel
theorem dL_isMoveSo_346 : decode cL_isMoveSo 346 = .ok (.aload_n 0, 1) := by decide +kernel
theorem dL_isMoveSo_347 : decode cL_isMoveSo 347 = .ok (.iload 6, 2) := by decide +kernel
theorem dL_isMoveSo_349 : decode cL_isMoveSo 349 = .ok (.iconst 3, 1) := by decide +kernel
theorem dL_isMoveSo_350 : decode cL_isMoveSo 350 = .ok (.invokevirtual 63, 3) := by decide +kernel
theorem dL_isMoveSo_353 : decode cL_isMoveSo 353 = .ok (.aload_n 0, 1) := by decide +kernel
theorem dL_isMoveSo_354 : decode cL_isMoveSo 354 = .ok (.iload 5, 2) := by decide +kernel
theorem dL_isMoveSo_356 : decode cL_isMoveSo 356 = .ok (.iconst 3, 1) := by decide +kernel
theorem dL_isMoveSo_357 : decode cL_isMoveSo 357 = .ok (.invokevirtual 63, 3) := by decide +kernel
theorem dL_isMoveSo_360 : decode cL_isMoveSo 360 = .ok (.if_icmp .gt 27, 3) := by decide +kernel
theorem dL_isMoveSo_363 : decode cL_isMoveSo 363 = .ok (.aload_n 0, 1) := by decide +kernel
theorem dL_isMoveSo_364 : decode cL_isMoveSo 364 = .ok (.iload 6, 2) := by decide +kernel
theorem dL_isMoveSo_366 : decode cL_isMoveSo 366 = .ok (.iconst 3, 1) := by decide +kernel
theorem dL_isMoveSo_367 : decode cL_isMoveSo 367 = .ok (.invokevirtual 63, 3) := by decide +kernel
theorem dL_isMoveSo_370 : decode cL_isMoveSo 370 = .ok (.aload_n 0, 1) := by decide +kernel
theorem dL_isMoveSo_371 : decode cL_isMoveSo 371 = .ok (.iload 5, 2) := by decide +kernel
theorem dL_isMoveSo_373 : decode cL_isMoveSo 373 = .ok (.iconst 3, 1) := by decide +kernel
theorem dL_isMoveSo_374 : decode cL_isMoveSo 374 = .ok (.invokevirtual 63, 3) := by decide +kernel
theorem dL_isMoveSo_377 : decode cL_isMoveSo 377 = .ok (.if_icmp .ne 14, 3) := by decide +kernel
theorem dL_isMoveSo_380 : decode cL_isMoveSo 380 = .ok (.iload 5, 2) := by decide +kernel
theorem dL_isMoveSo_382 : decode cL_isMoveSo 382 = .ok (.iload 6, 2) := by decide +kernel
theorem dL_isMoveSo_384 : decode cL_isMoveSo 384 = .ok (.if_icmp .gt 7, 3) := by decide +kernel
theorem dL_isMoveSo_387 : decode cL_isMoveSo 387 = .ok (.iconst 1, 1) := by decide +kernel
theorem dL_isMoveSo_388 : decode cL_isMoveSo 388 = .ok (.goto 4, 3) := by decide +kernel
theorem dL_isMoveSo_391 : decode cL_isMoveSo 391 = .ok (.iconst 0, 1) := by decide +kernel
theorem dL_isMoveSo_392 : decode cL_isMoveSo 392 = .ok (.istore_n 3, 1) := by decide +kernel
theorem dL_isMoveSo_393 : decode cL_isMoveSo 393 = .ok (.iinc 6 1, 3) := by decide +kernel
theorem dL_isMoveSo_396 : decode cL_isMoveSo 396 = .ok (.goto (-64), 3) := by decide +kernel
theorem dL_isMoveSo_399 : decode cL_isMoveSo 399 = .ok (.iload_n 3, 1) := by decide +kernel
theorem dL_isMoveSo_400 : decode cL_isMoveSo 400 = .ok (.ifCond .eq 15, 3) := by decide +kernel
theorem dL_isMoveSo_403 : decode cL_isMoveSo 403 = .ok (.aload_n 0, 1) := by decide +kernel
theorem dL_isMoveSo_404 : decode cL_isMoveSo 404 = .ok (.invokevirtual 45, 3) := by decide +kernel
theorem dL_isMoveSo_407 : decode cL_isMoveSo 407 = .ok (.iconst (-1), 1) := by decide +kernel
theorem dL_isMoveSo_408 : decode cL_isMoveSo 408 = .ok (.if_icmp .ne 7, 3) := by decide +kernel
theorem dL_isMoveSo_411 : decode cL_isMoveSo 411 = .ok (.iconst 1, 1) := by decide +kernel
theorem dL_isMoveSo_412 : decode cL_isMoveSo 412 = .ok (.goto 4, 3) := by decide +kernel
theorem dL_isMoveSo_415 : decode cL_isMoveSo 415 = .ok (.iconst 0, 1) := by decide +kernel
theorem dL_isMoveSo_416 : decode cL_isMoveSo 416 = .ok (.ireturn, 1) := by decide +kernel
theorem dL_areTrainsSo_0 : decode cL_areTrainsSo 0 = .ok (.aload_n 0, 1) := by decide +kernel
theorem dL_areTrainsSo_1 : decode cL_areTrainsSo 1 = .ok (.iload_n 1, 1) := by decide +kernel
theorem dL_areTrainsSo_2 : decode cL_areTrainsSo 2 = .ok (.iconst 0, 1) := by decide +kernel
theorem dL_areTrainsSo_3 : decode cL_areTrainsSo 3 = .ok (.invokevirtual 63, 3) := by decide +kernel
theorem dL_areTrainsSo_6 : decode cL_areTrainsSo 6 = .ok (.istore_n 2, 1) := by decide +kernel
theorem dL_areTrainsSo_7 : decode cL_areTrainsSo 7 = .ok (.iconst 1, 1) := by decide +kernel
theorem dL_areTrainsSo_8 : decode cL_areTrainsSo 8 = .ok (.istore_n 3, 1) := by decide +kernel
theorem dL_areTrainsSo_9 : decode cL_areTrainsSo 9 = .ok (.iconst 0, 1) := by decide +kernel
theorem dL_areTrainsSo_10 : decode cL_areTrainsSo 10 = .ok (.istore 4, 2) := by decide +kernel
theorem dL_areTrainsSo_12 : decode cL_areTrainsSo 12 = .ok (.iload 4, 2) := by decide +kernel
theorem dL_areTrainsSo_14 : decode cL_areTrainsSo 14 = .ok (.bipush 7, 2) := by decide +kernel
theorem dL_areTrainsSo_16 : decode cL_areTrainsSo 16 = .ok (.if_icmp .ge 182, 3) := by decide +kernel
theorem dL_areTrainsSo_19 : decode cL_areTrainsSo 19 = .ok (.aload_n 0, 1) := by decide +kernel
theorem dL_areTrainsSo_20 : decode cL_areTrainsSo 20 = .ok (.iload_n 1, 1) := by decide +kernel
theorem dL_areTrainsSo_21 : decode cL_areTrainsSo 21 = .ok (.iload 4, 2) := by decide +kernel
theorem dL_areTrainsSo_23 : decode cL_areTrainsSo 23 = .ok (.invokevirtual 79, 3) := by decide +kernel
theorem dL_areTrainsSo_26 : decode cL_areTrainsSo 26 = .ok (.istore 5, 2) := by decide +kernel
theorem dL_areTrainsSo_28 : decode cL_areTrainsSo 28 = .ok (.iconst 0, 1) := by decide +kernel
theorem dL_areTrainsSo_29 : decode cL_areTrainsSo 29 = .ok (.istore 6, 2) := by decide +kernel
theorem dL_areTrainsSo_31 : decode cL_areTrainsSo 31 = .ok (.iconst 0, 1) := by decide +kernel
theorem dL_areTrainsSo_32 : decode cL_areTrainsSo 32 = .ok (.istore 7, 2) := by decide +kernel
theorem dL_areTrainsSo_34 : decode cL_areTrainsSo 34 = .ok (.iload 7, 2) := by decide +kernel
theorem dL_areTrainsSo_36 : decode cL_areTrainsSo 36 = .ok (.iload_n 2, 1) := by decide +kernel
theorem dL_areTrainsSo_37 : decode cL_areTrainsSo 37 = .ok (.if_icmp .ge 52, 3) := by decide +kernel
theorem dL_areTrainsSo_40 : decode cL_areTrainsSo 40 = .ok (.aload_n 0, 1) := by decide +kernel
theorem dL_areTrainsSo_41 : decode cL_areTrainsSo 41 = .ok (.iload_n 1, 1) := by decide +kernel
theorem dL_areTrainsSo_42 : decode cL_areTrainsSo 42 = .ok (.iload 7, 2) := by decide +kernel
theorem dL_areTrainsSo_44 : decode cL_areTrainsSo 44 = .ok (.invokevirtual 57, 3) := by decide +kernel
theorem dL_areTrainsSo_47 : decode cL_areTrainsSo 47 = .ok (.istore 8, 2) := by decide +kernel
theorem dL_areTrainsSo_49 : decode cL_areTrainsSo 49 = .ok (.iload 6, 2) := by decide +kernel
theorem dL_areTrainsSo_51 : decode cL_areTrainsSo 51 = .ok (.aload_n 0, 1) := by decide +kernel
theorem dL_areTrainsSo_52 : decode cL_areTrainsSo 52 = .ok (.iload 8, 2) := by decide +kernel
theorem dL_areTrainsSo_54 : decode cL_areTrainsSo 54 = .ok (.iconst 0, 1) := by decide +kernel
theorem dL_areTrainsSo_55 : decode cL_areTrainsSo 55 = .ok (.invokevirtual 54, 3) := by decide +kernel
theorem dL_areTrainsSo_58 : decode cL_areTrainsSo 58 = .ok (.iload 4, 2) := by decide +kernel
theorem dL_areTrainsSo_60 : decode cL_areTrainsSo 60 = .ok (.if_icmp .eq 15, 3) := by decide +kernel
theorem dL_areTrainsSo_63 : decode cL_areTrainsSo 63 = .ok (.aload_n 0, 1) := by decide +kernel
theorem dL_areTrainsSo_64 : decode cL_areTrainsSo 64 = .ok (.iload 8, 2) := by decide +kernel
theorem dL_areTrainsSo_66 : decode cL_areTrainsSo 66 = .ok (.iconst 1, 1) := by decide +kernel
theorem dL_areTrainsSo_67 : decode cL_areTrainsSo 67 = .ok (.invokevirtual 54, 3) := by decide +kernel
theorem dL_areTrainsSo_70 : decode cL_areTrainsSo 70 = .ok (.iload 4, 2) := by decide +kernel
theorem dL_areTrainsSo_72 : decode cL_areTrainsSo 72 = .ok (.if_icmp .ne 7, 3) := by decide +kernel
theorem dL_areTrainsSo_75 : decode cL_areTrainsSo 75 = .ok (.iconst 1, 1) := by decide +kernel
theorem dL_areTrainsSo_76 : decode cL_areTrainsSo 76 = .ok (.goto 4, 3) := by decide +kernel
theorem dL_areTrainsSo_79 : decode cL_areTrainsSo 79 = .ok (.iconst 0, 1) := by decide +kernel
theorem dL_areTrainsSo_80 : decode cL_areTrainsSo 80 = .ok (.iadd, 1) := by decide +kernel
theorem dL_areTrainsSo_81 : decode cL_areTrainsSo 81 = .ok (.istore 6, 2) := by decide +kernel
theorem dL_areTrainsSo_83 : decode cL_areTrainsSo 83 = .ok (.iinc 7 1, 3) := by decide +kernel
theorem dL_areTrainsSo_86 : decode cL_areTrainsSo 86 = .ok (.goto (-52), 3) := by decide +kernel
theorem dL_areTrainsSo_89 : decode cL_areTrainsSo 89 = .ok (.iload_n 2, 1) := by decide +kernel
theorem dL_areTrainsSo_90 : decode cL_areTrainsSo 90 = .ok (.bipush 10, 2) := by decide +kernel
theorem dL_areTrainsSo_92 : decode cL_areTrainsSo 92 = .ok (.if_icmp .le 7, 3) := by decide +kernel
theorem dL_areTrainsSo_95 : decode cL_areTrainsSo 95 = .ok (.iconst (-1), 1) := by decide +kernel
theorem dL_areTrainsSo_96 : decode cL_areTrainsSo 96 = .ok (.goto 14, 3) := by decide +kernel
theorem dL_areTrainsSo_99 : decode cL_areTrainsSo 99 = .ok (.iload 5, 2) := by decide +kernel
theorem dL_areTrainsSo_101 : decode cL_areTrainsSo 101 = .ok (.iload_n 2, 1) := by decide +kernel
theorem dL_areTrainsSo_102 : decode cL_areTrainsSo 102 = .ok (.if_icmp .ne 7, 3) := by decide +kernel
theorem dL_areTrainsSo_105 : decode cL_areTrainsSo 105 = .ok (.iconst 1, 1) := by decide +kernel
theorem dL_areTrainsSo_106 : decode cL_areTrainsSo 106 = .ok (.goto 4, 3) := by decide +kernel
theorem dL_areTrainsSo_109 : decode cL_areTrainsSo 109 = .ok (.iconst 0, 1) := by decide +kernel
theorem dL_areTrainsSo_110 : decode cL_areTrainsSo 110 = .ok (.istore 7, 2) := by decide +kernel
theorem dL_areTrainsSo_112 : decode cL_areTrainsSo 112 = .ok (.iload_n 3, 1) := by decide +kernel
theorem dL_areTrainsSo_113 : decode cL_areTrainsSo 113 = .ok (.ifCond .eq 77, 3) := by decide +kernel
theorem dL_areTrainsSo_116 : decode cL_areTrainsSo 116 = .ok (.aload_n 0, 1) := by decide +kernel
theorem dL_areTrainsSo_117 : decode cL_areTrainsSo 117 = .ok (.iload_n 1, 1) := by decide +kernel
theorem dL_areTrainsSo_118 : decode cL_areTrainsSo 118 = .ok (.iload 4, 2) := by decide +kernel
theorem dL_areTrainsSo_120 : decode cL_areTrainsSo 120 = .ok (.iconst 0, 1) := by decide +kernel
theorem dL_areTrainsSo_121 : decode cL_areTrainsSo 121 = .ok (.invokevirtual 82, 3) := by decide +kernel
theorem dL_areTrainsSo_124 : decode cL_areTrainsSo 124 = .ok (.iload 7, 2) := by decide +kernel
theorem dL_areTrainsSo_126 : decode cL_areTrainsSo 126 = .ok (.if_icmp .ne 64, 3) := by decide +kernel
theorem dL_areTrainsSo_129 : decode cL_areTrainsSo 129 = .ok (.aload_n 0, 1) := by decide +kernel
theorem dL_areTrainsSo_130 : decode cL_areTrainsSo 130 = .ok (.iload_n 1, 1) := by decide +kernel
theorem dL_areTrainsSo_131 : decode cL_areTrainsSo 131 = .ok (.iload 4, 2) := by decide +kernel
theorem dL_areTrainsSo_133 : decode cL_areTrainsSo 133 = .ok (.iconst 1, 1) := by decide +kernel
theorem dL_areTrainsSo_134 : decode cL_areTrainsSo 134 = .ok (.invokevirtual 82, 3) := by decide +kernel
theorem dL_areTrainsSo_137 : decode cL_areTrainsSo 137 = .ok (.iload 7, 2) := by decide +kernel
theorem dL_areTrainsSo_139 : decode cL_areTrainsSo 139 = .ok (.if_icmp .ne 51, 3) := by decide +kernel
theorem dL_areTrainsSo_142 : decode cL_areTrainsSo 142 = .ok (.iload_n 2, 1) := by decide +kernel
theorem dL_areTrainsSo_143 : decode cL_areTrainsSo 143 = .ok (.bipush 10, 2) := by decide +kernel
theorem dL_areTrainsSo_145 : decode cL_areTrainsSo 145 = .ok (.if_icmp .le 12, 3) := by decide +kernel
theorem dL_areTrainsSo_148 : decode cL_areTrainsSo 148 = .ok (.iload 5, 2) := by decide +kernel
theorem dL_areTrainsSo_150 : decode cL_areTrainsSo 150 = .ok (.iconst (-1), 1) := by decide +kernel
theorem dL_areTrainsSo_151 : decode cL_areTrainsSo 151 = .ok (.if_icmp .ne 39, 3) := by decide +kernel
theorem dL_areTrainsSo_154 : decode cL_areTrainsSo 154 = .ok (.goto 32, 3) := by decide +kernel
theorem dL_areTrainsSo_157 : decode cL_areTrainsSo 157 = .ok (.iload 5, 2) := by decide +kernel
theorem dL_areTrainsSo_159 : decode cL_areTrainsSo 159 = .ok (.iload_n 2, 1) := by decide +kernel
theorem dL_areTrainsSo_160 : decode cL_areTrainsSo 160 = .ok (.if_icmp .gt 30, 3) := by decide +kernel
theorem dL_areTrainsSo_163 : decode cL_areTrainsSo 163 = .ok (.iload 5, 2) := by decide +kernel
theorem dL_areTrainsSo_165 : decode cL_areTrainsSo 165 = .ok (.ifCond .le 7, 3) := by decide +kernel
theorem dL_areTrainsSo_168 : decode cL_areTrainsSo 168 = .ok (.iconst 1, 1) := by decide +kernel
theorem dL_areTrainsSo_169 : decode cL_areTrainsSo 169 = .ok (.goto 4, 3) := by decide +kernel
theorem dL_areTrainsSo_172 : decode cL_areTrainsSo 172 = .ok (.iconst 0, 1) := by decide +kernel
theorem dL_areTrainsSo_173 : decode cL_areTrainsSo 173 = .ok (.iload 6, 2) := by decide +kernel
theorem dL_areTrainsSo_175 : decode cL_areTrainsSo 175 = .ok (.ifCond .le 7, 3) := by decide +kernel
theorem dL_areTrainsSo_178 : decode cL_areTrainsSo 178 = .ok (.iconst 1, 1) := by decide +kernel
theorem dL_areTrainsSo_179 : decode cL_areTrainsSo 179 = .ok (.goto 4, 3) := by decide +kernel
theorem dL_areTrainsSo_182 : decode cL_areTrainsSo 182 = .ok (.iconst 0, 1) := by decide +kernel
theorem dL_areTrainsSo_183 : decode cL_areTrainsSo 183 = .ok (.if_icmp .ne 7, 3) := by decide +kernel
theorem dL_areTrainsSo_186 : decode cL_areTrainsSo 186 = .ok (.iconst 1, 1) := by decide +kernel
theorem dL_areTrainsSo_187 : decode cL_areTrainsSo 187 = .ok (.goto 4, 3) := by decide +kernel
theorem dL_areTrainsSo_190 : decode cL_areTrainsSo 190 = .ok (.iconst 0, 1) := by decide +kernel
theorem dL_areTrainsSo_191 : decode cL_areTrainsSo 191 = .ok (.istore_n 3, 1) := by decide +kernel
theorem dL_areTrainsSo_192 : decode cL_areTrainsSo 192 = .ok (.iinc 4 1, 3) := by decide +kernel
theorem dL_areTrainsSo_195 : decode cL_areTrainsSo 195 = .ok (.goto (-183), 3) := by decide +kernel
theorem dL_areTrainsSo_198 : decode cL_areTrainsSo 198 = .ok (.iload_n 3, 1) := by decide +kernel
theorem dL_areTrainsSo_199 : decode cL_areTrainsSo 199 = .ok (.ireturn, 1) := by decide +kernel
theorem dL_law_0 : decode cL_law 0 = .ok (.new 9, 3) := by decide +kernel
theorem dL_law_3 : decode cL_law 3 = .ok (.dup, 1) := by decide +kernel
theorem dL_law_4 : decode cL_law 4 = .ok (.invokespecial 85, 3) := by decide +kernel
theorem dL_law_7 : decode cL_law 7 = .ok (.astore_n 1, 1) := by decide +kernel
theorem dL_law_8 : decode cL_law 8 = .ok (.new 9, 3) := by decide +kernel
theorem dL_law_11 : decode cL_law 11 = .ok (.dup, 1) := by decide +kernel
theorem dL_law_12 : decode cL_law 12 = .ok (.invokespecial 85, 3) := by decide +kernel
theorem dL_law_15 : decode cL_law 15 = .ok (.astore_n 2, 1) := by decide +kernel
theorem dL_law_16 : decode cL_law 16 = .ok (.iconst 1, 1) := by decide +kernel
theorem dL_law_17 : decode cL_law 17 = .ok (.newarray .int, 2) := by decide +kernel
theorem dL_law_19 : decode cL_law 19 = .ok (.astore_n 3, 1) := by decide +kernel
theorem dL_law_20 : decode cL_law 20 = .ok (.iconst 0, 1) := by decide +kernel
theorem dL_law_21 : decode cL_law 21 = .ok (.istore 4, 2) := by decide +kernel
theorem dL_law_23 : decode cL_law 23 = .ok (.iload 4, 2) := by decide +kernel
theorem dL_law_25 : decode cL_law 25 = .ok (.bipush 50, 2) := by decide +kernel
theorem dL_law_27 : decode cL_law 27 = .ok (.if_icmp .ge 211, 3) := by decide +kernel
theorem dL_law_30 : decode cL_law 30 = .ok (.aload_n 0, 1) := by decide +kernel
theorem dL_law_31 : decode cL_law 31 = .ok (.iload 4, 2) := by decide +kernel
theorem dL_law_33 : decode cL_law 33 = .ok (.invokestatic 86, 3) := by decide +kernel
theorem dL_law_36 : decode cL_law 36 = .ok (.istore 5, 2) := by decide +kernel
theorem dL_law_38 : decode cL_law 38 = .ok (.aload_n 1, 1) := by decide +kernel
theorem dL_law_39 : decode cL_law 39 = .ok (.bipush 11, 2) := by decide +kernel
theorem dL_law_41 : decode cL_law 41 = .ok (.invokevirtual 51, 3) := by decide +kernel
theorem dL_law_44 : decode cL_law 44 = .ok (.istore 6, 2) := by decide +kernel
theorem dL_law_46 : decode cL_law 46 = .ok (.aload_n 1, 1) := by decide +kernel
theorem dL_law_47 : decode cL_law 47 = .ok (.iload 5, 2) := by decide +kernel
theorem dL_law_49 : decode cL_law 49 = .ok (.aload_n 3, 1) := by decide +kernel
theorem dL_law_50 : decode cL_law 50 = .ok (.invokestatic 90, 3) := by decide +kernel
theorem dL_law_53 : decode cL_law 53 = .ok (.istore 7, 2) := by decide +kernel
theorem dL_law_55 : decode cL_law 55 = .ok (.aload_n 3, 1) := by decide +kernel
theorem dL_law_56 : decode cL_law 56 = .ok (.iconst 0, 1) := by decide +kernel
theorem dL_law_57 : decode cL_law 57 = .ok (.iaload, 1) := by decide +kernel
theorem dL_law_58 : decode cL_law 58 = .ok (.istore 8, 2) := by decide +kernel
theorem dL_law_60 : decode cL_law 60 = .ok (.iload 7, 2) := by decide +kernel
theorem dL_law_62 : decode cL_law 62 = .ok (.ifCond .eq 24, 3) := by decide +kernel
theorem dL_law_65 : decode cL_law 65 = .ok (.aload_n 1, 1) := by decide +kernel
theorem dL_law_66 : decode cL_law 66 = .ok (.aload_n 2, 1) := by decide +kernel
theorem dL_law_67 : decode cL_law 67 = .ok (.invokestatic 94, 3) := by decide +kernel
theorem dL_law_70 : decode cL_law 70 = .ok (.ifCond .eq 14, 3) := by decide +kernel
theorem dL_law_73 : decode cL_law 73 = .ok (.aload_n 1, 1) := by decide +kernel
theorem dL_law_74 : decode cL_law 74 = .ok (.bipush 11, 2) := by decide +kernel
theorem dL_law_76 : decode cL_law 76 = .ok (.invokevirtual 51, 3) := by decide +kernel
theorem dL_law_79 : decode cL_law 79 = .ok (.iload 6, 2) := by decide +kernel
theorem dL_law_81 : decode cL_law 81 = .ok (.if_icmp .eq 5, 3) := by decide +kernel
theorem dL_law_84 : decode cL_law 84 = .ok (.iconst 0, 1) := by decide +kernel
theorem dL_law_85 : decode cL_law 85 = .ok (.ireturn, 1) := by decide +kernel
theorem dL_law_86 : decode cL_law 86 = .ok (.iload 7, 2) := by decide +kernel
theorem dL_law_88 : decode cL_law 88 = .ok (.ifCond .ne 65, 3) := by decide +kernel
theorem dL_law_91 : decode cL_law 91 = .ok (.iload 5, 2) := by decide +kernel
theorem dL_law_93 : decode cL_law 93 = .ok (.bipush 9, 2) := by decide +kernel
theorem dL_law_95 : decode cL_law 95 = .ok (.ishr, 1) := by decide +kernel
theorem dL_law_96 : decode cL_law 96 = .ok (.iconst 1, 1) := by decide +kernel
theorem dL_law_97 : decode cL_law 97 = .ok (.iand, 1) := by decide +kernel
theorem dL_law_98 : decode cL_law 98 = .ok (.ifCond .ne 55, 3) := by decide +kernel
theorem dL_law_101 : decode cL_law 101 = .ok (.aload_n 1, 1) := by decide +kernel
theorem dL_law_102 : decode cL_law 102 = .ok (.invokevirtual 98, 3) := by decide +kernel
theorem dL_law_105 : decode cL_law 105 = .ok (.istore 9, 2) := by decide +kernel
theorem dL_law_107 : decode cL_law 107 = .ok (.iload 9, 2) := by decide +kernel
theorem dL_law_109 : decode cL_law 109 = .ok (.iload 6, 2) := by decide +kernel
theorem dL_law_111 : decode cL_law 111 = .ok (.bipush 6, 2) := by decide +kernel
theorem dL_law_113 : decode cL_law 113 = .ok (.if_icmp .ne 7, 3) := by decide +kernel
theorem dL_law_116 : decode cL_law 116 = .ok (.iconst 5, 1) := by decide +kernel
theorem dL_law_117 : decode cL_law 117 = .ok (.goto 5, 3) := by decide +kernel
theorem dL_law_120 : decode cL_law 120 = .ok (.iload 6, 2) := by decide +kernel
theorem dL_law_122 : decode cL_law 122 = .ok (.if_icmp .ne 29, 3) := by decide +kernel
theorem dL_law_125 : decode cL_law 125 = .ok (.aload_n 1, 1) := by decide +kernel
theorem dL_law_126 : decode cL_law 126 = .ok (.aload_n 2, 1) := by decide +kernel
theorem dL_law_127 : decode cL_law 127 = .ok (.invokestatic 94, 3) := by decide +kernel
theorem dL_law_130 : decode cL_law 130 = .ok (.ifCond .eq 21, 3) := by decide +kernel
theorem dL_law_133 : decode cL_law 133 = .ok (.aload_n 1, 1) := by decide +kernel
theorem dL_law_134 : decode cL_law 134 = .ok (.iload 5, 2) := by decide +kernel
theorem dL_law_136 : decode cL_law 136 = .ok (.aload_n 3, 1) := by decide +kernel
theorem dL_law_137 : decode cL_law 137 = .ok (.invokestatic 90, 3) := by decide +kernel
theorem dL_law_140 : decode cL_law 140 = .ok (.ifCond .ne 11, 3) := by decide +kernel
theorem dL_law_143 : decode cL_law 143 = .ok (.aload_n 3, 1) := by decide +kernel
theorem dL_law_144 : decode cL_law 144 = .ok (.iconst 0, 1) := by decide +kernel
theorem dL_law_145 : decode cL_law 145 = .ok (.iaload, 1) := by decide +kernel
theorem dL_law_146 : decode cL_law 146 = .ok (.iload 8, 2) := by decide +kernel
theorem dL_law_148 : decode cL_law 148 = .ok (.if_icmp .eq 5, 3) := by decide +kernel
theorem dL_law_151 : decode cL_law 151 = .ok (.iconst 0, 1) := by decide +kernel
theorem dL_law_152 : decode cL_law 152 = .ok (.ireturn, 1) := by decide +kernel
theorem dL_law_153 : decode cL_law 153 = .ok (.aload_n 2, 1) := by decide +kernel
theorem dL_law_154 : decode cL_law 154 = .ok (.iload 5, 2) := by decide +kernel
theorem dL_law_156 : decode cL_law 156 = .ok (.aload_n 3, 1) := by decide +kernel
theorem dL_law_157 : decode cL_law 157 = .ok (.invokestatic 90, 3) := by decide +kernel
theorem dL_law_160 : decode cL_law 160 = .ok (.iload 7, 2) := by decide +kernel
theorem dL_law_162 : decode cL_law 162 = .ok (.if_icmp .ne 24, 3) := by decide +kernel
theorem dL_law_165 : decode cL_law 165 = .ok (.iload 7, 2) := by decide +kernel
theorem dL_law_167 : decode cL_law 167 = .ok (.ifCond .ne 11, 3) := by decide +kernel
theorem dL_law_170 : decode cL_law 170 = .ok (.aload_n 3, 1) := by decide +kernel
theorem dL_law_171 : decode cL_law 171 = .ok (.iconst 0, 1) := by decide +kernel
theorem dL_law_172 : decode cL_law 172 = .ok (.iaload, 1) := by decide +kernel
theorem dL_law_173 : decode cL_law 173 = .ok (.iload 8, 2) := by decide +kernel
theorem dL_law_175 : decode cL_law 175 = .ok (.if_icmp .ne 11, 3) := by decide +kernel
theorem dL_law_178 : decode cL_law 178 = .ok (.aload_n 1, 1) := by decide +kernel
theorem dL_law_179 : decode cL_law 179 = .ok (.aload_n 2, 1) := by decide +kernel
theorem dL_law_180 : decode cL_law 180 = .ok (.invokestatic 94, 3) := by decide +kernel
theorem dL_law_183 : decode cL_law 183 = .ok (.ifCond .ne 5, 3) := by decide +kernel
theorem dL_law_186 : decode cL_law 186 = .ok (.iconst 0, 1) := by decide +kernel
theorem dL_law_187 : decode cL_law 187 = .ok (.ireturn, 1) := by decide +kernel
theorem dL_law_188 : decode cL_law 188 = .ok (.iload 4, 2) := by decide +kernel
theorem dL_law_190 : decode cL_law 190 = .ok (.iconst 3, 1) := by decide +kernel
theorem dL_law_191 : decode cL_law 191 = .ok (.irem, 1) := by decide +kernel
theorem dL_law_192 : decode cL_law 192 = .ok (.iconst 2, 1) := by decide +kernel
theorem dL_law_193 : decode cL_law 193 = .ok (.if_icmp .ne 39, 3) := by decide +kernel
theorem dL_law_196 : decode cL_law 196 = .ok (.aload_n 1, 1) := by decide +kernel
theorem dL_law_197 : decode cL_law 197 = .ok (.invokestatic 101, 3) := by decide +kernel
theorem dL_law_200 : decode cL_law 200 = .ok (.ifCond .eq 30, 3) := by decide +kernel
theorem dL_law_203 : decode cL_law 203 = .ok (.aload_n 1, 1) := by decide +kernel
theorem dL_law_204 : decode cL_law 204 = .ok (.invokestatic 105, 3) := by decide +kernel
theorem dL_law_207 : decode cL_law 207 = .ok (.ifCond .eq 23, 3) := by decide +kernel
theorem dL_law_210 : decode cL_law 210 = .ok (.aload_n 1, 1) := by decide +kernel
theorem dL_law_211 : decode cL_law 211 = .ok (.iload 5, 2) := by decide +kernel
theorem dL_law_213 : decode cL_law 213 = .ok (.bipush 6, 2) := by decide +kernel
theorem dL_law_215 : decode cL_law 215 = .ok (.ishr, 1) := by decide +kernel
theorem dL_law_216 : decode cL_law 216 = .ok (.aload_n 1, 1) := by decide +kernel
theorem dL_law_217 : decode cL_law 217 = .ok (.iconst 0, 1) := by decide +kernel
theorem dL_law_218 : decode cL_law 218 = .ok (.invokevirtual 51, 3) := by decide +kernel
theorem dL_law_221 : decode cL_law 221 = .ok (.invokestatic 29, 3) := by decide +kernel
theorem dL_law_224 : decode cL_law 224 = .ok (.invokestatic 108, 3) := by decide +kernel
theorem dL_law_227 : decode cL_law 227 = .ok (.ifCond .ne 5, 3) := by decide +kernel
theorem dL_law_230 : decode cL_law 230 = .ok (.iconst 0, 1) := by decide +kernel
theorem dL_law_231 : decode cL_law 231 = .ok (.ireturn, 1) := by decide +kernel
theorem dL_law_232 : decode cL_law 232 = .ok (.iinc 4 1, 3) := by decide +kernel
theorem dL_law_235 : decode cL_law 235 = .ok (.goto (-212), 3) := by decide +kernel
theorem dL_law_238 : decode cL_law 238 = .ok (.aload_n 1, 1) := by decide +kernel
theorem dL_law_239 : decode cL_law 239 = .ok (.invokestatic 101, 3) := by decide +kernel
theorem dL_law_242 : decode cL_law 242 = .ok (.ireturn, 1) := by decide +kernel

/-! the law's own names, printed, 3 -/
theorem dL_below_0 : decode cL_below 0 = .ok (.iload_n 0, 1) := by decide +kernel
theorem dL_below_1 : decode cL_below 1 = .ok (.ldc 7, 2) := by decide +kernel
theorem dL_below_3 : decode cL_below 3 = .ok (.iand, 1) := by decide +kernel
theorem dL_below_4 : decode cL_below 4 = .ok (.iload_n 1, 1) := by decide +kernel
theorem dL_below_5 : decode cL_below 5 = .ok (.irem, 1) := by decide +kernel
theorem dL_below_6 : decode cL_below 6 = .ok (.ireturn, 1) := by decide +kernel
theorem dL_cell_0 : decode cL_cell 0 = .ok (.iload_n 1, 1) := by decide +kernel
theorem dL_cell_1 : decode cL_cell 1 = .ok (.aload_n 0, 1) := by decide +kernel
theorem dL_cell_2 : decode cL_cell 2 = .ok (.arraylength, 1) := by decide +kernel
theorem dL_cell_3 : decode cL_cell 3 = .ok (.if_icmp .ge 9, 3) := by decide +kernel
theorem dL_cell_6 : decode cL_cell 6 = .ok (.aload_n 0, 1) := by decide +kernel
theorem dL_cell_7 : decode cL_cell 7 = .ok (.iload_n 1, 1) := by decide +kernel
theorem dL_cell_8 : decode cL_cell 8 = .ok (.iaload, 1) := by decide +kernel
theorem dL_cell_9 : decode cL_cell 9 = .ok (.goto 9, 3) := by decide +kernel
theorem dL_cell_12 : decode cL_cell 12 = .ok (.ldc 8, 2) := by decide +kernel
theorem dL_cell_14 : decode cL_cell 14 = .ok (.iload_n 1, 1) := by decide +kernel
theorem dL_cell_15 : decode cL_cell 15 = .ok (.iconst 3, 1) := by decide +kernel
theorem dL_cell_16 : decode cL_cell 16 = .ok (.iadd, 1) := by decide +kernel
theorem dL_cell_17 : decode cL_cell 17 = .ok (.imul, 1) := by decide +kernel
theorem dL_cell_18 : decode cL_cell 18 = .ok (.ireturn, 1) := by decide +kernel
theorem dL_law_0 : decode cL_law 0 = .ok (.new 9, 3) := by decide +kernel
theorem dL_law_3 : decode cL_law 3 = .ok (.dup, 1) := by decide +kernel
theorem dL_law_4 : decode cL_law 4 = .ok (.invokespecial 11, 3) := by decide +kernel
theorem dL_law_7 : decode cL_law 7 = .ok (.astore_n 1, 1) := by decide +kernel
theorem dL_law_8 : decode cL_law 8 = .ok (.bipush 6, 2) := by decide +kernel
theorem dL_law_10 : decode cL_law 10 = .ok (.newarray .int, 2) := by decide +kernel
theorem dL_law_12 : decode cL_law 12 = .ok (.dup, 1) := by decide +kernel
theorem dL_law_13 : decode cL_law 13 = .ok (.iconst 0, 1) := by decide +kernel
theorem dL_law_14 : decode cL_law 14 = .ok (.iconst 1, 1) := by decide +kernel
theorem dL_law_15 : decode cL_law 15 = .ok (.iastore, 1) := by decide +kernel
theorem dL_law_16 : decode cL_law 16 = .ok (.dup, 1) := by decide +kernel
theorem dL_law_17 : decode cL_law 17 = .ok (.iconst 1, 1) := by decide +kernel
theorem dL_law_18 : decode cL_law 18 = .ok (.iconst 2, 1) := by decide +kernel
theorem dL_law_19 : decode cL_law 19 = .ok (.iastore, 1) := by decide +kernel
theorem dL_law_20 : decode cL_law 20 = .ok (.dup, 1) := by decide +kernel
theorem dL_law_21 : decode cL_law 21 = .ok (.iconst 2, 1) := by decide +kernel
theorem dL_law_22 : decode cL_law 22 = .ok (.bipush 11, 2) := by decide +kernel
theorem dL_law_24 : decode cL_law 24 = .ok (.iastore, 1) := by decide +kernel
theorem dL_law_25 : decode cL_law 25 = .ok (.dup, 1) := by decide +kernel
theorem dL_law_26 : decode cL_law 26 = .ok (.iconst 3, 1) := by decide +kernel
theorem dL_law_27 : decode cL_law 27 = .ok (.bipush 12, 2) := by decide +kernel
theorem dL_law_29 : decode cL_law 29 = .ok (.iastore, 1) := by decide +kernel
theorem dL_law_30 : decode cL_law 30 = .ok (.dup, 1) := by decide +kernel
theorem dL_law_31 : decode cL_law 31 = .ok (.iconst 4, 1) := by decide +kernel
theorem dL_law_32 : decode cL_law 32 = .ok (.bipush 112, 2) := by decide +kernel
theorem dL_law_34 : decode cL_law 34 = .ok (.iastore, 1) := by decide +kernel
theorem dL_law_35 : decode cL_law 35 = .ok (.dup, 1) := by decide +kernel
theorem dL_law_36 : decode cL_law 36 = .ok (.iconst 5, 1) := by decide +kernel
theorem dL_law_37 : decode cL_law 37 = .ok (.bipush 21, 2) := by decide +kernel
theorem dL_law_39 : decode cL_law 39 = .ok (.iastore, 1) := by decide +kernel
theorem dL_law_40 : decode cL_law 40 = .ok (.astore_n 2, 1) := by decide +kernel
theorem dL_law_41 : decode cL_law 41 = .ok (.aload_n 1, 1) := by decide +kernel
theorem dL_law_42 : decode cL_law 42 = .ok (.iconst 1, 1) := by decide +kernel
theorem dL_law_43 : decode cL_law 43 = .ok (.iconst 1, 1) := by decide +kernel
theorem dL_law_44 : decode cL_law 44 = .ok (.aload_n 0, 1) := by decide +kernel
theorem dL_law_45 : decode cL_law 45 = .ok (.iconst 0, 1) := by decide +kernel
theorem dL_law_46 : decode cL_law 46 = .ok (.invokestatic 12, 3) := by decide +kernel
theorem dL_law_49 : decode cL_law 49 = .ok (.iconst 4, 1) := by decide +kernel
theorem dL_law_50 : decode cL_law 50 = .ok (.invokestatic 18, 3) := by decide +kernel
theorem dL_law_53 : decode cL_law 53 = .ok (.iconst 0, 1) := by decide +kernel
theorem dL_law_54 : decode cL_law 54 = .ok (.invokevirtual 22, 3) := by decide +kernel
theorem dL_law_57 : decode cL_law 57 = .ok (.pop, 1) := by decide +kernel
theorem dL_law_58 : decode cL_law 58 = .ok (.aload_n 1, 1) := by decide +kernel
theorem dL_law_59 : decode cL_law 59 = .ok (.iconst 0, 1) := by decide +kernel
theorem dL_law_60 : decode cL_law 60 = .ok (.iconst 1, 1) := by decide +kernel
theorem dL_law_61 : decode cL_law 61 = .ok (.iconst 3, 1) := by decide +kernel
theorem dL_law_62 : decode cL_law 62 = .ok (.invokevirtual 26, 3) := by decide +kernel
theorem dL_law_65 : decode cL_law 65 = .ok (.pop, 1) := by decide +kernel
theorem dL_law_66 : decode cL_law 66 = .ok (.aload_n 1, 1) := by decide +kernel
theorem dL_law_67 : decode cL_law 67 = .ok (.iconst 0, 1) := by decide +kernel
theorem dL_law_68 : decode cL_law 68 = .ok (.aload_n 1, 1) := by decide +kernel
theorem dL_law_69 : decode cL_law 69 = .ok (.iconst 0, 1) := by decide +kernel
theorem dL_law_70 : decode cL_law 70 = .ok (.iconst 2, 1) := by decide +kernel
theorem dL_law_71 : decode cL_law 71 = .ok (.invokevirtual 30, 3) := by decide +kernel
theorem dL_law_74 : decode cL_law 74 = .ok (.invokevirtual 33, 3) := by decide +kernel
theorem dL_law_77 : decode cL_law 77 = .ok (.pop, 1) := by decide +kernel
theorem dL_law_78 : decode cL_law 78 = .ok (.aload_n 1, 1) := by decide +kernel
theorem dL_law_79 : decode cL_law 79 = .ok (.iconst 0, 1) := by decide +kernel
theorem dL_law_80 : decode cL_law 80 = .ok (.iconst 1, 1) := by decide +kernel
theorem dL_law_81 : decode cL_law 81 = .ok (.invokevirtual 36, 3) := by decide +kernel
theorem dL_law_84 : decode cL_law 84 = .ok (.pop, 1) := by decide +kernel
theorem dL_law_85 : decode cL_law 85 = .ok (.iconst 0, 1) := by decide +kernel
theorem dL_law_86 : decode cL_law 86 = .ok (.istore_n 3, 1) := by decide +kernel
theorem dL_law_87 : decode cL_law 87 = .ok (.iload_n 3, 1) := by decide +kernel
theorem dL_law_88 : decode cL_law 88 = .ok (.bipush 40, 2) := by decide +kernel
theorem dL_law_90 : decode cL_law 90 = .ok (.if_icmp .ge 171, 3) := by decide +kernel
theorem dL_law_93 : decode cL_law 93 = .ok (.aload_n 0, 1) := by decide +kernel
theorem dL_law_94 : decode cL_law 94 = .ok (.iconst 1, 1) := by decide +kernel
theorem dL_law_95 : decode cL_law 95 = .ok (.iload_n 3, 1) := by decide +kernel
theorem dL_law_96 : decode cL_law 96 = .ok (.bipush 28, 2) := by decide +kernel
theorem dL_law_98 : decode cL_law 98 = .ok (.irem, 1) := by decide +kernel
theorem dL_law_99 : decode cL_law 99 = .ok (.iadd, 1) := by decide +kernel
theorem dL_law_100 : decode cL_law 100 = .ok (.invokestatic 12, 3) := by decide +kernel
theorem dL_law_103 : decode cL_law 103 = .ok (.iload_n 3, 1) := by decide +kernel
theorem dL_law_104 : decode cL_law 104 = .ok (.bipush 28, 2) := by decide +kernel
theorem dL_law_106 : decode cL_law 106 = .ok (.idiv, 1) := by decide +kernel
theorem dL_law_107 : decode cL_law 107 = .ok (.bipush 9, 2) := by decide +kernel
theorem dL_law_109 : decode cL_law 109 = .ok (.imul, 1) := by decide +kernel
theorem dL_law_110 : decode cL_law 110 = .ok (.ishr, 1) := by decide +kernel
theorem dL_law_111 : decode cL_law 111 = .ok (.istore 4, 2) := by decide +kernel
theorem dL_law_113 : decode cL_law 113 = .ok (.aload_n 1, 1) := by decide +kernel
theorem dL_law_114 : decode cL_law 114 = .ok (.iconst 0, 1) := by decide +kernel
theorem dL_law_115 : decode cL_law 115 = .ok (.invokevirtual 40, 3) := by decide +kernel
theorem dL_law_118 : decode cL_law 118 = .ok (.istore 5, 2) := by decide +kernel
theorem dL_law_120 : decode cL_law 120 = .ok (.aload_n 1, 1) := by decide +kernel
theorem dL_law_121 : decode cL_law 121 = .ok (.iload 4, 2) := by decide +kernel
theorem dL_law_123 : decode cL_law 123 = .ok (.aload_n 2, 1) := by decide +kernel
theorem dL_law_124 : decode cL_law 124 = .ok (.iload 5, 2) := by decide +kernel
theorem dL_law_126 : decode cL_law 126 = .ok (.invokestatic 44, 3) := by decide +kernel
theorem dL_law_129 : decode cL_law 129 = .ok (.ifCond .eq 23, 3) := by decide +kernel
theorem dL_law_132 : decode cL_law 132 = .ok (.aload_n 1, 1) := by decide +kernel
theorem dL_law_133 : decode cL_law 133 = .ok (.iconst 0, 1) := by decide +kernel
theorem dL_law_134 : decode cL_law 134 = .ok (.invokevirtual 40, 3) := by decide +kernel
theorem dL_law_137 : decode cL_law 137 = .ok (.bipush 20, 2) := by decide +kernel
theorem dL_law_139 : decode cL_law 139 = .ok (.if_icmp .gt 13, 3) := by decide +kernel
theorem dL_law_142 : decode cL_law 142 = .ok (.aload_n 1, 1) := by decide +kernel
theorem dL_law_143 : decode cL_law 143 = .ok (.iconst 0, 1) := by decide +kernel
theorem dL_law_144 : decode cL_law 144 = .ok (.invokevirtual 40, 3) := by decide +kernel
theorem dL_law_147 : decode cL_law 147 = .ok (.iload 5, 2) := by decide +kernel
theorem dL_law_149 : decode cL_law 149 = .ok (.if_icmp .ge 5, 3) := by decide +kernel
theorem dL_law_152 : decode cL_law 152 = .ok (.iconst 0, 1) := by decide +kernel
theorem dL_law_153 : decode cL_law 153 = .ok (.ireturn, 1) := by decide +kernel
theorem dL_law_154 : decode cL_law 154 = .ok (.iload_n 3, 1) := by decide +kernel
theorem dL_law_155 : decode cL_law 155 = .ok (.bipush 10, 2) := by decide +kernel
theorem dL_law_157 : decode cL_law 157 = .ok (.irem, 1) := by decide +kernel
theorem dL_law_158 : decode cL_law 158 = .ok (.bipush 9, 2) := by decide +kernel
theorem dL_law_160 : decode cL_law 160 = .ok (.if_icmp .eq 6, 3) := by decide +kernel
theorem dL_law_163 : decode cL_law 163 = .ok (.goto 92, 3) := by decide +kernel
theorem dL_law_166 : decode cL_law 166 = .ok (.aload_n 1, 1) := by decide +kernel
theorem dL_law_167 : decode cL_law 167 = .ok (.invokevirtual 48, 3) := by decide +kernel
theorem dL_law_170 : decode cL_law 170 = .ok (.lstore 6, 2) := by decide +kernel
theorem dL_law_172 : decode cL_law 172 = .ok (.iconst 0, 1) := by decide +kernel
theorem dL_law_173 : decode cL_law 173 = .ok (.istore 8, 2) := by decide +kernel
theorem dL_law_175 : decode cL_law 175 = .ok (.iload 8, 2) := by decide +kernel
theorem dL_law_177 : decode cL_law 177 = .ok (.aload_n 1, 1) := by decide +kernel
theorem dL_law_178 : decode cL_law 178 = .ok (.iconst 0, 1) := by decide +kernel
theorem dL_law_179 : decode cL_law 179 = .ok (.invokevirtual 40, 3) := by decide +kernel
theorem dL_law_182 : decode cL_law 182 = .ok (.if_icmp .ge 36, 3) := by decide +kernel
theorem dL_law_185 : decode cL_law 185 = .ok (.aload_n 1, 1) := by decide +kernel
theorem dL_law_186 : decode cL_law 186 = .ok (.iload 8, 2) := by decide +kernel
theorem dL_law_188 : decode cL_law 188 = .ok (.iload 4, 2) := by decide +kernel
theorem dL_law_190 : decode cL_law 190 = .ok (.sipush 1000, 3) := by decide +kernel
theorem dL_law_193 : decode cL_law 193 = .ok (.invokestatic 18, 3) := by decide +kernel
theorem dL_law_196 : decode cL_law 196 = .ok (.iload 4, 2) := by decide +kernel
theorem dL_law_198 : decode cL_law 198 = .ok (.iconst 3, 1) := by decide +kernel
theorem dL_law_199 : decode cL_law 199 = .ok (.ishr, 1) := by decide +kernel
theorem dL_law_200 : decode cL_law 200 = .ok (.iconst 4, 1) := by decide +kernel
theorem dL_law_201 : decode cL_law 201 = .ok (.invokestatic 18, 3) := by decide +kernel
theorem dL_law_204 : decode cL_law 204 = .ok (.invokestatic 52, 3) := by decide +kernel
theorem dL_law_207 : decode cL_law 207 = .ok (.ifCond .ne 5, 3) := by decide +kernel
theorem dL_law_210 : decode cL_law 210 = .ok (.iconst 0, 1) := by decide +kernel
theorem dL_law_211 : decode cL_law 211 = .ok (.ireturn, 1) := by decide +kernel
theorem dL_law_212 : decode cL_law 212 = .ok (.iinc 8 1, 3) := by decide +kernel
theorem dL_law_215 : decode cL_law 215 = .ok (.goto (-40), 3) := by decide +kernel
theorem dL_law_218 : decode cL_law 218 = .ok (.aload_n 1, 1) := by decide +kernel
theorem dL_law_219 : decode cL_law 219 = .ok (.iload 4, 2) := by decide +kernel
theorem dL_law_221 : decode cL_law 221 = .ok (.iconst 2, 1) := by decide +kernel
theorem dL_law_222 : decode cL_law 222 = .ok (.ishr, 1) := by decide +kernel
theorem dL_law_223 : decode cL_law 223 = .ok (.sipush 1000, 3) := by decide +kernel
theorem dL_law_226 : decode cL_law 226 = .ok (.invokestatic 18, 3) := by decide +kernel
theorem dL_law_229 : decode cL_law 229 = .ok (.iload 4, 2) := by decide +kernel
theorem dL_law_231 : decode cL_law 231 = .ok (.iconst 4, 1) := by decide +kernel
theorem dL_law_232 : decode cL_law 232 = .ok (.ishr, 1) := by decide +kernel
theorem dL_law_233 : decode cL_law 233 = .ok (.iconst 4, 1) := by decide +kernel
theorem dL_law_234 : decode cL_law 234 = .ok (.invokestatic 18, 3) := by decide +kernel
theorem dL_law_237 : decode cL_law 237 = .ok (.invokestatic 56, 3) := by decide +kernel
theorem dL_law_240 : decode cL_law 240 = .ok (.ifCond .eq 13, 3) := by decide +kernel
theorem dL_law_243 : decode cL_law 243 = .ok (.aload_n 1, 1) := by decide +kernel
theorem dL_law_244 : decode cL_law 244 = .ok (.invokevirtual 48, 3) := by decide +kernel
theorem dL_law_247 : decode cL_law 247 = .ok (.lload 6, 2) := by decide +kernel
theorem dL_law_249 : decode cL_law 249 = .ok (.lcmp, 1) := by decide +kernel
theorem dL_law_250 : decode cL_law 250 = .ok (.ifCond .eq 5, 3) := by decide +kernel
theorem dL_law_253 : decode cL_law 253 = .ok (.iconst 0, 1) := by decide +kernel
theorem dL_law_254 : decode cL_law 254 = .ok (.ireturn, 1) := by decide +kernel
theorem dL_law_255 : decode cL_law 255 = .ok (.iinc 3 1, 3) := by decide +kernel
theorem dL_law_258 : decode cL_law 258 = .ok (.goto (-171), 3) := by decide +kernel
theorem dL_law_261 : decode cL_law 261 = .ok (.iconst 1, 1) := by decide +kernel
theorem dL_law_262 : decode cL_law 262 = .ok (.ireturn, 1) := by decide +kernel
theorem dL_act_0 : decode cL_act 0 = .ok (.iload_n 1, 1) := by decide +kernel
theorem dL_act_1 : decode cL_act 1 = .ok (.iconst 3, 1) := by decide +kernel
theorem dL_act_2 : decode cL_act 2 = .ok (.ishr, 1) := by decide +kernel
theorem dL_act_3 : decode cL_act 3 = .ok (.iload_n 3, 1) := by decide +kernel
theorem dL_act_4 : decode cL_act 4 = .ok (.invokestatic 18, 3) := by decide +kernel
theorem dL_act_7 : decode cL_act 7 = .ok (.istore 4, 2) := by decide +kernel
theorem dL_act_9 : decode cL_act 9 = .ok (.iload_n 1, 1) := by decide +kernel
theorem dL_act_10 : decode cL_act 10 = .ok (.iconst 5, 1) := by decide +kernel
theorem dL_act_11 : decode cL_act 11 = .ok (.ishr, 1) := by decide +kernel
theorem dL_act_12 : decode cL_act 12 = .ok (.iload_n 3, 1) := by decide +kernel
theorem dL_act_13 : decode cL_act 13 = .ok (.invokestatic 18, 3) := by decide +kernel
theorem dL_act_16 : decode cL_act 16 = .ok (.istore 5, 2) := by decide +kernel
theorem dL_act_18 : decode cL_act 18 = .ok (.iload_n 1, 1) := by decide +kernel
theorem dL_act_19 : decode cL_act 19 = .ok (.bipush 12, 2) := by decide +kernel
theorem dL_act_21 : decode cL_act 21 = .ok (.invokestatic 18, 3) := by decide +kernel
theorem dL_act_24 : decode cL_act 24 = .ok (.tableswitch 635 0 10 #[60, 60, 60, 180, 226, 273, 330, 330, 403, 466, 542], 60) := by decide +kernel
theorem dL_act_84 : decode cL_act 84 = .ok (.aload_n 0, 1) := by decide +kernel
theorem dL_act_85 : decode cL_act 85 = .ok (.aload_n 2, 1) := by decide +kernel
theorem dL_act_86 : decode cL_act 86 = .ok (.iload_n 1, 1) := by decide +kernel
theorem dL_act_87 : decode cL_act 87 = .ok (.iconst 4, 1) := by decide +kernel
theorem dL_act_88 : decode cL_act 88 = .ok (.ishr, 1) := by decide +kernel
theorem dL_act_89 : decode cL_act 89 = .ok (.bipush 6, 2) := by decide +kernel
theorem dL_act_91 : decode cL_act 91 = .ok (.invokestatic 18, 3) := by decide +kernel
theorem dL_act_94 : decode cL_act 94 = .ok (.iaload, 1) := by decide +kernel
theorem dL_act_95 : decode cL_act 95 = .ok (.aload_n 0, 1) := by decide +kernel
theorem dL_act_96 : decode cL_act 96 = .ok (.iload 5, 2) := by decide +kernel
theorem dL_act_98 : decode cL_act 98 = .ok (.iconst 0, 1) := by decide +kernel
theorem dL_act_99 : decode cL_act 99 = .ok (.invokevirtual 30, 3) := by decide +kernel
theorem dL_act_102 : decode cL_act 102 = .ok (.iload_n 1, 1) := by decide +kernel
theorem dL_act_103 : decode cL_act 103 = .ok (.bipush 6, 2) := by decide +kernel
theorem dL_act_105 : decode cL_act 105 = .ok (.ishr, 1) := by decide +kernel
theorem dL_act_106 : decode cL_act 106 = .ok (.iconst 4, 1) := by decide +kernel
theorem dL_act_107 : decode cL_act 107 = .ok (.invokestatic 18, 3) := by decide +kernel
theorem dL_act_110 : decode cL_act 110 = .ok (.iload_n 1, 1) := by decide +kernel
theorem dL_act_111 : decode cL_act 111 = .ok (.bipush 7, 2) := by decide +kernel
theorem dL_act_113 : decode cL_act 113 = .ok (.ishr, 1) := by decide +kernel
theorem dL_act_114 : decode cL_act 114 = .ok (.iconst 5, 1) := by decide +kernel
theorem dL_act_115 : decode cL_act 115 = .ok (.invokestatic 18, 3) := by decide +kernel
theorem dL_act_118 : decode cL_act 118 = .ok (.invokevirtual 22, 3) := by decide +kernel
theorem dL_act_121 : decode cL_act 121 = .ok (.iload_n 3, 1) := by decide +kernel
theorem dL_act_122 : decode cL_act 122 = .ok (.if_icmp .eq 5, 3) := by decide +kernel
theorem dL_act_125 : decode cL_act 125 = .ok (.iconst 0, 1) := by decide +kernel
theorem dL_act_126 : decode cL_act 126 = .ok (.ireturn, 1) := by decide +kernel
theorem dL_act_127 : decode cL_act 127 = .ok (.aload_n 0, 1) := by decide +kernel
theorem dL_act_128 : decode cL_act 128 = .ok (.iload_n 3, 1) := by decide +kernel
theorem dL_act_129 : decode cL_act 129 = .ok (.iload_n 1, 1) := by decide +kernel
theorem dL_act_130 : decode cL_act 130 = .ok (.iconst 5, 1) := by decide +kernel
theorem dL_act_131 : decode cL_act 131 = .ok (.ishr, 1) := by decide +kernel
theorem dL_act_132 : decode cL_act 132 = .ok (.iconst 3, 1) := by decide +kernel
theorem dL_act_133 : decode cL_act 133 = .ok (.invokestatic 18, 3) := by decide +kernel
theorem dL_act_136 : decode cL_act 136 = .ok (.ifCond .le 7, 3) := by decide +kernel
theorem dL_act_139 : decode cL_act 139 = .ok (.iconst 1, 1) := by decide +kernel
theorem dL_act_140 : decode cL_act 140 = .ok (.goto 4, 3) := by decide +kernel
theorem dL_act_143 : decode cL_act 143 = .ok (.iconst 0, 1) := by decide +kernel
theorem dL_act_144 : decode cL_act 144 = .ok (.iload_n 1, 1) := by decide +kernel
theorem dL_act_145 : decode cL_act 145 = .ok (.bipush 8, 2) := by decide +kernel
theorem dL_act_147 : decode cL_act 147 = .ok (.ishr, 1) := by decide +kernel
theorem dL_act_148 : decode cL_act 148 = .ok (.iconst 4, 1) := by decide +kernel
theorem dL_act_149 : decode cL_act 149 = .ok (.invokestatic 18, 3) := by decide +kernel
theorem dL_act_152 : decode cL_act 152 = .ok (.invokevirtual 26, 3) := by decide +kernel
theorem dL_act_155 : decode cL_act 155 = .ok (.pop, 1) := by decide +kernel
theorem dL_act_156 : decode cL_act 156 = .ok (.aload_n 0, 1) := by decide +kernel
theorem dL_act_157 : decode cL_act 157 = .ok (.iload_n 3, 1) := by decide +kernel
theorem dL_act_158 : decode cL_act 158 = .ok (.aload_n 0, 1) := by decide +kernel
theorem dL_act_159 : decode cL_act 159 = .ok (.iload 5, 2) := by decide +kernel
theorem dL_act_161 : decode cL_act 161 = .ok (.iconst 2, 1) := by decide +kernel
theorem dL_act_162 : decode cL_act 162 = .ok (.invokevirtual 30, 3) := by decide +kernel
theorem dL_act_165 : decode cL_act 165 = .ok (.invokevirtual 33, 3) := by decide +kernel
theorem dL_act_168 : decode cL_act 168 = .ok (.aload_n 0, 1) := by decide +kernel
theorem dL_act_169 : decode cL_act 169 = .ok (.iload_n 3, 1) := by decide +kernel
theorem dL_act_170 : decode cL_act 170 = .ok (.bipush 10, 2) := by decide +kernel
theorem dL_act_172 : decode cL_act 172 = .ok (.invokevirtual 30, 3) := by decide +kernel
theorem dL_act_175 : decode cL_act 175 = .ok (.if_icmp .ne 27, 3) := by decide +kernel
theorem dL_act_178 : decode cL_act 178 = .ok (.aload_n 0, 1) := by decide +kernel
theorem dL_act_179 : decode cL_act 179 = .ok (.iload 5, 2) := by decide +kernel
theorem dL_act_181 : decode cL_act 181 = .ok (.iload_n 3, 1) := by decide +kernel
theorem dL_act_182 : decode cL_act 182 = .ok (.invokevirtual 60, 3) := by decide +kernel
theorem dL_act_185 : decode cL_act 185 = .ok (.ifCond .eq 17, 3) := by decide +kernel
theorem dL_act_188 : decode cL_act 188 = .ok (.aload_n 0, 1) := by decide +kernel
theorem dL_act_189 : decode cL_act 189 = .ok (.iload_n 3, 1) := by decide +kernel
theorem dL_act_190 : decode cL_act 190 = .ok (.iconst 0, 1) := by decide +kernel
theorem dL_act_191 : decode cL_act 191 = .ok (.iconst 0, 1) := by decide +kernel
theorem dL_act_192 : decode cL_act 192 = .ok (.invokevirtual 64, 3) := by decide +kernel
theorem dL_act_195 : decode cL_act 195 = .ok (.ifCond .lt 7, 3) := by decide +kernel
theorem dL_act_198 : decode cL_act 198 = .ok (.iconst 1, 1) := by decide +kernel
theorem dL_act_199 : decode cL_act 199 = .ok (.goto 4, 3) := by decide +kernel
theorem dL_act_202 : decode cL_act 202 = .ok (.iconst 0, 1) := by decide +kernel
theorem dL_act_203 : decode cL_act 203 = .ok (.ireturn, 1) := by decide +kernel
theorem dL_act_204 : decode cL_act 204 = .ok (.aload_n 0, 1) := by decide +kernel
theorem dL_act_205 : decode cL_act 205 = .ok (.iload 4, 2) := by decide +kernel
theorem dL_act_207 : decode cL_act 207 = .ok (.iload_n 1, 1) := by decide +kernel
theorem dL_act_208 : decode cL_act 208 = .ok (.bipush 6, 2) := by decide +kernel
theorem dL_act_210 : decode cL_act 210 = .ok (.ishr, 1) := by decide +kernel
theorem dL_act_211 : decode cL_act 211 = .ok (.sipush 300, 3) := by decide +kernel
theorem dL_act_214 : decode cL_act 214 = .ok (.invokestatic 18, 3) := by decide +kernel
theorem dL_act_217 : decode cL_act 217 = .ok (.sipush 300, 3) := by decide +kernel
theorem dL_act_220 : decode cL_act 220 = .ok (.iload_n 1, 1) := by decide +kernel
theorem dL_act_221 : decode cL_act 221 = .ok (.iconst 4, 1) := by decide +kernel
theorem dL_act_222 : decode cL_act 222 = .ok (.ishr, 1) := by decide +kernel
theorem dL_act_223 : decode cL_act 223 = .ok (.sipush 700, 3) := by decide +kernel
theorem dL_act_226 : decode cL_act 226 = .ok (.invokestatic 18, 3) := by decide +kernel
theorem dL_act_229 : decode cL_act 229 = .ok (.iadd, 1) := by decide +kernel
theorem dL_act_230 : decode cL_act 230 = .ok (.invokevirtual 68, 3) := by decide +kernel
theorem dL_act_233 : decode cL_act 233 = .ok (.aload_n 0, 1) := by decide +kernel
theorem dL_act_234 : decode cL_act 234 = .ok (.iload 4, 2) := by decide +kernel
theorem dL_act_236 : decode cL_act 236 = .ok (.bipush 11, 2) := by decide +kernel
theorem dL_act_238 : decode cL_act 238 = .ok (.invokevirtual 30, 3) := by decide +kernel
theorem dL_act_241 : decode cL_act 241 = .ok (.if_icmp .ne 7, 3) := by decide +kernel
theorem dL_act_244 : decode cL_act 244 = .ok (.iconst 1, 1) := by decide +kernel
theorem dL_act_245 : decode cL_act 245 = .ok (.goto 4, 3) := by decide +kernel
theorem dL_act_248 : decode cL_act 248 = .ok (.iconst 0, 1) := by decide +kernel
theorem dL_act_249 : decode cL_act 249 = .ok (.ireturn, 1) := by decide +kernel
theorem dL_act_250 : decode cL_act 250 = .ok (.aload_n 0, 1) := by decide +kernel
theorem dL_act_251 : decode cL_act 251 = .ok (.iload 4, 2) := by decide +kernel
theorem dL_act_253 : decode cL_act 253 = .ok (.iload_n 1, 1) := by decide +kernel
theorem dL_act_254 : decode cL_act 254 = .ok (.bipush 6, 2) := by decide +kernel
theorem dL_act_256 : decode cL_act 256 = .ok (.ishr, 1) := by decide +kernel
theorem dL_act_257 : decode cL_act 257 = .ok (.iconst 3, 1) := by decide +kernel
theorem dL_act_258 : decode cL_act 258 = .ok (.invokestatic 18, 3) := by decide +kernel
theorem dL_act_261 : decode cL_act 261 = .ok (.ifCond .le 7, 3) := by decide +kernel
theorem dL_act_264 : decode cL_act 264 = .ok (.iconst 1, 1) := by decide +kernel
theorem dL_act_265 : decode cL_act 265 = .ok (.goto 4, 3) := by decide +kernel
theorem dL_act_268 : decode cL_act 268 = .ok (.iconst 0, 1) := by decide +kernel
theorem dL_act_269 : decode cL_act 269 = .ok (.iload_n 1, 1) := by decide +kernel
theorem dL_act_270 : decode cL_act 270 = .ok (.iconst 4, 1) := by decide +kernel
theorem dL_act_271 : decode cL_act 271 = .ok (.ishr, 1) := by decide +kernel
theorem dL_act_272 : decode cL_act 272 = .ok (.bipush 6, 2) := by decide +kernel
theorem dL_act_274 : decode cL_act 274 = .ok (.invokestatic 18, 3) := by decide +kernel
theorem dL_act_277 : decode cL_act 277 = .ok (.invokevirtual 26, 3) := by decide +kernel
theorem dL_act_280 : decode cL_act 280 = .ok (.aload_n 0, 1) := by decide +kernel
theorem dL_act_281 : decode cL_act 281 = .ok (.iload 4, 2) := by decide +kernel
theorem dL_act_283 : decode cL_act 283 = .ok (.bipush 11, 2) := by decide +kernel
theorem dL_act_285 : decode cL_act 285 = .ok (.invokevirtual 30, 3) := by decide +kernel
theorem dL_act_288 : decode cL_act 288 = .ok (.if_icmp .ne 7, 3) := by decide +kernel
theorem dL_act_291 : decode cL_act 291 = .ok (.iconst 1, 1) := by decide +kernel
theorem dL_act_292 : decode cL_act 292 = .ok (.goto 4, 3) := by decide +kernel
theorem dL_act_295 : decode cL_act 295 = .ok (.iconst 0, 1) := by decide +kernel
theorem dL_act_296 : decode cL_act 296 = .ok (.ireturn, 1) := by decide +kernel
theorem dL_act_297 : decode cL_act 297 = .ok (.aload_n 0, 1) := by decide +kernel
theorem dL_act_298 : decode cL_act 298 = .ok (.iload 4, 2) := by decide +kernel
theorem dL_act_300 : decode cL_act 300 = .ok (.iload_n 1, 1) := by decide +kernel
theorem dL_act_301 : decode cL_act 301 = .ok (.bipush 6, 2) := by decide +kernel
theorem dL_act_303 : decode cL_act 303 = .ok (.ishr, 1) := by decide +kernel
theorem dL_act_304 : decode cL_act 304 = .ok (.bipush 16, 2) := by decide +kernel
theorem dL_act_306 : decode cL_act 306 = .ok (.invokestatic 18, 3) := by decide +kernel
theorem dL_act_309 : decode cL_act 309 = .ok (.iload_n 1, 1) := by decide +kernel
theorem dL_act_310 : decode cL_act 310 = .ok (.iconst 4, 1) := by decide +kernel
theorem dL_act_311 : decode cL_act 311 = .ok (.ishr, 1) := by decide +kernel
theorem dL_act_312 : decode cL_act 312 = .ok (.iconst 3, 1) := by decide +kernel
theorem dL_act_313 : decode cL_act 313 = .ok (.invokestatic 18, 3) := by decide +kernel
theorem dL_act_316 : decode cL_act 316 = .ok (.ifCond .ne 17, 3) := by decide +kernel
theorem dL_act_319 : decode cL_act 319 = .ok (.aload_n 2, 1) := by decide +kernel
theorem dL_act_320 : decode cL_act 320 = .ok (.iload_n 1, 1) := by decide +kernel
theorem dL_act_321 : decode cL_act 321 = .ok (.bipush 7, 2) := by decide +kernel
theorem dL_act_323 : decode cL_act 323 = .ok (.ishr, 1) := by decide +kernel
theorem dL_act_324 : decode cL_act 324 = .ok (.bipush 6, 2) := by decide +kernel
theorem dL_act_326 : decode cL_act 326 = .ok (.invokestatic 18, 3) := by decide +kernel
theorem dL_act_329 : decode cL_act 329 = .ok (.iaload, 1) := by decide +kernel
theorem dL_act_330 : decode cL_act 330 = .ok (.goto 4, 3) := by decide +kernel
theorem dL_act_333 : decode cL_act 333 = .ok (.iconst 0, 1) := by decide +kernel
theorem dL_act_334 : decode cL_act 334 = .ok (.invokevirtual 71, 3) := by decide +kernel
theorem dL_act_337 : decode cL_act 337 = .ok (.aload_n 0, 1) := by decide +kernel
theorem dL_act_338 : decode cL_act 338 = .ok (.iload 4, 2) := by decide +kernel
theorem dL_act_340 : decode cL_act 340 = .ok (.bipush 11, 2) := by decide +kernel
theorem dL_act_342 : decode cL_act 342 = .ok (.invokevirtual 30, 3) := by decide +kernel
theorem dL_act_345 : decode cL_act 345 = .ok (.if_icmp .ne 7, 3) := by decide +kernel
theorem dL_act_348 : decode cL_act 348 = .ok (.iconst 1, 1) := by decide +kernel
theorem dL_act_349 : decode cL_act 349 = .ok (.goto 4, 3) := by decide +kernel
theorem dL_act_352 : decode cL_act 352 = .ok (.iconst 0, 1) := by decide +kernel
theorem dL_act_353 : decode cL_act 353 = .ok (.ireturn, 1) := by decide +kernel
theorem dL_act_354 : decode cL_act 354 = .ok (.aload_n 0, 1) := by decide +kernel
theorem dL_act_355 : decode cL_act 355 = .ok (.iload 5, 2) := by decide +kernel
theorem dL_act_357 : decode cL_act 357 = .ok (.iconst 2, 1) := by decide +kernel
theorem dL_act_358 : decode cL_act 358 = .ok (.invokevirtual 30, 3) := by decide +kernel
theorem dL_act_361 : decode cL_act 361 = .ok (.istore 6, 2) := by decide +kernel
theorem dL_act_363 : decode cL_act 363 = .ok (.aload_n 0, 1) := by decide +kernel
theorem dL_act_364 : decode cL_act 364 = .ok (.iload 4, 2) := by decide +kernel
theorem dL_act_366 : decode cL_act 366 = .ok (.iload 6, 2) := by decide +kernel
theorem dL_act_368 : decode cL_act 368 = .ok (.invokevirtual 33, 3) := by decide +kernel
theorem dL_act_371 : decode cL_act 371 = .ok (.aload_n 0, 1) := by decide +kernel
theorem dL_act_372 : decode cL_act 372 = .ok (.iload 6, 2) := by decide +kernel
theorem dL_act_374 : decode cL_act 374 = .ok (.aload_n 0, 1) := by decide +kernel
theorem dL_act_375 : decode cL_act 375 = .ok (.iload 4, 2) := by decide +kernel
theorem dL_act_377 : decode cL_act 377 = .ok (.bipush 11, 2) := by decide +kernel
theorem dL_act_379 : decode cL_act 379 = .ok (.invokevirtual 30, 3) := by decide +kernel
theorem dL_act_382 : decode cL_act 382 = .ok (.invokevirtual 74, 3) := by decide +kernel
theorem dL_act_385 : decode cL_act 385 = .ok (.if_icmp .ne 40, 3) := by decide +kernel
theorem dL_act_388 : decode cL_act 388 = .ok (.aload_n 0, 1) := by decide +kernel
theorem dL_act_389 : decode cL_act 389 = .ok (.iload 5, 2) := by decide +kernel
theorem dL_act_391 : decode cL_act 391 = .ok (.iload 4, 2) := by decide +kernel
theorem dL_act_393 : decode cL_act 393 = .ok (.invokevirtual 60, 3) := by decide +kernel
theorem dL_act_396 : decode cL_act 396 = .ok (.aload_n 0, 1) := by decide +kernel
theorem dL_act_397 : decode cL_act 397 = .ok (.iload 5, 2) := by decide +kernel
theorem dL_act_399 : decode cL_act 399 = .ok (.iconst 0, 1) := by decide +kernel
theorem dL_act_400 : decode cL_act 400 = .ok (.invokevirtual 30, 3) := by decide +kernel
theorem dL_act_403 : decode cL_act 403 = .ok (.aload_n 0, 1) := by decide +kernel
theorem dL_act_404 : decode cL_act 404 = .ok (.iload 4, 2) := by decide +kernel
theorem dL_act_406 : decode cL_act 406 = .ok (.iconst 1, 1) := by decide +kernel
theorem dL_act_407 : decode cL_act 407 = .ok (.invokevirtual 30, 3) := by decide +kernel
theorem dL_act_410 : decode cL_act 410 = .ok (.if_icmp .ne 7, 3) := by decide +kernel
theorem dL_act_413 : decode cL_act 413 = .ok (.iconst 1, 1) := by decide +kernel
theorem dL_act_414 : decode cL_act 414 = .ok (.goto 4, 3) := by decide +kernel
theorem dL_act_417 : decode cL_act 417 = .ok (.iconst 0, 1) := by decide +kernel
theorem dL_act_418 : decode cL_act 418 = .ok (.if_icmp .ne 7, 3) := by decide +kernel
theorem dL_act_421 : decode cL_act 421 = .ok (.iconst 1, 1) := by decide +kernel
theorem dL_act_422 : decode cL_act 422 = .ok (.goto 4, 3) := by decide +kernel
theorem dL_act_425 : decode cL_act 425 = .ok (.iconst 0, 1) := by decide +kernel
theorem dL_act_426 : decode cL_act 426 = .ok (.ireturn, 1) := by decide +kernel
theorem dL_act_427 : decode cL_act 427 = .ok (.aload_n 0, 1) := by decide +kernel
theorem dL_act_428 : decode cL_act 428 = .ok (.iload 4, 2) := by decide +kernel
theorem dL_act_430 : decode cL_act 430 = .ok (.iload_n 1, 1) := by decide +kernel
theorem dL_act_431 : decode cL_act 431 = .ok (.bipush 6, 2) := by decide +kernel
theorem dL_act_433 : decode cL_act 433 = .ok (.ishr, 1) := by decide +kernel
theorem dL_act_434 : decode cL_act 434 = .ok (.iconst 3, 1) := by decide +kernel
theorem dL_act_435 : decode cL_act 435 = .ok (.invokestatic 18, 3) := by decide +kernel
theorem dL_act_438 : decode cL_act 438 = .ok (.ifCond .ne 7, 3) := by decide +kernel
theorem dL_act_441 : decode cL_act 441 = .ok (.iconst 1, 1) := by decide +kernel
theorem dL_act_442 : decode cL_act 442 = .ok (.goto 4, 3) := by decide +kernel
theorem dL_act_445 : decode cL_act 445 = .ok (.iconst 0, 1) := by decide +kernel
theorem dL_act_446 : decode cL_act 446 = .ok (.invokevirtual 36, 3) := by decide +kernel
theorem dL_act_449 : decode cL_act 449 = .ok (.aload_n 0, 1) := by decide +kernel
theorem dL_act_450 : decode cL_act 450 = .ok (.iconst 1, 1) := by decide +kernel
theorem dL_act_451 : decode cL_act 451 = .ok (.invokevirtual 40, 3) := by decide +kernel
theorem dL_act_454 : decode cL_act 454 = .ok (.if_icmp .ne 34, 3) := by decide +kernel
theorem dL_act_457 : decode cL_act 457 = .ok (.aload_n 0, 1) := by decide +kernel
theorem dL_act_458 : decode cL_act 458 = .ok (.iload 4, 2) := by decide +kernel
theorem dL_act_460 : decode cL_act 460 = .ok (.bipush 12, 2) := by decide +kernel
theorem dL_act_462 : decode cL_act 462 = .ok (.invokevirtual 30, 3) := by decide +kernel
theorem dL_act_465 : decode cL_act 465 = .ok (.iload_n 1, 1) := by decide +kernel
theorem dL_act_466 : decode cL_act 466 = .ok (.bipush 6, 2) := by decide +kernel
theorem dL_act_468 : decode cL_act 468 = .ok (.ishr, 1) := by decide +kernel
theorem dL_act_469 : decode cL_act 469 = .ok (.iconst 3, 1) := by decide +kernel
theorem dL_act_470 : decode cL_act 470 = .ok (.invokestatic 18, 3) := by decide +kernel
theorem dL_act_473 : decode cL_act 473 = .ok (.ifCond .ne 7, 3) := by decide +kernel
theorem dL_act_476 : decode cL_act 476 = .ok (.iconst 1, 1) := by decide +kernel
theorem dL_act_477 : decode cL_act 477 = .ok (.goto 4, 3) := by decide +kernel
theorem dL_act_480 : decode cL_act 480 = .ok (.iconst 0, 1) := by decide +kernel
theorem dL_act_481 : decode cL_act 481 = .ok (.if_icmp .ne 7, 3) := by decide +kernel
theorem dL_act_484 : decode cL_act 484 = .ok (.iconst 1, 1) := by decide +kernel
theorem dL_act_485 : decode cL_act 485 = .ok (.goto 4, 3) := by decide +kernel
theorem dL_act_488 : decode cL_act 488 = .ok (.iconst 0, 1) := by decide +kernel
theorem dL_act_489 : decode cL_act 489 = .ok (.ireturn, 1) := by decide +kernel
theorem dL_act_490 : decode cL_act 490 = .ok (.aload_n 0, 1) := by decide +kernel
theorem dL_act_491 : decode cL_act 491 = .ok (.aload_n 0, 1) := by decide +kernel
theorem dL_act_492 : decode cL_act 492 = .ok (.iload 5, 2) := by decide +kernel
theorem dL_act_494 : decode cL_act 494 = .ok (.iconst 0, 1) := by decide +kernel
theorem dL_act_495 : decode cL_act 495 = .ok (.invokevirtual 30, 3) := by decide +kernel
theorem dL_act_498 : decode cL_act 498 = .ok (.iload_n 1, 1) := by decide +kernel
theorem dL_act_499 : decode cL_act 499 = .ok (.iconst 4, 1) := by decide +kernel
theorem dL_act_500 : decode cL_act 500 = .ok (.ishr, 1) := by decide +kernel
theorem dL_act_501 : decode cL_act 501 = .ok (.sipush 400, 3) := by decide +kernel
theorem dL_act_504 : decode cL_act 504 = .ok (.invokestatic 18, 3) := by decide +kernel
theorem dL_act_507 : decode cL_act 507 = .ok (.sipush 400, 3) := by decide +kernel
theorem dL_act_510 : decode cL_act 510 = .ok (.iload_n 1, 1) := by decide +kernel
theorem dL_act_511 : decode cL_act 511 = .ok (.bipush 6, 2) := by decide +kernel
theorem dL_act_513 : decode cL_act 513 = .ok (.ishr, 1) := by decide +kernel
theorem dL_act_514 : decode cL_act 514 = .ok (.sipush 600, 3) := by decide +kernel
theorem dL_act_517 : decode cL_act 517 = .ok (.invokestatic 18, 3) := by decide +kernel
theorem dL_act_520 : decode cL_act 520 = .ok (.iadd, 1) := by decide +kernel
theorem dL_act_521 : decode cL_act 521 = .ok (.invokevirtual 77, 3) := by decide +kernel
theorem dL_act_524 : decode cL_act 524 = .ok (.ifCond .lt 40, 3) := by decide +kernel
theorem dL_act_527 : decode cL_act 527 = .ok (.aload_n 0, 1) := by decide +kernel
theorem dL_act_528 : decode cL_act 528 = .ok (.aload_n 0, 1) := by decide +kernel
theorem dL_act_529 : decode cL_act 529 = .ok (.iconst 2, 1) := by decide +kernel
theorem dL_act_530 : decode cL_act 530 = .ok (.invokevirtual 40, 3) := by decide +kernel
theorem dL_act_533 : decode cL_act 533 = .ok (.iconst 1, 1) := by decide +kernel
theorem dL_act_534 : decode cL_act 534 = .ok (.isub, 1) := by decide +kernel
theorem dL_act_535 : decode cL_act 535 = .ok (.aload_n 0, 1) := by decide +kernel
theorem dL_act_536 : decode cL_act 536 = .ok (.iload 5, 2) := by decide +kernel
theorem dL_act_538 : decode cL_act 538 = .ok (.iconst 2, 1) := by decide +kernel
theorem dL_act_539 : decode cL_act 539 = .ok (.invokevirtual 30, 3) := by decide +kernel
theorem dL_act_542 : decode cL_act 542 = .ok (.invokevirtual 80, 3) := by decide +kernel
theorem dL_act_545 : decode cL_act 545 = .ok (.aload_n 0, 1) := by decide +kernel
theorem dL_act_546 : decode cL_act 546 = .ok (.aload_n 0, 1) := by decide +kernel
theorem dL_act_547 : decode cL_act 547 = .ok (.iconst 2, 1) := by decide +kernel
theorem dL_act_548 : decode cL_act 548 = .ok (.invokevirtual 40, 3) := by decide +kernel
theorem dL_act_551 : decode cL_act 551 = .ok (.iconst 1, 1) := by decide +kernel
theorem dL_act_552 : decode cL_act 552 = .ok (.isub, 1) := by decide +kernel
theorem dL_act_553 : decode cL_act 553 = .ok (.iconst 4, 1) := by decide +kernel
theorem dL_act_554 : decode cL_act 554 = .ok (.invokevirtual 83, 3) := by decide +kernel
theorem dL_act_557 : decode cL_act 557 = .ok (.if_icmp .ne 7, 3) := by decide +kernel
theorem dL_act_560 : decode cL_act 560 = .ok (.iconst 1, 1) := by decide +kernel
theorem dL_act_561 : decode cL_act 561 = .ok (.goto 4, 3) := by decide +kernel
theorem dL_act_564 : decode cL_act 564 = .ok (.iconst 0, 1) := by decide +kernel
theorem dL_act_565 : decode cL_act 565 = .ok (.ireturn, 1) := by decide +kernel
theorem dL_act_566 : decode cL_act 566 = .ok (.aload_n 0, 1) := by decide +kernel
theorem dL_act_567 : decode cL_act 567 = .ok (.iload_n 1, 1) := by decide +kernel
theorem dL_act_568 : decode cL_act 568 = .ok (.iconst 4, 1) := by decide +kernel
theorem dL_act_569 : decode cL_act 569 = .ok (.ishr, 1) := by decide +kernel
theorem dL_act_570 : decode cL_act 570 = .ok (.bipush 8, 2) := by decide +kernel
theorem dL_act_572 : decode cL_act 572 = .ok (.invokestatic 18, 3) := by decide +kernel
theorem dL_act_575 : decode cL_act 575 = .ok (.iconst 3, 1) := by decide +kernel
theorem dL_act_576 : decode cL_act 576 = .ok (.invokevirtual 83, 3) := by decide +kernel
theorem dL_act_579 : decode cL_act 579 = .ok (.istore 7, 2) := by decide +kernel
theorem dL_act_581 : decode cL_act 581 = .ok (.aload_n 0, 1) := by decide +kernel
theorem dL_act_582 : decode cL_act 582 = .ok (.iload_n 1, 1) := by decide +kernel
theorem dL_act_583 : decode cL_act 583 = .ok (.iconst 4, 1) := by decide +kernel
theorem dL_act_584 : decode cL_act 584 = .ok (.ishr, 1) := by decide +kernel
theorem dL_act_585 : decode cL_act 585 = .ok (.bipush 8, 2) := by decide +kernel
theorem dL_act_587 : decode cL_act 587 = .ok (.invokestatic 18, 3) := by decide +kernel
theorem dL_act_590 : decode cL_act 590 = .ok (.iload_n 1, 1) := by decide +kernel
theorem dL_act_591 : decode cL_act 591 = .ok (.bipush 7, 2) := by decide +kernel
theorem dL_act_593 : decode cL_act 593 = .ok (.ishr, 1) := by decide +kernel
theorem dL_act_594 : decode cL_act 594 = .ok (.iconst 5, 1) := by decide +kernel
theorem dL_act_595 : decode cL_act 595 = .ok (.invokestatic 18, 3) := by decide +kernel
theorem dL_act_598 : decode cL_act 598 = .ok (.invokevirtual 86, 3) := by decide +kernel
theorem dL_act_601 : decode cL_act 601 = .ok (.istore 8, 2) := by decide +kernel
theorem dL_act_603 : decode cL_act 603 = .ok (.iload 8, 2) := by decide +kernel
theorem dL_act_605 : decode cL_act 605 = .ok (.aload_n 0, 1) := by decide +kernel
theorem dL_act_606 : decode cL_act 606 = .ok (.iload_n 1, 1) := by decide +kernel
theorem dL_act_607 : decode cL_act 607 = .ok (.iconst 4, 1) := by decide +kernel
theorem dL_act_608 : decode cL_act 608 = .ok (.ishr, 1) := by decide +kernel
theorem dL_act_609 : decode cL_act 609 = .ok (.bipush 8, 2) := by decide +kernel
theorem dL_act_611 : decode cL_act 611 = .ok (.invokestatic 18, 3) := by decide +kernel
theorem dL_act_614 : decode cL_act 614 = .ok (.iconst 3, 1) := by decide +kernel
theorem dL_act_615 : decode cL_act 615 = .ok (.invokevirtual 83, 3) := by decide +kernel
theorem dL_act_618 : decode cL_act 618 = .ok (.invokestatic 89, 3) := by decide +kernel
theorem dL_act_621 : decode cL_act 621 = .ok (.if_icmp .ne 36, 3) := by decide +kernel
theorem dL_act_624 : decode cL_act 624 = .ok (.iload 7, 2) := by decide +kernel
theorem dL_act_626 : decode cL_act 626 = .ok (.aload_n 0, 1) := by decide +kernel
theorem dL_act_627 : decode cL_act 627 = .ok (.iload_n 1, 1) := by decide +kernel
theorem dL_act_628 : decode cL_act 628 = .ok (.iconst 4, 1) := by decide +kernel
theorem dL_act_629 : decode cL_act 629 = .ok (.ishr, 1) := by decide +kernel
theorem dL_act_630 : decode cL_act 630 = .ok (.bipush 8, 2) := by decide +kernel
theorem dL_act_632 : decode cL_act 632 = .ok (.invokestatic 18, 3) := by decide +kernel
theorem dL_act_635 : decode cL_act 635 = .ok (.iconst 3, 1) := by decide +kernel
theorem dL_act_636 : decode cL_act 636 = .ok (.invokevirtual 83, 3) := by decide +kernel
theorem dL_act_639 : decode cL_act 639 = .ok (.ixor, 1) := by decide +kernel
theorem dL_act_640 : decode cL_act 640 = .ok (.iconst 1, 1) := by decide +kernel
theorem dL_act_641 : decode cL_act 641 = .ok (.iload_n 1, 1) := by decide +kernel
theorem dL_act_642 : decode cL_act 642 = .ok (.bipush 7, 2) := by decide +kernel
theorem dL_act_644 : decode cL_act 644 = .ok (.ishr, 1) := by decide +kernel
theorem dL_act_645 : decode cL_act 645 = .ok (.iconst 5, 1) := by decide +kernel
theorem dL_act_646 : decode cL_act 646 = .ok (.invokestatic 18, 3) := by decide +kernel
theorem dL_act_649 : decode cL_act 649 = .ok (.ishl, 1) := by decide +kernel
theorem dL_act_650 : decode cL_act 650 = .ok (.if_icmp .ne 7, 3) := by decide +kernel
theorem dL_act_653 : decode cL_act 653 = .ok (.iconst 1, 1) := by decide +kernel
theorem dL_act_654 : decode cL_act 654 = .ok (.goto 4, 3) := by decide +kernel
theorem dL_act_657 : decode cL_act 657 = .ok (.iconst 0, 1) := by decide +kernel
theorem dL_act_658 : decode cL_act 658 = .ok (.ireturn, 1) := by decide +kernel
theorem dL_act_659 : decode cL_act 659 = .ok (.iload_n 1, 1) := by decide +kernel
theorem dL_act_660 : decode cL_act 660 = .ok (.bipush 6, 2) := by decide +kernel

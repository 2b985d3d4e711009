/-! the law's own names, printed, 4 -/
theorem dL_act_662 : decode cL_act 662 = .ok (.ishr, 1) := by decide +kernel
theorem dL_act_663 : decode cL_act 663 = .ok (.iconst 2, 1) := by decide +kernel
theorem dL_act_664 : decode cL_act 664 = .ok (.invokestatic 18, 3) := by decide +kernel
theorem dL_act_667 : decode cL_act 667 = .ok (.ifCond .ne 7, 3) := by decide +kernel
theorem dL_act_670 : decode cL_act 670 = .ok (.iconst 1, 1) := by decide +kernel
theorem dL_act_671 : decode cL_act 671 = .ok (.goto 4, 3) := by decide +kernel
theorem dL_act_674 : decode cL_act 674 = .ok (.iconst 0, 1) := by decide +kernel
theorem dL_act_675 : decode cL_act 675 = .ok (.istore 9, 2) := by decide +kernel
theorem dL_act_677 : decode cL_act 677 = .ok (.aload_n 0, 1) := by decide +kernel
theorem dL_act_678 : decode cL_act 678 = .ok (.iload 9, 2) := by decide +kernel
theorem dL_act_680 : decode cL_act 680 = .ok (.invokevirtual 94, 3) := by decide +kernel
theorem dL_act_683 : decode cL_act 683 = .ok (.pop, 1) := by decide +kernel
theorem dL_act_684 : decode cL_act 684 = .ok (.aload_n 0, 1) := by decide +kernel
theorem dL_act_685 : decode cL_act 685 = .ok (.iload 9, 2) := by decide +kernel
theorem dL_act_687 : decode cL_act 687 = .ok (.invokevirtual 94, 3) := by decide +kernel
theorem dL_act_690 : decode cL_act 690 = .ok (.iload 9, 2) := by decide +kernel
theorem dL_act_692 : decode cL_act 692 = .ok (.if_icmp .ne 7, 3) := by decide +kernel
theorem dL_act_695 : decode cL_act 695 = .ok (.iconst 1, 1) := by decide +kernel
theorem dL_act_696 : decode cL_act 696 = .ok (.goto 4, 3) := by decide +kernel
theorem dL_act_699 : decode cL_act 699 = .ok (.iconst 0, 1) := by decide +kernel
theorem dL_act_700 : decode cL_act 700 = .ok (.ireturn, 1) := by decide +kernel
theorem dL_act_701 : decode cL_act 701 = .ok (.astore 6, 2) := by decide +kernel
theorem dL_act_703 : decode cL_act 703 = .ok (.iload_n 1, 1) := by decide +kernel
theorem dL_act_704 : decode cL_act 704 = .ok (.bipush 12, 2) := by decide +kernel
theorem dL_act_706 : decode cL_act 706 = .ok (.invokestatic 18, 3) := by decide +kernel
theorem dL_act_709 : decode cL_act 709 = .ok (.bipush 10, 2) := by decide +kernel
theorem dL_act_711 : decode cL_act 711 = .ok (.if_icmp .ne 7, 3) := by decide +kernel
theorem dL_act_714 : decode cL_act 714 = .ok (.iconst 1, 1) := by decide +kernel
theorem dL_act_715 : decode cL_act 715 = .ok (.goto 4, 3) := by decide +kernel
theorem dL_act_718 : decode cL_act 718 = .ok (.iconst 0, 1) := by decide +kernel
theorem dL_act_719 : decode cL_act 719 = .ok (.ireturn, 1) := by decide +kernel
theorem dL_act_720 : decode cL_act 720 = .ok (.astore 6, 2) := by decide +kernel
theorem dL_act_722 : decode cL_act 722 = .ok (.iload_n 3, 1) := by decide +kernel
theorem dL_act_723 : decode cL_act 723 = .ok (.bipush 20, 2) := by decide +kernel
theorem dL_act_725 : decode cL_act 725 = .ok (.if_icmp .ne 13, 3) := by decide +kernel
theorem dL_act_728 : decode cL_act 728 = .ok (.iload_n 1, 1) := by decide +kernel
theorem dL_act_729 : decode cL_act 729 = .ok (.bipush 12, 2) := by decide +kernel
theorem dL_act_731 : decode cL_act 731 = .ok (.invokestatic 18, 3) := by decide +kernel
theorem dL_act_734 : decode cL_act 734 = .ok (.iconst 3, 1) := by decide +kernel
theorem dL_act_735 : decode cL_act 735 = .ok (.if_icmp .lt 24, 3) := by decide +kernel
theorem dL_act_738 : decode cL_act 738 = .ok (.iload_n 1, 1) := by decide +kernel
theorem dL_act_739 : decode cL_act 739 = .ok (.bipush 12, 2) := by decide +kernel
theorem dL_act_741 : decode cL_act 741 = .ok (.invokestatic 18, 3) := by decide +kernel
theorem dL_act_744 : decode cL_act 744 = .ok (.bipush 9, 2) := by decide +kernel
theorem dL_act_746 : decode cL_act 746 = .ok (.if_icmp .ne 17, 3) := by decide +kernel
theorem dL_act_749 : decode cL_act 749 = .ok (.aload_n 0, 1) := by decide +kernel
theorem dL_act_750 : decode cL_act 750 = .ok (.iconst 2, 1) := by decide +kernel
theorem dL_act_751 : decode cL_act 751 = .ok (.invokevirtual 40, 3) := by decide +kernel
theorem dL_act_754 : decode cL_act 754 = .ok (.bipush 8, 2) := by decide +kernel
theorem dL_act_756 : decode cL_act 756 = .ok (.if_icmp .ne 7, 3) := by decide +kernel
theorem dL_act_759 : decode cL_act 759 = .ok (.iconst 1, 1) := by decide +kernel
theorem dL_act_760 : decode cL_act 760 = .ok (.goto 4, 3) := by decide +kernel
theorem dL_act_763 : decode cL_act 763 = .ok (.iconst 0, 1) := by decide +kernel
theorem dL_act_764 : decode cL_act 764 = .ok (.ireturn, 1) := by decide +kernel
theorem dL_isLetterRight_0 : decode cL_isLetterRight 0 = .ok (.aload_n 0, 1) := by decide +kernel
theorem dL_isLetterRight_1 : decode cL_isLetterRight 1 = .ok (.iload_n 1, 1) := by decide +kernel
theorem dL_isLetterRight_2 : decode cL_isLetterRight 2 = .ok (.iload_n 2, 1) := by decide +kernel
theorem dL_isLetterRight_3 : decode cL_isLetterRight 3 = .ok (.iload_n 3, 1) := by decide +kernel
theorem dL_isLetterRight_4 : decode cL_isLetterRight 4 = .ok (.invokevirtual 64, 3) := by decide +kernel
theorem dL_isLetterRight_7 : decode cL_isLetterRight 7 = .ok (.istore 4, 2) := by decide +kernel
theorem dL_isLetterRight_9 : decode cL_isLetterRight 9 = .ok (.aload_n 0, 1) := by decide +kernel
theorem dL_isLetterRight_10 : decode cL_isLetterRight 10 = .ok (.iload_n 1, 1) := by decide +kernel
theorem dL_isLetterRight_11 : decode cL_isLetterRight 11 = .ok (.invokevirtual 102, 3) := by decide +kernel
theorem dL_isLetterRight_14 : decode cL_isLetterRight 14 = .ok (.istore 5, 2) := by decide +kernel
theorem dL_isLetterRight_16 : decode cL_isLetterRight 16 = .ok (.aload_n 0, 1) := by decide +kernel
theorem dL_isLetterRight_17 : decode cL_isLetterRight 17 = .ok (.iload_n 1, 1) := by decide +kernel
theorem dL_isLetterRight_18 : decode cL_isLetterRight 18 = .ok (.iload_n 2, 1) := by decide +kernel
theorem dL_isLetterRight_19 : decode cL_isLetterRight 19 = .ok (.iload_n 3, 1) := by decide +kernel
theorem dL_isLetterRight_20 : decode cL_isLetterRight 20 = .ok (.invokevirtual 105, 3) := by decide +kernel
theorem dL_isLetterRight_23 : decode cL_isLetterRight 23 = .ok (.istore 6, 2) := by decide +kernel
theorem dL_isLetterRight_25 : decode cL_isLetterRight 25 = .ok (.iload 4, 2) := by decide +kernel
theorem dL_isLetterRight_27 : decode cL_isLetterRight 27 = .ok (.ifCond .lt 84, 3) := by decide +kernel
theorem dL_isLetterRight_30 : decode cL_isLetterRight 30 = .ok (.iload 4, 2) := by decide +kernel
theorem dL_isLetterRight_32 : decode cL_isLetterRight 32 = .ok (.bipush 7, 2) := by decide +kernel
theorem dL_isLetterRight_34 : decode cL_isLetterRight 34 = .ok (.if_icmp .le 10, 3) := by decide +kernel
theorem dL_isLetterRight_37 : decode cL_isLetterRight 37 = .ok (.iload 4, 2) := by decide +kernel
theorem dL_isLetterRight_39 : decode cL_isLetterRight 39 = .ok (.bipush 10, 2) := by decide +kernel
theorem dL_isLetterRight_41 : decode cL_isLetterRight 41 = .ok (.if_icmp .ne 70, 3) := by decide +kernel
theorem dL_isLetterRight_44 : decode cL_isLetterRight 44 = .ok (.iload 5, 2) := by decide +kernel
theorem dL_isLetterRight_46 : decode cL_isLetterRight 46 = .ok (.ifCond .lt 65, 3) := by decide +kernel
theorem dL_isLetterRight_49 : decode cL_isLetterRight 49 = .ok (.iload 5, 2) := by decide +kernel
theorem dL_isLetterRight_51 : decode cL_isLetterRight 51 = .ok (.bipush 60, 2) := by decide +kernel
theorem dL_isLetterRight_53 : decode cL_isLetterRight 53 = .ok (.if_icmp .gt 58, 3) := by decide +kernel
theorem dL_isLetterRight_56 : decode cL_isLetterRight 56 = .ok (.iload 5, 2) := by decide +kernel
theorem dL_isLetterRight_58 : decode cL_isLetterRight 58 = .ok (.ifCond .ne 7, 3) := by decide +kernel
theorem dL_isLetterRight_61 : decode cL_isLetterRight 61 = .ok (.iconst 1, 1) := by decide +kernel
theorem dL_isLetterRight_62 : decode cL_isLetterRight 62 = .ok (.goto 4, 3) := by decide +kernel
theorem dL_isLetterRight_65 : decode cL_isLetterRight 65 = .ok (.iconst 0, 1) := by decide +kernel
theorem dL_isLetterRight_66 : decode cL_isLetterRight 66 = .ok (.iload 4, 2) := by decide +kernel
theorem dL_isLetterRight_68 : decode cL_isLetterRight 68 = .ok (.bipush 10, 2) := by decide +kernel
theorem dL_isLetterRight_70 : decode cL_isLetterRight 70 = .ok (.if_icmp .ne 7, 3) := by decide +kernel
theorem dL_isLetterRight_73 : decode cL_isLetterRight 73 = .ok (.iconst 1, 1) := by decide +kernel
theorem dL_isLetterRight_74 : decode cL_isLetterRight 74 = .ok (.goto 4, 3) := by decide +kernel
theorem dL_isLetterRight_77 : decode cL_isLetterRight 77 = .ok (.iconst 0, 1) := by decide +kernel
theorem dL_isLetterRight_78 : decode cL_isLetterRight 78 = .ok (.if_icmp .ne 33, 3) := by decide +kernel
theorem dL_isLetterRight_81 : decode cL_isLetterRight 81 = .ok (.iload 6, 2) := by decide +kernel
theorem dL_isLetterRight_83 : decode cL_isLetterRight 83 = .ok (.ifCond .lt 7, 3) := by decide +kernel
theorem dL_isLetterRight_86 : decode cL_isLetterRight 86 = .ok (.iconst 1, 1) := by decide +kernel
theorem dL_isLetterRight_87 : decode cL_isLetterRight 87 = .ok (.goto 4, 3) := by decide +kernel
theorem dL_isLetterRight_90 : decode cL_isLetterRight 90 = .ok (.iconst 0, 1) := by decide +kernel
theorem dL_isLetterRight_91 : decode cL_isLetterRight 91 = .ok (.iload 4, 2) := by decide +kernel
theorem dL_isLetterRight_93 : decode cL_isLetterRight 93 = .ok (.ifCond .le 14, 3) := by decide +kernel
theorem dL_isLetterRight_96 : decode cL_isLetterRight 96 = .ok (.iload 4, 2) := by decide +kernel
theorem dL_isLetterRight_98 : decode cL_isLetterRight 98 = .ok (.bipush 10, 2) := by decide +kernel
theorem dL_isLetterRight_100 : decode cL_isLetterRight 100 = .ok (.if_icmp .ge 7, 3) := by decide +kernel
theorem dL_isLetterRight_103 : decode cL_isLetterRight 103 = .ok (.iconst 1, 1) := by decide +kernel
theorem dL_isLetterRight_104 : decode cL_isLetterRight 104 = .ok (.goto 4, 3) := by decide +kernel
theorem dL_isLetterRight_107 : decode cL_isLetterRight 107 = .ok (.iconst 0, 1) := by decide +kernel
theorem dL_isLetterRight_108 : decode cL_isLetterRight 108 = .ok (.if_icmp .eq 5, 3) := by decide +kernel
theorem dL_isLetterRight_111 : decode cL_isLetterRight 111 = .ok (.iconst 0, 1) := by decide +kernel
theorem dL_isLetterRight_112 : decode cL_isLetterRight 112 = .ok (.ireturn, 1) := by decide +kernel
theorem dL_isLetterRight_113 : decode cL_isLetterRight 113 = .ok (.aload_n 0, 1) := by decide +kernel
theorem dL_isLetterRight_114 : decode cL_isLetterRight 114 = .ok (.iload_n 1, 1) := by decide +kernel
theorem dL_isLetterRight_115 : decode cL_isLetterRight 115 = .ok (.bipush 12, 2) := by decide +kernel
theorem dL_isLetterRight_117 : decode cL_isLetterRight 117 = .ok (.invokevirtual 30, 3) := by decide +kernel
theorem dL_isLetterRight_120 : decode cL_isLetterRight 120 = .ok (.iconst 1, 1) := by decide +kernel
theorem dL_isLetterRight_121 : decode cL_isLetterRight 121 = .ok (.if_icmp .ne 7, 3) := by decide +kernel
theorem dL_isLetterRight_124 : decode cL_isLetterRight 124 = .ok (.iconst 1, 1) := by decide +kernel
theorem dL_isLetterRight_125 : decode cL_isLetterRight 125 = .ok (.goto 4, 3) := by decide +kernel
theorem dL_isLetterRight_128 : decode cL_isLetterRight 128 = .ok (.iconst 0, 1) := by decide +kernel
theorem dL_isLetterRight_129 : decode cL_isLetterRight 129 = .ok (.istore 7, 2) := by decide +kernel
theorem dL_isLetterRight_131 : decode cL_isLetterRight 131 = .ok (.iload 7, 2) := by decide +kernel
theorem dL_isLetterRight_133 : decode cL_isLetterRight 133 = .ok (.ifCond .eq 34, 3) := by decide +kernel
theorem dL_isLetterRight_136 : decode cL_isLetterRight 136 = .ok (.iload 5, 2) := by decide +kernel
theorem dL_isLetterRight_138 : decode cL_isLetterRight 138 = .ok (.iconst 1, 1) := by decide +kernel
theorem dL_isLetterRight_139 : decode cL_isLetterRight 139 = .ok (.if_icmp .lt 26, 3) := by decide +kernel
theorem dL_isLetterRight_142 : decode cL_isLetterRight 142 = .ok (.iload 4, 2) := by decide +kernel
theorem dL_isLetterRight_144 : decode cL_isLetterRight 144 = .ok (.iconst 3, 1) := by decide +kernel
theorem dL_isLetterRight_145 : decode cL_isLetterRight 145 = .ok (.if_icmp .gt 20, 3) := by decide +kernel
theorem dL_isLetterRight_148 : decode cL_isLetterRight 148 = .ok (.iload 4, 2) := by decide +kernel
theorem dL_isLetterRight_150 : decode cL_isLetterRight 150 = .ok (.ifCond .ne 17, 3) := by decide +kernel
theorem dL_isLetterRight_153 : decode cL_isLetterRight 153 = .ok (.aload_n 0, 1) := by decide +kernel
theorem dL_isLetterRight_154 : decode cL_isLetterRight 154 = .ok (.iload_n 1, 1) := by decide +kernel
theorem dL_isLetterRight_155 : decode cL_isLetterRight 155 = .ok (.iload_n 2, 1) := by decide +kernel
theorem dL_isLetterRight_156 : decode cL_isLetterRight 156 = .ok (.iload_n 3, 1) := by decide +kernel
theorem dL_isLetterRight_157 : decode cL_isLetterRight 157 = .ok (.iconst 1, 1) := by decide +kernel
theorem dL_isLetterRight_158 : decode cL_isLetterRight 158 = .ok (.invokevirtual 108, 3) := by decide +kernel
theorem dL_isLetterRight_161 : decode cL_isLetterRight 161 = .ok (.iconst (-1), 1) := by decide +kernel
theorem dL_isLetterRight_162 : decode cL_isLetterRight 162 = .ok (.if_icmp .eq 5, 3) := by decide +kernel
theorem dL_isLetterRight_165 : decode cL_isLetterRight 165 = .ok (.iconst 0, 1) := by decide +kernel
theorem dL_isLetterRight_166 : decode cL_isLetterRight 166 = .ok (.ireturn, 1) := by decide +kernel
theorem dL_isLetterRight_167 : decode cL_isLetterRight 167 = .ok (.iconst 0, 1) := by decide +kernel
theorem dL_isLetterRight_168 : decode cL_isLetterRight 168 = .ok (.istore 8, 2) := by decide +kernel
theorem dL_isLetterRight_170 : decode cL_isLetterRight 170 = .ok (.iconst (-1), 1) := by decide +kernel
theorem dL_isLetterRight_171 : decode cL_isLetterRight 171 = .ok (.istore 9, 2) := by decide +kernel
theorem dL_isLetterRight_173 : decode cL_isLetterRight 173 = .ok (.aload_n 0, 1) := by decide +kernel
theorem dL_isLetterRight_174 : decode cL_isLetterRight 174 = .ok (.iload_n 1, 1) := by decide +kernel
theorem dL_isLetterRight_175 : decode cL_isLetterRight 175 = .ok (.iload_n 2, 1) := by decide +kernel
theorem dL_isLetterRight_176 : decode cL_isLetterRight 176 = .ok (.iload_n 3, 1) := by decide +kernel
theorem dL_isLetterRight_177 : decode cL_isLetterRight 177 = .ok (.iconst 0, 1) := by decide +kernel
theorem dL_isLetterRight_178 : decode cL_isLetterRight 178 = .ok (.invokevirtual 108, 3) := by decide +kernel
theorem dL_isLetterRight_181 : decode cL_isLetterRight 181 = .ok (.istore 10, 2) := by decide +kernel
theorem dL_isLetterRight_183 : decode cL_isLetterRight 183 = .ok (.iload 10, 2) := by decide +kernel
theorem dL_isLetterRight_185 : decode cL_isLetterRight 185 = .ok (.ifCond .lt 152, 3) := by decide +kernel
theorem dL_isLetterRight_188 : decode cL_isLetterRight 188 = .ok (.iload 8, 2) := by decide +kernel
theorem dL_isLetterRight_190 : decode cL_isLetterRight 190 = .ok (.ifCond .ne 12, 3) := by decide +kernel
theorem dL_isLetterRight_193 : decode cL_isLetterRight 193 = .ok (.iload 10, 2) := by decide +kernel
theorem dL_isLetterRight_195 : decode cL_isLetterRight 195 = .ok (.iload_n 1, 1) := by decide +kernel
theorem dL_isLetterRight_196 : decode cL_isLetterRight 196 = .ok (.if_icmp .eq 19, 3) := by decide +kernel
theorem dL_isLetterRight_199 : decode cL_isLetterRight 199 = .ok (.goto 14, 3) := by decide +kernel
theorem dL_isLetterRight_202 : decode cL_isLetterRight 202 = .ok (.aload_n 0, 1) := by decide +kernel
theorem dL_isLetterRight_203 : decode cL_isLetterRight 203 = .ok (.iload 10, 2) := by decide +kernel
theorem dL_isLetterRight_205 : decode cL_isLetterRight 205 = .ok (.iload 9, 2) := by decide +kernel
theorem dL_isLetterRight_207 : decode cL_isLetterRight 207 = .ok (.invokevirtual 60, 3) := by decide +kernel
theorem dL_isLetterRight_210 : decode cL_isLetterRight 210 = .ok (.ifCond .ne 5, 3) := by decide +kernel
theorem dL_isLetterRight_213 : decode cL_isLetterRight 213 = .ok (.iconst 0, 1) := by decide +kernel
theorem dL_isLetterRight_214 : decode cL_isLetterRight 214 = .ok (.ireturn, 1) := by decide +kernel
theorem dL_isLetterRight_215 : decode cL_isLetterRight 215 = .ok (.iload 4, 2) := by decide +kernel
theorem dL_isLetterRight_217 : decode cL_isLetterRight 217 = .ok (.ifCond .ne 99, 3) := by decide +kernel
theorem dL_isLetterRight_220 : decode cL_isLetterRight 220 = .ok (.iload_n 2, 1) := by decide +kernel
theorem dL_isLetterRight_221 : decode cL_isLetterRight 221 = .ok (.aload_n 0, 1) := by decide +kernel
theorem dL_isLetterRight_222 : decode cL_isLetterRight 222 = .ok (.iload 10, 2) := by decide +kernel
theorem dL_isLetterRight_224 : decode cL_isLetterRight 224 = .ok (.iconst 4, 1) := by decide +kernel
theorem dL_isLetterRight_225 : decode cL_isLetterRight 225 = .ok (.invokevirtual 30, 3) := by decide +kernel
theorem dL_isLetterRight_228 : decode cL_isLetterRight 228 = .ok (.if_icmp .lt 86, 3) := by decide +kernel
theorem dL_isLetterRight_231 : decode cL_isLetterRight 231 = .ok (.iload_n 2, 1) := by decide +kernel
theorem dL_isLetterRight_232 : decode cL_isLetterRight 232 = .ok (.aload_n 0, 1) := by decide +kernel
theorem dL_isLetterRight_233 : decode cL_isLetterRight 233 = .ok (.iload 10, 2) := by decide +kernel
theorem dL_isLetterRight_235 : decode cL_isLetterRight 235 = .ok (.iconst 5, 1) := by decide +kernel
theorem dL_isLetterRight_236 : decode cL_isLetterRight 236 = .ok (.invokevirtual 30, 3) := by decide +kernel
theorem dL_isLetterRight_239 : decode cL_isLetterRight 239 = .ok (.if_icmp .gt 75, 3) := by decide +kernel
theorem dL_isLetterRight_242 : decode cL_isLetterRight 242 = .ok (.aload_n 0, 1) := by decide +kernel
theorem dL_isLetterRight_243 : decode cL_isLetterRight 243 = .ok (.iload 10, 2) := by decide +kernel
theorem dL_isLetterRight_245 : decode cL_isLetterRight 245 = .ok (.bipush 8, 2) := by decide +kernel
theorem dL_isLetterRight_247 : decode cL_isLetterRight 247 = .ok (.invokevirtual 30, 3) := by decide +kernel
theorem dL_isLetterRight_250 : decode cL_isLetterRight 250 = .ok (.iload_n 3, 1) := by decide +kernel
theorem dL_isLetterRight_251 : decode cL_isLetterRight 251 = .ok (.ishr, 1) := by decide +kernel
theorem dL_isLetterRight_252 : decode cL_isLetterRight 252 = .ok (.iconst 1, 1) := by decide +kernel
theorem dL_isLetterRight_253 : decode cL_isLetterRight 253 = .ok (.iand, 1) := by decide +kernel
theorem dL_isLetterRight_254 : decode cL_isLetterRight 254 = .ok (.ifCond .eq 60, 3) := by decide +kernel
theorem dL_isLetterRight_257 : decode cL_isLetterRight 257 = .ok (.iload 8, 2) := by decide +kernel
theorem dL_isLetterRight_259 : decode cL_isLetterRight 259 = .ok (.ifCond .le 29, 3) := by decide +kernel
theorem dL_isLetterRight_262 : decode cL_isLetterRight 262 = .ok (.aload_n 0, 1) := by decide +kernel
theorem dL_isLetterRight_263 : decode cL_isLetterRight 263 = .ok (.iload 10, 2) := by decide +kernel
theorem dL_isLetterRight_265 : decode cL_isLetterRight 265 = .ok (.bipush 6, 2) := by decide +kernel
theorem dL_isLetterRight_267 : decode cL_isLetterRight 267 = .ok (.invokevirtual 30, 3) := by decide +kernel
theorem dL_isLetterRight_270 : decode cL_isLetterRight 270 = .ok (.ifCond .eq 44, 3) := by decide +kernel
theorem dL_isLetterRight_273 : decode cL_isLetterRight 273 = .ok (.aload_n 0, 1) := by decide +kernel
theorem dL_isLetterRight_274 : decode cL_isLetterRight 274 = .ok (.iload 10, 2) := by decide +kernel
theorem dL_isLetterRight_276 : decode cL_isLetterRight 276 = .ok (.bipush 7, 2) := by decide +kernel
theorem dL_isLetterRight_278 : decode cL_isLetterRight 278 = .ok (.invokevirtual 30, 3) := by decide +kernel
theorem dL_isLetterRight_281 : decode cL_isLetterRight 281 = .ok (.iload 8, 2) := by decide +kernel
theorem dL_isLetterRight_283 : decode cL_isLetterRight 283 = .ok (.iconst 1, 1) := by decide +kernel
theorem dL_isLetterRight_284 : decode cL_isLetterRight 284 = .ok (.isub, 1) := by decide +kernel
theorem dL_isLetterRight_285 : decode cL_isLetterRight 285 = .ok (.if_icmp .lt 29, 3) := by decide +kernel
theorem dL_isLetterRight_288 : decode cL_isLetterRight 288 = .ok (.iload 8, 2) := by decide +kernel
theorem dL_isLetterRight_290 : decode cL_isLetterRight 290 = .ok (.ifCond .le 26, 3) := by decide +kernel
theorem dL_isLetterRight_293 : decode cL_isLetterRight 293 = .ok (.aload_n 0, 1) := by decide +kernel
theorem dL_isLetterRight_294 : decode cL_isLetterRight 294 = .ok (.aload_n 0, 1) := by decide +kernel
theorem dL_isLetterRight_295 : decode cL_isLetterRight 295 = .ok (.iload_n 1, 1) := by decide +kernel
theorem dL_isLetterRight_296 : decode cL_isLetterRight 296 = .ok (.iconst 0, 1) := by decide +kernel
theorem dL_isLetterRight_297 : decode cL_isLetterRight 297 = .ok (.invokevirtual 30, 3) := by decide +kernel
theorem dL_isLetterRight_300 : decode cL_isLetterRight 300 = .ok (.aload_n 0, 1) := by decide +kernel
theorem dL_isLetterRight_301 : decode cL_isLetterRight 301 = .ok (.iload 10, 2) := by decide +kernel
theorem dL_isLetterRight_303 : decode cL_isLetterRight 303 = .ok (.bipush 9, 2) := by decide +kernel
theorem dL_isLetterRight_305 : decode cL_isLetterRight 305 = .ok (.invokevirtual 30, 3) := by decide +kernel
theorem dL_isLetterRight_308 : decode cL_isLetterRight 308 = .ok (.invokevirtual 111, 3) := by decide +kernel
theorem dL_isLetterRight_311 : decode cL_isLetterRight 311 = .ok (.ifCond .ne 5, 3) := by decide +kernel
theorem dL_isLetterRight_314 : decode cL_isLetterRight 314 = .ok (.iconst 0, 1) := by decide +kernel
theorem dL_isLetterRight_315 : decode cL_isLetterRight 315 = .ok (.ireturn, 1) := by decide +kernel
theorem dL_isLetterRight_316 : decode cL_isLetterRight 316 = .ok (.iload 10, 2) := by decide +kernel
theorem dL_isLetterRight_318 : decode cL_isLetterRight 318 = .ok (.istore 9, 2) := by decide +kernel
theorem dL_isLetterRight_320 : decode cL_isLetterRight 320 = .ok (.iinc 8 1, 3) := by decide +kernel
theorem dL_isLetterRight_323 : decode cL_isLetterRight 323 = .ok (.aload_n 0, 1) := by decide +kernel
theorem dL_isLetterRight_324 : decode cL_isLetterRight 324 = .ok (.iload_n 1, 1) := by decide +kernel
theorem dL_isLetterRight_325 : decode cL_isLetterRight 325 = .ok (.iload_n 2, 1) := by decide +kernel
theorem dL_isLetterRight_326 : decode cL_isLetterRight 326 = .ok (.iload_n 3, 1) := by decide +kernel
theorem dL_isLetterRight_327 : decode cL_isLetterRight 327 = .ok (.iload 8, 2) := by decide +kernel
theorem dL_isLetterRight_329 : decode cL_isLetterRight 329 = .ok (.invokevirtual 108, 3) := by decide +kernel
theorem dL_isLetterRight_332 : decode cL_isLetterRight 332 = .ok (.istore 10, 2) := by decide +kernel
theorem dL_isLetterRight_334 : decode cL_isLetterRight 334 = .ok (.goto (-151), 3) := by decide +kernel
theorem dL_isLetterRight_337 : decode cL_isLetterRight 337 = .ok (.iload 8, 2) := by decide +kernel
theorem dL_isLetterRight_339 : decode cL_isLetterRight 339 = .ok (.bipush 6, 2) := by decide +kernel
theorem dL_isLetterRight_341 : decode cL_isLetterRight 341 = .ok (.if_icmp .gt 64, 3) := by decide +kernel
theorem dL_isLetterRight_344 : decode cL_isLetterRight 344 = .ok (.iload 8, 2) := by decide +kernel
theorem dL_isLetterRight_346 : decode cL_isLetterRight 346 = .ok (.ifCond .ne 7, 3) := by decide +kernel
theorem dL_isLetterRight_349 : decode cL_isLetterRight 349 = .ok (.iconst 1, 1) := by decide +kernel
theorem dL_isLetterRight_350 : decode cL_isLetterRight 350 = .ok (.goto 4, 3) := by decide +kernel
theorem dL_isLetterRight_353 : decode cL_isLetterRight 353 = .ok (.iconst 0, 1) := by decide +kernel
theorem dL_isLetterRight_354 : decode cL_isLetterRight 354 = .ok (.iload 4, 2) := by decide +kernel
theorem dL_isLetterRight_356 : decode cL_isLetterRight 356 = .ok (.bipush 10, 2) := by decide +kernel
theorem dL_isLetterRight_358 : decode cL_isLetterRight 358 = .ok (.if_icmp .ne 7, 3) := by decide +kernel
theorem dL_isLetterRight_361 : decode cL_isLetterRight 361 = .ok (.iconst 1, 1) := by decide +kernel
theorem dL_isLetterRight_362 : decode cL_isLetterRight 362 = .ok (.goto 4, 3) := by decide +kernel
theorem dL_isLetterRight_365 : decode cL_isLetterRight 365 = .ok (.iconst 0, 1) := by decide +kernel
theorem dL_isLetterRight_366 : decode cL_isLetterRight 366 = .ok (.if_icmp .ne 39, 3) := by decide +kernel
theorem dL_isLetterRight_369 : decode cL_isLetterRight 369 = .ok (.iload 8, 2) := by decide +kernel
theorem dL_isLetterRight_371 : decode cL_isLetterRight 371 = .ok (.ifCond .le 15, 3) := by decide +kernel
theorem dL_isLetterRight_374 : decode cL_isLetterRight 374 = .ok (.aload_n 0, 1) := by decide +kernel
theorem dL_isLetterRight_375 : decode cL_isLetterRight 375 = .ok (.iload 9, 2) := by decide +kernel
theorem dL_isLetterRight_377 : decode cL_isLetterRight 377 = .ok (.bipush 12, 2) := by decide +kernel
theorem dL_isLetterRight_379 : decode cL_isLetterRight 379 = .ok (.invokevirtual 30, 3) := by decide +kernel
theorem dL_isLetterRight_382 : decode cL_isLetterRight 382 = .ok (.iconst 1, 1) := by decide +kernel
theorem dL_isLetterRight_383 : decode cL_isLetterRight 383 = .ok (.if_icmp .ne 22, 3) := by decide +kernel
theorem dL_isLetterRight_386 : decode cL_isLetterRight 386 = .ok (.iload 6, 2) := by decide +kernel
theorem dL_isLetterRight_388 : decode cL_isLetterRight 388 = .ok (.iload 8, 2) := by decide +kernel
theorem dL_isLetterRight_390 : decode cL_isLetterRight 390 = .ok (.if_icmp .lt 17, 3) := by decide +kernel
theorem dL_isLetterRight_393 : decode cL_isLetterRight 393 = .ok (.iload 4, 2) := by decide +kernel
theorem dL_isLetterRight_395 : decode cL_isLetterRight 395 = .ok (.bipush 10, 2) := by decide +kernel
theorem dL_isLetterRight_397 : decode cL_isLetterRight 397 = .ok (.if_icmp .eq 10, 3) := by decide +kernel
theorem dL_isLetterRight_400 : decode cL_isLetterRight 400 = .ok (.iload 4, 2) := by decide +kernel
theorem dL_isLetterRight_402 : decode cL_isLetterRight 402 = .ok (.ifCond .eq 5, 3) := by decide +kernel
theorem dL_isLetterRight_405 : decode cL_isLetterRight 405 = .ok (.iconst 0, 1) := by decide +kernel
theorem dL_isLetterRight_406 : decode cL_isLetterRight 406 = .ok (.ireturn, 1) := by decide +kernel
theorem dL_isLetterRight_407 : decode cL_isLetterRight 407 = .ok (.aload_n 0, 1) := by decide +kernel
theorem dL_isLetterRight_408 : decode cL_isLetterRight 408 = .ok (.iload_n 1, 1) := by decide +kernel
theorem dL_isLetterRight_409 : decode cL_isLetterRight 409 = .ok (.iload_n 2, 1) := by decide +kernel
theorem dL_isLetterRight_410 : decode cL_isLetterRight 410 = .ok (.iload_n 3, 1) := by decide +kernel
theorem dL_isLetterRight_411 : decode cL_isLetterRight 411 = .ok (.invokevirtual 114, 3) := by decide +kernel
theorem dL_isLetterRight_414 : decode cL_isLetterRight 414 = .ok (.istore 10, 2) := by decide +kernel
theorem dL_isLetterRight_416 : decode cL_isLetterRight 416 = .ok (.iload 4, 2) := by decide +kernel
theorem dL_isLetterRight_418 : decode cL_isLetterRight 418 = .ok (.ifCond .ne 57, 3) := by decide +kernel
theorem dL_isLetterRight_421 : decode cL_isLetterRight 421 = .ok (.iload 10, 2) := by decide +kernel
theorem dL_isLetterRight_423 : decode cL_isLetterRight 423 = .ok (.iload_n 2, 1) := by decide +kernel
theorem dL_isLetterRight_424 : decode cL_isLetterRight 424 = .ok (.if_icmp .lt 47, 3) := by decide +kernel
theorem dL_isLetterRight_427 : decode cL_isLetterRight 427 = .ok (.iload 10, 2) := by decide +kernel
theorem dL_isLetterRight_429 : decode cL_isLetterRight 429 = .ok (.sipush 999, 3) := by decide +kernel
theorem dL_isLetterRight_432 : decode cL_isLetterRight 432 = .ok (.if_icmp .gt 39, 3) := by decide +kernel
theorem dL_isLetterRight_435 : decode cL_isLetterRight 435 = .ok (.aload_n 0, 1) := by decide +kernel
theorem dL_isLetterRight_436 : decode cL_isLetterRight 436 = .ok (.iload_n 1, 1) := by decide +kernel
theorem dL_isLetterRight_437 : decode cL_isLetterRight 437 = .ok (.iload 10, 2) := by decide +kernel
theorem dL_isLetterRight_439 : decode cL_isLetterRight 439 = .ok (.iload_n 3, 1) := by decide +kernel
theorem dL_isLetterRight_440 : decode cL_isLetterRight 440 = .ok (.invokevirtual 64, 3) := by decide +kernel
theorem dL_isLetterRight_443 : decode cL_isLetterRight 443 = .ok (.ifCond .ne 28, 3) := by decide +kernel
theorem dL_isLetterRight_446 : decode cL_isLetterRight 446 = .ok (.iload 10, 2) := by decide +kernel
theorem dL_isLetterRight_448 : decode cL_isLetterRight 448 = .ok (.sipush 999, 3) := by decide +kernel
theorem dL_isLetterRight_451 : decode cL_isLetterRight 451 = .ok (.if_icmp .eq 16, 3) := by decide +kernel
theorem dL_isLetterRight_454 : decode cL_isLetterRight 454 = .ok (.aload_n 0, 1) := by decide +kernel
theorem dL_isLetterRight_455 : decode cL_isLetterRight 455 = .ok (.iload_n 1, 1) := by decide +kernel
theorem dL_isLetterRight_456 : decode cL_isLetterRight 456 = .ok (.iload 10, 2) := by decide +kernel
theorem dL_isLetterRight_458 : decode cL_isLetterRight 458 = .ok (.iconst 1, 1) := by decide +kernel
theorem dL_isLetterRight_459 : decode cL_isLetterRight 459 = .ok (.iadd, 1) := by decide +kernel
theorem dL_isLetterRight_460 : decode cL_isLetterRight 460 = .ok (.iload_n 3, 1) := by decide +kernel
theorem dL_isLetterRight_461 : decode cL_isLetterRight 461 = .ok (.invokevirtual 64, 3) := by decide +kernel
theorem dL_isLetterRight_464 : decode cL_isLetterRight 464 = .ok (.ifCond .eq 7, 3) := by decide +kernel
theorem dL_isLetterRight_467 : decode cL_isLetterRight 467 = .ok (.iconst 1, 1) := by decide +kernel
theorem dL_isLetterRight_468 : decode cL_isLetterRight 468 = .ok (.goto 18, 3) := by decide +kernel
theorem dL_isLetterRight_471 : decode cL_isLetterRight 471 = .ok (.iconst 0, 1) := by decide +kernel
theorem dL_isLetterRight_472 : decode cL_isLetterRight 472 = .ok (.goto 14, 3) := by decide +kernel
theorem dL_isLetterRight_475 : decode cL_isLetterRight 475 = .ok (.iload 10, 2) := by decide +kernel
theorem dL_isLetterRight_477 : decode cL_isLetterRight 477 = .ok (.iconst (-1), 1) := by decide +kernel
theorem dL_isLetterRight_478 : decode cL_isLetterRight 478 = .ok (.if_icmp .ne 7, 3) := by decide +kernel
theorem dL_isLetterRight_481 : decode cL_isLetterRight 481 = .ok (.iconst 1, 1) := by decide +kernel
theorem dL_isLetterRight_482 : decode cL_isLetterRight 482 = .ok (.goto 4, 3) := by decide +kernel
theorem dL_isLetterRight_485 : decode cL_isLetterRight 485 = .ok (.iconst 0, 1) := by decide +kernel
theorem dL_isLetterRight_486 : decode cL_isLetterRight 486 = .ok (.ireturn, 1) := by decide +kernel
theorem dL_isRoomRight_0 : decode cL_isRoomRight 0 = .ok (.iconst 0, 1) := by decide +kernel
theorem dL_isRoomRight_1 : decode cL_isRoomRight 1 = .ok (.istore_n 3, 1) := by decide +kernel
theorem dL_isRoomRight_2 : decode cL_isRoomRight 2 = .ok (.iconst 0, 1) := by decide +kernel
theorem dL_isRoomRight_3 : decode cL_isRoomRight 3 = .ok (.istore 4, 2) := by decide +kernel
theorem dL_isRoomRight_5 : decode cL_isRoomRight 5 = .ok (.iload 4, 2) := by decide +kernel
theorem dL_isRoomRight_7 : decode cL_isRoomRight 7 = .ok (.aload_n 0, 1) := by decide +kernel
theorem dL_isRoomRight_8 : decode cL_isRoomRight 8 = .ok (.iconst 0, 1) := by decide +kernel
theorem dL_isRoomRight_9 : decode cL_isRoomRight 9 = .ok (.invokevirtual 40, 3) := by decide +kernel
theorem dL_isRoomRight_12 : decode cL_isRoomRight 12 = .ok (.if_icmp .ge 28, 3) := by decide +kernel
theorem dL_isRoomRight_15 : decode cL_isRoomRight 15 = .ok (.iload_n 3, 1) := by decide +kernel
theorem dL_isRoomRight_16 : decode cL_isRoomRight 16 = .ok (.aload_n 0, 1) := by decide +kernel
theorem dL_isRoomRight_17 : decode cL_isRoomRight 17 = .ok (.iload 4, 2) := by decide +kernel
theorem dL_isRoomRight_19 : decode cL_isRoomRight 19 = .ok (.iload_n 1, 1) := by decide +kernel
theorem dL_isRoomRight_20 : decode cL_isRoomRight 20 = .ok (.iload_n 2, 1) := by decide +kernel
theorem dL_isRoomRight_21 : decode cL_isRoomRight 21 = .ok (.invokevirtual 64, 3) := by decide +kernel
theorem dL_isRoomRight_24 : decode cL_isRoomRight 24 = .ok (.ifCond .ne 7, 3) := by decide +kernel
theorem dL_isRoomRight_27 : decode cL_isRoomRight 27 = .ok (.iconst 1, 1) := by decide +kernel
theorem dL_isRoomRight_28 : decode cL_isRoomRight 28 = .ok (.goto 4, 3) := by decide +kernel
theorem dL_isRoomRight_31 : decode cL_isRoomRight 31 = .ok (.iconst 0, 1) := by decide +kernel
theorem dL_isRoomRight_32 : decode cL_isRoomRight 32 = .ok (.iadd, 1) := by decide +kernel
theorem dL_isRoomRight_33 : decode cL_isRoomRight 33 = .ok (.istore_n 3, 1) := by decide +kernel
theorem dL_isRoomRight_34 : decode cL_isRoomRight 34 = .ok (.iinc 4 1, 3) := by decide +kernel
theorem dL_isRoomRight_37 : decode cL_isRoomRight 37 = .ok (.goto (-32), 3) := by decide +kernel
theorem dL_isRoomRight_40 : decode cL_isRoomRight 40 = .ok (.iconst 0, 1) := by decide +kernel
theorem dL_isRoomRight_41 : decode cL_isRoomRight 41 = .ok (.istore 4, 2) := by decide +kernel
theorem dL_isRoomRight_43 : decode cL_isRoomRight 43 = .ok (.iconst 0, 1) := by decide +kernel
theorem dL_isRoomRight_44 : decode cL_isRoomRight 44 = .ok (.istore 5, 2) := by decide +kernel
theorem dL_isRoomRight_46 : decode cL_isRoomRight 46 = .ok (.iload 5, 2) := by decide +kernel
theorem dL_isRoomRight_48 : decode cL_isRoomRight 48 = .ok (.iconst 4, 1) := by decide +kernel
theorem dL_isRoomRight_49 : decode cL_isRoomRight 49 = .ok (.if_icmp .ge 39, 3) := by decide +kernel
theorem dL_isRoomRight_52 : decode cL_isRoomRight 52 = .ok (.aload_n 0, 1) := by decide +kernel
theorem dL_isRoomRight_53 : decode cL_isRoomRight 53 = .ok (.iload 5, 2) := by decide +kernel
theorem dL_isRoomRight_55 : decode cL_isRoomRight 55 = .ok (.iload_n 1, 1) := by decide +kernel
theorem dL_isRoomRight_56 : decode cL_isRoomRight 56 = .ok (.iload_n 2, 1) := by decide +kernel
theorem dL_isRoomRight_57 : decode cL_isRoomRight 57 = .ok (.invokevirtual 117, 3) := by decide +kernel
theorem dL_isRoomRight_60 : decode cL_isRoomRight 60 = .ok (.istore 6, 2) := by decide +kernel
theorem dL_isRoomRight_62 : decode cL_isRoomRight 62 = .ok (.iload 6, 2) := by decide +kernel
theorem dL_isRoomRight_64 : decode cL_isRoomRight 64 = .ok (.ifCond .lt 9, 3) := by decide +kernel
theorem dL_isRoomRight_67 : decode cL_isRoomRight 67 = .ok (.iload 6, 2) := by decide +kernel
theorem dL_isRoomRight_69 : decode cL_isRoomRight 69 = .ok (.iload_n 3, 1) := by decide +kernel
theorem dL_isRoomRight_70 : decode cL_isRoomRight 70 = .ok (.if_icmp .le 5, 3) := by decide +kernel
theorem dL_isRoomRight_73 : decode cL_isRoomRight 73 = .ok (.iconst 0, 1) := by decide +kernel
theorem dL_isRoomRight_74 : decode cL_isRoomRight 74 = .ok (.ireturn, 1) := by decide +kernel
theorem dL_isRoomRight_75 : decode cL_isRoomRight 75 = .ok (.iload 4, 2) := by decide +kernel
theorem dL_isRoomRight_77 : decode cL_isRoomRight 77 = .ok (.iload 6, 2) := by decide +kernel
theorem dL_isRoomRight_79 : decode cL_isRoomRight 79 = .ok (.iadd, 1) := by decide +kernel
theorem dL_isRoomRight_80 : decode cL_isRoomRight 80 = .ok (.istore 4, 2) := by decide +kernel
theorem dL_isRoomRight_82 : decode cL_isRoomRight 82 = .ok (.iinc 5 1, 3) := by decide +kernel
theorem dL_isRoomRight_85 : decode cL_isRoomRight 85 = .ok (.goto (-39), 3) := by decide +kernel
theorem dL_isRoomRight_88 : decode cL_isRoomRight 88 = .ok (.aload_n 0, 1) := by decide +kernel
theorem dL_isRoomRight_89 : decode cL_isRoomRight 89 = .ok (.iload_n 1, 1) := by decide +kernel
theorem dL_isRoomRight_90 : decode cL_isRoomRight 90 = .ok (.iload_n 2, 1) := by decide +kernel
theorem dL_isRoomRight_91 : decode cL_isRoomRight 91 = .ok (.invokevirtual 120, 3) := by decide +kernel
theorem dL_isRoomRight_94 : decode cL_isRoomRight 94 = .ok (.dstore 5, 2) := by decide +kernel
theorem dL_isRoomRight_96 : decode cL_isRoomRight 96 = .ok (.iload 4, 2) := by decide +kernel
theorem dL_isRoomRight_98 : decode cL_isRoomRight 98 = .ok (.iload_n 3, 1) := by decide +kernel
theorem dL_isRoomRight_99 : decode cL_isRoomRight 99 = .ok (.if_icmp .lt 45, 3) := by decide +kernel
theorem dL_isRoomRight_102 : decode cL_isRoomRight 102 = .ok (.aload_n 0, 1) := by decide +kernel
theorem dL_isRoomRight_103 : decode cL_isRoomRight 103 = .ok (.bipush 9, 2) := by decide +kernel
theorem dL_isRoomRight_105 : decode cL_isRoomRight 105 = .ok (.iload_n 1, 1) := by decide +kernel
theorem dL_isRoomRight_106 : decode cL_isRoomRight 106 = .ok (.iload_n 2, 1) := by decide +kernel
theorem dL_isRoomRight_107 : decode cL_isRoomRight 107 = .ok (.invokevirtual 117, 3) := by decide +kernel
theorem dL_isRoomRight_110 : decode cL_isRoomRight 110 = .ok (.ifCond .ne 34, 3) := by decide +kernel
theorem dL_isRoomRight_113 : decode cL_isRoomRight 113 = .ok (.iload_n 3, 1) := by decide +kernel
theorem dL_isRoomRight_114 : decode cL_isRoomRight 114 = .ok (.ifCond .ne 10, 3) := by decide +kernel
theorem dL_isRoomRight_117 : decode cL_isRoomRight 117 = .ok (.dload 5, 2) := by decide +kernel
theorem dL_isRoomRight_119 : decode cL_isRoomRight 119 = .ok (.dconst 0, 1) := by decide +kernel
theorem dL_isRoomRight_120 : decode cL_isRoomRight 120 = .ok (.dcmp .l, 1) := by decide +kernel
theorem dL_isRoomRight_121 : decode cL_isRoomRight 121 = .ok (.ifCond .ne 23, 3) := by decide +kernel
theorem dL_isRoomRight_124 : decode cL_isRoomRight 124 = .ok (.iload_n 3, 1) := by decide +kernel
theorem dL_isRoomRight_125 : decode cL_isRoomRight 125 = .ok (.ifCond .le 21, 3) := by decide +kernel
theorem dL_isRoomRight_128 : decode cL_isRoomRight 128 = .ok (.dload 5, 2) := by decide +kernel
theorem dL_isRoomRight_130 : decode cL_isRoomRight 130 = .ok (.dconst 1, 1) := by decide +kernel
theorem dL_isRoomRight_131 : decode cL_isRoomRight 131 = .ok (.dcmp .g, 1) := by decide +kernel
theorem dL_isRoomRight_132 : decode cL_isRoomRight 132 = .ok (.ifCond .lt 12, 3) := by decide +kernel
theorem dL_isRoomRight_135 : decode cL_isRoomRight 135 = .ok (.dload 5, 2) := by decide +kernel
theorem dL_isRoomRight_137 : decode cL_isRoomRight 137 = .ok (.ldc2_w 124, 3) := by decide +kernel
theorem dL_isRoomRight_140 : decode cL_isRoomRight 140 = .ok (.dcmp .l, 1) := by decide +kernel
theorem dL_isRoomRight_141 : decode cL_isRoomRight 141 = .ok (.ifCond .le 5, 3) := by decide +kernel
theorem dL_isRoomRight_144 : decode cL_isRoomRight 144 = .ok (.iconst 0, 1) := by decide +kernel
theorem dL_isRoomRight_145 : decode cL_isRoomRight 145 = .ok (.ireturn, 1) := by decide +kernel
theorem dL_isRoomRight_146 : decode cL_isRoomRight 146 = .ok (.aload_n 0, 1) := by decide +kernel
theorem dL_isRoomRight_147 : decode cL_isRoomRight 147 = .ok (.iconst 0, 1) := by decide +kernel
theorem dL_isRoomRight_148 : decode cL_isRoomRight 148 = .ok (.iload_n 1, 1) := by decide +kernel
theorem dL_isRoomRight_149 : decode cL_isRoomRight 149 = .ok (.iload_n 2, 1) := by decide +kernel
theorem dL_isRoomRight_150 : decode cL_isRoomRight 150 = .ok (.invokevirtual 126, 3) := by decide +kernel
theorem dL_isRoomRight_153 : decode cL_isRoomRight 153 = .ok (.istore 7, 2) := by decide +kernel
theorem dL_isRoomRight_155 : decode cL_isRoomRight 155 = .ok (.iload 7, 2) := by decide +kernel
theorem dL_isRoomRight_157 : decode cL_isRoomRight 157 = .ok (.ifCond .lt 49, 3) := by decide +kernel
theorem dL_isRoomRight_160 : decode cL_isRoomRight 160 = .ok (.iload 7, 2) := by decide +kernel
theorem dL_isRoomRight_162 : decode cL_isRoomRight 162 = .ok (.aload_n 0, 1) := by decide +kernel
theorem dL_isRoomRight_163 : decode cL_isRoomRight 163 = .ok (.iconst 0, 1) := by decide +kernel
theorem dL_isRoomRight_164 : decode cL_isRoomRight 164 = .ok (.invokevirtual 40, 3) := by decide +kernel
theorem dL_isRoomRight_167 : decode cL_isRoomRight 167 = .ok (.if_icmp .gt 39, 3) := by decide +kernel
theorem dL_isRoomRight_170 : decode cL_isRoomRight 170 = .ok (.aload_n 0, 1) := by decide +kernel
theorem dL_isRoomRight_171 : decode cL_isRoomRight 171 = .ok (.iconst 1, 1) := by decide +kernel
theorem dL_isRoomRight_172 : decode cL_isRoomRight 172 = .ok (.invokevirtual 40, 3) := by decide +kernel
theorem dL_isRoomRight_175 : decode cL_isRoomRight 175 = .ok (.aload_n 0, 1) := by decide +kernel
theorem dL_isRoomRight_176 : decode cL_isRoomRight 176 = .ok (.iconst 0, 1) := by decide +kernel
theorem dL_isRoomRight_177 : decode cL_isRoomRight 177 = .ok (.invokevirtual 40, 3) := by decide +kernel
theorem dL_isRoomRight_180 : decode cL_isRoomRight 180 = .ok (.if_icmp .gt 26, 3) := by decide +kernel
theorem dL_isRoomRight_183 : decode cL_isRoomRight 183 = .ok (.aload_n 0, 1) := by decide +kernel
theorem dL_isRoomRight_184 : decode cL_isRoomRight 184 = .ok (.iconst 3, 1) := by decide +kernel
theorem dL_isRoomRight_185 : decode cL_isRoomRight 185 = .ok (.invokevirtual 40, 3) := by decide +kernel
theorem dL_isRoomRight_188 : decode cL_isRoomRight 188 = .ok (.aload_n 0, 1) := by decide +kernel
theorem dL_isRoomRight_189 : decode cL_isRoomRight 189 = .ok (.iconst 0, 1) := by decide +kernel
theorem dL_isRoomRight_190 : decode cL_isRoomRight 190 = .ok (.invokevirtual 40, 3) := by decide +kernel
theorem dL_isRoomRight_193 : decode cL_isRoomRight 193 = .ok (.aload_n 0, 1) := by decide +kernel
theorem dL_isRoomRight_194 : decode cL_isRoomRight 194 = .ok (.iconst 0, 1) := by decide +kernel
theorem dL_isRoomRight_195 : decode cL_isRoomRight 195 = .ok (.invokevirtual 40, 3) := by decide +kernel
theorem dL_isRoomRight_198 : decode cL_isRoomRight 198 = .ok (.imul, 1) := by decide +kernel
theorem dL_isRoomRight_199 : decode cL_isRoomRight 199 = .ok (.if_icmp .gt 7, 3) := by decide +kernel
theorem dL_isRoomRight_202 : decode cL_isRoomRight 202 = .ok (.iconst 1, 1) := by decide +kernel
theorem dL_isRoomRight_203 : decode cL_isRoomRight 203 = .ok (.goto 4, 3) := by decide +kernel
theorem dL_isRoomRight_206 : decode cL_isRoomRight 206 = .ok (.iconst 0, 1) := by decide +kernel
theorem dL_isRoomRight_207 : decode cL_isRoomRight 207 = .ok (.ireturn, 1) := by decide +kernel

theorem dX8_put_46 : decode cX8_put 46 = .ok (.iconst 1, 1) := by decide +kernel
theorem dX8_put_47 : decode cX8_put 47 = .ok (.ireturn, 1) := by decide +kernel
theorem dX8_cut_0 : decode cX8_cut 0 = .ok (.aload_n 0, 1) := by decide +kernel
theorem dX8_cut_1 : decode cX8_cut 1 = .ok (.iconst 0, 1) := by decide +kernel
theorem dX8_cut_2 : decode cX8_cut 2 = .ok (.putfield 73, 3) := by decide +kernel
theorem dX8_cut_5 : decode cX8_cut 5 = .ok (.iload_n 1, 1) := by decide +kernel
theorem dX8_cut_6 : decode cX8_cut 6 = .ok (.ifCond .lt 11, 3) := by decide +kernel
theorem dX8_cut_9 : decode cX8_cut 9 = .ok (.iload_n 1, 1) := by decide +kernel
theorem dX8_cut_10 : decode cX8_cut 10 = .ok (.aload_n 0, 1) := by decide +kernel
theorem dX8_cut_11 : decode cX8_cut 11 = .ok (.getfield 113, 3) := by decide +kernel
theorem dX8_cut_14 : decode cX8_cut 14 = .ok (.if_icmp .le 5, 3) := by decide +kernel
theorem dX8_cut_17 : decode cX8_cut 17 = .ok (.iconst 0, 1) := by decide +kernel
theorem dX8_cut_18 : decode cX8_cut 18 = .ok (.ireturn, 1) := by decide +kernel
theorem dX8_cut_19 : decode cX8_cut 19 = .ok (.aload_n 0, 1) := by decide +kernel
theorem dX8_cut_20 : decode cX8_cut 20 = .ok (.iload_n 1, 1) := by decide +kernel
theorem dX8_cut_21 : decode cX8_cut 21 = .ok (.putfield 113, 3) := by decide +kernel
theorem dX8_cut_24 : decode cX8_cut 24 = .ok (.iconst 1, 1) := by decide +kernel
theorem dX8_cut_25 : decode cX8_cut 25 = .ok (.ireturn, 1) := by decide +kernel
theorem dX8_length_0 : decode cX8_length 0 = .ok (.aload_n 0, 1) := by decide +kernel
theorem dX8_length_1 : decode cX8_length 1 = .ok (.iconst 0, 1) := by decide +kernel
theorem dX8_length_2 : decode cX8_length 2 = .ok (.putfield 73, 3) := by decide +kernel
theorem dX8_length_5 : decode cX8_length 5 = .ok (.aload_n 0, 1) := by decide +kernel
theorem dX8_length_6 : decode cX8_length 6 = .ok (.getfield 113, 3) := by decide +kernel
theorem dX8_length_9 : decode cX8_length 9 = .ok (.ireturn, 1) := by decide +kernel
theorem dX8_letter_0 : decode cX8_letter 0 = .ok (.aload_n 0, 1) := by decide +kernel
theorem dX8_letter_1 : decode cX8_letter 1 = .ok (.iload_n 1, 1) := by decide +kernel
theorem dX8_letter_2 : decode cX8_letter 2 = .ok (.ifCond .lt 11, 3) := by decide +kernel
theorem dX8_letter_5 : decode cX8_letter 5 = .ok (.iload_n 1, 1) := by decide +kernel
theorem dX8_letter_6 : decode cX8_letter 6 = .ok (.aload_n 0, 1) := by decide +kernel
theorem dX8_letter_7 : decode cX8_letter 7 = .ok (.getfield 113, 3) := by decide +kernel
theorem dX8_letter_10 : decode cX8_letter 10 = .ok (.if_icmp .lt 7, 3) := by decide +kernel
theorem dX8_letter_13 : decode cX8_letter 13 = .ok (.iconst 1, 1) := by decide +kernel
theorem dX8_letter_14 : decode cX8_letter 14 = .ok (.goto 4, 3) := by decide +kernel
theorem dX8_letter_17 : decode cX8_letter 17 = .ok (.iconst 0, 1) := by decide +kernel
theorem dX8_letter_18 : decode cX8_letter 18 = .ok (.putfield 73, 3) := by decide +kernel
theorem dX8_letter_21 : decode cX8_letter 21 = .ok (.aload_n 0, 1) := by decide +kernel
theorem dX8_letter_22 : decode cX8_letter 22 = .ok (.getfield 73, 3) := by decide +kernel
theorem dX8_letter_25 : decode cX8_letter 25 = .ok (.ifCond .le 7, 3) := by decide +kernel
theorem dX8_letter_28 : decode cX8_letter 28 = .ok (.iconst 0, 1) := by decide +kernel
theorem dX8_letter_29 : decode cX8_letter 29 = .ok (.goto 9, 3) := by decide +kernel
theorem dX8_letter_32 : decode cX8_letter 32 = .ok (.aload_n 0, 1) := by decide +kernel
theorem dX8_letter_33 : decode cX8_letter 33 = .ok (.getfield 44, 3) := by decide +kernel
theorem dX8_letter_36 : decode cX8_letter 36 = .ok (.iload_n 1, 1) := by decide +kernel
theorem dX8_letter_37 : decode cX8_letter 37 = .ok (.iaload, 1) := by decide +kernel
theorem dX8_letter_38 : decode cX8_letter 38 = .ok (.ireturn, 1) := by decide +kernel
theorem dX8_go_0 : decode cX8_go 0 = .ok (.aload_n 0, 1) := by decide +kernel
theorem dX8_go_1 : decode cX8_go 1 = .ok (.getfield 116, 3) := by decide +kernel
theorem dX8_go_4 : decode cX8_go 4 = .ok (.ifCond .le 279, 3) := by decide +kernel
theorem dX8_go_7 : decode cX8_go 7 = .ok (.aload_n 0, 1) := by decide +kernel
theorem dX8_go_8 : decode cX8_go 8 = .ok (.dup, 1) := by decide +kernel
theorem dX8_go_9 : decode cX8_go 9 = .ok (.getfield 116, 3) := by decide +kernel
theorem dX8_go_12 : decode cX8_go 12 = .ok (.iconst 1, 1) := by decide +kernel
theorem dX8_go_13 : decode cX8_go 13 = .ok (.isub, 1) := by decide +kernel
theorem dX8_go_14 : decode cX8_go 14 = .ok (.putfield 116, 3) := by decide +kernel
theorem dX8_go_17 : decode cX8_go 17 = .ok (.aload_n 0, 1) := by decide +kernel
theorem dX8_go_18 : decode cX8_go 18 = .ok (.getfield 57, 3) := by decide +kernel
theorem dX8_go_21 : decode cX8_go 21 = .ok (.aload_n 0, 1) := by decide +kernel
theorem dX8_go_22 : decode cX8_go 22 = .ok (.getfield 116, 3) := by decide +kernel
theorem dX8_go_25 : decode cX8_go 25 = .ok (.iaload, 1) := by decide +kernel
theorem dX8_go_26 : decode cX8_go 26 = .ok (.istore_n 2, 1) := by decide +kernel
theorem dX8_go_27 : decode cX8_go 27 = .ok (.aload_n 0, 1) := by decide +kernel
theorem dX8_go_28 : decode cX8_go 28 = .ok (.dup, 1) := by decide +kernel
theorem dX8_go_29 : decode cX8_go 29 = .ok (.getfield 119, 3) := by decide +kernel
theorem dX8_go_32 : decode cX8_go 32 = .ok (.iconst 1, 1) := by decide +kernel
theorem dX8_go_33 : decode cX8_go 33 = .ok (.iadd, 1) := by decide +kernel
theorem dX8_go_34 : decode cX8_go 34 = .ok (.putfield 119, 3) := by decide +kernel
theorem dX8_go_37 : decode cX8_go 37 = .ok (.aload_n 0, 1) := by decide +kernel
theorem dX8_go_38 : decode cX8_go 38 = .ok (.getfield 7, 3) := by decide +kernel
theorem dX8_go_41 : decode cX8_go 41 = .ok (.iload_n 2, 1) := by decide +kernel
theorem dX8_go_42 : decode cX8_go 42 = .ok (.iaload, 1) := by decide +kernel
theorem dX8_go_43 : decode cX8_go 43 = .ok (.iconst 1, 1) := by decide +kernel
theorem dX8_go_44 : decode cX8_go 44 = .ok (.if_icmp .ne 5, 3) := by decide +kernel
theorem dX8_go_47 : decode cX8_go 47 = .ok (.iconst (-1), 1) := by decide +kernel
theorem dX8_go_48 : decode cX8_go 48 = .ok (.ireturn, 1) := by decide +kernel
theorem dX8_go_49 : decode cX8_go 49 = .ok (.aload_n 0, 1) := by decide +kernel
theorem dX8_go_50 : decode cX8_go 50 = .ok (.getfield 7, 3) := by decide +kernel
theorem dX8_go_53 : decode cX8_go 53 = .ok (.iload_n 2, 1) := by decide +kernel
theorem dX8_go_54 : decode cX8_go 54 = .ok (.iaload, 1) := by decide +kernel
theorem dX8_go_55 : decode cX8_go 55 = .ok (.iconst 2, 1) := by decide +kernel
theorem dX8_go_56 : decode cX8_go 56 = .ok (.if_icmp .ne 19, 3) := by decide +kernel
theorem dX8_go_59 : decode cX8_go 59 = .ok (.iload_n 1, 1) := by decide +kernel
theorem dX8_go_60 : decode cX8_go 60 = .ok (.aload_n 0, 1) := by decide +kernel
theorem dX8_go_61 : decode cX8_go 61 = .ok (.getfield 13, 3) := by decide +kernel
theorem dX8_go_64 : decode cX8_go 64 = .ok (.iload_n 2, 1) := by decide +kernel
theorem dX8_go_65 : decode cX8_go 65 = .ok (.iaload, 1) := by decide +kernel
theorem dX8_go_66 : decode cX8_go 66 = .ok (.if_icmp .ne 7, 3) := by decide +kernel
theorem dX8_go_69 : decode cX8_go 69 = .ok (.iconst 1, 1) := by decide +kernel
theorem dX8_go_70 : decode cX8_go 70 = .ok (.goto 4, 3) := by decide +kernel
theorem dX8_go_73 : decode cX8_go 73 = .ok (.iconst (-1), 1) := by decide +kernel
theorem dX8_go_74 : decode cX8_go 74 = .ok (.ireturn, 1) := by decide +kernel
theorem dX8_go_75 : decode cX8_go 75 = .ok (.aload_n 0, 1) := by decide +kernel
theorem dX8_go_76 : decode cX8_go 76 = .ok (.getfield 7, 3) := by decide +kernel
theorem dX8_go_79 : decode cX8_go 79 = .ok (.iload_n 2, 1) := by decide +kernel
theorem dX8_go_80 : decode cX8_go 80 = .ok (.iaload, 1) := by decide +kernel
theorem dX8_go_81 : decode cX8_go 81 = .ok (.iconst 3, 1) := by decide +kernel
theorem dX8_go_82 : decode cX8_go 82 = .ok (.if_icmp .ne 48, 3) := by decide +kernel
theorem dX8_go_85 : decode cX8_go 85 = .ok (.aload_n 0, 1) := by decide +kernel
theorem dX8_go_86 : decode cX8_go 86 = .ok (.getfield 57, 3) := by decide +kernel
theorem dX8_go_89 : decode cX8_go 89 = .ok (.aload_n 0, 1) := by decide +kernel
theorem dX8_go_90 : decode cX8_go 90 = .ok (.getfield 116, 3) := by decide +kernel
theorem dX8_go_93 : decode cX8_go 93 = .ok (.aload_n 0, 1) := by decide +kernel
theorem dX8_go_94 : decode cX8_go 94 = .ok (.getfield 19, 3) := by decide +kernel
theorem dX8_go_97 : decode cX8_go 97 = .ok (.iload_n 2, 1) := by decide +kernel
theorem dX8_go_98 : decode cX8_go 98 = .ok (.iaload, 1) := by decide +kernel
theorem dX8_go_99 : decode cX8_go 99 = .ok (.iastore, 1) := by decide +kernel
theorem dX8_go_100 : decode cX8_go 100 = .ok (.aload_n 0, 1) := by decide +kernel
theorem dX8_go_101 : decode cX8_go 101 = .ok (.getfield 57, 3) := by decide +kernel
theorem dX8_go_104 : decode cX8_go 104 = .ok (.aload_n 0, 1) := by decide +kernel
theorem dX8_go_105 : decode cX8_go 105 = .ok (.getfield 116, 3) := by decide +kernel
theorem dX8_go_108 : decode cX8_go 108 = .ok (.iconst 1, 1) := by decide +kernel
theorem dX8_go_109 : decode cX8_go 109 = .ok (.iadd, 1) := by decide +kernel
theorem dX8_go_110 : decode cX8_go 110 = .ok (.aload_n 0, 1) := by decide +kernel
theorem dX8_go_111 : decode cX8_go 111 = .ok (.getfield 16, 3) := by decide +kernel
theorem dX8_go_114 : decode cX8_go 114 = .ok (.iload_n 2, 1) := by decide +kernel
theorem dX8_go_115 : decode cX8_go 115 = .ok (.iaload, 1) := by decide +kernel
theorem dX8_go_116 : decode cX8_go 116 = .ok (.iastore, 1) := by decide +kernel
theorem dX8_go_117 : decode cX8_go 117 = .ok (.aload_n 0, 1) := by decide +kernel
theorem dX8_go_118 : decode cX8_go 118 = .ok (.aload_n 0, 1) := by decide +kernel
theorem dX8_go_119 : decode cX8_go 119 = .ok (.getfield 116, 3) := by decide +kernel
theorem dX8_go_122 : decode cX8_go 122 = .ok (.iconst 2, 1) := by decide +kernel
theorem dX8_go_123 : decode cX8_go 123 = .ok (.iadd, 1) := by decide +kernel
theorem dX8_go_124 : decode cX8_go 124 = .ok (.putfield 116, 3) := by decide +kernel
theorem dX8_go_127 : decode cX8_go 127 = .ok (.goto 153, 3) := by decide +kernel
theorem dX8_go_130 : decode cX8_go 130 = .ok (.aload_n 0, 1) := by decide +kernel
theorem dX8_go_131 : decode cX8_go 131 = .ok (.getfield 7, 3) := by decide +kernel
theorem dX8_go_134 : decode cX8_go 134 = .ok (.iload_n 2, 1) := by decide +kernel
theorem dX8_go_135 : decode cX8_go 135 = .ok (.iaload, 1) := by decide +kernel
theorem dX8_go_136 : decode cX8_go 136 = .ok (.bipush 6, 2) := by decide +kernel
theorem dX8_go_138 : decode cX8_go 138 = .ok (.if_icmp .eq 13, 3) := by decide +kernel
theorem dX8_go_141 : decode cX8_go 141 = .ok (.aload_n 0, 1) := by decide +kernel
theorem dX8_go_142 : decode cX8_go 142 = .ok (.getfield 7, 3) := by decide +kernel
theorem dX8_go_145 : decode cX8_go 145 = .ok (.iload_n 2, 1) := by decide +kernel
theorem dX8_go_146 : decode cX8_go 146 = .ok (.iaload, 1) := by decide +kernel
theorem dX8_go_147 : decode cX8_go 147 = .ok (.iconst 5, 1) := by decide +kernel
theorem dX8_go_148 : decode cX8_go 148 = .ok (.if_icmp .ne 51, 3) := by decide +kernel
theorem dX8_go_151 : decode cX8_go 151 = .ok (.aload_n 0, 1) := by decide +kernel
theorem dX8_go_152 : decode cX8_go 152 = .ok (.getfield 57, 3) := by decide +kernel
theorem dX8_go_155 : decode cX8_go 155 = .ok (.aload_n 0, 1) := by decide +kernel
theorem dX8_go_156 : decode cX8_go 156 = .ok (.getfield 116, 3) := by decide +kernel
theorem dX8_go_159 : decode cX8_go 159 = .ok (.aload_n 0, 1) := by decide +kernel
theorem dX8_go_160 : decode cX8_go 160 = .ok (.getfield 7, 3) := by decide +kernel
theorem dX8_go_163 : decode cX8_go 163 = .ok (.iload_n 2, 1) := by decide +kernel
theorem dX8_go_164 : decode cX8_go 164 = .ok (.iaload, 1) := by decide +kernel
theorem dX8_go_165 : decode cX8_go 165 = .ok (.bipush 6, 2) := by decide +kernel
theorem dX8_go_167 : decode cX8_go 167 = .ok (.if_icmp .ne 12, 3) := by decide +kernel
theorem dX8_go_170 : decode cX8_go 170 = .ok (.aload_n 0, 1) := by decide +kernel
theorem dX8_go_171 : decode cX8_go 171 = .ok (.getfield 16, 3) := by decide +kernel
theorem dX8_go_174 : decode cX8_go 174 = .ok (.iload_n 2, 1) := by decide +kernel
theorem dX8_go_175 : decode cX8_go 175 = .ok (.iaload, 1) := by decide +kernel
theorem dX8_go_176 : decode cX8_go 176 = .ok (.goto 9, 3) := by decide +kernel
theorem dX8_go_179 : decode cX8_go 179 = .ok (.aload_n 0, 1) := by decide +kernel
theorem dX8_go_180 : decode cX8_go 180 = .ok (.getfield 41, 3) := by decide +kernel
theorem dX8_go_183 : decode cX8_go 183 = .ok (.iload_n 2, 1) := by decide +kernel
theorem dX8_go_184 : decode cX8_go 184 = .ok (.iaload, 1) := by decide +kernel
theorem dX8_go_185 : decode cX8_go 185 = .ok (.iastore, 1) := by decide +kernel
theorem dX8_go_186 : decode cX8_go 186 = .ok (.aload_n 0, 1) := by decide +kernel
theorem dX8_go_187 : decode cX8_go 187 = .ok (.dup, 1) := by decide +kernel
theorem dX8_go_188 : decode cX8_go 188 = .ok (.getfield 116, 3) := by decide +kernel
theorem dX8_go_191 : decode cX8_go 191 = .ok (.iconst 1, 1) := by decide +kernel
theorem dX8_go_192 : decode cX8_go 192 = .ok (.iadd, 1) := by decide +kernel
theorem dX8_go_193 : decode cX8_go 193 = .ok (.putfield 116, 3) := by decide +kernel
theorem dX8_go_196 : decode cX8_go 196 = .ok (.goto 84, 3) := by decide +kernel
theorem dX8_go_199 : decode cX8_go 199 = .ok (.aload_n 0, 1) := by decide +kernel
theorem dX8_go_200 : decode cX8_go 200 = .ok (.getfield 7, 3) := by decide +kernel
theorem dX8_go_203 : decode cX8_go 203 = .ok (.iload_n 2, 1) := by decide +kernel
theorem dX8_go_204 : decode cX8_go 204 = .ok (.iaload, 1) := by decide +kernel
theorem dX8_go_205 : decode cX8_go 205 = .ok (.iconst 4, 1) := by decide +kernel
theorem dX8_go_206 : decode cX8_go 206 = .ok (.if_icmp .ne 74, 3) := by decide +kernel
theorem dX8_go_209 : decode cX8_go 209 = .ok (.aload_n 0, 1) := by decide +kernel
theorem dX8_go_210 : decode cX8_go 210 = .ok (.iload_n 2, 1) := by decide +kernel
theorem dX8_go_211 : decode cX8_go 211 = .ok (.iload_n 1, 1) := by decide +kernel
theorem dX8_go_212 : decode cX8_go 212 = .ok (.invokevirtual 122, 3) := by decide +kernel
theorem dX8_go_215 : decode cX8_go 215 = .ok (.istore_n 3, 1) := by decide +kernel
theorem dX8_go_216 : decode cX8_go 216 = .ok (.iload_n 3, 1) := by decide +kernel
theorem dX8_go_217 : decode cX8_go 217 = .ok (.ifCond .ge 5, 3) := by decide +kernel
theorem dX8_go_220 : decode cX8_go 220 = .ok (.iconst (-1), 1) := by decide +kernel
theorem dX8_go_221 : decode cX8_go 221 = .ok (.ireturn, 1) := by decide +kernel
theorem dX8_go_222 : decode cX8_go 222 = .ok (.aload_n 0, 1) := by decide +kernel
theorem dX8_go_223 : decode cX8_go 223 = .ok (.getfield 54, 3) := by decide +kernel
theorem dX8_go_226 : decode cX8_go 226 = .ok (.aload_n 0, 1) := by decide +kernel
theorem dX8_go_227 : decode cX8_go 227 = .ok (.getfield 126, 3) := by decide +kernel
theorem dX8_go_230 : decode cX8_go 230 = .ok (.iload_n 3, 1) := by decide +kernel
theorem dX8_go_231 : decode cX8_go 231 = .ok (.iastore, 1) := by decide +kernel
theorem dX8_go_232 : decode cX8_go 232 = .ok (.aload_n 0, 1) := by decide +kernel
theorem dX8_go_233 : decode cX8_go 233 = .ok (.dup, 1) := by decide +kernel
theorem dX8_go_234 : decode cX8_go 234 = .ok (.getfield 126, 3) := by decide +kernel
theorem dX8_go_237 : decode cX8_go 237 = .ok (.iconst 1, 1) := by decide +kernel
theorem dX8_go_238 : decode cX8_go 238 = .ok (.iadd, 1) := by decide +kernel
theorem dX8_go_239 : decode cX8_go 239 = .ok (.putfield 126, 3) := by decide +kernel
theorem dX8_go_242 : decode cX8_go 242 = .ok (.aload_n 0, 1) := by decide +kernel
theorem dX8_go_243 : decode cX8_go 243 = .ok (.getfield 57, 3) := by decide +kernel
theorem dX8_go_246 : decode cX8_go 246 = .ok (.aload_n 0, 1) := by decide +kernel
theorem dX8_go_247 : decode cX8_go 247 = .ok (.getfield 116, 3) := by decide +kernel
theorem dX8_go_250 : decode cX8_go 250 = .ok (.iload_n 3, 1) := by decide +kernel
theorem dX8_go_251 : decode cX8_go 251 = .ok (.ifCond .ne 12, 3) := by decide +kernel
theorem dX8_go_254 : decode cX8_go 254 = .ok (.aload_n 0, 1) := by decide +kernel
theorem dX8_go_255 : decode cX8_go 255 = .ok (.getfield 16, 3) := by decide +kernel
theorem dX8_go_258 : decode cX8_go 258 = .ok (.iload_n 2, 1) := by decide +kernel
theorem dX8_go_259 : decode cX8_go 259 = .ok (.iaload, 1) := by decide +kernel
theorem dX8_go_260 : decode cX8_go 260 = .ok (.goto 9, 3) := by decide +kernel
theorem dX8_go_263 : decode cX8_go 263 = .ok (.aload_n 0, 1) := by decide +kernel
theorem dX8_go_264 : decode cX8_go 264 = .ok (.getfield 19, 3) := by decide +kernel
theorem dX8_go_267 : decode cX8_go 267 = .ok (.iload_n 2, 1) := by decide +kernel
theorem dX8_go_268 : decode cX8_go 268 = .ok (.iaload, 1) := by decide +kernel
theorem dX8_go_269 : decode cX8_go 269 = .ok (.iastore, 1) := by decide +kernel
theorem dX8_go_270 : decode cX8_go 270 = .ok (.aload_n 0, 1) := by decide +kernel
theorem dX8_go_271 : decode cX8_go 271 = .ok (.dup, 1) := by decide +kernel
theorem dX8_go_272 : decode cX8_go 272 = .ok (.getfield 116, 3) := by decide +kernel
theorem dX8_go_275 : decode cX8_go 275 = .ok (.iconst 1, 1) := by decide +kernel
theorem dX8_go_276 : decode cX8_go 276 = .ok (.iadd, 1) := by decide +kernel
theorem dX8_go_277 : decode cX8_go 277 = .ok (.putfield 116, 3) := by decide +kernel
theorem dX8_go_280 : decode cX8_go 280 = .ok (.goto (-280), 3) := by decide +kernel
theorem dX8_go_283 : decode cX8_go 283 = .ok (.iconst 0, 1) := by decide +kernel
theorem dX8_go_284 : decode cX8_go 284 = .ok (.ireturn, 1) := by decide +kernel
theorem dX8_choice_0 : decode cX8_choice 0 = .ok (.aload_n 0, 1) := by decide +kernel
theorem dX8_choice_1 : decode cX8_choice 1 = .ok (.getfield 16, 3) := by decide +kernel
theorem dX8_choice_4 : decode cX8_choice 4 = .ok (.iload_n 1, 1) := by decide +kernel
theorem dX8_choice_5 : decode cX8_choice 5 = .ok (.iaload, 1) := by decide +kernel
theorem dX8_choice_6 : decode cX8_choice 6 = .ok (.istore_n 3, 1) := by decide +kernel
theorem dX8_choice_7 : decode cX8_choice 7 = .ok (.aload_n 0, 1) := by decide +kernel
theorem dX8_choice_8 : decode cX8_choice 8 = .ok (.getfield 19, 3) := by decide +kernel
theorem dX8_choice_11 : decode cX8_choice 11 = .ok (.iload_n 1, 1) := by decide +kernel
theorem dX8_choice_12 : decode cX8_choice 12 = .ok (.iaload, 1) := by decide +kernel
theorem dX8_choice_13 : decode cX8_choice 13 = .ok (.istore 4, 2) := by decide +kernel
theorem dX8_choice_15 : decode cX8_choice 15 = .ok (.iload_n 2, 1) := by decide +kernel
theorem dX8_choice_16 : decode cX8_choice 16 = .ok (.ifCond .lt 19, 3) := by decide +kernel
theorem dX8_choice_19 : decode cX8_choice 19 = .ok (.aload_n 0, 1) := by decide +kernel
theorem dX8_choice_20 : decode cX8_choice 20 = .ok (.getfield 32, 3) := by decide +kernel
theorem dX8_choice_23 : decode cX8_choice 23 = .ok (.iload_n 3, 1) := by decide +kernel
theorem dX8_choice_24 : decode cX8_choice 24 = .ok (.iaload, 1) := by decide +kernel
theorem dX8_choice_25 : decode cX8_choice 25 = .ok (.iload_n 2, 1) := by decide +kernel
theorem dX8_choice_26 : decode cX8_choice 26 = .ok (.ishr, 1) := by decide +kernel
theorem dX8_choice_27 : decode cX8_choice 27 = .ok (.iconst 1, 1) := by decide +kernel
theorem dX8_choice_28 : decode cX8_choice 28 = .ok (.iand, 1) := by decide +kernel
theorem dX8_choice_29 : decode cX8_choice 29 = .ok (.iconst 1, 1) := by decide +kernel
theorem dX8_choice_30 : decode cX8_choice 30 = .ok (.if_icmp .ne 5, 3) := by decide +kernel
theorem dX8_choice_33 : decode cX8_choice 33 = .ok (.iconst 0, 1) := by decide +kernel
theorem dX8_choice_34 : decode cX8_choice 34 = .ok (.ireturn, 1) := by decide +kernel
theorem dX8_choice_35 : decode cX8_choice 35 = .ok (.iload_n 2, 1) := by decide +kernel
theorem dX8_choice_36 : decode cX8_choice 36 = .ok (.ifCond .lt 20, 3) := by decide +kernel
theorem dX8_choice_39 : decode cX8_choice 39 = .ok (.aload_n 0, 1) := by decide +kernel
theorem dX8_choice_40 : decode cX8_choice 40 = .ok (.getfield 32, 3) := by decide +kernel
theorem dX8_choice_43 : decode cX8_choice 43 = .ok (.iload 4, 2) := by decide +kernel
theorem dX8_choice_45 : decode cX8_choice 45 = .ok (.iaload, 1) := by decide +kernel
theorem dX8_choice_46 : decode cX8_choice 46 = .ok (.iload_n 2, 1) := by decide +kernel
theorem dX8_choice_47 : decode cX8_choice 47 = .ok (.ishr, 1) := by decide +kernel
theorem dX8_choice_48 : decode cX8_choice 48 = .ok (.iconst 1, 1) := by decide +kernel
theorem dX8_choice_49 : decode cX8_choice 49 = .ok (.iand, 1) := by decide +kernel
theorem dX8_choice_50 : decode cX8_choice 50 = .ok (.iconst 1, 1) := by decide +kernel
theorem dX8_choice_51 : decode cX8_choice 51 = .ok (.if_icmp .ne 5, 3) := by decide +kernel
theorem dX8_choice_54 : decode cX8_choice 54 = .ok (.iconst 1, 1) := by decide +kernel
theorem dX8_choice_55 : decode cX8_choice 55 = .ok (.ireturn, 1) := by decide +kernel
theorem dX8_choice_56 : decode cX8_choice 56 = .ok (.aload_n 0, 1) := by decide +kernel
theorem dX8_choice_57 : decode cX8_choice 57 = .ok (.getfield 28, 3) := by decide +kernel
theorem dX8_choice_60 : decode cX8_choice 60 = .ok (.iload_n 3, 1) := by decide +kernel
theorem dX8_choice_61 : decode cX8_choice 61 = .ok (.baload, 1) := by decide +kernel
theorem dX8_choice_62 : decode cX8_choice 62 = .ok (.ifCond .eq 7, 3) := by decide +kernel
theorem dX8_choice_65 : decode cX8_choice 65 = .ok (.iconst 0, 1) := by decide +kernel
theorem dX8_choice_66 : decode cX8_choice 66 = .ok (.goto 18, 3) := by decide +kernel
theorem dX8_choice_69 : decode cX8_choice 69 = .ok (.aload_n 0, 1) := by decide +kernel
theorem dX8_choice_70 : decode cX8_choice 70 = .ok (.getfield 28, 3) := by decide +kernel
theorem dX8_choice_73 : decode cX8_choice 73 = .ok (.iload 4, 2) := by decide +kernel
theorem dX8_choice_75 : decode cX8_choice 75 = .ok (.baload, 1) := by decide +kernel
theorem dX8_choice_76 : decode cX8_choice 76 = .ok (.ifCond .eq 7, 3) := by decide +kernel
theorem dX8_choice_79 : decode cX8_choice 79 = .ok (.iconst 1, 1) := by decide +kernel
theorem dX8_choice_80 : decode cX8_choice 80 = .ok (.goto 4, 3) := by decide +kernel
theorem dX8_choice_83 : decode cX8_choice 83 = .ok (.iconst (-1), 1) := by decide +kernel
theorem dX8_choice_84 : decode cX8_choice 84 = .ok (.ireturn, 1) := by decide +kernel
theorem dX8_beginAt_0 : decode cX8_beginAt 0 = .ok (.aload_n 0, 1) := by decide +kernel
theorem dX8_beginAt_1 : decode cX8_beginAt 1 = .ok (.getfield 57, 3) := by decide +kernel
theorem dX8_beginAt_4 : decode cX8_beginAt 4 = .ok (.iconst 0, 1) := by decide +kernel
theorem dX8_beginAt_5 : decode cX8_beginAt 5 = .ok (.iload_n 1, 1) := by decide +kernel
theorem dX8_beginAt_6 : decode cX8_beginAt 6 = .ok (.iastore, 1) := by decide +kernel
theorem dX8_beginAt_7 : decode cX8_beginAt 7 = .ok (.aload_n 0, 1) := by decide +kernel
theorem dX8_beginAt_8 : decode cX8_beginAt 8 = .ok (.iconst 1, 1) := by decide +kernel
theorem dX8_beginAt_9 : decode cX8_beginAt 9 = .ok (.putfield 116, 3) := by decide +kernel
theorem dX8_beginAt_12 : decode cX8_beginAt 12 = .ok (.aload_n 0, 1) := by decide +kernel
theorem dX8_beginAt_13 : decode cX8_beginAt 13 = .ok (.iconst 0, 1) := by decide +kernel
theorem dX8_beginAt_14 : decode cX8_beginAt 14 = .ok (.putfield 119, 3) := by decide +kernel
theorem dX8_beginAt_17 : decode cX8_beginAt 17 = .ok (.aload_n 0, 1) := by decide +kernel
theorem dX8_beginAt_18 : decode cX8_beginAt 18 = .ok (.iconst 0, 1) := by decide +kernel
theorem dX8_beginAt_19 : decode cX8_beginAt 19 = .ok (.putfield 126, 3) := by decide +kernel
theorem dX8_beginAt_22 : decode cX8_beginAt 22 = .ok (.return_, 1) := by decide +kernel
theorem dX8_read_0 : decode cX8_read 0 = .ok (.aload_n 0, 1) := by decide +kernel
theorem dX8_read_1 : decode cX8_read 1 = .ok (.aload_n 0, 1) := by decide +kernel
theorem dX8_read_2 : decode cX8_read 2 = .ok (.iload_n 1, 1) := by decide +kernel
theorem dX8_read_3 : decode cX8_read 3 = .ok (.invokevirtual 83, 3) := by decide +kernel
theorem dX8_read_6 : decode cX8_read 6 = .ok (.ifCond .ne 7, 3) := by decide +kernel
theorem dX8_read_9 : decode cX8_read 9 = .ok (.iconst 1, 1) := by decide +kernel
theorem dX8_read_10 : decode cX8_read 10 = .ok (.goto 16, 3) := by decide +kernel
theorem dX8_read_13 : decode cX8_read 13 = .ok (.aload_n 0, 1) := by decide +kernel
theorem dX8_read_14 : decode cX8_read 14 = .ok (.iload_n 1, 1) := by decide +kernel
theorem dX8_read_15 : decode cX8_read 15 = .ok (.invokevirtual 110, 3) := by decide +kernel
theorem dX8_read_18 : decode cX8_read 18 = .ok (.ifCond .eq 7, 3) := by decide +kernel
theorem dX8_read_21 : decode cX8_read 21 = .ok (.iconst 2, 1) := by decide +kernel
theorem dX8_read_22 : decode cX8_read 22 = .ok (.goto 4, 3) := by decide +kernel
theorem dX8_read_25 : decode cX8_read 25 = .ok (.iconst 0, 1) := by decide +kernel
theorem dX8_read_26 : decode cX8_read 26 = .ok (.putfield 73, 3) := by decide +kernel
theorem dX8_read_29 : decode cX8_read 29 = .ok (.aload_n 0, 1) := by decide +kernel
theorem dX8_read_30 : decode cX8_read 30 = .ok (.getfield 73, 3) := by decide +kernel
theorem dX8_read_33 : decode cX8_read 33 = .ok (.ifCond .le 5, 3) := by decide +kernel
theorem dX8_read_36 : decode cX8_read 36 = .ok (.iconst 0, 1) := by decide +kernel
theorem dX8_read_37 : decode cX8_read 37 = .ok (.ireturn, 1) := by decide +kernel
theorem dX8_read_38 : decode cX8_read 38 = .ok (.aload_n 0, 1) := by decide +kernel
theorem dX8_read_39 : decode cX8_read 39 = .ok (.iload_n 1, 1) := by decide +kernel
theorem dX8_read_40 : decode cX8_read 40 = .ok (.invokevirtual 129, 3) := by decide +kernel
theorem dX8_read_43 : decode cX8_read 43 = .ok (.iconst 0, 1) := by decide +kernel
theorem dX8_read_44 : decode cX8_read 44 = .ok (.istore_n 2, 1) := by decide +kernel
theorem dX8_read_45 : decode cX8_read 45 = .ok (.iconst 1, 1) := by decide +kernel
theorem dX8_read_46 : decode cX8_read 46 = .ok (.istore_n 3, 1) := by decide +kernel
theorem dX8_read_47 : decode cX8_read 47 = .ok (.iload_n 3, 1) := by decide +kernel
theorem dX8_read_48 : decode cX8_read 48 = .ok (.iconst 1, 1) := by decide +kernel
theorem dX8_read_49 : decode cX8_read 49 = .ok (.if_icmp .ne 42, 3) := by decide +kernel
theorem dX8_read_52 : decode cX8_read 52 = .ok (.aload_n 0, 1) := by decide +kernel
theorem dX8_read_53 : decode cX8_read 53 = .ok (.iload_n 2, 1) := by decide +kernel
theorem dX8_read_54 : decode cX8_read 54 = .ok (.aload_n 0, 1) := by decide +kernel
theorem dX8_read_55 : decode cX8_read 55 = .ok (.getfield 113, 3) := by decide +kernel
theorem dX8_read_58 : decode cX8_read 58 = .ok (.if_icmp .ge 12, 3) := by decide +kernel
theorem dX8_read_61 : decode cX8_read 61 = .ok (.aload_n 0, 1) := by decide +kernel
theorem dX8_read_62 : decode cX8_read 62 = .ok (.getfield 44, 3) := by decide +kernel
theorem dX8_read_65 : decode cX8_read 65 = .ok (.iload_n 2, 1) := by decide +kernel
theorem dX8_read_66 : decode cX8_read 66 = .ok (.iaload, 1) := by decide +kernel
theorem dX8_read_67 : decode cX8_read 67 = .ok (.goto 4, 3) := by decide +kernel
theorem dX8_read_70 : decode cX8_read 70 = .ok (.iconst (-1), 1) := by decide +kernel
theorem dX8_read_71 : decode cX8_read 71 = .ok (.invokevirtual 132, 3) := by decide +kernel
theorem dX8_read_74 : decode cX8_read 74 = .ok (.istore_n 3, 1) := by decide +kernel
theorem dX8_read_75 : decode cX8_read 75 = .ok (.iload_n 3, 1) := by decide +kernel
theorem dX8_read_76 : decode cX8_read 76 = .ok (.iconst 1, 1) := by decide +kernel
theorem dX8_read_77 : decode cX8_read 77 = .ok (.if_icmp .ne 9, 3) := by decide +kernel
theorem dX8_read_80 : decode cX8_read 80 = .ok (.iload_n 2, 1) := by decide +kernel
theorem dX8_read_81 : decode cX8_read 81 = .ok (.iconst 1, 1) := by decide +kernel
theorem dX8_read_82 : decode cX8_read 82 = .ok (.iadd, 1) := by decide +kernel
theorem dX8_read_83 : decode cX8_read 83 = .ok (.goto 4, 3) := by decide +kernel
theorem dX8_read_86 : decode cX8_read 86 = .ok (.iload_n 2, 1) := by decide +kernel
theorem dX8_read_87 : decode cX8_read 87 = .ok (.istore_n 2, 1) := by decide +kernel
theorem dX8_read_88 : decode cX8_read 88 = .ok (.goto (-41), 3) := by decide +kernel
theorem dX8_read_91 : decode cX8_read 91 = .ok (.iload_n 3, 1) := by decide +kernel
theorem dX8_read_92 : decode cX8_read 92 = .ok (.ifCond .lt 11, 3) := by decide +kernel
theorem dX8_read_95 : decode cX8_read 95 = .ok (.iload_n 2, 1) := by decide +kernel
theorem dX8_read_96 : decode cX8_read 96 = .ok (.aload_n 0, 1) := by decide +kernel
theorem dX8_read_97 : decode cX8_read 97 = .ok (.getfield 113, 3) := by decide +kernel
theorem dX8_read_100 : decode cX8_read 100 = .ok (.if_icmp .ge 14, 3) := by decide +kernel
theorem dX8_read_103 : decode cX8_read 103 = .ok (.aload_n 0, 1) := by decide +kernel
theorem dX8_read_104 : decode cX8_read 104 = .ok (.iload_n 2, 1) := by decide +kernel
theorem dX8_read_105 : decode cX8_read 105 = .ok (.putfield 47, 3) := by decide +kernel
theorem dX8_read_108 : decode cX8_read 108 = .ok (.aload_n 0, 1) := by decide +kernel
theorem dX8_read_109 : decode cX8_read 109 = .ok (.iconst 3, 1) := by decide +kernel
theorem dX8_read_110 : decode cX8_read 110 = .ok (.invokevirtual 135, 3) := by decide +kernel
theorem dX8_read_113 : decode cX8_read 113 = .ok (.ireturn, 1) := by decide +kernel
theorem dX8_read_114 : decode cX8_read 114 = .ok (.aload_n 0, 1) := by decide +kernel
theorem dX8_read_115 : decode cX8_read 115 = .ok (.iconst (-1), 1) := by decide +kernel
theorem dX8_read_116 : decode cX8_read 116 = .ok (.putfield 47, 3) := by decide +kernel
theorem dX8_read_119 : decode cX8_read 119 = .ok (.aload_n 0, 1) := by decide +kernel
theorem dX8_read_120 : decode cX8_read 120 = .ok (.aload_n 0, 1) := by decide +kernel
theorem dX8_read_121 : decode cX8_read 121 = .ok (.getfield 126, 3) := by decide +kernel
theorem dX8_read_124 : decode cX8_read 124 = .ok (.putfield 138, 3) := by decide +kernel
theorem dX8_read_127 : decode cX8_read 127 = .ok (.iconst 0, 1) := by decide +kernel
theorem dX8_read_128 : decode cX8_read 128 = .ok (.istore 4, 2) := by decide +kernel
theorem dX8_read_130 : decode cX8_read 130 = .ok (.iload 4, 2) := by decide +kernel
theorem dX8_read_132 : decode cX8_read 132 = .ok (.aload_n 0, 1) := by decide +kernel
theorem dX8_read_133 : decode cX8_read 133 = .ok (.getfield 126, 3) := by decide +kernel
theorem dX8_read_136 : decode cX8_read 136 = .ok (.if_icmp .ge 23, 3) := by decide +kernel
theorem dX8_read_139 : decode cX8_read 139 = .ok (.aload_n 0, 1) := by decide +kernel
theorem dX8_read_140 : decode cX8_read 140 = .ok (.getfield 51, 3) := by decide +kernel
theorem dX8_read_143 : decode cX8_read 143 = .ok (.iload 4, 2) := by decide +kernel
theorem dX8_read_145 : decode cX8_read 145 = .ok (.aload_n 0, 1) := by decide +kernel
theorem dX8_read_146 : decode cX8_read 146 = .ok (.getfield 54, 3) := by decide +kernel
theorem dX8_read_149 : decode cX8_read 149 = .ok (.iload 4, 2) := by decide +kernel
theorem dX8_read_151 : decode cX8_read 151 = .ok (.iaload, 1) := by decide +kernel
theorem dX8_read_152 : decode cX8_read 152 = .ok (.iastore, 1) := by decide +kernel
theorem dX8_read_153 : decode cX8_read 153 = .ok (.iinc 4 1, 3) := by decide +kernel
theorem dX8_read_156 : decode cX8_read 156 = .ok (.goto (-26), 3) := by decide +kernel
theorem dX8_read_159 : decode cX8_read 159 = .ok (.aload_n 0, 1) := by decide +kernel
theorem dX8_read_160 : decode cX8_read 160 = .ok (.getfield 119, 3) := by decide +kernel
theorem dX8_read_163 : decode cX8_read 163 = .ok (.ireturn, 1) := by decide +kernel
theorem dX8_stopped_0 : decode cX8_stopped 0 = .ok (.aload_n 0, 1) := by decide +kernel
theorem dX8_stopped_1 : decode cX8_stopped 1 = .ok (.iconst 0, 1) := by decide +kernel
theorem dX8_stopped_2 : decode cX8_stopped 2 = .ok (.putfield 73, 3) := by decide +kernel
theorem dX8_stopped_5 : decode cX8_stopped 5 = .ok (.aload_n 0, 1) := by decide +kernel
theorem dX8_stopped_6 : decode cX8_stopped 6 = .ok (.getfield 47, 3) := by decide +kernel
theorem dX8_stopped_9 : decode cX8_stopped 9 = .ok (.ireturn, 1) := by decide +kernel
theorem dX8_trace_0 : decode cX8_trace 0 = .ok (.aload_n 0, 1) := by decide +kernel
theorem dX8_trace_1 : decode cX8_trace 1 = .ok (.iconst 0, 1) := by decide +kernel
theorem dX8_trace_2 : decode cX8_trace 2 = .ok (.putfield 73, 3) := by decide +kernel
theorem dX8_trace_5 : decode cX8_trace 5 = .ok (.aload_n 0, 1) := by decide +kernel
theorem dX8_trace_6 : decode cX8_trace 6 = .ok (.getfield 138, 3) := by decide +kernel
theorem dX8_trace_9 : decode cX8_trace 9 = .ok (.ireturn, 1) := by decide +kernel
theorem dX8_step_0 : decode cX8_step 0 = .ok (.aload_n 0, 1) := by decide +kernel
theorem dX8_step_1 : decode cX8_step 1 = .ok (.iload_n 1, 1) := by decide +kernel
theorem dX8_step_2 : decode cX8_step 2 = .ok (.ifCond .lt 11, 3) := by decide +kernel
theorem dX8_step_5 : decode cX8_step 5 = .ok (.iload_n 1, 1) := by decide +kernel
theorem dX8_step_6 : decode cX8_step 6 = .ok (.aload_n 0, 1) := by decide +kernel
theorem dX8_step_7 : decode cX8_step 7 = .ok (.getfield 138, 3) := by decide +kernel
theorem dX8_step_10 : decode cX8_step 10 = .ok (.if_icmp .lt 7, 3) := by decide +kernel
theorem dX8_step_13 : decode cX8_step 13 = .ok (.iconst 1, 1) := by decide +kernel
theorem dX8_step_14 : decode cX8_step 14 = .ok (.goto 4, 3) := by decide +kernel
theorem dX8_step_17 : decode cX8_step 17 = .ok (.iconst 0, 1) := by decide +kernel
theorem dX8_step_18 : decode cX8_step 18 = .ok (.putfield 73, 3) := by decide +kernel
theorem dX8_step_21 : decode cX8_step 21 = .ok (.aload_n 0, 1) := by decide +kernel
theorem dX8_step_22 : decode cX8_step 22 = .ok (.getfield 73, 3) := by decide +kernel
theorem dX8_step_25 : decode cX8_step 25 = .ok (.ifCond .le 7, 3) := by decide +kernel
theorem dX8_step_28 : decode cX8_step 28 = .ok (.iconst 0, 1) := by decide +kernel
theorem dX8_step_29 : decode cX8_step 29 = .ok (.goto 9, 3) := by decide +kernel
theorem dX8_step_32 : decode cX8_step 32 = .ok (.aload_n 0, 1) := by decide +kernel
theorem dX8_step_33 : decode cX8_step 33 = .ok (.getfield 51, 3) := by decide +kernel
theorem dX8_step_36 : decode cX8_step 36 = .ok (.iload_n 1, 1) := by decide +kernel
theorem dX8_step_37 : decode cX8_step 37 = .ok (.iaload, 1) := by decide +kernel
theorem dX8_step_38 : decode cX8_step 38 = .ok (.ireturn, 1) := by decide +kernel
theorem dX8_countAt_0 : decode cX8_countAt 0 = .ok (.bipush 17, 2) := by decide +kernel
theorem dX8_countAt_2 : decode cX8_countAt 2 = .ok (.aload_n 0, 1) := by decide +kernel
theorem dX8_countAt_3 : decode cX8_countAt 3 = .ok (.getfield 16, 3) := by decide +kernel
theorem dX8_countAt_6 : decode cX8_countAt 6 = .ok (.iload_n 1, 1) := by decide +kernel
theorem dX8_countAt_7 : decode cX8_countAt 7 = .ok (.iaload, 1) := by decide +kernel
theorem dX8_countAt_8 : decode cX8_countAt 8 = .ok (.imul, 1) := by decide +kernel
theorem dX8_countAt_9 : decode cX8_countAt 9 = .ok (.istore_n 3, 1) := by decide +kernel
theorem dX8_countAt_10 : decode cX8_countAt 10 = .ok (.bipush 17, 2) := by decide +kernel
theorem dX8_countAt_12 : decode cX8_countAt 12 = .ok (.aload_n 0, 1) := by decide +kernel
theorem dX8_countAt_13 : decode cX8_countAt 13 = .ok (.getfield 19, 3) := by decide +kernel
theorem dX8_countAt_16 : decode cX8_countAt 16 = .ok (.iload_n 1, 1) := by decide +kernel
theorem dX8_countAt_17 : decode cX8_countAt 17 = .ok (.iaload, 1) := by decide +kernel
theorem dX8_countAt_18 : decode cX8_countAt 18 = .ok (.imul, 1) := by decide +kernel
theorem dX8_countAt_19 : decode cX8_countAt 19 = .ok (.istore 4, 2) := by decide +kernel
theorem dX8_countAt_21 : decode cX8_countAt 21 = .ok (.lconst 0, 1) := by decide +kernel
theorem dX8_countAt_22 : decode cX8_countAt 22 = .ok (.lstore 5, 2) := by decide +kernel
theorem dX8_countAt_24 : decode cX8_countAt 24 = .ok (.aload_n 0, 1) := by decide +kernel
theorem dX8_countAt_25 : decode cX8_countAt 25 = .ok (.getfield 7, 3) := by decide +kernel
theorem dX8_countAt_28 : decode cX8_countAt 28 = .ok (.iload_n 1, 1) := by decide +kernel
theorem dX8_countAt_29 : decode cX8_countAt 29 = .ok (.iaload, 1) := by decide +kernel
theorem dX8_countAt_30 : decode cX8_countAt 30 = .ok (.tableswitch 136 0 6 #[42, 136, 52, 91, 63, 136, 82], 42) := by decide +kernel
theorem dX8_countAt_72 : decode cX8_countAt 72 = .ok (.iload_n 2, 1) := by decide +kernel
theorem dX8_countAt_73 : decode cX8_countAt 73 = .ok (.ifCond .ne 7, 3) := by decide +kernel
theorem dX8_countAt_76 : decode cX8_countAt 76 = .ok (.lconst 1, 1) := by decide +kernel
theorem dX8_countAt_77 : decode cX8_countAt 77 = .ok (.goto 4, 3) := by decide +kernel
theorem dX8_countAt_80 : decode cX8_countAt 80 = .ok (.lconst 0, 1) := by decide +kernel
theorem dX8_countAt_81 : decode cX8_countAt 81 = .ok (.lreturn, 1) := by decide +kernel
theorem dX8_countAt_82 : decode cX8_countAt 82 = .ok (.iload_n 2, 1) := by decide +kernel
theorem dX8_countAt_83 : decode cX8_countAt 83 = .ok (.iconst 1, 1) := by decide +kernel
theorem dX8_countAt_84 : decode cX8_countAt 84 = .ok (.if_icmp .ne 7, 3) := by decide +kernel
theorem dX8_countAt_87 : decode cX8_countAt 87 = .ok (.lconst 1, 1) := by decide +kernel
theorem dX8_countAt_88 : decode cX8_countAt 88 = .ok (.goto 4, 3) := by decide +kernel
theorem dX8_countAt_91 : decode cX8_countAt 91 = .ok (.lconst 0, 1) := by decide +kernel
theorem dX8_countAt_92 : decode cX8_countAt 92 = .ok (.lreturn, 1) := by decide +kernel
theorem dX8_countAt_93 : decode cX8_countAt 93 = .ok (.aload_n 0, 1) := by decide +kernel
theorem dX8_countAt_94 : decode cX8_countAt 94 = .ok (.getfield 63, 3) := by decide +kernel
theorem dX8_countAt_97 : decode cX8_countAt 97 = .ok (.iload_n 3, 1) := by decide +kernel
theorem dX8_countAt_98 : decode cX8_countAt 98 = .ok (.iload_n 2, 1) := by decide +kernel
theorem dX8_countAt_99 : decode cX8_countAt 99 = .ok (.iadd, 1) := by decide +kernel
theorem dX8_countAt_100 : decode cX8_countAt 100 = .ok (.laload, 1) := by decide +kernel
theorem dX8_countAt_101 : decode cX8_countAt 101 = .ok (.aload_n 0, 1) := by decide +kernel
theorem dX8_countAt_102 : decode cX8_countAt 102 = .ok (.getfield 63, 3) := by decide +kernel
theorem dX8_countAt_105 : decode cX8_countAt 105 = .ok (.iload 4, 2) := by decide +kernel
theorem dX8_countAt_107 : decode cX8_countAt 107 = .ok (.iload_n 2, 1) := by decide +kernel
theorem dX8_countAt_108 : decode cX8_countAt 108 = .ok (.iadd, 1) := by decide +kernel
theorem dX8_countAt_109 : decode cX8_countAt 109 = .ok (.laload, 1) := by decide +kernel
theorem dX8_countAt_110 : decode cX8_countAt 110 = .ok (.ladd, 1) := by decide +kernel
theorem dX8_countAt_111 : decode cX8_countAt 111 = .ok (.lreturn, 1) := by decide +kernel
theorem dX8_countAt_112 : decode cX8_countAt 112 = .ok (.aload_n 0, 1) := by decide +kernel
theorem dX8_countAt_113 : decode cX8_countAt 113 = .ok (.getfield 63, 3) := by decide +kernel
theorem dX8_countAt_116 : decode cX8_countAt 116 = .ok (.iload_n 3, 1) := by decide +kernel
theorem dX8_countAt_117 : decode cX8_countAt 117 = .ok (.iload_n 2, 1) := by decide +kernel
theorem dX8_countAt_118 : decode cX8_countAt 118 = .ok (.iadd, 1) := by decide +kernel
theorem dX8_countAt_119 : decode cX8_countAt 119 = .ok (.laload, 1) := by decide +kernel
theorem dX8_countAt_120 : decode cX8_countAt 120 = .ok (.lreturn, 1) := by decide +kernel
theorem dX8_countAt_121 : decode cX8_countAt 121 = .ok (.iconst 1, 1) := by decide +kernel
theorem dX8_countAt_122 : decode cX8_countAt 122 = .ok (.istore 7, 2) := by decide +kernel
theorem dX8_countAt_124 : decode cX8_countAt 124 = .ok (.iload 7, 2) := by decide +kernel
theorem dX8_countAt_126 : decode cX8_countAt 126 = .ok (.iload_n 2, 1) := by decide +kernel
theorem dX8_countAt_127 : decode cX8_countAt 127 = .ok (.if_icmp .gt 36, 3) := by decide +kernel
theorem dX8_countAt_130 : decode cX8_countAt 130 = .ok (.lload 5, 2) := by decide +kernel
theorem dX8_countAt_132 : decode cX8_countAt 132 = .ok (.aload_n 0, 1) := by decide +kernel
theorem dX8_countAt_133 : decode cX8_countAt 133 = .ok (.getfield 63, 3) := by decide +kernel
theorem dX8_countAt_136 : decode cX8_countAt 136 = .ok (.iload_n 3, 1) := by decide +kernel
theorem dX8_countAt_137 : decode cX8_countAt 137 = .ok (.iload 7, 2) := by decide +kernel
theorem dX8_countAt_139 : decode cX8_countAt 139 = .ok (.iadd, 1) := by decide +kernel
theorem dX8_countAt_140 : decode cX8_countAt 140 = .ok (.laload, 1) := by decide +kernel
theorem dX8_countAt_141 : decode cX8_countAt 141 = .ok (.aload_n 0, 1) := by decide +kernel
theorem dX8_countAt_142 : decode cX8_countAt 142 = .ok (.getfield 63, 3) := by decide +kernel
theorem dX8_countAt_145 : decode cX8_countAt 145 = .ok (.iload 4, 2) := by decide +kernel
theorem dX8_countAt_147 : decode cX8_countAt 147 = .ok (.iload_n 2, 1) := by decide +kernel
theorem dX8_countAt_148 : decode cX8_countAt 148 = .ok (.iadd, 1) := by decide +kernel
theorem dX8_countAt_149 : decode cX8_countAt 149 = .ok (.iload 7, 2) := by decide +kernel
theorem dX8_countAt_151 : decode cX8_countAt 151 = .ok (.isub, 1) := by decide +kernel
theorem dX8_countAt_152 : decode cX8_countAt 152 = .ok (.laload, 1) := by decide +kernel
theorem dX8_countAt_153 : decode cX8_countAt 153 = .ok (.lmul, 1) := by decide +kernel
theorem dX8_countAt_154 : decode cX8_countAt 154 = .ok (.ladd, 1) := by decide +kernel
theorem dX8_countAt_155 : decode cX8_countAt 155 = .ok (.lstore 5, 2) := by decide +kernel
theorem dX8_countAt_157 : decode cX8_countAt 157 = .ok (.iinc 7 1, 3) := by decide +kernel
theorem dX8_countAt_160 : decode cX8_countAt 160 = .ok (.goto (-36), 3) := by decide +kernel
theorem dX8_countAt_163 : decode cX8_countAt 163 = .ok (.lload 5, 2) := by decide +kernel
theorem dX8_countAt_165 : decode cX8_countAt 165 = .ok (.lreturn, 1) := by decide +kernel
theorem dX8_countAt_166 : decode cX8_countAt 166 = .ok (.lconst 0, 1) := by decide +kernel
theorem dX8_countAt_167 : decode cX8_countAt 167 = .ok (.lreturn, 1) := by decide +kernel
theorem dX8_countAll_0 : decode cX8_countAll 0 = .ok (.iconst 0, 1) := by decide +kernel
theorem dX8_countAll_1 : decode cX8_countAll 1 = .ok (.istore_n 2, 1) := by decide +kernel
theorem dX8_countAll_2 : decode cX8_countAll 2 = .ok (.iload_n 2, 1) := by decide +kernel
theorem dX8_countAll_3 : decode cX8_countAll 3 = .ok (.iload_n 1, 1) := by decide +kernel
theorem dX8_countAll_4 : decode cX8_countAll 4 = .ok (.if_icmp .gt 162, 3) := by decide +kernel
theorem dX8_countAll_7 : decode cX8_countAll 7 = .ok (.iconst 0, 1) := by decide +kernel
theorem dX8_countAll_8 : decode cX8_countAll 8 = .ok (.istore_n 3, 1) := by decide +kernel
theorem dX8_countAll_9 : decode cX8_countAll 9 = .ok (.iload_n 3, 1) := by decide +kernel
theorem dX8_countAll_10 : decode cX8_countAll 10 = .ok (.aload_n 0, 1) := by decide +kernel
theorem dX8_countAll_11 : decode cX8_countAll 11 = .ok (.getfield 76, 3) := by decide +kernel
theorem dX8_countAll_14 : decode cX8_countAll 14 = .ok (.if_icmp .ge 21, 3) := by decide +kernel
theorem dX8_countAll_17 : decode cX8_countAll 17 = .ok (.aload_n 0, 1) := by decide +kernel
theorem dX8_countAll_18 : decode cX8_countAll 18 = .ok (.getfield 63, 3) := by decide +kernel
theorem dX8_countAll_21 : decode cX8_countAll 21 = .ok (.bipush 17, 2) := by decide +kernel
theorem dX8_countAll_23 : decode cX8_countAll 23 = .ok (.iload_n 3, 1) := by decide +kernel
theorem dX8_countAll_24 : decode cX8_countAll 24 = .ok (.imul, 1) := by decide +kernel
theorem dX8_countAll_25 : decode cX8_countAll 25 = .ok (.iload_n 2, 1) := by decide +kernel
theorem dX8_countAll_26 : decode cX8_countAll 26 = .ok (.iadd, 1) := by decide +kernel
theorem dX8_countAll_27 : decode cX8_countAll 27 = .ok (.lconst 0, 1) := by decide +kernel
theorem dX8_countAll_28 : decode cX8_countAll 28 = .ok (.lastore, 1) := by decide +kernel
theorem dX8_countAll_29 : decode cX8_countAll 29 = .ok (.iinc 3 1, 3) := by decide +kernel
theorem dX8_countAll_32 : decode cX8_countAll 32 = .ok (.goto (-23), 3) := by decide +kernel
theorem dX8_countAll_35 : decode cX8_countAll 35 = .ok (.iconst 1, 1) := by decide +kernel
theorem dX8_countAll_36 : decode cX8_countAll 36 = .ok (.istore_n 3, 1) := by decide +kernel
theorem dX8_countAll_37 : decode cX8_countAll 37 = .ok (.iload_n 3, 1) := by decide +kernel
theorem dX8_countAll_38 : decode cX8_countAll 38 = .ok (.ifCond .eq 122, 3) := by decide +kernel
theorem dX8_countAll_41 : decode cX8_countAll 41 = .ok (.iconst 0, 1) := by decide +kernel
theorem dX8_countAll_42 : decode cX8_countAll 42 = .ok (.istore_n 3, 1) := by decide +kernel
theorem dX8_countAll_43 : decode cX8_countAll 43 = .ok (.iconst 0, 1) := by decide +kernel
theorem dX8_countAll_44 : decode cX8_countAll 44 = .ok (.istore 4, 2) := by decide +kernel
theorem dX8_countAll_46 : decode cX8_countAll 46 = .ok (.iload 4, 2) := by decide +kernel
theorem dX8_countAll_48 : decode cX8_countAll 48 = .ok (.aload_n 0, 1) := by decide +kernel
theorem dX8_countAll_49 : decode cX8_countAll 49 = .ok (.getfield 76, 3) := by decide +kernel
theorem dX8_countAll_52 : decode cX8_countAll 52 = .ok (.if_icmp .ge 105, 3) := by decide +kernel
theorem dX8_countAll_55 : decode cX8_countAll 55 = .ok (.aload_n 0, 1) := by decide +kernel
theorem dX8_countAll_56 : decode cX8_countAll 56 = .ok (.getfield 38, 3) := by decide +kernel
theorem dX8_countAll_59 : decode cX8_countAll 59 = .ok (.iload 4, 2) := by decide +kernel
theorem dX8_countAll_61 : decode cX8_countAll 61 = .ok (.baload, 1) := by decide +kernel
theorem dX8_countAll_62 : decode cX8_countAll 62 = .ok (.ifCond .ne 7, 3) := by decide +kernel
theorem dX8_countAll_65 : decode cX8_countAll 65 = .ok (.lconst 0, 1) := by decide +kernel
theorem dX8_countAll_66 : decode cX8_countAll 66 = .ok (.goto 41, 3) := by decide +kernel
theorem dX8_countAll_69 : decode cX8_countAll 69 = .ok (.aload_n 0, 1) := by decide +kernel
theorem dX8_countAll_70 : decode cX8_countAll 70 = .ok (.getfield 7, 3) := by decide +kernel
theorem dX8_countAll_73 : decode cX8_countAll 73 = .ok (.iload 4, 2) := by decide +kernel
theorem dX8_countAll_75 : decode cX8_countAll 75 = .ok (.iaload, 1) := by decide +kernel
theorem dX8_countAll_76 : decode cX8_countAll 76 = .ok (.iconst 5, 1) := by decide +kernel
theorem dX8_countAll_77 : decode cX8_countAll 77 = .ok (.if_icmp .ne 23, 3) := by decide +kernel
theorem dX8_countAll_80 : decode cX8_countAll 80 = .ok (.aload_n 0, 1) := by decide +kernel
theorem dX8_countAll_81 : decode cX8_countAll 81 = .ok (.getfield 63, 3) := by decide +kernel
theorem dX8_countAll_84 : decode cX8_countAll 84 = .ok (.bipush 17, 2) := by decide +kernel
theorem dX8_countAll_86 : decode cX8_countAll 86 = .ok (.aload_n 0, 1) := by decide +kernel
theorem dX8_countAll_87 : decode cX8_countAll 87 = .ok (.getfield 41, 3) := by decide +kernel
theorem dX8_countAll_90 : decode cX8_countAll 90 = .ok (.iload 4, 2) := by decide +kernel
theorem dX8_countAll_92 : decode cX8_countAll 92 = .ok (.iaload, 1) := by decide +kernel
theorem dX8_countAll_93 : decode cX8_countAll 93 = .ok (.imul, 1) := by decide +kernel
theorem dX8_countAll_94 : decode cX8_countAll 94 = .ok (.iload_n 2, 1) := by decide +kernel
theorem dX8_countAll_95 : decode cX8_countAll 95 = .ok (.iadd, 1) := by decide +kernel
theorem dX8_countAll_96 : decode cX8_countAll 96 = .ok (.laload, 1) := by decide +kernel
theorem dX8_countAll_97 : decode cX8_countAll 97 = .ok (.goto 10, 3) := by decide +kernel
theorem dX8_countAll_100 : decode cX8_countAll 100 = .ok (.aload_n 0, 1) := by decide +kernel
theorem dX8_countAll_101 : decode cX8_countAll 101 = .ok (.iload 4, 2) := by decide +kernel
theorem dX8_countAll_103 : decode cX8_countAll 103 = .ok (.iload_n 2, 1) := by decide +kernel
theorem dX8_countAll_104 : decode cX8_countAll 104 = .ok (.invokevirtual 141, 3) := by decide +kernel
theorem dX8_countAll_107 : decode cX8_countAll 107 = .ok (.lstore 5, 2) := by decide +kernel
theorem dX8_countAll_109 : decode cX8_countAll 109 = .ok (.iload_n 3, 1) := by decide +kernel
theorem dX8_countAll_110 : decode cX8_countAll 110 = .ok (.ifCond .ne 21, 3) := by decide +kernel
theorem dX8_countAll_113 : decode cX8_countAll 113 = .ok (.lload 5, 2) := by decide +kernel
theorem dX8_countAll_115 : decode cX8_countAll 115 = .ok (.aload_n 0, 1) := by decide +kernel
theorem dX8_countAll_116 : decode cX8_countAll 116 = .ok (.getfield 63, 3) := by decide +kernel
theorem dX8_countAll_119 : decode cX8_countAll 119 = .ok (.bipush 17, 2) := by decide +kernel
theorem dX8_countAll_121 : decode cX8_countAll 121 = .ok (.iload 4, 2) := by decide +kernel
theorem dX8_countAll_123 : decode cX8_countAll 123 = .ok (.imul, 1) := by decide +kernel
theorem dX8_countAll_124 : decode cX8_countAll 124 = .ok (.iload_n 2, 1) := by decide +kernel
theorem dX8_countAll_125 : decode cX8_countAll 125 = .ok (.iadd, 1) := by decide +kernel
theorem dX8_countAll_126 : decode cX8_countAll 126 = .ok (.laload, 1) := by decide +kernel
theorem dX8_countAll_127 : decode cX8_countAll 127 = .ok (.lcmp, 1) := by decide +kernel
theorem dX8_countAll_128 : decode cX8_countAll 128 = .ok (.ifCond .eq 7, 3) := by decide +kernel
theorem dX8_countAll_131 : decode cX8_countAll 131 = .ok (.iconst 1, 1) := by decide +kernel
theorem dX8_countAll_132 : decode cX8_countAll 132 = .ok (.goto 4, 3) := by decide +kernel
theorem dX8_countAll_135 : decode cX8_countAll 135 = .ok (.iconst 0, 1) := by decide +kernel
theorem dX8_countAll_136 : decode cX8_countAll 136 = .ok (.istore_n 3, 1) := by decide +kernel
theorem dX8_countAll_137 : decode cX8_countAll 137 = .ok (.aload_n 0, 1) := by decide +kernel
theorem dX8_countAll_138 : decode cX8_countAll 138 = .ok (.getfield 63, 3) := by decide +kernel
theorem dX8_countAll_141 : decode cX8_countAll 141 = .ok (.bipush 17, 2) := by decide +kernel
theorem dX8_countAll_143 : decode cX8_countAll 143 = .ok (.iload 4, 2) := by decide +kernel
theorem dX8_countAll_145 : decode cX8_countAll 145 = .ok (.imul, 1) := by decide +kernel
theorem dX8_countAll_146 : decode cX8_countAll 146 = .ok (.iload_n 2, 1) := by decide +kernel
theorem dX8_countAll_147 : decode cX8_countAll 147 = .ok (.iadd, 1) := by decide +kernel
theorem dX8_countAll_148 : decode cX8_countAll 148 = .ok (.lload 5, 2) := by decide +kernel
theorem dX8_countAll_150 : decode cX8_countAll 150 = .ok (.lastore, 1) := by decide +kernel
theorem dX8_countAll_151 : decode cX8_countAll 151 = .ok (.iinc 4 1, 3) := by decide +kernel
theorem dX8_countAll_154 : decode cX8_countAll 154 = .ok (.goto (-108), 3) := by decide +kernel
theorem dX8_countAll_157 : decode cX8_countAll 157 = .ok (.goto (-120), 3) := by decide +kernel
theorem dX8_countAll_160 : decode cX8_countAll 160 = .ok (.iinc 2 1, 3) := by decide +kernel
theorem dX8_countAll_163 : decode cX8_countAll 163 = .ok (.goto (-161), 3) := by decide +kernel
theorem dX8_countAll_166 : decode cX8_countAll 166 = .ok (.return_, 1) := by decide +kernel
theorem dX8_wrongCount_0 : decode cX8_wrongCount 0 = .ok (.aload_n 0, 1) := by decide +kernel
theorem dX8_wrongCount_1 : decode cX8_wrongCount 1 = .ok (.iload_n 1, 1) := by decide +kernel
theorem dX8_wrongCount_2 : decode cX8_wrongCount 2 = .ok (.invokevirtual 83, 3) := by decide +kernel
theorem dX8_wrongCount_5 : decode cX8_wrongCount 5 = .ok (.ifCond .ne 7, 3) := by decide +kernel
theorem dX8_wrongCount_8 : decode cX8_wrongCount 8 = .ok (.iconst 1, 1) := by decide +kernel
theorem dX8_wrongCount_9 : decode cX8_wrongCount 9 = .ok (.goto 30, 3) := by decide +kernel
theorem dX8_wrongCount_12 : decode cX8_wrongCount 12 = .ok (.aload_n 0, 1) := by decide +kernel
theorem dX8_wrongCount_13 : decode cX8_wrongCount 13 = .ok (.iload_n 1, 1) := by decide +kernel
theorem dX8_wrongCount_14 : decode cX8_wrongCount 14 = .ok (.invokevirtual 110, 3) := by decide +kernel
theorem dX8_wrongCount_17 : decode cX8_wrongCount 17 = .ok (.ifCond .eq 7, 3) := by decide +kernel
theorem dX8_wrongCount_20 : decode cX8_wrongCount 20 = .ok (.iconst 2, 1) := by decide +kernel
theorem dX8_wrongCount_21 : decode cX8_wrongCount 21 = .ok (.goto 18, 3) := by decide +kernel
theorem dX8_wrongCount_24 : decode cX8_wrongCount 24 = .ok (.iload_n 2, 1) := by decide +kernel
theorem dX8_wrongCount_25 : decode cX8_wrongCount 25 = .ok (.ifCond .lt 9, 3) := by decide +kernel
theorem dX8_wrongCount_28 : decode cX8_wrongCount 28 = .ok (.iload_n 2, 1) := by decide +kernel
theorem dX8_wrongCount_29 : decode cX8_wrongCount 29 = .ok (.bipush 16, 2) := by decide +kernel
theorem dX8_wrongCount_31 : decode cX8_wrongCount 31 = .ok (.if_icmp .le 7, 3) := by decide +kernel
theorem dX8_wrongCount_34 : decode cX8_wrongCount 34 = .ok (.iconst 3, 1) := by decide +kernel
theorem dX8_wrongCount_35 : decode cX8_wrongCount 35 = .ok (.goto 4, 3) := by decide +kernel
theorem dX8_wrongCount_38 : decode cX8_wrongCount 38 = .ok (.iconst 0, 1) := by decide +kernel
theorem dX8_wrongCount_39 : decode cX8_wrongCount 39 = .ok (.ireturn, 1) := by decide +kernel
theorem dX8_count_0 : decode cX8_count 0 = .ok (.aload_n 0, 1) := by decide +kernel
theorem dX8_count_1 : decode cX8_count 1 = .ok (.aload_n 0, 1) := by decide +kernel
theorem dX8_count_2 : decode cX8_count 2 = .ok (.iload_n 1, 1) := by decide +kernel
theorem dX8_count_3 : decode cX8_count 3 = .ok (.iload_n 2, 1) := by decide +kernel
theorem dX8_count_4 : decode cX8_count 4 = .ok (.invokevirtual 145, 3) := by decide +kernel
theorem dX8_count_7 : decode cX8_count 7 = .ok (.putfield 73, 3) := by decide +kernel
theorem dX8_count_10 : decode cX8_count 10 = .ok (.aload_n 0, 1) := by decide +kernel
theorem dX8_count_11 : decode cX8_count 11 = .ok (.getfield 73, 3) := by decide +kernel
theorem dX8_count_14 : decode cX8_count 14 = .ok (.ifCond .le 5, 3) := by decide +kernel
theorem dX8_count_17 : decode cX8_count 17 = .ok (.lconst 0, 1) := by decide +kernel
theorem dX8_count_18 : decode cX8_count 18 = .ok (.lreturn, 1) := by decide +kernel
theorem dX8_count_19 : decode cX8_count 19 = .ok (.aload_n 0, 1) := by decide +kernel
theorem dX8_count_20 : decode cX8_count 20 = .ok (.iload_n 2, 1) := by decide +kernel
theorem dX8_count_21 : decode cX8_count 21 = .ok (.invokevirtual 148, 3) := by decide +kernel
theorem dX8_count_24 : decode cX8_count 24 = .ok (.aload_n 0, 1) := by decide +kernel
theorem dX8_count_25 : decode cX8_count 25 = .ok (.getfield 63, 3) := by decide +kernel
theorem dX8_count_28 : decode cX8_count 28 = .ok (.bipush 17, 2) := by decide +kernel
theorem dX8_count_30 : decode cX8_count 30 = .ok (.iload_n 1, 1) := by decide +kernel
theorem dX8_count_31 : decode cX8_count 31 = .ok (.imul, 1) := by decide +kernel
theorem dX8_count_32 : decode cX8_count 32 = .ok (.iload_n 2, 1) := by decide +kernel
theorem dX8_count_33 : decode cX8_count 33 = .ok (.iadd, 1) := by decide +kernel
theorem dX8_count_34 : decode cX8_count 34 = .ok (.laload, 1) := by decide +kernel
theorem dX8_count_35 : decode cX8_count 35 = .ok (.lreturn, 1) := by decide +kernel
theorem dX8_countOpen_0 : decode cX8_countOpen 0 = .ok (.iconst 0, 1) := by decide +kernel
theorem dX8_countOpen_1 : decode cX8_countOpen 1 = .ok (.istore_n 2, 1) := by decide +kernel
theorem dX8_countOpen_2 : decode cX8_countOpen 2 = .ok (.iload_n 2, 1) := by decide +kernel
theorem dX8_countOpen_3 : decode cX8_countOpen 3 = .ok (.iload_n 1, 1) := by decide +kernel
theorem dX8_countOpen_4 : decode cX8_countOpen 4 = .ok (.if_icmp .gt 24, 3) := by decide +kernel
theorem dX8_countOpen_7 : decode cX8_countOpen 7 = .ok (.aload_n 0, 1) := by decide +kernel
theorem dX8_countOpen_8 : decode cX8_countOpen 8 = .ok (.getfield 67, 3) := by decide +kernel
theorem dX8_countOpen_11 : decode cX8_countOpen 11 = .ok (.iload_n 2, 1) := by decide +kernel
theorem dX8_countOpen_12 : decode cX8_countOpen 12 = .ok (.iload_n 2, 1) := by decide +kernel
theorem dX8_countOpen_13 : decode cX8_countOpen 13 = .ok (.ifCond .ne 7, 3) := by decide +kernel
theorem dX8_countOpen_16 : decode cX8_countOpen 16 = .ok (.lconst 1, 1) := by decide +kernel
theorem dX8_countOpen_17 : decode cX8_countOpen 17 = .ok (.goto 4, 3) := by decide +kernel
theorem dX8_countOpen_20 : decode cX8_countOpen 20 = .ok (.lconst 0, 1) := by decide +kernel
theorem dX8_countOpen_21 : decode cX8_countOpen 21 = .ok (.lastore, 1) := by decide +kernel
theorem dX8_countOpen_22 : decode cX8_countOpen 22 = .ok (.iinc 2 1, 3) := by decide +kernel
theorem dX8_countOpen_25 : decode cX8_countOpen 25 = .ok (.goto (-23), 3) := by decide +kernel
theorem dX8_countOpen_28 : decode cX8_countOpen 28 = .ok (.iconst 0, 1) := by decide +kernel
theorem dX8_countOpen_29 : decode cX8_countOpen 29 = .ok (.istore_n 2, 1) := by decide +kernel
theorem dX8_countOpen_30 : decode cX8_countOpen 30 = .ok (.iload_n 2, 1) := by decide +kernel
theorem dX8_countOpen_31 : decode cX8_countOpen 31 = .ok (.aload_n 0, 1) := by decide +kernel
theorem dX8_countOpen_32 : decode cX8_countOpen 32 = .ok (.getfield 116, 3) := by decide +kernel
theorem dX8_countOpen_35 : decode cX8_countOpen 35 = .ok (.if_icmp .ge 109, 3) := by decide +kernel
theorem dX8_countOpen_38 : decode cX8_countOpen 38 = .ok (.iconst 0, 1) := by decide +kernel
theorem dX8_countOpen_39 : decode cX8_countOpen 39 = .ok (.istore_n 3, 1) := by decide +kernel
theorem dX8_countOpen_40 : decode cX8_countOpen 40 = .ok (.iload_n 3, 1) := by decide +kernel
theorem dX8_countOpen_41 : decode cX8_countOpen 41 = .ok (.iload_n 1, 1) := by decide +kernel
theorem dX8_countOpen_42 : decode cX8_countOpen 42 = .ok (.if_icmp .gt 71, 3) := by decide +kernel
theorem dX8_countOpen_45 : decode cX8_countOpen 45 = .ok (.aload_n 0, 1) := by decide +kernel
theorem dX8_countOpen_46 : decode cX8_countOpen 46 = .ok (.getfield 70, 3) := by decide +kernel
theorem dX8_countOpen_49 : decode cX8_countOpen 49 = .ok (.iload_n 3, 1) := by decide +kernel
theorem dX8_countOpen_50 : decode cX8_countOpen 50 = .ok (.lconst 0, 1) := by decide +kernel
theorem dX8_countOpen_51 : decode cX8_countOpen 51 = .ok (.lastore, 1) := by decide +kernel
theorem dX8_countOpen_52 : decode cX8_countOpen 52 = .ok (.iconst 0, 1) := by decide +kernel
theorem dX8_countOpen_53 : decode cX8_countOpen 53 = .ok (.istore 4, 2) := by decide +kernel
theorem dX8_countOpen_55 : decode cX8_countOpen 55 = .ok (.iload 4, 2) := by decide +kernel
theorem dX8_countOpen_57 : decode cX8_countOpen 57 = .ok (.iload_n 3, 1) := by decide +kernel
theorem dX8_countOpen_58 : decode cX8_countOpen 58 = .ok (.if_icmp .gt 49, 3) := by decide +kernel
theorem dX8_countOpen_61 : decode cX8_countOpen 61 = .ok (.aload_n 0, 1) := by decide +kernel
theorem dX8_countOpen_62 : decode cX8_countOpen 62 = .ok (.getfield 70, 3) := by decide +kernel
theorem dX8_countOpen_65 : decode cX8_countOpen 65 = .ok (.iload_n 3, 1) := by decide +kernel
theorem dX8_countOpen_66 : decode cX8_countOpen 66 = .ok (.aload_n 0, 1) := by decide +kernel
theorem dX8_countOpen_67 : decode cX8_countOpen 67 = .ok (.getfield 70, 3) := by decide +kernel
theorem dX8_countOpen_70 : decode cX8_countOpen 70 = .ok (.iload_n 3, 1) := by decide +kernel
theorem dX8_countOpen_71 : decode cX8_countOpen 71 = .ok (.laload, 1) := by decide +kernel
theorem dX8_countOpen_72 : decode cX8_countOpen 72 = .ok (.aload_n 0, 1) := by decide +kernel
theorem dX8_countOpen_73 : decode cX8_countOpen 73 = .ok (.getfield 67, 3) := by decide +kernel
theorem dX8_countOpen_76 : decode cX8_countOpen 76 = .ok (.iload 4, 2) := by decide +kernel
theorem dX8_countOpen_78 : decode cX8_countOpen 78 = .ok (.laload, 1) := by decide +kernel
theorem dX8_countOpen_79 : decode cX8_countOpen 79 = .ok (.aload_n 0, 1) := by decide +kernel
theorem dX8_countOpen_80 : decode cX8_countOpen 80 = .ok (.getfield 63, 3) := by decide +kernel
theorem dX8_countOpen_83 : decode cX8_countOpen 83 = .ok (.bipush 17, 2) := by decide +kernel
theorem dX8_countOpen_85 : decode cX8_countOpen 85 = .ok (.aload_n 0, 1) := by decide +kernel
theorem dX8_countOpen_86 : decode cX8_countOpen 86 = .ok (.getfield 57, 3) := by decide +kernel
theorem dX8_countOpen_89 : decode cX8_countOpen 89 = .ok (.iload_n 2, 1) := by decide +kernel
theorem dX8_countOpen_90 : decode cX8_countOpen 90 = .ok (.iaload, 1) := by decide +kernel
theorem dX8_countOpen_91 : decode cX8_countOpen 91 = .ok (.imul, 1) := by decide +kernel
theorem dX8_countOpen_92 : decode cX8_countOpen 92 = .ok (.iload_n 3, 1) := by decide +kernel
theorem dX8_countOpen_93 : decode cX8_countOpen 93 = .ok (.iadd, 1) := by decide +kernel
theorem dX8_countOpen_94 : decode cX8_countOpen 94 = .ok (.iload 4, 2) := by decide +kernel
theorem dX8_countOpen_96 : decode cX8_countOpen 96 = .ok (.isub, 1) := by decide +kernel
theorem dX8_countOpen_97 : decode cX8_countOpen 97 = .ok (.laload, 1) := by decide +kernel
theorem dX8_countOpen_98 : decode cX8_countOpen 98 = .ok (.lmul, 1) := by decide +kernel
theorem dX8_countOpen_99 : decode cX8_countOpen 99 = .ok (.ladd, 1) := by decide +kernel
theorem dX8_countOpen_100 : decode cX8_countOpen 100 = .ok (.lastore, 1) := by decide +kernel
theorem dX8_countOpen_101 : decode cX8_countOpen 101 = .ok (.iinc 4 1, 3) := by decide +kernel
theorem dX8_countOpen_104 : decode cX8_countOpen 104 = .ok (.goto (-49), 3) := by decide +kernel
theorem dX8_countOpen_107 : decode cX8_countOpen 107 = .ok (.iinc 3 1, 3) := by decide +kernel
theorem dX8_countOpen_110 : decode cX8_countOpen 110 = .ok (.goto (-70), 3) := by decide +kernel
theorem dX8_countOpen_113 : decode cX8_countOpen 113 = .ok (.iconst 0, 1) := by decide +kernel
theorem dX8_countOpen_114 : decode cX8_countOpen 114 = .ok (.istore_n 3, 1) := by decide +kernel
theorem dX8_countOpen_115 : decode cX8_countOpen 115 = .ok (.iload_n 3, 1) := by decide +kernel
theorem dX8_countOpen_116 : decode cX8_countOpen 116 = .ok (.iload_n 1, 1) := by decide +kernel
theorem dX8_countOpen_117 : decode cX8_countOpen 117 = .ok (.if_icmp .gt 21, 3) := by decide +kernel
theorem dX8_countOpen_120 : decode cX8_countOpen 120 = .ok (.aload_n 0, 1) := by decide +kernel
theorem dX8_countOpen_121 : decode cX8_countOpen 121 = .ok (.getfield 67, 3) := by decide +kernel
theorem dX8_countOpen_124 : decode cX8_countOpen 124 = .ok (.iload_n 3, 1) := by decide +kernel
theorem dX8_countOpen_125 : decode cX8_countOpen 125 = .ok (.aload_n 0, 1) := by decide +kernel
theorem dX8_countOpen_126 : decode cX8_countOpen 126 = .ok (.getfield 70, 3) := by decide +kernel
theorem dX8_countOpen_129 : decode cX8_countOpen 129 = .ok (.iload_n 3, 1) := by decide +kernel
theorem dX8_countOpen_130 : decode cX8_countOpen 130 = .ok (.laload, 1) := by decide +kernel
theorem dX8_countOpen_131 : decode cX8_countOpen 131 = .ok (.lastore, 1) := by decide +kernel
theorem dX8_countOpen_132 : decode cX8_countOpen 132 = .ok (.iinc 3 1, 3) := by decide +kernel
theorem dX8_countOpen_135 : decode cX8_countOpen 135 = .ok (.goto (-20), 3) := by decide +kernel
theorem dX8_countOpen_138 : decode cX8_countOpen 138 = .ok (.iinc 2 1, 3) := by decide +kernel
theorem dX8_countOpen_141 : decode cX8_countOpen 141 = .ok (.goto (-111), 3) := by decide +kernel
theorem dX8_countOpen_144 : decode cX8_countOpen 144 = .ok (.aload_n 0, 1) := by decide +kernel
theorem dX8_countOpen_145 : decode cX8_countOpen 145 = .ok (.getfield 67, 3) := by decide +kernel
theorem dX8_countOpen_148 : decode cX8_countOpen 148 = .ok (.iload_n 1, 1) := by decide +kernel
theorem dX8_countOpen_149 : decode cX8_countOpen 149 = .ok (.laload, 1) := by decide +kernel
theorem dX8_countOpen_150 : decode cX8_countOpen 150 = .ok (.lreturn, 1) := by decide +kernel
theorem dX8_keep_0 : decode cX8_keep 0 = .ok (.aload_n 0, 1) := by decide +kernel
theorem dX8_keep_1 : decode cX8_keep 1 = .ok (.aload_n 0, 1) := by decide +kernel
theorem dX8_keep_2 : decode cX8_keep 2 = .ok (.getfield 116, 3) := by decide +kernel
theorem dX8_keep_5 : decode cX8_keep 5 = .ok (.putfield 151, 3) := by decide +kernel
theorem dX8_keep_8 : decode cX8_keep 8 = .ok (.iconst 0, 1) := by decide +kernel
theorem dX8_keep_9 : decode cX8_keep 9 = .ok (.istore_n 1, 1) := by decide +kernel
theorem dX8_keep_10 : decode cX8_keep 10 = .ok (.iload_n 1, 1) := by decide +kernel
theorem dX8_keep_11 : decode cX8_keep 11 = .ok (.aload_n 0, 1) := by decide +kernel
theorem dX8_keep_12 : decode cX8_keep 12 = .ok (.getfield 116, 3) := by decide +kernel
theorem dX8_keep_15 : decode cX8_keep 15 = .ok (.if_icmp .ge 21, 3) := by decide +kernel
theorem dX8_keep_18 : decode cX8_keep 18 = .ok (.aload_n 0, 1) := by decide +kernel
theorem dX8_keep_19 : decode cX8_keep 19 = .ok (.getfield 60, 3) := by decide +kernel
theorem dX8_keep_22 : decode cX8_keep 22 = .ok (.iload_n 1, 1) := by decide +kernel
theorem dX8_keep_23 : decode cX8_keep 23 = .ok (.aload_n 0, 1) := by decide +kernel
theorem dX8_keep_24 : decode cX8_keep 24 = .ok (.getfield 57, 3) := by decide +kernel
theorem dX8_keep_27 : decode cX8_keep 27 = .ok (.iload_n 1, 1) := by decide +kernel
theorem dX8_keep_28 : decode cX8_keep 28 = .ok (.iaload, 1) := by decide +kernel
theorem dX8_keep_29 : decode cX8_keep 29 = .ok (.iastore, 1) := by decide +kernel
theorem dX8_keep_30 : decode cX8_keep 30 = .ok (.iinc 1 1, 3) := by decide +kernel
theorem dX8_keep_33 : decode cX8_keep 33 = .ok (.goto (-23), 3) := by decide +kernel
theorem dX8_keep_36 : decode cX8_keep 36 = .ok (.return_, 1) := by decide +kernel
theorem dX8_back_0 : decode cX8_back 0 = .ok (.aload_n 0, 1) := by decide +kernel
theorem dX8_back_1 : decode cX8_back 1 = .ok (.iconst 0, 1) := by decide +kernel
theorem dX8_back_2 : decode cX8_back 2 = .ok (.putfield 126, 3) := by decide +kernel
theorem dX8_back_5 : decode cX8_back 5 = .ok (.aload_n 0, 1) := by decide +kernel
theorem dX8_back_6 : decode cX8_back 6 = .ok (.aload_n 0, 1) := by decide +kernel
theorem dX8_back_7 : decode cX8_back 7 = .ok (.getfield 151, 3) := by decide +kernel
theorem dX8_back_10 : decode cX8_back 10 = .ok (.putfield 116, 3) := by decide +kernel
theorem dX8_back_13 : decode cX8_back 13 = .ok (.iconst 0, 1) := by decide +kernel
theorem dX8_back_14 : decode cX8_back 14 = .ok (.istore_n 1, 1) := by decide +kernel
theorem dX8_back_15 : decode cX8_back 15 = .ok (.iload_n 1, 1) := by decide +kernel
theorem dX8_back_16 : decode cX8_back 16 = .ok (.aload_n 0, 1) := by decide +kernel
theorem dX8_back_17 : decode cX8_back 17 = .ok (.getfield 151, 3) := by decide +kernel
theorem dX8_back_20 : decode cX8_back 20 = .ok (.if_icmp .ge 21, 3) := by decide +kernel
theorem dX8_back_23 : decode cX8_back 23 = .ok (.aload_n 0, 1) := by decide +kernel
theorem dX8_back_24 : decode cX8_back 24 = .ok (.getfield 57, 3) := by decide +kernel
theorem dX8_back_27 : decode cX8_back 27 = .ok (.iload_n 1, 1) := by decide +kernel
theorem dX8_back_28 : decode cX8_back 28 = .ok (.aload_n 0, 1) := by decide +kernel
theorem dX8_back_29 : decode cX8_back 29 = .ok (.getfield 60, 3) := by decide +kernel
theorem dX8_back_32 : decode cX8_back 32 = .ok (.iload_n 1, 1) := by decide +kernel
theorem dX8_back_33 : decode cX8_back 33 = .ok (.iaload, 1) := by decide +kernel
theorem dX8_back_34 : decode cX8_back 34 = .ok (.iastore, 1) := by decide +kernel
theorem dX8_back_35 : decode cX8_back 35 = .ok (.iinc 1 1, 3) := by decide +kernel
theorem dX8_back_38 : decode cX8_back 38 = .ok (.goto (-23), 3) := by decide +kernel
theorem dX8_back_41 : decode cX8_back 41 = .ok (.return_, 1) := by decide +kernel
theorem dX8_find_0 : decode cX8_find 0 = .ok (.aload_n 0, 1) := by decide +kernel
theorem dX8_find_1 : decode cX8_find 1 = .ok (.aload_n 0, 1) := by decide +kernel
theorem dX8_find_2 : decode cX8_find 2 = .ok (.iload_n 1, 1) := by decide +kernel
theorem dX8_find_3 : decode cX8_find 3 = .ok (.iload_n 2, 1) := by decide +kernel
theorem dX8_find_4 : decode cX8_find 4 = .ok (.invokevirtual 145, 3) := by decide +kernel
theorem dX8_find_7 : decode cX8_find 7 = .ok (.putfield 73, 3) := by decide +kernel
theorem dX8_find_10 : decode cX8_find 10 = .ok (.aload_n 0, 1) := by decide +kernel
theorem dX8_find_11 : decode cX8_find 11 = .ok (.getfield 73, 3) := by decide +kernel
theorem dX8_find_14 : decode cX8_find 14 = .ok (.ifCond .le 4, 3) := by decide +kernel
theorem dX8_find_17 : decode cX8_find 17 = .ok (.return_, 1) := by decide +kernel
theorem dX8_find_18 : decode cX8_find 18 = .ok (.aload_n 0, 1) := by decide +kernel
theorem dX8_find_19 : decode cX8_find 19 = .ok (.iload_n 2, 1) := by decide +kernel
theorem dX8_find_20 : decode cX8_find 20 = .ok (.invokevirtual 148, 3) := by decide +kernel
theorem dX8_find_23 : decode cX8_find 23 = .ok (.lload_n 3, 1) := by decide +kernel
theorem dX8_find_24 : decode cX8_find 24 = .ok (.lconst 0, 1) := by decide +kernel
theorem dX8_find_25 : decode cX8_find 25 = .ok (.lcmp, 1) := by decide +kernel
theorem dX8_find_26 : decode cX8_find 26 = .ok (.ifCond .lt 19, 3) := by decide +kernel
theorem dX8_find_29 : decode cX8_find 29 = .ok (.lload_n 3, 1) := by decide +kernel
theorem dX8_find_30 : decode cX8_find 30 = .ok (.aload_n 0, 1) := by decide +kernel
theorem dX8_find_31 : decode cX8_find 31 = .ok (.getfield 63, 3) := by decide +kernel
theorem dX8_find_34 : decode cX8_find 34 = .ok (.bipush 17, 2) := by decide +kernel
theorem dX8_find_36 : decode cX8_find 36 = .ok (.iload_n 1, 1) := by decide +kernel
theorem dX8_find_37 : decode cX8_find 37 = .ok (.imul, 1) := by decide +kernel
theorem dX8_find_38 : decode cX8_find 38 = .ok (.iload_n 2, 1) := by decide +kernel
theorem dX8_find_39 : decode cX8_find 39 = .ok (.iadd, 1) := by decide +kernel
theorem dX8_find_40 : decode cX8_find 40 = .ok (.laload, 1) := by decide +kernel
theorem dX8_find_41 : decode cX8_find 41 = .ok (.lcmp, 1) := by decide +kernel
theorem dX8_find_42 : decode cX8_find 42 = .ok (.ifCond .lt 9, 3) := by decide +kernel
theorem dX8_find_45 : decode cX8_find 45 = .ok (.aload_n 0, 1) := by decide +kernel
theorem dX8_find_46 : decode cX8_find 46 = .ok (.iconst 4, 1) := by decide +kernel
theorem dX8_find_47 : decode cX8_find 47 = .ok (.putfield 73, 3) := by decide +kernel
theorem dX8_find_50 : decode cX8_find 50 = .ok (.return_, 1) := by decide +kernel
theorem dX8_find_51 : decode cX8_find 51 = .ok (.lload_n 3, 1) := by decide +kernel
theorem dX8_find_52 : decode cX8_find 52 = .ok (.lstore 5, 2) := by decide +kernel
theorem dX8_find_54 : decode cX8_find 54 = .ok (.aload_n 0, 1) := by decide +kernel
theorem dX8_find_55 : decode cX8_find 55 = .ok (.iload_n 1, 1) := by decide +kernel
theorem dX8_find_56 : decode cX8_find 56 = .ok (.invokevirtual 129, 3) := by decide +kernel
theorem dX8_find_59 : decode cX8_find 59 = .ok (.iconst 0, 1) := by decide +kernel
theorem dX8_find_60 : decode cX8_find 60 = .ok (.istore 7, 2) := by decide +kernel
theorem dX8_find_62 : decode cX8_find 62 = .ok (.iload 7, 2) := by decide +kernel
theorem dX8_find_64 : decode cX8_find 64 = .ok (.iload_n 2, 1) := by decide +kernel
theorem dX8_find_65 : decode cX8_find 65 = .ok (.if_icmp .ge 101, 3) := by decide +kernel
theorem dX8_find_68 : decode cX8_find 68 = .ok (.aload_n 0, 1) := by decide +kernel
theorem dX8_find_69 : decode cX8_find 69 = .ok (.invokevirtual 154, 3) := by decide +kernel
theorem dX8_find_72 : decode cX8_find 72 = .ok (.iconst 0, 1) := by decide +kernel
theorem dX8_find_73 : decode cX8_find 73 = .ok (.istore 8, 2) := by decide +kernel
theorem dX8_find_75 : decode cX8_find 75 = .ok (.iconst 0, 1) := by decide +kernel
theorem dX8_find_76 : decode cX8_find 76 = .ok (.istore 9, 2) := by decide +kernel
theorem dX8_find_78 : decode cX8_find 78 = .ok (.iload 9, 2) := by decide +kernel
theorem dX8_find_80 : decode cX8_find 80 = .ok (.ifCond .ne 66, 3) := by decide +kernel
theorem dX8_find_83 : decode cX8_find 83 = .ok (.aload_n 0, 1) := by decide +kernel
theorem dX8_find_84 : decode cX8_find 84 = .ok (.iload 8, 2) := by decide +kernel
theorem dX8_find_86 : decode cX8_find 86 = .ok (.invokevirtual 132, 3) := by decide +kernel
theorem dX8_find_89 : decode cX8_find 89 = .ok (.iconst 1, 1) := by decide +kernel
theorem dX8_find_90 : decode cX8_find 90 = .ok (.if_icmp .ne 16, 3) := by decide +kernel
theorem dX8_find_93 : decode cX8_find 93 = .ok (.aload_n 0, 1) := by decide +kernel
theorem dX8_find_94 : decode cX8_find 94 = .ok (.iload_n 2, 1) := by decide +kernel
theorem dX8_find_95 : decode cX8_find 95 = .ok (.iload 7, 2) := by decide +kernel
theorem dX8_find_97 : decode cX8_find 97 = .ok (.isub, 1) := by decide +kernel
theorem dX8_find_98 : decode cX8_find 98 = .ok (.iconst 1, 1) := by decide +kernel
theorem dX8_find_99 : decode cX8_find 99 = .ok (.isub, 1) := by decide +kernel
theorem dX8_find_100 : decode cX8_find 100 = .ok (.invokevirtual 157, 3) := by decide +kernel
theorem dX8_find_103 : decode cX8_find 103 = .ok (.goto 4, 3) := by decide +kernel
theorem dX8_find_106 : decode cX8_find 106 = .ok (.lconst 0, 1) := by decide +kernel
theorem dX8_find_107 : decode cX8_find 107 = .ok (.lstore 10, 2) := by decide +kernel
theorem dX8_find_109 : decode cX8_find 109 = .ok (.lload 5, 2) := by decide +kernel
theorem dX8_find_111 : decode cX8_find 111 = .ok (.lload 10, 2) := by decide +kernel
theorem dX8_find_113 : decode cX8_find 113 = .ok (.lcmp, 1) := by decide +kernel
theorem dX8_find_114 : decode cX8_find 114 = .ok (.ifCond .ge 7, 3) := by decide +kernel
theorem dX8_find_117 : decode cX8_find 117 = .ok (.iconst 1, 1) := by decide +kernel
theorem dX8_find_118 : decode cX8_find 118 = .ok (.goto 4, 3) := by decide +kernel
theorem dX8_find_121 : decode cX8_find 121 = .ok (.iconst 0, 1) := by decide +kernel
theorem dX8_find_122 : decode cX8_find 122 = .ok (.istore 9, 2) := by decide +kernel
theorem dX8_find_124 : decode cX8_find 124 = .ok (.iload 9, 2) := by decide +kernel
theorem dX8_find_126 : decode cX8_find 126 = .ok (.ifCond .ne 17, 3) := by decide +kernel
theorem dX8_find_129 : decode cX8_find 129 = .ok (.lload 5, 2) := by decide +kernel
theorem dX8_find_131 : decode cX8_find 131 = .ok (.lload 10, 2) := by decide +kernel
theorem dX8_find_133 : decode cX8_find 133 = .ok (.lsub, 1) := by decide +kernel
theorem dX8_find_134 : decode cX8_find 134 = .ok (.lstore 5, 2) := by decide +kernel
theorem dX8_find_136 : decode cX8_find 136 = .ok (.aload_n 0, 1) := by decide +kernel
theorem dX8_find_137 : decode cX8_find 137 = .ok (.invokevirtual 161, 3) := by decide +kernel
theorem dX8_find_140 : decode cX8_find 140 = .ok (.iinc 8 1, 3) := by decide +kernel
theorem dX8_find_143 : decode cX8_find 143 = .ok (.goto (-65), 3) := by decide +kernel
theorem dX8_find_146 : decode cX8_find 146 = .ok (.aload_n 0, 1) := by decide +kernel
theorem dX8_find_147 : decode cX8_find 147 = .ok (.getfield 44, 3) := by decide +kernel
theorem dX8_find_150 : decode cX8_find 150 = .ok (.iload 7, 2) := by decide +kernel
theorem dX8_find_152 : decode cX8_find 152 = .ok (.iload 8, 2) := by decide +kernel
theorem dX8_find_154 : decode cX8_find 154 = .ok (.iastore, 1) := by decide +kernel
theorem dX8_find_155 : decode cX8_find 155 = .ok (.aload_n 0, 1) := by decide +kernel
theorem dX8_find_156 : decode cX8_find 156 = .ok (.iconst 0, 1) := by decide +kernel
theorem dX8_find_157 : decode cX8_find 157 = .ok (.putfield 126, 3) := by decide +kernel
theorem dX8_find_160 : decode cX8_find 160 = .ok (.iinc 7 1, 3) := by decide +kernel
theorem dX8_find_163 : decode cX8_find 163 = .ok (.goto (-101), 3) := by decide +kernel
theorem dX8_find_166 : decode cX8_find 166 = .ok (.aload_n 0, 1) := by decide +kernel
theorem dX8_find_167 : decode cX8_find 167 = .ok (.iload_n 2, 1) := by decide +kernel
theorem dX8_find_168 : decode cX8_find 168 = .ok (.putfield 113, 3) := by decide +kernel
theorem dX8_find_171 : decode cX8_find 171 = .ok (.return_, 1) := by decide +kernel
theorem dL_leaf_0 : decode cL_leaf 0 = .ok (.aload_n 2, 1) := by decide +kernel
theorem dL_leaf_1 : decode cL_leaf 1 = .ok (.iconst 0, 1) := by decide +kernel
theorem dL_leaf_2 : decode cL_leaf 2 = .ok (.aload_n 0, 1) := by decide +kernel
theorem dL_leaf_3 : decode cL_leaf 3 = .ok (.iload_n 1, 1) := by decide +kernel
theorem dL_leaf_4 : decode cL_leaf 4 = .ok (.invokevirtual 7, 3) := by decide +kernel
theorem dL_leaf_7 : decode cL_leaf 7 = .ok (.i2l, 1) := by decide +kernel
theorem dL_leaf_8 : decode cL_leaf 8 = .ok (.lastore, 1) := by decide +kernel
theorem dL_leaf_9 : decode cL_leaf 9 = .ok (.goto 9, 3) := by decide +kernel
theorem dL_leaf_12 : decode cL_leaf 12 = .ok (.astore_n 3, 1) := by decide +kernel
theorem dL_leaf_13 : decode cL_leaf 13 = .ok (.iconst 1, 1) := by decide +kernel
theorem dL_leaf_14 : decode cL_leaf 14 = .ok (.ireturn, 1) := by decide +kernel
theorem dL_leaf_15 : decode cL_leaf 15 = .ok (.astore_n 3, 1) := by decide +kernel
theorem dL_leaf_16 : decode cL_leaf 16 = .ok (.iconst 2, 1) := by decide +kernel
theorem dL_leaf_17 : decode cL_leaf 17 = .ok (.ireturn, 1) := by decide +kernel
theorem dL_leaf_18 : decode cL_leaf 18 = .ok (.iconst 0, 1) := by decide +kernel
theorem dL_leaf_19 : decode cL_leaf 19 = .ok (.ireturn, 1) := by decide +kernel
theorem dL_variable_0 : decode cL_variable 0 = .ok (.aload_n 2, 1) := by decide +kernel
theorem dL_variable_1 : decode cL_variable 1 = .ok (.iconst 0, 1) := by decide +kernel
theorem dL_variable_2 : decode cL_variable 2 = .ok (.aload_n 0, 1) := by decide +kernel
theorem dL_variable_3 : decode cL_variable 3 = .ok (.iload_n 1, 1) := by decide +kernel
theorem dL_variable_4 : decode cL_variable 4 = .ok (.invokevirtual 17, 3) := by decide +kernel
theorem dL_variable_7 : decode cL_variable 7 = .ok (.i2l, 1) := by decide +kernel
theorem dL_variable_8 : decode cL_variable 8 = .ok (.lastore, 1) := by decide +kernel
theorem dL_variable_9 : decode cL_variable 9 = .ok (.goto 9, 3) := by decide +kernel
theorem dL_variable_12 : decode cL_variable 12 = .ok (.astore_n 3, 1) := by decide +kernel
theorem dL_variable_13 : decode cL_variable 13 = .ok (.iconst 1, 1) := by decide +kernel
theorem dL_variable_14 : decode cL_variable 14 = .ok (.ireturn, 1) := by decide +kernel
theorem dL_variable_15 : decode cL_variable 15 = .ok (.astore_n 3, 1) := by decide +kernel
theorem dL_variable_16 : decode cL_variable 16 = .ok (.iconst 2, 1) := by decide +kernel
theorem dL_variable_17 : decode cL_variable 17 = .ok (.ireturn, 1) := by decide +kernel
theorem dL_variable_18 : decode cL_variable 18 = .ok (.iconst 0, 1) := by decide +kernel
theorem dL_variable_19 : decode cL_variable 19 = .ok (.ireturn, 1) := by decide +kernel
theorem dL_join_0 : decode cL_join 0 = .ok (.aload 4, 2) := by decide +kernel
theorem dL_join_2 : decode cL_join 2 = .ok (.iconst 0, 1) := by decide +kernel
theorem dL_join_3 : decode cL_join 3 = .ok (.aload_n 0, 1) := by decide +kernel
theorem dL_join_4 : decode cL_join 4 = .ok (.iload_n 1, 1) := by decide +kernel
theorem dL_join_5 : decode cL_join 5 = .ok (.iload_n 2, 1) := by decide +kernel
theorem dL_join_6 : decode cL_join 6 = .ok (.iload_n 3, 1) := by decide +kernel
theorem dL_join_7 : decode cL_join 7 = .ok (.invokevirtual 20, 3) := by decide +kernel
theorem dL_join_10 : decode cL_join 10 = .ok (.i2l, 1) := by decide +kernel
theorem dL_join_11 : decode cL_join 11 = .ok (.lastore, 1) := by decide +kernel
theorem dL_join_12 : decode cL_join 12 = .ok (.goto 15, 3) := by decide +kernel
theorem dL_join_15 : decode cL_join 15 = .ok (.astore 5, 2) := by decide +kernel
theorem dL_join_17 : decode cL_join 17 = .ok (.iconst 1, 1) := by decide +kernel
theorem dL_join_18 : decode cL_join 18 = .ok (.ireturn, 1) := by decide +kernel
theorem dL_join_19 : decode cL_join 19 = .ok (.astore 5, 2) := by decide +kernel
theorem dL_join_21 : decode cL_join 21 = .ok (.iconst 2, 1) := by decide +kernel
theorem dL_join_22 : decode cL_join 22 = .ok (.ireturn, 1) := by decide +kernel
theorem dL_join_23 : decode cL_join 23 = .ok (.astore 5, 2) := by decide +kernel
theorem dL_join_25 : decode cL_join 25 = .ok (.iconst 3, 1) := by decide +kernel
theorem dL_join_26 : decode cL_join 26 = .ok (.ireturn, 1) := by decide +kernel
theorem dL_join_27 : decode cL_join 27 = .ok (.iconst 0, 1) := by decide +kernel
theorem dL_join_28 : decode cL_join 28 = .ok (.ireturn, 1) := by decide +kernel
theorem dL_knot_0 : decode cL_knot 0 = .ok (.aload_n 3, 1) := by decide +kernel
theorem dL_knot_1 : decode cL_knot 1 = .ok (.iconst 0, 1) := by decide +kernel
theorem dL_knot_2 : decode cL_knot 2 = .ok (.aload_n 0, 1) := by decide +kernel
theorem dL_knot_3 : decode cL_knot 3 = .ok (.iload_n 1, 1) := by decide +kernel
theorem dL_knot_4 : decode cL_knot 4 = .ok (.iload_n 2, 1) := by decide +kernel
theorem dL_knot_5 : decode cL_knot 5 = .ok (.invokevirtual 28, 3) := by decide +kernel
theorem dL_knot_8 : decode cL_knot 8 = .ok (.i2l, 1) := by decide +kernel
theorem dL_knot_9 : decode cL_knot 9 = .ok (.lastore, 1) := by decide +kernel
theorem dL_knot_10 : decode cL_knot 10 = .ok (.goto 19, 3) := by decide +kernel
theorem dL_knot_13 : decode cL_knot 13 = .ok (.astore 4, 2) := by decide +kernel
theorem dL_knot_15 : decode cL_knot 15 = .ok (.iconst 1, 1) := by decide +kernel
theorem dL_knot_16 : decode cL_knot 16 = .ok (.ireturn, 1) := by decide +kernel
theorem dL_knot_17 : decode cL_knot 17 = .ok (.astore 4, 2) := by decide +kernel
theorem dL_knot_19 : decode cL_knot 19 = .ok (.iconst 2, 1) := by decide +kernel
theorem dL_knot_20 : decode cL_knot 20 = .ok (.ireturn, 1) := by decide +kernel
theorem dL_knot_21 : decode cL_knot 21 = .ok (.astore 4, 2) := by decide +kernel
theorem dL_knot_23 : decode cL_knot 23 = .ok (.iconst 3, 1) := by decide +kernel
theorem dL_knot_24 : decode cL_knot 24 = .ok (.ireturn, 1) := by decide +kernel
theorem dL_knot_25 : decode cL_knot 25 = .ok (.astore 4, 2) := by decide +kernel
theorem dL_knot_27 : decode cL_knot 27 = .ok (.iconst 4, 1) := by decide +kernel
theorem dL_knot_28 : decode cL_knot 28 = .ok (.ireturn, 1) := by decide +kernel
theorem dL_knot_29 : decode cL_knot 29 = .ok (.iconst 0, 1) := by decide +kernel
theorem dL_knot_30 : decode cL_knot 30 = .ok (.ireturn, 1) := by decide +kernel
theorem dL_fault_0 : decode cL_fault 0 = .ok (.aload_n 2, 1) := by decide +kernel
theorem dL_fault_1 : decode cL_fault 1 = .ok (.iconst 0, 1) := by decide +kernel
theorem dL_fault_2 : decode cL_fault 2 = .ok (.aload_n 0, 1) := by decide +kernel
theorem dL_fault_3 : decode cL_fault 3 = .ok (.iload_n 1, 1) := by decide +kernel
theorem dL_fault_4 : decode cL_fault 4 = .ok (.invokevirtual 32, 3) := by decide +kernel
theorem dL_fault_7 : decode cL_fault 7 = .ok (.i2l, 1) := by decide +kernel
theorem dL_fault_8 : decode cL_fault 8 = .ok (.lastore, 1) := by decide +kernel
theorem dL_fault_9 : decode cL_fault 9 = .ok (.goto 6, 3) := by decide +kernel
theorem dL_fault_12 : decode cL_fault 12 = .ok (.astore_n 3, 1) := by decide +kernel
theorem dL_fault_13 : decode cL_fault 13 = .ok (.iconst 1, 1) := by decide +kernel
theorem dL_fault_14 : decode cL_fault 14 = .ok (.ireturn, 1) := by decide +kernel
theorem dL_fault_15 : decode cL_fault 15 = .ok (.iconst 0, 1) := by decide +kernel
theorem dL_fault_16 : decode cL_fault 16 = .ok (.ireturn, 1) := by decide +kernel
theorem dL_type_0 : decode cL_type 0 = .ok (.aload_n 3, 1) := by decide +kernel
theorem dL_type_1 : decode cL_type 1 = .ok (.iconst 0, 1) := by decide +kernel
theorem dL_type_2 : decode cL_type 2 = .ok (.aload_n 0, 1) := by decide +kernel
theorem dL_type_3 : decode cL_type 3 = .ok (.iload_n 1, 1) := by decide +kernel
theorem dL_type_4 : decode cL_type 4 = .ok (.iload_n 2, 1) := by decide +kernel
theorem dL_type_5 : decode cL_type 5 = .ok (.invokevirtual 35, 3) := by decide +kernel
theorem dL_type_8 : decode cL_type 8 = .ok (.i2l, 1) := by decide +kernel
theorem dL_type_9 : decode cL_type 9 = .ok (.lastore, 1) := by decide +kernel
theorem dL_type_10 : decode cL_type 10 = .ok (.goto 11, 3) := by decide +kernel
theorem dL_type_13 : decode cL_type 13 = .ok (.astore 4, 2) := by decide +kernel
theorem dL_type_15 : decode cL_type 15 = .ok (.iconst 1, 1) := by decide +kernel
theorem dL_type_16 : decode cL_type 16 = .ok (.ireturn, 1) := by decide +kernel
theorem dL_type_17 : decode cL_type 17 = .ok (.astore 4, 2) := by decide +kernel
theorem dL_type_19 : decode cL_type 19 = .ok (.iconst 2, 1) := by decide +kernel
theorem dL_type_20 : decode cL_type 20 = .ok (.ireturn, 1) := by decide +kernel
theorem dL_type_21 : decode cL_type 21 = .ok (.iconst 0, 1) := by decide +kernel
theorem dL_type_22 : decode cL_type 22 = .ok (.ireturn, 1) := by decide +kernel
theorem dL_letter_0 : decode cL_letter 0 = .ok (.aload_n 2, 1) := by decide +kernel
theorem dL_letter_1 : decode cL_letter 1 = .ok (.iconst 0, 1) := by decide +kernel
theorem dL_letter_2 : decode cL_letter 2 = .ok (.aload_n 0, 1) := by decide +kernel
theorem dL_letter_3 : decode cL_letter 3 = .ok (.iload_n 1, 1) := by decide +kernel
theorem dL_letter_4 : decode cL_letter 4 = .ok (.invokevirtual 38, 3) := by decide +kernel
theorem dL_letter_7 : decode cL_letter 7 = .ok (.i2l, 1) := by decide +kernel
theorem dL_letter_8 : decode cL_letter 8 = .ok (.lastore, 1) := by decide +kernel
theorem dL_letter_9 : decode cL_letter 9 = .ok (.goto 6, 3) := by decide +kernel
theorem dL_letter_12 : decode cL_letter 12 = .ok (.astore_n 3, 1) := by decide +kernel
theorem dL_letter_13 : decode cL_letter 13 = .ok (.iconst 1, 1) := by decide +kernel
theorem dL_letter_14 : decode cL_letter 14 = .ok (.ireturn, 1) := by decide +kernel
theorem dL_letter_15 : decode cL_letter 15 = .ok (.iconst 0, 1) := by decide +kernel
theorem dL_letter_16 : decode cL_letter 16 = .ok (.ireturn, 1) := by decide +kernel
theorem dL_read_0 : decode cL_read 0 = .ok (.aload_n 2, 1) := by decide +kernel
theorem dL_read_1 : decode cL_read 1 = .ok (.iconst 0, 1) := by decide +kernel
theorem dL_read_2 : decode cL_read 2 = .ok (.aload_n 0, 1) := by decide +kernel
theorem dL_read_3 : decode cL_read 3 = .ok (.iload_n 1, 1) := by decide +kernel
theorem dL_read_4 : decode cL_read 4 = .ok (.invokevirtual 41, 3) := by decide +kernel
theorem dL_read_7 : decode cL_read 7 = .ok (.i2l, 1) := by decide +kernel
theorem dL_read_8 : decode cL_read 8 = .ok (.lastore, 1) := by decide +kernel
theorem dL_read_9 : decode cL_read 9 = .ok (.goto 12, 3) := by decide +kernel
theorem dL_read_12 : decode cL_read 12 = .ok (.astore_n 3, 1) := by decide +kernel
theorem dL_read_13 : decode cL_read 13 = .ok (.iconst 1, 1) := by decide +kernel
theorem dL_read_14 : decode cL_read 14 = .ok (.ireturn, 1) := by decide +kernel
theorem dL_read_15 : decode cL_read 15 = .ok (.astore_n 3, 1) := by decide +kernel
theorem dL_read_16 : decode cL_read 16 = .ok (.iconst 2, 1) := by decide +kernel
theorem dL_read_17 : decode cL_read 17 = .ok (.ireturn, 1) := by decide +kernel
theorem dL_read_18 : decode cL_read 18 = .ok (.astore_n 3, 1) := by decide +kernel
theorem dL_read_19 : decode cL_read 19 = .ok (.iconst 3, 1) := by decide +kernel
theorem dL_read_20 : decode cL_read 20 = .ok (.ireturn, 1) := by decide +kernel
theorem dL_read_21 : decode cL_read 21 = .ok (.iconst 0, 1) := by decide +kernel
theorem dL_read_22 : decode cL_read 22 = .ok (.ireturn, 1) := by decide +kernel
theorem dL_step_0 : decode cL_step 0 = .ok (.aload_n 2, 1) := by decide +kernel
theorem dL_step_1 : decode cL_step 1 = .ok (.iconst 0, 1) := by decide +kernel
theorem dL_step_2 : decode cL_step 2 = .ok (.aload_n 0, 1) := by decide +kernel
theorem dL_step_3 : decode cL_step 3 = .ok (.iload_n 1, 1) := by decide +kernel
theorem dL_step_4 : decode cL_step 4 = .ok (.invokevirtual 44, 3) := by decide +kernel
theorem dL_step_7 : decode cL_step 7 = .ok (.i2l, 1) := by decide +kernel
theorem dL_step_8 : decode cL_step 8 = .ok (.lastore, 1) := by decide +kernel
theorem dL_step_9 : decode cL_step 9 = .ok (.goto 6, 3) := by decide +kernel
theorem dL_step_12 : decode cL_step 12 = .ok (.astore_n 3, 1) := by decide +kernel
theorem dL_step_13 : decode cL_step 13 = .ok (.iconst 1, 1) := by decide +kernel
theorem dL_step_14 : decode cL_step 14 = .ok (.ireturn, 1) := by decide +kernel
theorem dL_step_15 : decode cL_step 15 = .ok (.iconst 0, 1) := by decide +kernel
theorem dL_step_16 : decode cL_step 16 = .ok (.ireturn, 1) := by decide +kernel
theorem dL_count_0 : decode cL_count 0 = .ok (.aload_n 3, 1) := by decide +kernel
theorem dL_count_1 : decode cL_count 1 = .ok (.iconst 0, 1) := by decide +kernel
theorem dL_count_2 : decode cL_count 2 = .ok (.aload_n 0, 1) := by decide +kernel
theorem dL_count_3 : decode cL_count 3 = .ok (.iload_n 1, 1) := by decide +kernel
theorem dL_count_4 : decode cL_count 4 = .ok (.iload_n 2, 1) := by decide +kernel
theorem dL_count_5 : decode cL_count 5 = .ok (.invokevirtual 47, 3) := by decide +kernel
theorem dL_count_8 : decode cL_count 8 = .ok (.lastore, 1) := by decide +kernel
theorem dL_count_9 : decode cL_count 9 = .ok (.goto 15, 3) := by decide +kernel
theorem dL_count_12 : decode cL_count 12 = .ok (.astore 4, 2) := by decide +kernel
theorem dL_count_14 : decode cL_count 14 = .ok (.iconst 1, 1) := by decide +kernel
theorem dL_count_15 : decode cL_count 15 = .ok (.ireturn, 1) := by decide +kernel
theorem dL_count_16 : decode cL_count 16 = .ok (.astore 4, 2) := by decide +kernel
theorem dL_count_18 : decode cL_count 18 = .ok (.iconst 2, 1) := by decide +kernel
theorem dL_count_19 : decode cL_count 19 = .ok (.ireturn, 1) := by decide +kernel
theorem dL_count_20 : decode cL_count 20 = .ok (.astore 4, 2) := by decide +kernel
theorem dL_count_22 : decode cL_count 22 = .ok (.iconst 3, 1) := by decide +kernel
theorem dL_count_23 : decode cL_count 23 = .ok (.ireturn, 1) := by decide +kernel
theorem dL_count_24 : decode cL_count 24 = .ok (.iconst 0, 1) := by decide +kernel
theorem dL_count_25 : decode cL_count 25 = .ok (.ireturn, 1) := by decide +kernel
theorem dL_find_0 : decode cL_find 0 = .ok (.aload_n 0, 1) := by decide +kernel
theorem dL_find_1 : decode cL_find 1 = .ok (.iload_n 1, 1) := by decide +kernel
theorem dL_find_2 : decode cL_find 2 = .ok (.iload_n 2, 1) := by decide +kernel
theorem dL_find_3 : decode cL_find 3 = .ok (.lload_n 3, 1) := by decide +kernel
theorem dL_find_4 : decode cL_find 4 = .ok (.invokevirtual 51, 3) := by decide +kernel
theorem dL_find_7 : decode cL_find 7 = .ok (.goto 19, 3) := by decide +kernel
theorem dL_find_10 : decode cL_find 10 = .ok (.astore 5, 2) := by decide +kernel
theorem dL_find_12 : decode cL_find 12 = .ok (.iconst 1, 1) := by decide +kernel
theorem dL_find_13 : decode cL_find 13 = .ok (.ireturn, 1) := by decide +kernel
theorem dL_find_14 : decode cL_find 14 = .ok (.astore 5, 2) := by decide +kernel
theorem dL_find_16 : decode cL_find 16 = .ok (.iconst 2, 1) := by decide +kernel
theorem dL_find_17 : decode cL_find 17 = .ok (.ireturn, 1) := by decide +kernel
theorem dL_find_18 : decode cL_find 18 = .ok (.astore 5, 2) := by decide +kernel
theorem dL_find_20 : decode cL_find 20 = .ok (.iconst 3, 1) := by decide +kernel
theorem dL_find_21 : decode cL_find 21 = .ok (.ireturn, 1) := by decide +kernel
theorem dL_find_22 : decode cL_find 22 = .ok (.astore 5, 2) := by decide +kernel
theorem dL_find_24 : decode cL_find 24 = .ok (.iconst 4, 1) := by decide +kernel
theorem dL_find_25 : decode cL_find 25 = .ok (.ireturn, 1) := by decide +kernel
theorem dL_find_26 : decode cL_find 26 = .ok (.iconst 0, 1) := by decide +kernel
theorem dL_find_27 : decode cL_find 27 = .ok (.ireturn, 1) := by decide +kernel
theorem dL_law_0 : decode cL_law 0 = .ok (.new 8, 3) := by decide +kernel
theorem dL_law_3 : decode cL_law 3 = .ok (.dup, 1) := by decide +kernel
theorem dL_law_4 : decode cL_law 4 = .ok (.invokespecial 57, 3) := by decide +kernel
theorem dL_law_7 : decode cL_law 7 = .ok (.astore_n 1, 1) := by decide +kernel
theorem dL_law_8 : decode cL_law 8 = .ok (.new 58, 3) := by decide +kernel
theorem dL_law_11 : decode cL_law 11 = .ok (.dup, 1) := by decide +kernel
theorem dL_law_12 : decode cL_law 12 = .ok (.invokespecial 60, 3) := by decide +kernel
theorem dL_law_15 : decode cL_law 15 = .ok (.astore_n 2, 1) := by decide +kernel
theorem dL_law_16 : decode cL_law 16 = .ok (.iconst 1, 1) := by decide +kernel
theorem dL_law_17 : decode cL_law 17 = .ok (.newarray .long, 2) := by decide +kernel
theorem dL_law_19 : decode cL_law 19 = .ok (.astore_n 3, 1) := by decide +kernel
theorem dL_law_20 : decode cL_law 20 = .ok (.iconst 0, 1) := by decide +kernel
theorem dL_law_21 : decode cL_law 21 = .ok (.istore 4, 2) := by decide +kernel
theorem dL_law_23 : decode cL_law 23 = .ok (.iload 4, 2) := by decide +kernel
theorem dL_law_25 : decode cL_law 25 = .ok (.aload_n 0, 1) := by decide +kernel
theorem dL_law_26 : decode cL_law 26 = .ok (.arraylength, 1) := by decide +kernel
theorem dL_law_27 : decode cL_law 27 = .ok (.iconst 5, 1) := by decide +kernel
theorem dL_law_28 : decode cL_law 28 = .ok (.isub, 1) := by decide +kernel
theorem dL_law_29 : decode cL_law 29 = .ok (.if_icmp .gt 941, 3) := by decide +kernel
theorem dL_law_32 : decode cL_law 32 = .ok (.aload_n 0, 1) := by decide +kernel
theorem dL_law_33 : decode cL_law 33 = .ok (.iload 4, 2) := by decide +kernel
theorem dL_law_35 : decode cL_law 35 = .ok (.iaload, 1) := by decide +kernel
theorem dL_law_36 : decode cL_law 36 = .ok (.bipush 31, 2) := by decide +kernel
theorem dL_law_38 : decode cL_law 38 = .ok (.iand, 1) := by decide +kernel
theorem dL_law_39 : decode cL_law 39 = .ok (.tableswitch 925 0 17 #[85, 141, 197, 293, 361, 372, 385, 441, 509, 534, 559, 572, 628, 684, 697, 710, 766, 833], 85) := by decide +kernel
theorem dL_law_124 : decode cL_law 124 = .ok (.aload_n 1, 1) := by decide +kernel
theorem dL_law_125 : decode cL_law 125 = .ok (.aload_n 0, 1) := by decide +kernel
theorem dL_law_126 : decode cL_law 126 = .ok (.iload 4, 2) := by decide +kernel
theorem dL_law_128 : decode cL_law 128 = .ok (.iconst 1, 1) := by decide +kernel
theorem dL_law_129 : decode cL_law 129 = .ok (.iadd, 1) := by decide +kernel
theorem dL_law_130 : decode cL_law 130 = .ok (.iaload, 1) := by decide +kernel
theorem dL_law_131 : decode cL_law 131 = .ok (.aload_n 3, 1) := by decide +kernel
theorem dL_law_132 : decode cL_law 132 = .ok (.invokestatic 61, 3) := by decide +kernel
theorem dL_law_135 : decode cL_law 135 = .ok (.istore 5, 2) := by decide +kernel
theorem dL_law_137 : decode cL_law 137 = .ok (.aload_n 2, 1) := by decide +kernel
theorem dL_law_138 : decode cL_law 138 = .ok (.aload_n 0, 1) := by decide +kernel
theorem dL_law_139 : decode cL_law 139 = .ok (.iload 4, 2) := by decide +kernel
theorem dL_law_141 : decode cL_law 141 = .ok (.iconst 1, 1) := by decide +kernel
theorem dL_law_142 : decode cL_law 142 = .ok (.iadd, 1) := by decide +kernel
theorem dL_law_143 : decode cL_law 143 = .ok (.iaload, 1) := by decide +kernel
theorem dL_law_144 : decode cL_law 144 = .ok (.invokevirtual 66, 3) := by decide +kernel
theorem dL_law_147 : decode cL_law 147 = .ok (.istore 6, 2) := by decide +kernel
theorem dL_law_149 : decode cL_law 149 = .ok (.aload_n 2, 1) := by decide +kernel
theorem dL_law_150 : decode cL_law 150 = .ok (.invokevirtual 67, 3) := by decide +kernel
theorem dL_law_153 : decode cL_law 153 = .ok (.iload 5, 2) := by decide +kernel
theorem dL_law_155 : decode cL_law 155 = .ok (.if_icmp .eq 5, 3) := by decide +kernel
theorem dL_law_158 : decode cL_law 158 = .ok (.iconst 0, 1) := by decide +kernel
theorem dL_law_159 : decode cL_law 159 = .ok (.ireturn, 1) := by decide +kernel
theorem dL_law_160 : decode cL_law 160 = .ok (.iload 5, 2) := by decide +kernel
theorem dL_law_162 : decode cL_law 162 = .ok (.ifCond .ne 15, 3) := by decide +kernel
theorem dL_law_165 : decode cL_law 165 = .ok (.aload_n 3, 1) := by decide +kernel
theorem dL_law_166 : decode cL_law 166 = .ok (.iconst 0, 1) := by decide +kernel
theorem dL_law_167 : decode cL_law 167 = .ok (.laload, 1) := by decide +kernel
theorem dL_law_168 : decode cL_law 168 = .ok (.iload 6, 2) := by decide +kernel
theorem dL_law_170 : decode cL_law 170 = .ok (.i2l, 1) := by decide +kernel
theorem dL_law_171 : decode cL_law 171 = .ok (.lcmp, 1) := by decide +kernel
theorem dL_law_172 : decode cL_law 172 = .ok (.ifCond .eq 5, 3) := by decide +kernel
theorem dL_law_175 : decode cL_law 175 = .ok (.iconst 0, 1) := by decide +kernel
theorem dL_law_176 : decode cL_law 176 = .ok (.ireturn, 1) := by decide +kernel
theorem dL_law_177 : decode cL_law 177 = .ok (.goto 787, 3) := by decide +kernel
theorem dL_law_180 : decode cL_law 180 = .ok (.aload_n 1, 1) := by decide +kernel
theorem dL_law_181 : decode cL_law 181 = .ok (.aload_n 0, 1) := by decide +kernel
theorem dL_law_182 : decode cL_law 182 = .ok (.iload 4, 2) := by decide +kernel
theorem dL_law_184 : decode cL_law 184 = .ok (.iconst 1, 1) := by decide +kernel
theorem dL_law_185 : decode cL_law 185 = .ok (.iadd, 1) := by decide +kernel
theorem dL_law_186 : decode cL_law 186 = .ok (.iaload, 1) := by decide +kernel
theorem dL_law_187 : decode cL_law 187 = .ok (.aload_n 3, 1) := by decide +kernel
theorem dL_law_188 : decode cL_law 188 = .ok (.invokestatic 71, 3) := by decide +kernel
theorem dL_law_191 : decode cL_law 191 = .ok (.istore 5, 2) := by decide +kernel
theorem dL_law_193 : decode cL_law 193 = .ok (.aload_n 2, 1) := by decide +kernel
theorem dL_law_194 : decode cL_law 194 = .ok (.aload_n 0, 1) := by decide +kernel
theorem dL_law_195 : decode cL_law 195 = .ok (.iload 4, 2) := by decide +kernel
theorem dL_law_197 : decode cL_law 197 = .ok (.iconst 1, 1) := by decide +kernel
theorem dL_law_198 : decode cL_law 198 = .ok (.iadd, 1) := by decide +kernel
theorem dL_law_199 : decode cL_law 199 = .ok (.iaload, 1) := by decide +kernel
theorem dL_law_200 : decode cL_law 200 = .ok (.invokevirtual 73, 3) := by decide +kernel
theorem dL_law_203 : decode cL_law 203 = .ok (.istore 6, 2) := by decide +kernel
theorem dL_law_205 : decode cL_law 205 = .ok (.aload_n 2, 1) := by decide +kernel
theorem dL_law_206 : decode cL_law 206 = .ok (.invokevirtual 67, 3) := by decide +kernel
theorem dL_law_209 : decode cL_law 209 = .ok (.iload 5, 2) := by decide +kernel
theorem dL_law_211 : decode cL_law 211 = .ok (.if_icmp .eq 5, 3) := by decide +kernel
theorem dL_law_214 : decode cL_law 214 = .ok (.iconst 0, 1) := by decide +kernel
theorem dL_law_215 : decode cL_law 215 = .ok (.ireturn, 1) := by decide +kernel
theorem dL_law_216 : decode cL_law 216 = .ok (.iload 5, 2) := by decide +kernel
theorem dL_law_218 : decode cL_law 218 = .ok (.ifCond .ne 15, 3) := by decide +kernel
theorem dL_law_221 : decode cL_law 221 = .ok (.aload_n 3, 1) := by decide +kernel
theorem dL_law_222 : decode cL_law 222 = .ok (.iconst 0, 1) := by decide +kernel
theorem dL_law_223 : decode cL_law 223 = .ok (.laload, 1) := by decide +kernel
theorem dL_law_224 : decode cL_law 224 = .ok (.iload 6, 2) := by decide +kernel
theorem dL_law_226 : decode cL_law 226 = .ok (.i2l, 1) := by decide +kernel
theorem dL_law_227 : decode cL_law 227 = .ok (.lcmp, 1) := by decide +kernel
theorem dL_law_228 : decode cL_law 228 = .ok (.ifCond .eq 5, 3) := by decide +kernel
theorem dL_law_231 : decode cL_law 231 = .ok (.iconst 0, 1) := by decide +kernel
theorem dL_law_232 : decode cL_law 232 = .ok (.ireturn, 1) := by decide +kernel
theorem dL_law_233 : decode cL_law 233 = .ok (.goto 731, 3) := by decide +kernel
theorem dL_law_236 : decode cL_law 236 = .ok (.aload_n 1, 1) := by decide +kernel
theorem dL_law_237 : decode cL_law 237 = .ok (.aload_n 0, 1) := by decide +kernel
theorem dL_law_238 : decode cL_law 238 = .ok (.iload 4, 2) := by decide +kernel
theorem dL_law_240 : decode cL_law 240 = .ok (.iconst 1, 1) := by decide +kernel
theorem dL_law_241 : decode cL_law 241 = .ok (.iadd, 1) := by decide +kernel
theorem dL_law_242 : decode cL_law 242 = .ok (.iaload, 1) := by decide +kernel
theorem dL_law_243 : decode cL_law 243 = .ok (.aload_n 0, 1) := by decide +kernel
theorem dL_law_244 : decode cL_law 244 = .ok (.iload 4, 2) := by decide +kernel
theorem dL_law_246 : decode cL_law 246 = .ok (.iconst 2, 1) := by decide +kernel
theorem dL_law_247 : decode cL_law 247 = .ok (.iadd, 1) := by decide +kernel
theorem dL_law_248 : decode cL_law 248 = .ok (.iaload, 1) := by decide +kernel
theorem dL_law_249 : decode cL_law 249 = .ok (.aload_n 0, 1) := by decide +kernel
theorem dL_law_250 : decode cL_law 250 = .ok (.iload 4, 2) := by decide +kernel
theorem dL_law_252 : decode cL_law 252 = .ok (.iconst 3, 1) := by decide +kernel
theorem dL_law_253 : decode cL_law 253 = .ok (.iadd, 1) := by decide +kernel
theorem dL_law_254 : decode cL_law 254 = .ok (.iaload, 1) := by decide +kernel
theorem dL_law_255 : decode cL_law 255 = .ok (.ifCond .eq 7, 3) := by decide +kernel
theorem dL_law_258 : decode cL_law 258 = .ok (.iconst 1, 1) := by decide +kernel
theorem dL_law_259 : decode cL_law 259 = .ok (.goto 4, 3) := by decide +kernel
theorem dL_law_262 : decode cL_law 262 = .ok (.iconst 0, 1) := by decide +kernel
theorem dL_law_263 : decode cL_law 263 = .ok (.aload_n 3, 1) := by decide +kernel
theorem dL_law_264 : decode cL_law 264 = .ok (.invokestatic 74, 3) := by decide +kernel
theorem dL_law_267 : decode cL_law 267 = .ok (.istore 5, 2) := by decide +kernel
theorem dL_law_269 : decode cL_law 269 = .ok (.aload_n 2, 1) := by decide +kernel
theorem dL_law_270 : decode cL_law 270 = .ok (.aload_n 0, 1) := by decide +kernel
theorem dL_law_271 : decode cL_law 271 = .ok (.iload 4, 2) := by decide +kernel
theorem dL_law_273 : decode cL_law 273 = .ok (.iconst 1, 1) := by decide +kernel
theorem dL_law_274 : decode cL_law 274 = .ok (.iadd, 1) := by decide +kernel
theorem dL_law_275 : decode cL_law 275 = .ok (.iaload, 1) := by decide +kernel
theorem dL_law_276 : decode cL_law 276 = .ok (.aload_n 0, 1) := by decide +kernel
theorem dL_law_277 : decode cL_law 277 = .ok (.iload 4, 2) := by decide +kernel
theorem dL_law_279 : decode cL_law 279 = .ok (.iconst 2, 1) := by decide +kernel
theorem dL_law_280 : decode cL_law 280 = .ok (.iadd, 1) := by decide +kernel
theorem dL_law_281 : decode cL_law 281 = .ok (.iaload, 1) := by decide +kernel
theorem dL_law_282 : decode cL_law 282 = .ok (.aload_n 0, 1) := by decide +kernel
theorem dL_law_283 : decode cL_law 283 = .ok (.iload 4, 2) := by decide +kernel
theorem dL_law_285 : decode cL_law 285 = .ok (.iconst 3, 1) := by decide +kernel
theorem dL_law_286 : decode cL_law 286 = .ok (.iadd, 1) := by decide +kernel
theorem dL_law_287 : decode cL_law 287 = .ok (.iaload, 1) := by decide +kernel
theorem dL_law_288 : decode cL_law 288 = .ok (.ifCond .eq 7, 3) := by decide +kernel
theorem dL_law_291 : decode cL_law 291 = .ok (.iconst 1, 1) := by decide +kernel
theorem dL_law_292 : decode cL_law 292 = .ok (.goto 4, 3) := by decide +kernel
theorem dL_law_295 : decode cL_law 295 = .ok (.iconst 0, 1) := by decide +kernel
theorem dL_law_296 : decode cL_law 296 = .ok (.invokevirtual 77, 3) := by decide +kernel
theorem dL_law_299 : decode cL_law 299 = .ok (.istore 6, 2) := by decide +kernel
theorem dL_law_301 : decode cL_law 301 = .ok (.aload_n 2, 1) := by decide +kernel
theorem dL_law_302 : decode cL_law 302 = .ok (.invokevirtual 67, 3) := by decide +kernel
theorem dL_law_305 : decode cL_law 305 = .ok (.iload 5, 2) := by decide +kernel
theorem dL_law_307 : decode cL_law 307 = .ok (.if_icmp .eq 5, 3) := by decide +kernel
theorem dL_law_310 : decode cL_law 310 = .ok (.iconst 0, 1) := by decide +kernel
theorem dL_law_311 : decode cL_law 311 = .ok (.ireturn, 1) := by decide +kernel
theorem dL_law_312 : decode cL_law 312 = .ok (.iload 5, 2) := by decide +kernel
theorem dL_law_314 : decode cL_law 314 = .ok (.ifCond .ne 15, 3) := by decide +kernel
theorem dL_law_317 : decode cL_law 317 = .ok (.aload_n 3, 1) := by decide +kernel
theorem dL_law_318 : decode cL_law 318 = .ok (.iconst 0, 1) := by decide +kernel
theorem dL_law_319 : decode cL_law 319 = .ok (.laload, 1) := by decide +kernel
theorem dL_law_320 : decode cL_law 320 = .ok (.iload 6, 2) := by decide +kernel
theorem dL_law_322 : decode cL_law 322 = .ok (.i2l, 1) := by decide +kernel
theorem dL_law_323 : decode cL_law 323 = .ok (.lcmp, 1) := by decide +kernel
theorem dL_law_324 : decode cL_law 324 = .ok (.ifCond .eq 5, 3) := by decide +kernel
theorem dL_law_327 : decode cL_law 327 = .ok (.iconst 0, 1) := by decide +kernel
theorem dL_law_328 : decode cL_law 328 = .ok (.ireturn, 1) := by decide +kernel
theorem dL_law_329 : decode cL_law 329 = .ok (.goto 635, 3) := by decide +kernel
theorem dL_law_332 : decode cL_law 332 = .ok (.aload_n 1, 1) := by decide +kernel
theorem dL_law_333 : decode cL_law 333 = .ok (.aload_n 0, 1) := by decide +kernel
theorem dL_law_334 : decode cL_law 334 = .ok (.iload 4, 2) := by decide +kernel
theorem dL_law_336 : decode cL_law 336 = .ok (.iconst 1, 1) := by decide +kernel
theorem dL_law_337 : decode cL_law 337 = .ok (.iadd, 1) := by decide +kernel
theorem dL_law_338 : decode cL_law 338 = .ok (.iaload, 1) := by decide +kernel
theorem dL_law_339 : decode cL_law 339 = .ok (.aload_n 0, 1) := by decide +kernel
theorem dL_law_340 : decode cL_law 340 = .ok (.iload 4, 2) := by decide +kernel
theorem dL_law_342 : decode cL_law 342 = .ok (.iconst 2, 1) := by decide +kernel
theorem dL_law_343 : decode cL_law 343 = .ok (.iadd, 1) := by decide +kernel
theorem dL_law_344 : decode cL_law 344 = .ok (.iaload, 1) := by decide +kernel
theorem dL_law_345 : decode cL_law 345 = .ok (.aload_n 3, 1) := by decide +kernel
theorem dL_law_346 : decode cL_law 346 = .ok (.invokestatic 78, 3) := by decide +kernel
theorem dL_law_349 : decode cL_law 349 = .ok (.istore 5, 2) := by decide +kernel
theorem dL_law_351 : decode cL_law 351 = .ok (.aload_n 2, 1) := by decide +kernel
theorem dL_law_352 : decode cL_law 352 = .ok (.aload_n 0, 1) := by decide +kernel
theorem dL_law_353 : decode cL_law 353 = .ok (.iload 4, 2) := by decide +kernel
theorem dL_law_355 : decode cL_law 355 = .ok (.iconst 1, 1) := by decide +kernel
theorem dL_law_356 : decode cL_law 356 = .ok (.iadd, 1) := by decide +kernel
theorem dL_law_357 : decode cL_law 357 = .ok (.iaload, 1) := by decide +kernel
theorem dL_law_358 : decode cL_law 358 = .ok (.aload_n 0, 1) := by decide +kernel
theorem dL_law_359 : decode cL_law 359 = .ok (.iload 4, 2) := by decide +kernel
theorem dL_law_361 : decode cL_law 361 = .ok (.iconst 2, 1) := by decide +kernel
theorem dL_law_362 : decode cL_law 362 = .ok (.iadd, 1) := by decide +kernel
theorem dL_law_363 : decode cL_law 363 = .ok (.iaload, 1) := by decide +kernel
theorem dL_law_364 : decode cL_law 364 = .ok (.invokevirtual 81, 3) := by decide +kernel
theorem dL_law_367 : decode cL_law 367 = .ok (.istore 6, 2) := by decide +kernel
theorem dL_law_369 : decode cL_law 369 = .ok (.aload_n 2, 1) := by decide +kernel
theorem dL_law_370 : decode cL_law 370 = .ok (.invokevirtual 67, 3) := by decide +kernel
theorem dL_law_373 : decode cL_law 373 = .ok (.iload 5, 2) := by decide +kernel
theorem dL_law_375 : decode cL_law 375 = .ok (.if_icmp .eq 5, 3) := by decide +kernel
theorem dL_law_378 : decode cL_law 378 = .ok (.iconst 0, 1) := by decide +kernel
theorem dL_law_379 : decode cL_law 379 = .ok (.ireturn, 1) := by decide +kernel
theorem dL_law_380 : decode cL_law 380 = .ok (.iload 5, 2) := by decide +kernel
theorem dL_law_382 : decode cL_law 382 = .ok (.ifCond .ne 15, 3) := by decide +kernel
theorem dL_law_385 : decode cL_law 385 = .ok (.aload_n 3, 1) := by decide +kernel
theorem dL_law_386 : decode cL_law 386 = .ok (.iconst 0, 1) := by decide +kernel
theorem dL_law_387 : decode cL_law 387 = .ok (.laload, 1) := by decide +kernel
theorem dL_law_388 : decode cL_law 388 = .ok (.iload 6, 2) := by decide +kernel
theorem dL_law_390 : decode cL_law 390 = .ok (.i2l, 1) := by decide +kernel
theorem dL_law_391 : decode cL_law 391 = .ok (.lcmp, 1) := by decide +kernel
theorem dL_law_392 : decode cL_law 392 = .ok (.ifCond .eq 5, 3) := by decide +kernel
theorem dL_law_395 : decode cL_law 395 = .ok (.iconst 0, 1) := by decide +kernel
theorem dL_law_396 : decode cL_law 396 = .ok (.ireturn, 1) := by decide +kernel
theorem dL_law_397 : decode cL_law 397 = .ok (.goto 567, 3) := by decide +kernel
theorem dL_law_400 : decode cL_law 400 = .ok (.aload_n 1, 1) := by decide +kernel
theorem dL_law_401 : decode cL_law 401 = .ok (.invokevirtual 82, 3) := by decide +kernel
theorem dL_law_404 : decode cL_law 404 = .ok (.aload_n 2, 1) := by decide +kernel
theorem dL_law_405 : decode cL_law 405 = .ok (.invokevirtual 85, 3) := by decide +kernel
theorem dL_law_408 : decode cL_law 408 = .ok (.goto 556, 3) := by decide +kernel
theorem dL_law_411 : decode cL_law 411 = .ok (.aload_n 1, 1) := by decide +kernel
theorem dL_law_412 : decode cL_law 412 = .ok (.invokevirtual 86, 3) := by decide +kernel
theorem dL_law_415 : decode cL_law 415 = .ok (.aload_n 2, 1) := by decide +kernel
theorem dL_law_416 : decode cL_law 416 = .ok (.invokevirtual 89, 3) := by decide +kernel
theorem dL_law_419 : decode cL_law 419 = .ok (.if_icmp .eq 545, 3) := by decide +kernel
theorem dL_law_422 : decode cL_law 422 = .ok (.iconst 0, 1) := by decide +kernel
theorem dL_law_423 : decode cL_law 423 = .ok (.ireturn, 1) := by decide +kernel
theorem dL_law_424 : decode cL_law 424 = .ok (.aload_n 1, 1) := by decide +kernel
theorem dL_law_425 : decode cL_law 425 = .ok (.aload_n 0, 1) := by decide +kernel
theorem dL_law_426 : decode cL_law 426 = .ok (.iload 4, 2) := by decide +kernel
theorem dL_law_428 : decode cL_law 428 = .ok (.iconst 1, 1) := by decide +kernel
theorem dL_law_429 : decode cL_law 429 = .ok (.iadd, 1) := by decide +kernel
theorem dL_law_430 : decode cL_law 430 = .ok (.iaload, 1) := by decide +kernel
theorem dL_law_431 : decode cL_law 431 = .ok (.aload_n 3, 1) := by decide +kernel
theorem dL_law_432 : decode cL_law 432 = .ok (.invokestatic 90, 3) := by decide +kernel
theorem dL_law_435 : decode cL_law 435 = .ok (.istore 5, 2) := by decide +kernel
theorem dL_law_437 : decode cL_law 437 = .ok (.aload_n 2, 1) := by decide +kernel
theorem dL_law_438 : decode cL_law 438 = .ok (.aload_n 0, 1) := by decide +kernel
theorem dL_law_439 : decode cL_law 439 = .ok (.iload 4, 2) := by decide +kernel
theorem dL_law_441 : decode cL_law 441 = .ok (.iconst 1, 1) := by decide +kernel
theorem dL_law_442 : decode cL_law 442 = .ok (.iadd, 1) := by decide +kernel
theorem dL_law_443 : decode cL_law 443 = .ok (.iaload, 1) := by decide +kernel
theorem dL_law_444 : decode cL_law 444 = .ok (.invokevirtual 92, 3) := by decide +kernel
theorem dL_law_447 : decode cL_law 447 = .ok (.istore 6, 2) := by decide +kernel
theorem dL_law_449 : decode cL_law 449 = .ok (.aload_n 2, 1) := by decide +kernel
theorem dL_law_450 : decode cL_law 450 = .ok (.invokevirtual 67, 3) := by decide +kernel
theorem dL_law_453 : decode cL_law 453 = .ok (.iload 5, 2) := by decide +kernel
theorem dL_law_455 : decode cL_law 455 = .ok (.if_icmp .eq 5, 3) := by decide +kernel
theorem dL_law_458 : decode cL_law 458 = .ok (.iconst 0, 1) := by decide +kernel
theorem dL_law_459 : decode cL_law 459 = .ok (.ireturn, 1) := by decide +kernel
theorem dL_law_460 : decode cL_law 460 = .ok (.iload 5, 2) := by decide +kernel
theorem dL_law_462 : decode cL_law 462 = .ok (.ifCond .ne 15, 3) := by decide +kernel
theorem dL_law_465 : decode cL_law 465 = .ok (.aload_n 3, 1) := by decide +kernel
theorem dL_law_466 : decode cL_law 466 = .ok (.iconst 0, 1) := by decide +kernel
theorem dL_law_467 : decode cL_law 467 = .ok (.laload, 1) := by decide +kernel
theorem dL_law_468 : decode cL_law 468 = .ok (.iload 6, 2) := by decide +kernel
theorem dL_law_470 : decode cL_law 470 = .ok (.i2l, 1) := by decide +kernel
theorem dL_law_471 : decode cL_law 471 = .ok (.lcmp, 1) := by decide +kernel
theorem dL_law_472 : decode cL_law 472 = .ok (.ifCond .eq 5, 3) := by decide +kernel
theorem dL_law_475 : decode cL_law 475 = .ok (.iconst 0, 1) := by decide +kernel
theorem dL_law_476 : decode cL_law 476 = .ok (.ireturn, 1) := by decide +kernel
theorem dL_law_477 : decode cL_law 477 = .ok (.goto 487, 3) := by decide +kernel
theorem dL_law_480 : decode cL_law 480 = .ok (.aload_n 1, 1) := by decide +kernel
theorem dL_law_481 : decode cL_law 481 = .ok (.aload_n 0, 1) := by decide +kernel
theorem dL_law_482 : decode cL_law 482 = .ok (.iload 4, 2) := by decide +kernel
theorem dL_law_484 : decode cL_law 484 = .ok (.iconst 1, 1) := by decide +kernel
theorem dL_law_485 : decode cL_law 485 = .ok (.iadd, 1) := by decide +kernel
theorem dL_law_486 : decode cL_law 486 = .ok (.iaload, 1) := by decide +kernel
theorem dL_law_487 : decode cL_law 487 = .ok (.aload_n 0, 1) := by decide +kernel
theorem dL_law_488 : decode cL_law 488 = .ok (.iload 4, 2) := by decide +kernel
theorem dL_law_490 : decode cL_law 490 = .ok (.iconst 2, 1) := by decide +kernel
theorem dL_law_491 : decode cL_law 491 = .ok (.iadd, 1) := by decide +kernel
theorem dL_law_492 : decode cL_law 492 = .ok (.iaload, 1) := by decide +kernel
theorem dL_law_493 : decode cL_law 493 = .ok (.aload_n 3, 1) := by decide +kernel
theorem dL_law_494 : decode cL_law 494 = .ok (.invokestatic 93, 3) := by decide +kernel
theorem dL_law_497 : decode cL_law 497 = .ok (.istore 5, 2) := by decide +kernel
theorem dL_law_499 : decode cL_law 499 = .ok (.aload_n 2, 1) := by decide +kernel
theorem dL_law_500 : decode cL_law 500 = .ok (.aload_n 0, 1) := by decide +kernel
theorem dL_law_501 : decode cL_law 501 = .ok (.iload 4, 2) := by decide +kernel
theorem dL_law_503 : decode cL_law 503 = .ok (.iconst 1, 1) := by decide +kernel
theorem dL_law_504 : decode cL_law 504 = .ok (.iadd, 1) := by decide +kernel
theorem dL_law_505 : decode cL_law 505 = .ok (.iaload, 1) := by decide +kernel
theorem dL_law_506 : decode cL_law 506 = .ok (.aload_n 0, 1) := by decide +kernel
theorem dL_law_507 : decode cL_law 507 = .ok (.iload 4, 2) := by decide +kernel
theorem dL_law_509 : decode cL_law 509 = .ok (.iconst 2, 1) := by decide +kernel
theorem dL_law_510 : decode cL_law 510 = .ok (.iadd, 1) := by decide +kernel
theorem dL_law_511 : decode cL_law 511 = .ok (.iaload, 1) := by decide +kernel
theorem dL_law_512 : decode cL_law 512 = .ok (.invokevirtual 95, 3) := by decide +kernel
theorem dL_law_515 : decode cL_law 515 = .ok (.istore 6, 2) := by decide +kernel
theorem dL_law_517 : decode cL_law 517 = .ok (.aload_n 2, 1) := by decide +kernel
theorem dL_law_518 : decode cL_law 518 = .ok (.invokevirtual 67, 3) := by decide +kernel
theorem dL_law_521 : decode cL_law 521 = .ok (.iload 5, 2) := by decide +kernel
theorem dL_law_523 : decode cL_law 523 = .ok (.if_icmp .eq 5, 3) := by decide +kernel
theorem dL_law_526 : decode cL_law 526 = .ok (.iconst 0, 1) := by decide +kernel
theorem dL_law_527 : decode cL_law 527 = .ok (.ireturn, 1) := by decide +kernel
theorem dL_law_528 : decode cL_law 528 = .ok (.iload 5, 2) := by decide +kernel
theorem dL_law_530 : decode cL_law 530 = .ok (.ifCond .ne 15, 3) := by decide +kernel
theorem dL_law_533 : decode cL_law 533 = .ok (.aload_n 3, 1) := by decide +kernel
theorem dL_law_534 : decode cL_law 534 = .ok (.iconst 0, 1) := by decide +kernel
theorem dL_law_535 : decode cL_law 535 = .ok (.laload, 1) := by decide +kernel
theorem dL_law_536 : decode cL_law 536 = .ok (.iload 6, 2) := by decide +kernel
theorem dL_law_538 : decode cL_law 538 = .ok (.i2l, 1) := by decide +kernel
theorem dL_law_539 : decode cL_law 539 = .ok (.lcmp, 1) := by decide +kernel
theorem dL_law_540 : decode cL_law 540 = .ok (.ifCond .eq 5, 3) := by decide +kernel
theorem dL_law_543 : decode cL_law 543 = .ok (.iconst 0, 1) := by decide +kernel
theorem dL_law_544 : decode cL_law 544 = .ok (.ireturn, 1) := by decide +kernel
theorem dL_law_545 : decode cL_law 545 = .ok (.goto 419, 3) := by decide +kernel
theorem dL_law_548 : decode cL_law 548 = .ok (.aload_n 1, 1) := by decide +kernel
theorem dL_law_549 : decode cL_law 549 = .ok (.aload_n 0, 1) := by decide +kernel
theorem dL_law_550 : decode cL_law 550 = .ok (.iload 4, 2) := by decide +kernel
theorem dL_law_552 : decode cL_law 552 = .ok (.iconst 1, 1) := by decide +kernel
theorem dL_law_553 : decode cL_law 553 = .ok (.iadd, 1) := by decide +kernel
theorem dL_law_554 : decode cL_law 554 = .ok (.iaload, 1) := by decide +kernel
theorem dL_law_555 : decode cL_law 555 = .ok (.invokevirtual 96, 3) := by decide +kernel
theorem dL_law_558 : decode cL_law 558 = .ok (.aload_n 2, 1) := by decide +kernel
theorem dL_law_559 : decode cL_law 559 = .ok (.aload_n 0, 1) := by decide +kernel
theorem dL_law_560 : decode cL_law 560 = .ok (.iload 4, 2) := by decide +kernel
theorem dL_law_562 : decode cL_law 562 = .ok (.iconst 1, 1) := by decide +kernel
theorem dL_law_563 : decode cL_law 563 = .ok (.iadd, 1) := by decide +kernel
theorem dL_law_564 : decode cL_law 564 = .ok (.iaload, 1) := by decide +kernel
theorem dL_law_565 : decode cL_law 565 = .ok (.invokevirtual 100, 3) := by decide +kernel
theorem dL_law_568 : decode cL_law 568 = .ok (.if_icmp .eq 396, 3) := by decide +kernel
theorem dL_law_571 : decode cL_law 571 = .ok (.iconst 0, 1) := by decide +kernel
theorem dL_law_572 : decode cL_law 572 = .ok (.ireturn, 1) := by decide +kernel
theorem dL_law_573 : decode cL_law 573 = .ok (.aload_n 1, 1) := by decide +kernel
theorem dL_law_574 : decode cL_law 574 = .ok (.aload_n 0, 1) := by decide +kernel
theorem dL_law_575 : decode cL_law 575 = .ok (.iload 4, 2) := by decide +kernel
theorem dL_law_577 : decode cL_law 577 = .ok (.iconst 1, 1) := by decide +kernel
theorem dL_law_578 : decode cL_law 578 = .ok (.iadd, 1) := by decide +kernel
theorem dL_law_579 : decode cL_law 579 = .ok (.iaload, 1) := by decide +kernel
theorem dL_law_580 : decode cL_law 580 = .ok (.invokevirtual 101, 3) := by decide +kernel
theorem dL_law_583 : decode cL_law 583 = .ok (.aload_n 2, 1) := by decide +kernel
theorem dL_law_584 : decode cL_law 584 = .ok (.aload_n 0, 1) := by decide +kernel
theorem dL_law_585 : decode cL_law 585 = .ok (.iload 4, 2) := by decide +kernel
theorem dL_law_587 : decode cL_law 587 = .ok (.iconst 1, 1) := by decide +kernel
theorem dL_law_588 : decode cL_law 588 = .ok (.iadd, 1) := by decide +kernel
theorem dL_law_589 : decode cL_law 589 = .ok (.iaload, 1) := by decide +kernel
theorem dL_law_590 : decode cL_law 590 = .ok (.invokevirtual 104, 3) := by decide +kernel
theorem dL_law_593 : decode cL_law 593 = .ok (.if_icmp .eq 371, 3) := by decide +kernel
theorem dL_law_596 : decode cL_law 596 = .ok (.iconst 0, 1) := by decide +kernel
theorem dL_law_597 : decode cL_law 597 = .ok (.ireturn, 1) := by decide +kernel
theorem dL_law_598 : decode cL_law 598 = .ok (.aload_n 1, 1) := by decide +kernel
theorem dL_law_599 : decode cL_law 599 = .ok (.invokevirtual 105, 3) := by decide +kernel
theorem dL_law_602 : decode cL_law 602 = .ok (.aload_n 2, 1) := by decide +kernel
theorem dL_law_603 : decode cL_law 603 = .ok (.invokevirtual 108, 3) := by decide +kernel
theorem dL_law_606 : decode cL_law 606 = .ok (.if_icmp .eq 358, 3) := by decide +kernel
theorem dL_law_609 : decode cL_law 609 = .ok (.iconst 0, 1) := by decide +kernel
theorem dL_law_610 : decode cL_law 610 = .ok (.ireturn, 1) := by decide +kernel
theorem dL_law_611 : decode cL_law 611 = .ok (.aload_n 1, 1) := by decide +kernel
theorem dL_law_612 : decode cL_law 612 = .ok (.aload_n 0, 1) := by decide +kernel
theorem dL_law_613 : decode cL_law 613 = .ok (.iload 4, 2) := by decide +kernel
theorem dL_law_615 : decode cL_law 615 = .ok (.iconst 1, 1) := by decide +kernel
theorem dL_law_616 : decode cL_law 616 = .ok (.iadd, 1) := by decide +kernel
theorem dL_law_617 : decode cL_law 617 = .ok (.iaload, 1) := by decide +kernel
theorem dL_law_618 : decode cL_law 618 = .ok (.aload_n 3, 1) := by decide +kernel
theorem dL_law_619 : decode cL_law 619 = .ok (.invokestatic 109, 3) := by decide +kernel
theorem dL_law_622 : decode cL_law 622 = .ok (.istore 5, 2) := by decide +kernel
theorem dL_law_624 : decode cL_law 624 = .ok (.aload_n 2, 1) := by decide +kernel
theorem dL_law_625 : decode cL_law 625 = .ok (.aload_n 0, 1) := by decide +kernel
theorem dL_law_626 : decode cL_law 626 = .ok (.iload 4, 2) := by decide +kernel
theorem dL_law_628 : decode cL_law 628 = .ok (.iconst 1, 1) := by decide +kernel
theorem dL_law_629 : decode cL_law 629 = .ok (.iadd, 1) := by decide +kernel
theorem dL_law_630 : decode cL_law 630 = .ok (.iaload, 1) := by decide +kernel
theorem dL_law_631 : decode cL_law 631 = .ok (.invokevirtual 111, 3) := by decide +kernel
theorem dL_law_634 : decode cL_law 634 = .ok (.istore 6, 2) := by decide +kernel
theorem dL_law_636 : decode cL_law 636 = .ok (.aload_n 2, 1) := by decide +kernel
theorem dL_law_637 : decode cL_law 637 = .ok (.invokevirtual 67, 3) := by decide +kernel
theorem dL_law_640 : decode cL_law 640 = .ok (.iload 5, 2) := by decide +kernel
theorem dL_law_642 : decode cL_law 642 = .ok (.if_icmp .eq 5, 3) := by decide +kernel
theorem dL_law_645 : decode cL_law 645 = .ok (.iconst 0, 1) := by decide +kernel
theorem dL_law_646 : decode cL_law 646 = .ok (.ireturn, 1) := by decide +kernel
theorem dL_law_647 : decode cL_law 647 = .ok (.iload 5, 2) := by decide +kernel
theorem dL_law_649 : decode cL_law 649 = .ok (.ifCond .ne 15, 3) := by decide +kernel
theorem dL_law_652 : decode cL_law 652 = .ok (.aload_n 3, 1) := by decide +kernel
theorem dL_law_653 : decode cL_law 653 = .ok (.iconst 0, 1) := by decide +kernel
theorem dL_law_654 : decode cL_law 654 = .ok (.laload, 1) := by decide +kernel
theorem dL_law_655 : decode cL_law 655 = .ok (.iload 6, 2) := by decide +kernel
theorem dL_law_657 : decode cL_law 657 = .ok (.i2l, 1) := by decide +kernel
theorem dL_law_658 : decode cL_law 658 = .ok (.lcmp, 1) := by decide +kernel
theorem dL_law_659 : decode cL_law 659 = .ok (.ifCond .eq 5, 3) := by decide +kernel
theorem dL_law_662 : decode cL_law 662 = .ok (.iconst 0, 1) := by decide +kernel
theorem dL_law_663 : decode cL_law 663 = .ok (.ireturn, 1) := by decide +kernel
theorem dL_law_664 : decode cL_law 664 = .ok (.goto 300, 3) := by decide +kernel
theorem dL_law_667 : decode cL_law 667 = .ok (.aload_n 1, 1) := by decide +kernel
theorem dL_law_668 : decode cL_law 668 = .ok (.aload_n 0, 1) := by decide +kernel
theorem dL_law_669 : decode cL_law 669 = .ok (.iload 4, 2) := by decide +kernel
theorem dL_law_671 : decode cL_law 671 = .ok (.iconst 1, 1) := by decide +kernel
theorem dL_law_672 : decode cL_law 672 = .ok (.iadd, 1) := by decide +kernel
theorem dL_law_673 : decode cL_law 673 = .ok (.iaload, 1) := by decide +kernel
theorem dL_law_674 : decode cL_law 674 = .ok (.aload_n 3, 1) := by decide +kernel
theorem dL_law_675 : decode cL_law 675 = .ok (.invokestatic 112, 3) := by decide +kernel
theorem dL_law_678 : decode cL_law 678 = .ok (.istore 5, 2) := by decide +kernel
theorem dL_law_680 : decode cL_law 680 = .ok (.aload_n 2, 1) := by decide +kernel
theorem dL_law_681 : decode cL_law 681 = .ok (.aload_n 0, 1) := by decide +kernel
theorem dL_law_682 : decode cL_law 682 = .ok (.iload 4, 2) := by decide +kernel
theorem dL_law_684 : decode cL_law 684 = .ok (.iconst 1, 1) := by decide +kernel
theorem dL_law_685 : decode cL_law 685 = .ok (.iadd, 1) := by decide +kernel
theorem dL_law_686 : decode cL_law 686 = .ok (.iaload, 1) := by decide +kernel
theorem dL_law_687 : decode cL_law 687 = .ok (.invokevirtual 114, 3) := by decide +kernel
theorem dL_law_690 : decode cL_law 690 = .ok (.istore 6, 2) := by decide +kernel
theorem dL_law_692 : decode cL_law 692 = .ok (.aload_n 2, 1) := by decide +kernel
theorem dL_law_693 : decode cL_law 693 = .ok (.invokevirtual 67, 3) := by decide +kernel
theorem dL_law_696 : decode cL_law 696 = .ok (.iload 5, 2) := by decide +kernel
theorem dL_law_698 : decode cL_law 698 = .ok (.if_icmp .eq 5, 3) := by decide +kernel
theorem dL_law_701 : decode cL_law 701 = .ok (.iconst 0, 1) := by decide +kernel
theorem dL_law_702 : decode cL_law 702 = .ok (.ireturn, 1) := by decide +kernel
theorem dL_law_703 : decode cL_law 703 = .ok (.iload 5, 2) := by decide +kernel
theorem dL_law_705 : decode cL_law 705 = .ok (.ifCond .ne 15, 3) := by decide +kernel
theorem dL_law_708 : decode cL_law 708 = .ok (.aload_n 3, 1) := by decide +kernel
theorem dL_law_709 : decode cL_law 709 = .ok (.iconst 0, 1) := by decide +kernel
theorem dL_law_710 : decode cL_law 710 = .ok (.laload, 1) := by decide +kernel
theorem dL_law_711 : decode cL_law 711 = .ok (.iload 6, 2) := by decide +kernel
theorem dL_law_713 : decode cL_law 713 = .ok (.i2l, 1) := by decide +kernel
theorem dL_law_714 : decode cL_law 714 = .ok (.lcmp, 1) := by decide +kernel
theorem dL_law_715 : decode cL_law 715 = .ok (.ifCond .eq 5, 3) := by decide +kernel
theorem dL_law_718 : decode cL_law 718 = .ok (.iconst 0, 1) := by decide +kernel
theorem dL_law_719 : decode cL_law 719 = .ok (.ireturn, 1) := by decide +kernel
theorem dL_law_720 : decode cL_law 720 = .ok (.goto 244, 3) := by decide +kernel
theorem dL_law_723 : decode cL_law 723 = .ok (.aload_n 1, 1) := by decide +kernel
theorem dL_law_724 : decode cL_law 724 = .ok (.invokevirtual 115, 3) := by decide +kernel
theorem dL_law_727 : decode cL_law 727 = .ok (.aload_n 2, 1) := by decide +kernel
theorem dL_law_728 : decode cL_law 728 = .ok (.invokevirtual 118, 3) := by decide +kernel
theorem dL_law_731 : decode cL_law 731 = .ok (.if_icmp .eq 233, 3) := by decide +kernel
theorem dL_law_734 : decode cL_law 734 = .ok (.iconst 0, 1) := by decide +kernel
theorem dL_law_735 : decode cL_law 735 = .ok (.ireturn, 1) := by decide +kernel
theorem dL_law_736 : decode cL_law 736 = .ok (.aload_n 1, 1) := by decide +kernel
theorem dL_law_737 : decode cL_law 737 = .ok (.invokevirtual 119, 3) := by decide +kernel
theorem dL_law_740 : decode cL_law 740 = .ok (.aload_n 2, 1) := by decide +kernel
theorem dL_law_741 : decode cL_law 741 = .ok (.invokevirtual 122, 3) := by decide +kernel
theorem dL_law_744 : decode cL_law 744 = .ok (.if_icmp .eq 220, 3) := by decide +kernel
theorem dL_law_747 : decode cL_law 747 = .ok (.iconst 0, 1) := by decide +kernel
theorem dL_law_748 : decode cL_law 748 = .ok (.ireturn, 1) := by decide +kernel
theorem dL_law_749 : decode cL_law 749 = .ok (.aload_n 1, 1) := by decide +kernel
theorem dL_law_750 : decode cL_law 750 = .ok (.aload_n 0, 1) := by decide +kernel
theorem dL_law_751 : decode cL_law 751 = .ok (.iload 4, 2) := by decide +kernel
theorem dL_law_753 : decode cL_law 753 = .ok (.iconst 1, 1) := by decide +kernel
theorem dL_law_754 : decode cL_law 754 = .ok (.iadd, 1) := by decide +kernel
theorem dL_law_755 : decode cL_law 755 = .ok (.iaload, 1) := by decide +kernel
theorem dL_law_756 : decode cL_law 756 = .ok (.aload_n 3, 1) := by decide +kernel
theorem dL_law_757 : decode cL_law 757 = .ok (.invokestatic 123, 3) := by decide +kernel
theorem dL_law_760 : decode cL_law 760 = .ok (.istore 5, 2) := by decide +kernel
theorem dL_law_762 : decode cL_law 762 = .ok (.aload_n 2, 1) := by decide +kernel
theorem dL_law_763 : decode cL_law 763 = .ok (.aload_n 0, 1) := by decide +kernel
theorem dL_law_764 : decode cL_law 764 = .ok (.iload 4, 2) := by decide +kernel
theorem dL_law_766 : decode cL_law 766 = .ok (.iconst 1, 1) := by decide +kernel
theorem dL_law_767 : decode cL_law 767 = .ok (.iadd, 1) := by decide +kernel
theorem dL_law_768 : decode cL_law 768 = .ok (.iaload, 1) := by decide +kernel
theorem dL_law_769 : decode cL_law 769 = .ok (.invokevirtual 125, 3) := by decide +kernel
theorem dL_law_772 : decode cL_law 772 = .ok (.istore 6, 2) := by decide +kernel
theorem dL_law_774 : decode cL_law 774 = .ok (.aload_n 2, 1) := by decide +kernel
theorem dL_law_775 : decode cL_law 775 = .ok (.invokevirtual 67, 3) := by decide +kernel
theorem dL_law_778 : decode cL_law 778 = .ok (.iload 5, 2) := by decide +kernel
theorem dL_law_780 : decode cL_law 780 = .ok (.if_icmp .eq 5, 3) := by decide +kernel
theorem dL_law_783 : decode cL_law 783 = .ok (.iconst 0, 1) := by decide +kernel
theorem dL_law_784 : decode cL_law 784 = .ok (.ireturn, 1) := by decide +kernel
theorem dL_law_785 : decode cL_law 785 = .ok (.iload 5, 2) := by decide +kernel
theorem dL_law_787 : decode cL_law 787 = .ok (.ifCond .ne 15, 3) := by decide +kernel
theorem dL_law_790 : decode cL_law 790 = .ok (.aload_n 3, 1) := by decide +kernel
theorem dL_law_791 : decode cL_law 791 = .ok (.iconst 0, 1) := by decide +kernel
theorem dL_law_792 : decode cL_law 792 = .ok (.laload, 1) := by decide +kernel
theorem dL_law_793 : decode cL_law 793 = .ok (.iload 6, 2) := by decide +kernel
theorem dL_law_795 : decode cL_law 795 = .ok (.i2l, 1) := by decide +kernel
theorem dL_law_796 : decode cL_law 796 = .ok (.lcmp, 1) := by decide +kernel
theorem dL_law_797 : decode cL_law 797 = .ok (.ifCond .eq 5, 3) := by decide +kernel
theorem dL_law_800 : decode cL_law 800 = .ok (.iconst 0, 1) := by decide +kernel
theorem dL_law_801 : decode cL_law 801 = .ok (.ireturn, 1) := by decide +kernel
theorem dL_law_802 : decode cL_law 802 = .ok (.goto 162, 3) := by decide +kernel
theorem dL_law_805 : decode cL_law 805 = .ok (.aload_n 1, 1) := by decide +kernel
theorem dL_law_806 : decode cL_law 806 = .ok (.aload_n 0, 1) := by decide +kernel
theorem dL_law_807 : decode cL_law 807 = .ok (.iload 4, 2) := by decide +kernel
theorem dL_law_809 : decode cL_law 809 = .ok (.iconst 1, 1) := by decide +kernel
theorem dL_law_810 : decode cL_law 810 = .ok (.iadd, 1) := by decide +kernel
theorem dL_law_811 : decode cL_law 811 = .ok (.iaload, 1) := by decide +kernel
theorem dL_law_812 : decode cL_law 812 = .ok (.aload_n 0, 1) := by decide +kernel
theorem dL_law_813 : decode cL_law 813 = .ok (.iload 4, 2) := by decide +kernel
theorem dL_law_815 : decode cL_law 815 = .ok (.iconst 2, 1) := by decide +kernel
theorem dL_law_816 : decode cL_law 816 = .ok (.iadd, 1) := by decide +kernel
theorem dL_law_817 : decode cL_law 817 = .ok (.iaload, 1) := by decide +kernel
theorem dL_law_818 : decode cL_law 818 = .ok (.aload_n 3, 1) := by decide +kernel
theorem dL_law_819 : decode cL_law 819 = .ok (.invokestatic 126, 3) := by decide +kernel
theorem dL_law_822 : decode cL_law 822 = .ok (.istore 5, 2) := by decide +kernel
theorem dL_law_824 : decode cL_law 824 = .ok (.aload_n 2, 1) := by decide +kernel
theorem dL_law_825 : decode cL_law 825 = .ok (.aload_n 0, 1) := by decide +kernel
theorem dL_law_826 : decode cL_law 826 = .ok (.iload 4, 2) := by decide +kernel
theorem dL_law_828 : decode cL_law 828 = .ok (.iconst 1, 1) := by decide +kernel
theorem dL_law_829 : decode cL_law 829 = .ok (.iadd, 1) := by decide +kernel
theorem dL_law_830 : decode cL_law 830 = .ok (.iaload, 1) := by decide +kernel
theorem dL_law_831 : decode cL_law 831 = .ok (.aload_n 0, 1) := by decide +kernel
theorem dL_law_832 : decode cL_law 832 = .ok (.iload 4, 2) := by decide +kernel
theorem dL_law_834 : decode cL_law 834 = .ok (.iconst 2, 1) := by decide +kernel
theorem dL_law_835 : decode cL_law 835 = .ok (.iadd, 1) := by decide +kernel
theorem dL_law_836 : decode cL_law 836 = .ok (.iaload, 1) := by decide +kernel
theorem dL_law_837 : decode cL_law 837 = .ok (.invokevirtual 128, 3) := by decide +kernel
theorem dL_law_840 : decode cL_law 840 = .ok (.lstore 6, 2) := by decide +kernel
theorem dL_law_842 : decode cL_law 842 = .ok (.aload_n 2, 1) := by decide +kernel
theorem dL_law_843 : decode cL_law 843 = .ok (.invokevirtual 67, 3) := by decide +kernel
theorem dL_law_846 : decode cL_law 846 = .ok (.iload 5, 2) := by decide +kernel
theorem dL_law_848 : decode cL_law 848 = .ok (.if_icmp .eq 5, 3) := by decide +kernel
theorem dL_law_851 : decode cL_law 851 = .ok (.iconst 0, 1) := by decide +kernel
theorem dL_law_852 : decode cL_law 852 = .ok (.ireturn, 1) := by decide +kernel
theorem dL_law_853 : decode cL_law 853 = .ok (.iload 5, 2) := by decide +kernel
theorem dL_law_855 : decode cL_law 855 = .ok (.ifCond .ne 14, 3) := by decide +kernel
theorem dL_law_858 : decode cL_law 858 = .ok (.aload_n 3, 1) := by decide +kernel
theorem dL_law_859 : decode cL_law 859 = .ok (.iconst 0, 1) := by decide +kernel
theorem dL_law_860 : decode cL_law 860 = .ok (.laload, 1) := by decide +kernel
theorem dL_law_861 : decode cL_law 861 = .ok (.lload 6, 2) := by decide +kernel
theorem dL_law_863 : decode cL_law 863 = .ok (.lcmp, 1) := by decide +kernel
theorem dL_law_864 : decode cL_law 864 = .ok (.ifCond .eq 5, 3) := by decide +kernel
theorem dL_law_867 : decode cL_law 867 = .ok (.iconst 0, 1) := by decide +kernel
theorem dL_law_868 : decode cL_law 868 = .ok (.ireturn, 1) := by decide +kernel
theorem dL_law_869 : decode cL_law 869 = .ok (.goto 95, 3) := by decide +kernel
theorem dL_law_872 : decode cL_law 872 = .ok (.aload_n 1, 1) := by decide +kernel
theorem dL_law_873 : decode cL_law 873 = .ok (.aload_n 0, 1) := by decide +kernel
theorem dL_law_874 : decode cL_law 874 = .ok (.iload 4, 2) := by decide +kernel
theorem dL_law_876 : decode cL_law 876 = .ok (.iconst 1, 1) := by decide +kernel
theorem dL_law_877 : decode cL_law 877 = .ok (.iadd, 1) := by decide +kernel
theorem dL_law_878 : decode cL_law 878 = .ok (.iaload, 1) := by decide +kernel
theorem dL_law_879 : decode cL_law 879 = .ok (.aload_n 0, 1) := by decide +kernel
theorem dL_law_880 : decode cL_law 880 = .ok (.iload 4, 2) := by decide +kernel
theorem dL_law_882 : decode cL_law 882 = .ok (.iconst 2, 1) := by decide +kernel
theorem dL_law_883 : decode cL_law 883 = .ok (.iadd, 1) := by decide +kernel
theorem dL_law_884 : decode cL_law 884 = .ok (.iaload, 1) := by decide +kernel
theorem dL_law_885 : decode cL_law 885 = .ok (.aload_n 0, 1) := by decide +kernel
theorem dL_law_886 : decode cL_law 886 = .ok (.iload 4, 2) := by decide +kernel
theorem dL_law_888 : decode cL_law 888 = .ok (.iconst 3, 1) := by decide +kernel
theorem dL_law_889 : decode cL_law 889 = .ok (.iadd, 1) := by decide +kernel
theorem dL_law_890 : decode cL_law 890 = .ok (.iaload, 1) := by decide +kernel
theorem dL_law_891 : decode cL_law 891 = .ok (.i2l, 1) := by decide +kernel
theorem dL_law_892 : decode cL_law 892 = .ok (.bipush 32, 2) := by decide +kernel
theorem dL_law_894 : decode cL_law 894 = .ok (.lshl, 1) := by decide +kernel
theorem dL_law_895 : decode cL_law 895 = .ok (.aload_n 0, 1) := by decide +kernel
theorem dL_law_896 : decode cL_law 896 = .ok (.iload 4, 2) := by decide +kernel
theorem dL_law_898 : decode cL_law 898 = .ok (.iconst 4, 1) := by decide +kernel
theorem dL_law_899 : decode cL_law 899 = .ok (.iadd, 1) := by decide +kernel
theorem dL_law_900 : decode cL_law 900 = .ok (.iaload, 1) := by decide +kernel
theorem dL_law_901 : decode cL_law 901 = .ok (.i2l, 1) := by decide +kernel
theorem dL_law_902 : decode cL_law 902 = .ok (.ldc2_w 129, 3) := by decide +kernel
theorem dL_law_905 : decode cL_law 905 = .ok (.land, 1) := by decide +kernel
theorem dL_law_906 : decode cL_law 906 = .ok (.lor, 1) := by decide +kernel
theorem dL_law_907 : decode cL_law 907 = .ok (.invokestatic 131, 3) := by decide +kernel
theorem dL_law_910 : decode cL_law 910 = .ok (.istore 5, 2) := by decide +kernel
theorem dL_law_912 : decode cL_law 912 = .ok (.aload_n 2, 1) := by decide +kernel
theorem dL_law_913 : decode cL_law 913 = .ok (.aload_n 0, 1) := by decide +kernel
theorem dL_law_914 : decode cL_law 914 = .ok (.iload 4, 2) := by decide +kernel
theorem dL_law_916 : decode cL_law 916 = .ok (.iconst 1, 1) := by decide +kernel
theorem dL_law_917 : decode cL_law 917 = .ok (.iadd, 1) := by decide +kernel
theorem dL_law_918 : decode cL_law 918 = .ok (.iaload, 1) := by decide +kernel
theorem dL_law_919 : decode cL_law 919 = .ok (.aload_n 0, 1) := by decide +kernel
theorem dL_law_920 : decode cL_law 920 = .ok (.iload 4, 2) := by decide +kernel
theorem dL_law_922 : decode cL_law 922 = .ok (.iconst 2, 1) := by decide +kernel
theorem dL_law_923 : decode cL_law 923 = .ok (.iadd, 1) := by decide +kernel
theorem dL_law_924 : decode cL_law 924 = .ok (.iaload, 1) := by decide +kernel
theorem dL_law_925 : decode cL_law 925 = .ok (.aload_n 0, 1) := by decide +kernel
theorem dL_law_926 : decode cL_law 926 = .ok (.iload 4, 2) := by decide +kernel
theorem dL_law_928 : decode cL_law 928 = .ok (.iconst 3, 1) := by decide +kernel
theorem dL_law_929 : decode cL_law 929 = .ok (.iadd, 1) := by decide +kernel
theorem dL_law_930 : decode cL_law 930 = .ok (.iaload, 1) := by decide +kernel
theorem dL_law_931 : decode cL_law 931 = .ok (.i2l, 1) := by decide +kernel
theorem dL_law_932 : decode cL_law 932 = .ok (.bipush 32, 2) := by decide +kernel
theorem dL_law_934 : decode cL_law 934 = .ok (.lshl, 1) := by decide +kernel
theorem dL_law_935 : decode cL_law 935 = .ok (.aload_n 0, 1) := by decide +kernel
theorem dL_law_936 : decode cL_law 936 = .ok (.iload 4, 2) := by decide +kernel
theorem dL_law_938 : decode cL_law 938 = .ok (.iconst 4, 1) := by decide +kernel
theorem dL_law_939 : decode cL_law 939 = .ok (.iadd, 1) := by decide +kernel
theorem dL_law_940 : decode cL_law 940 = .ok (.iaload, 1) := by decide +kernel
theorem dL_law_941 : decode cL_law 941 = .ok (.i2l, 1) := by decide +kernel
theorem dL_law_942 : decode cL_law 942 = .ok (.ldc2_w 129, 3) := by decide +kernel
theorem dL_law_945 : decode cL_law 945 = .ok (.land, 1) := by decide +kernel
theorem dL_law_946 : decode cL_law 946 = .ok (.lor, 1) := by decide +kernel
theorem dL_law_947 : decode cL_law 947 = .ok (.invokevirtual 134, 3) := by decide +kernel
theorem dL_law_950 : decode cL_law 950 = .ok (.aload_n 2, 1) := by decide +kernel
theorem dL_law_951 : decode cL_law 951 = .ok (.invokevirtual 67, 3) := by decide +kernel
theorem dL_law_954 : decode cL_law 954 = .ok (.iload 5, 2) := by decide +kernel
theorem dL_law_956 : decode cL_law 956 = .ok (.if_icmp .eq 5, 3) := by decide +kernel
theorem dL_law_959 : decode cL_law 959 = .ok (.iconst 0, 1) := by decide +kernel
theorem dL_law_960 : decode cL_law 960 = .ok (.ireturn, 1) := by decide +kernel
theorem dL_law_961 : decode cL_law 961 = .ok (.goto 3, 3) := by decide +kernel
theorem dL_law_964 : decode cL_law 964 = .ok (.iinc 4 5, 3) := by decide +kernel
theorem dL_law_967 : decode cL_law 967 = .ok (.goto (-944), 3) := by decide +kernel
theorem dL_law_970 : decode cL_law 970 = .ok (.iconst 1, 1) := by decide +kernel
theorem dL_law_971 : decode cL_law 971 = .ok (.ireturn, 1) := by decide +kernel

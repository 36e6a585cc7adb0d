theorem dX6_price_9 : decode cX6_price 9 = .ok (.if_icmp .ge 32, 3) := by decide +kernel
theorem dX6_price_12 : decode cX6_price 12 = .ok (.lload_n 1, 1) := by decide +kernel
theorem dX6_price_13 : decode cX6_price 13 = .ok (.aload_n 0, 1) := by decide +kernel
theorem dX6_price_14 : decode cX6_price 14 = .ok (.getfield 23, 3) := by decide +kernel
theorem dX6_price_17 : decode cX6_price 17 = .ok (.iload_n 3, 1) := by decide +kernel
theorem dX6_price_18 : decode cX6_price 18 = .ok (.iaload, 1) := by decide +kernel
theorem dX6_price_19 : decode cX6_price 19 = .ok (.i2l, 1) := by decide +kernel
theorem dX6_price_20 : decode cX6_price 20 = .ok (.aload_n 0, 1) := by decide +kernel
theorem dX6_price_21 : decode cX6_price 21 = .ok (.getfield 17, 3) := by decide +kernel
theorem dX6_price_24 : decode cX6_price 24 = .ok (.aload_n 0, 1) := by decide +kernel
theorem dX6_price_25 : decode cX6_price 25 = .ok (.getfield 26, 3) := by decide +kernel
theorem dX6_price_28 : decode cX6_price 28 = .ok (.iload_n 3, 1) := by decide +kernel
theorem dX6_price_29 : decode cX6_price 29 = .ok (.iaload, 1) := by decide +kernel
theorem dX6_price_30 : decode cX6_price 30 = .ok (.iaload, 1) := by decide +kernel
theorem dX6_price_31 : decode cX6_price 31 = .ok (.i2l, 1) := by decide +kernel
theorem dX6_price_32 : decode cX6_price 32 = .ok (.lmul, 1) := by decide +kernel
theorem dX6_price_33 : decode cX6_price 33 = .ok (.ladd, 1) := by decide +kernel
theorem dX6_price_34 : decode cX6_price 34 = .ok (.lstore_n 1, 1) := by decide +kernel
theorem dX6_price_35 : decode cX6_price 35 = .ok (.iinc 3 1, 3) := by decide +kernel
theorem dX6_price_38 : decode cX6_price 38 = .ok (.goto (-34), 3) := by decide +kernel
theorem dX6_price_41 : decode cX6_price 41 = .ok (.lload_n 1, 1) := by decide +kernel
theorem dX6_price_42 : decode cX6_price 42 = .ok (.lreturn, 1) := by decide +kernel
theorem dX6_areMet_0 : decode cX6_areMet 0 = .ok (.iconst 1, 1) := by decide +kernel
theorem dX6_areMet_1 : decode cX6_areMet 1 = .ok (.istore_n 1, 1) := by decide +kernel
theorem dX6_areMet_2 : decode cX6_areMet 2 = .ok (.iconst 0, 1) := by decide +kernel
theorem dX6_areMet_3 : decode cX6_areMet 3 = .ok (.istore_n 2, 1) := by decide +kernel
theorem dX6_areMet_4 : decode cX6_areMet 4 = .ok (.iload_n 2, 1) := by decide +kernel
theorem dX6_areMet_5 : decode cX6_areMet 5 = .ok (.aload_n 0, 1) := by decide +kernel
theorem dX6_areMet_6 : decode cX6_areMet 6 = .ok (.getfield 208, 3) := by decide +kernel
theorem dX6_areMet_9 : decode cX6_areMet 9 = .ok (.if_icmp .ge 33, 3) := by decide +kernel
theorem dX6_areMet_12 : decode cX6_areMet 12 = .ok (.iload_n 1, 1) := by decide +kernel
theorem dX6_areMet_13 : decode cX6_areMet 13 = .ok (.ifCond .eq 29, 3) := by decide +kernel
theorem dX6_areMet_16 : decode cX6_areMet 16 = .ok (.aload_n 0, 1) := by decide +kernel
theorem dX6_areMet_17 : decode cX6_areMet 17 = .ok (.iload_n 2, 1) := by decide +kernel
theorem dX6_areMet_18 : decode cX6_areMet 18 = .ok (.aload_n 0, 1) := by decide +kernel
theorem dX6_areMet_19 : decode cX6_areMet 19 = .ok (.getfield 7, 3) := by decide +kernel
theorem dX6_areMet_22 : decode cX6_areMet 22 = .ok (.invokevirtual 214, 3) := by decide +kernel
theorem dX6_areMet_25 : decode cX6_areMet 25 = .ok (.lconst 0, 1) := by decide +kernel
theorem dX6_areMet_26 : decode cX6_areMet 26 = .ok (.lcmp, 1) := by decide +kernel
theorem dX6_areMet_27 : decode cX6_areMet 27 = .ok (.ifCond .lt 7, 3) := by decide +kernel
theorem dX6_areMet_30 : decode cX6_areMet 30 = .ok (.iconst 1, 1) := by decide +kernel
theorem dX6_areMet_31 : decode cX6_areMet 31 = .ok (.goto 4, 3) := by decide +kernel
theorem dX6_areMet_34 : decode cX6_areMet 34 = .ok (.iconst 0, 1) := by decide +kernel
theorem dX6_areMet_35 : decode cX6_areMet 35 = .ok (.istore_n 1, 1) := by decide +kernel
theorem dX6_areMet_36 : decode cX6_areMet 36 = .ok (.iinc 2 1, 3) := by decide +kernel
theorem dX6_areMet_39 : decode cX6_areMet 39 = .ok (.goto (-35), 3) := by decide +kernel
theorem dX6_areMet_42 : decode cX6_areMet 42 = .ok (.iload_n 1, 1) := by decide +kernel
theorem dX6_areMet_43 : decode cX6_areMet 43 = .ok (.ireturn, 1) := by decide +kernel
theorem dX6_choose_0 : decode cX6_choose 0 = .ok (.iconst 0, 1) := by decide +kernel
theorem dX6_choose_1 : decode cX6_choose 1 = .ok (.istore_n 1, 1) := by decide +kernel
theorem dX6_choose_2 : decode cX6_choose 2 = .ok (.iconst 0, 1) := by decide +kernel
theorem dX6_choose_3 : decode cX6_choose 3 = .ok (.istore_n 2, 1) := by decide +kernel
theorem dX6_choose_4 : decode cX6_choose 4 = .ok (.iload_n 2, 1) := by decide +kernel
theorem dX6_choose_5 : decode cX6_choose 5 = .ok (.aload_n 0, 1) := by decide +kernel
theorem dX6_choose_6 : decode cX6_choose 6 = .ok (.getfield 109, 3) := by decide +kernel
theorem dX6_choose_9 : decode cX6_choose 9 = .ok (.if_icmp .ge 47, 3) := by decide +kernel
theorem dX6_choose_12 : decode cX6_choose 12 = .ok (.aload_n 0, 1) := by decide +kernel
theorem dX6_choose_13 : decode cX6_choose 13 = .ok (.getfield 36, 3) := by decide +kernel
theorem dX6_choose_16 : decode cX6_choose 16 = .ok (.iload_n 2, 1) := by decide +kernel
theorem dX6_choose_17 : decode cX6_choose 17 = .ok (.baload, 1) := by decide +kernel
theorem dX6_choose_18 : decode cX6_choose 18 = .ok (.ifCond .eq 32, 3) := by decide +kernel
theorem dX6_choose_21 : decode cX6_choose 21 = .ok (.aload_n 0, 1) := by decide +kernel
theorem dX6_choose_22 : decode cX6_choose 22 = .ok (.getfield 79, 3) := by decide +kernel
theorem dX6_choose_25 : decode cX6_choose 25 = .ok (.iload_n 1, 1) := by decide +kernel
theorem dX6_choose_26 : decode cX6_choose 26 = .ok (.iload_n 2, 1) := by decide +kernel
theorem dX6_choose_27 : decode cX6_choose 27 = .ok (.iastore, 1) := by decide +kernel
theorem dX6_choose_28 : decode cX6_choose 28 = .ok (.aload_n 0, 1) := by decide +kernel
theorem dX6_choose_29 : decode cX6_choose 29 = .ok (.getfield 82, 3) := by decide +kernel
theorem dX6_choose_32 : decode cX6_choose 32 = .ok (.iload_n 1, 1) := by decide +kernel
theorem dX6_choose_33 : decode cX6_choose 33 = .ok (.aload_n 0, 1) := by decide +kernel
theorem dX6_choose_34 : decode cX6_choose 34 = .ok (.getfield 26, 3) := by decide +kernel
theorem dX6_choose_37 : decode cX6_choose 37 = .ok (.iload_n 2, 1) := by decide +kernel
theorem dX6_choose_38 : decode cX6_choose 38 = .ok (.iaload, 1) := by decide +kernel
theorem dX6_choose_39 : decode cX6_choose 39 = .ok (.iastore, 1) := by decide +kernel
theorem dX6_choose_40 : decode cX6_choose 40 = .ok (.aload_n 0, 1) := by decide +kernel
theorem dX6_choose_41 : decode cX6_choose 41 = .ok (.getfield 26, 3) := by decide +kernel
theorem dX6_choose_44 : decode cX6_choose 44 = .ok (.iload_n 2, 1) := by decide +kernel
theorem dX6_choose_45 : decode cX6_choose 45 = .ok (.iconst 0, 1) := by decide +kernel
theorem dX6_choose_46 : decode cX6_choose 46 = .ok (.iastore, 1) := by decide +kernel
theorem dX6_choose_47 : decode cX6_choose 47 = .ok (.iinc 1 1, 3) := by decide +kernel
theorem dX6_choose_50 : decode cX6_choose 50 = .ok (.iinc 2 1, 3) := by decide +kernel
theorem dX6_choose_53 : decode cX6_choose 53 = .ok (.goto (-49), 3) := by decide +kernel
theorem dX6_choose_56 : decode cX6_choose 56 = .ok (.ldc2_w 189, 3) := by decide +kernel
theorem dX6_choose_59 : decode cX6_choose 59 = .ok (.lstore_n 2, 1) := by decide +kernel
theorem dX6_choose_60 : decode cX6_choose 60 = .ok (.iconst 1, 1) := by decide +kernel
theorem dX6_choose_61 : decode cX6_choose 61 = .ok (.istore 4, 2) := by decide +kernel
theorem dX6_choose_63 : decode cX6_choose 63 = .ok (.iload 4, 2) := by decide +kernel
theorem dX6_choose_65 : decode cX6_choose 65 = .ok (.ifCond .eq 152, 3) := by decide +kernel
theorem dX6_choose_68 : decode cX6_choose 68 = .ok (.aload_n 0, 1) := by decide +kernel
theorem dX6_choose_69 : decode cX6_choose 69 = .ok (.invokevirtual 223, 3) := by decide +kernel
theorem dX6_choose_72 : decode cX6_choose 72 = .ok (.lstore 5, 2) := by decide +kernel
theorem dX6_choose_74 : decode cX6_choose 74 = .ok (.lload_n 2, 1) := by decide +kernel
theorem dX6_choose_75 : decode cX6_choose 75 = .ok (.lconst 0, 1) := by decide +kernel
theorem dX6_choose_76 : decode cX6_choose 76 = .ok (.lcmp, 1) := by decide +kernel
theorem dX6_choose_77 : decode cX6_choose 77 = .ok (.ifCond .lt 10, 3) := by decide +kernel
theorem dX6_choose_80 : decode cX6_choose 80 = .ok (.lload 5, 2) := by decide +kernel
theorem dX6_choose_82 : decode cX6_choose 82 = .ok (.lload_n 2, 1) := by decide +kernel
theorem dX6_choose_83 : decode cX6_choose 83 = .ok (.lcmp, 1) := by decide +kernel
theorem dX6_choose_84 : decode cX6_choose 84 = .ok (.ifCond .ge 47, 3) := by decide +kernel
theorem dX6_choose_87 : decode cX6_choose 87 = .ok (.aload_n 0, 1) := by decide +kernel
theorem dX6_choose_88 : decode cX6_choose 88 = .ok (.invokevirtual 227, 3) := by decide +kernel
theorem dX6_choose_91 : decode cX6_choose 91 = .ok (.ifCond .eq 40, 3) := by decide +kernel
theorem dX6_choose_94 : decode cX6_choose 94 = .ok (.lload 5, 2) := by decide +kernel
theorem dX6_choose_96 : decode cX6_choose 96 = .ok (.lstore_n 2, 1) := by decide +kernel
theorem dX6_choose_97 : decode cX6_choose 97 = .ok (.iconst 0, 1) := by decide +kernel
theorem dX6_choose_98 : decode cX6_choose 98 = .ok (.istore 7, 2) := by decide +kernel
theorem dX6_choose_100 : decode cX6_choose 100 = .ok (.iload 7, 2) := by decide +kernel
theorem dX6_choose_102 : decode cX6_choose 102 = .ok (.iload_n 1, 1) := by decide +kernel
theorem dX6_choose_103 : decode cX6_choose 103 = .ok (.if_icmp .ge 28, 3) := by decide +kernel
theorem dX6_choose_106 : decode cX6_choose 106 = .ok (.aload_n 0, 1) := by decide +kernel
theorem dX6_choose_107 : decode cX6_choose 107 = .ok (.getfield 85, 3) := by decide +kernel
theorem dX6_choose_110 : decode cX6_choose 110 = .ok (.iload 7, 2) := by decide +kernel
theorem dX6_choose_112 : decode cX6_choose 112 = .ok (.aload_n 0, 1) := by decide +kernel
theorem dX6_choose_113 : decode cX6_choose 113 = .ok (.getfield 26, 3) := by decide +kernel
theorem dX6_choose_116 : decode cX6_choose 116 = .ok (.aload_n 0, 1) := by decide +kernel
theorem dX6_choose_117 : decode cX6_choose 117 = .ok (.getfield 79, 3) := by decide +kernel
theorem dX6_choose_120 : decode cX6_choose 120 = .ok (.iload 7, 2) := by decide +kernel
theorem dX6_choose_122 : decode cX6_choose 122 = .ok (.iaload, 1) := by decide +kernel
theorem dX6_choose_123 : decode cX6_choose 123 = .ok (.iaload, 1) := by decide +kernel
theorem dX6_choose_124 : decode cX6_choose 124 = .ok (.iastore, 1) := by decide +kernel
theorem dX6_choose_125 : decode cX6_choose 125 = .ok (.iinc 7 1, 3) := by decide +kernel
theorem dX6_choose_128 : decode cX6_choose 128 = .ok (.goto (-28), 3) := by decide +kernel
theorem dX6_choose_131 : decode cX6_choose 131 = .ok (.iload_n 1, 1) := by decide +kernel
theorem dX6_choose_132 : decode cX6_choose 132 = .ok (.iconst 1, 1) := by decide +kernel
theorem dX6_choose_133 : decode cX6_choose 133 = .ok (.isub, 1) := by decide +kernel
theorem dX6_choose_134 : decode cX6_choose 134 = .ok (.istore 7, 2) := by decide +kernel
theorem dX6_choose_136 : decode cX6_choose 136 = .ok (.iload 7, 2) := by decide +kernel
theorem dX6_choose_138 : decode cX6_choose 138 = .ok (.ifCond .lt 43, 3) := by decide +kernel
theorem dX6_choose_141 : decode cX6_choose 141 = .ok (.aload_n 0, 1) := by decide +kernel
theorem dX6_choose_142 : decode cX6_choose 142 = .ok (.getfield 26, 3) := by decide +kernel
theorem dX6_choose_145 : decode cX6_choose 145 = .ok (.aload_n 0, 1) := by decide +kernel
theorem dX6_choose_146 : decode cX6_choose 146 = .ok (.getfield 79, 3) := by decide +kernel
theorem dX6_choose_149 : decode cX6_choose 149 = .ok (.iload 7, 2) := by decide +kernel
theorem dX6_choose_151 : decode cX6_choose 151 = .ok (.iaload, 1) := by decide +kernel
theorem dX6_choose_152 : decode cX6_choose 152 = .ok (.iaload, 1) := by decide +kernel
theorem dX6_choose_153 : decode cX6_choose 153 = .ok (.aload_n 0, 1) := by decide +kernel
theorem dX6_choose_154 : decode cX6_choose 154 = .ok (.getfield 131, 3) := by decide +kernel
theorem dX6_choose_157 : decode cX6_choose 157 = .ok (.iconst 1, 1) := by decide +kernel
theorem dX6_choose_158 : decode cX6_choose 158 = .ok (.isub, 1) := by decide +kernel
theorem dX6_choose_159 : decode cX6_choose 159 = .ok (.if_icmp .ne 22, 3) := by decide +kernel
theorem dX6_choose_162 : decode cX6_choose 162 = .ok (.aload_n 0, 1) := by decide +kernel
theorem dX6_choose_163 : decode cX6_choose 163 = .ok (.getfield 26, 3) := by decide +kernel
theorem dX6_choose_166 : decode cX6_choose 166 = .ok (.aload_n 0, 1) := by decide +kernel
theorem dX6_choose_167 : decode cX6_choose 167 = .ok (.getfield 79, 3) := by decide +kernel
theorem dX6_choose_170 : decode cX6_choose 170 = .ok (.iload 7, 2) := by decide +kernel
theorem dX6_choose_172 : decode cX6_choose 172 = .ok (.iaload, 1) := by decide +kernel
theorem dX6_choose_173 : decode cX6_choose 173 = .ok (.iconst 0, 1) := by decide +kernel
theorem dX6_choose_174 : decode cX6_choose 174 = .ok (.iastore, 1) := by decide +kernel
theorem dX6_choose_175 : decode cX6_choose 175 = .ok (.iinc 7 (-1), 3) := by decide +kernel
theorem dX6_choose_178 : decode cX6_choose 178 = .ok (.goto (-42), 3) := by decide +kernel
theorem dX6_choose_181 : decode cX6_choose 181 = .ok (.iload 7, 2) := by decide +kernel
theorem dX6_choose_183 : decode cX6_choose 183 = .ok (.ifCond .lt 7, 3) := by decide +kernel
theorem dX6_choose_186 : decode cX6_choose 186 = .ok (.iconst 1, 1) := by decide +kernel
theorem dX6_choose_187 : decode cX6_choose 187 = .ok (.goto 4, 3) := by decide +kernel
theorem dX6_choose_190 : decode cX6_choose 190 = .ok (.iconst 0, 1) := by decide +kernel
theorem dX6_choose_191 : decode cX6_choose 191 = .ok (.istore 4, 2) := by decide +kernel
theorem dX6_choose_193 : decode cX6_choose 193 = .ok (.iload 4, 2) := by decide +kernel
theorem dX6_choose_195 : decode cX6_choose 195 = .ok (.ifCond .eq 19, 3) := by decide +kernel
theorem dX6_choose_198 : decode cX6_choose 198 = .ok (.aload_n 0, 1) := by decide +kernel
theorem dX6_choose_199 : decode cX6_choose 199 = .ok (.getfield 26, 3) := by decide +kernel
theorem dX6_choose_202 : decode cX6_choose 202 = .ok (.aload_n 0, 1) := by decide +kernel
theorem dX6_choose_203 : decode cX6_choose 203 = .ok (.getfield 79, 3) := by decide +kernel
theorem dX6_choose_206 : decode cX6_choose 206 = .ok (.iload 7, 2) := by decide +kernel
theorem dX6_choose_208 : decode cX6_choose 208 = .ok (.iaload, 1) := by decide +kernel
theorem dX6_choose_209 : decode cX6_choose 209 = .ok (.dup2, 1) := by decide +kernel
theorem dX6_choose_210 : decode cX6_choose 210 = .ok (.iaload, 1) := by decide +kernel
theorem dX6_choose_211 : decode cX6_choose 211 = .ok (.iconst 1, 1) := by decide +kernel
theorem dX6_choose_212 : decode cX6_choose 212 = .ok (.iadd, 1) := by decide +kernel
theorem dX6_choose_213 : decode cX6_choose 213 = .ok (.iastore, 1) := by decide +kernel
theorem dX6_choose_214 : decode cX6_choose 214 = .ok (.goto (-151), 3) := by decide +kernel
theorem dX6_choose_217 : decode cX6_choose 217 = .ok (.iconst 0, 1) := by decide +kernel
theorem dX6_choose_218 : decode cX6_choose 218 = .ok (.istore 5, 2) := by decide +kernel
theorem dX6_choose_220 : decode cX6_choose 220 = .ok (.iload 5, 2) := by decide +kernel
theorem dX6_choose_222 : decode cX6_choose 222 = .ok (.iload_n 1, 1) := by decide +kernel
theorem dX6_choose_223 : decode cX6_choose 223 = .ok (.if_icmp .ge 44, 3) := by decide +kernel
theorem dX6_choose_226 : decode cX6_choose 226 = .ok (.aload_n 0, 1) := by decide +kernel
theorem dX6_choose_227 : decode cX6_choose 227 = .ok (.getfield 26, 3) := by decide +kernel
theorem dX6_choose_230 : decode cX6_choose 230 = .ok (.aload_n 0, 1) := by decide +kernel
theorem dX6_choose_231 : decode cX6_choose 231 = .ok (.getfield 79, 3) := by decide +kernel
theorem dX6_choose_234 : decode cX6_choose 234 = .ok (.iload 5, 2) := by decide +kernel
theorem dX6_choose_236 : decode cX6_choose 236 = .ok (.iaload, 1) := by decide +kernel
theorem dX6_choose_237 : decode cX6_choose 237 = .ok (.lload_n 2, 1) := by decide +kernel
theorem dX6_choose_238 : decode cX6_choose 238 = .ok (.lconst 0, 1) := by decide +kernel
theorem dX6_choose_239 : decode cX6_choose 239 = .ok (.lcmp, 1) := by decide +kernel
theorem dX6_choose_240 : decode cX6_choose 240 = .ok (.ifCond .ge 13, 3) := by decide +kernel
theorem dX6_choose_243 : decode cX6_choose 243 = .ok (.aload_n 0, 1) := by decide +kernel
theorem dX6_choose_244 : decode cX6_choose 244 = .ok (.getfield 82, 3) := by decide +kernel
theorem dX6_choose_247 : decode cX6_choose 247 = .ok (.iload 5, 2) := by decide +kernel
theorem dX6_choose_249 : decode cX6_choose 249 = .ok (.iaload, 1) := by decide +kernel
theorem dX6_choose_250 : decode cX6_choose 250 = .ok (.goto 10, 3) := by decide +kernel
theorem dX6_choose_253 : decode cX6_choose 253 = .ok (.aload_n 0, 1) := by decide +kernel
theorem dX6_choose_254 : decode cX6_choose 254 = .ok (.getfield 85, 3) := by decide +kernel
theorem dX6_choose_257 : decode cX6_choose 257 = .ok (.iload 5, 2) := by decide +kernel
theorem dX6_choose_259 : decode cX6_choose 259 = .ok (.iaload, 1) := by decide +kernel
theorem dX6_choose_260 : decode cX6_choose 260 = .ok (.iastore, 1) := by decide +kernel
theorem dX6_choose_261 : decode cX6_choose 261 = .ok (.iinc 5 1, 3) := by decide +kernel
theorem dX6_choose_264 : decode cX6_choose 264 = .ok (.goto (-44), 3) := by decide +kernel
theorem dX6_choose_267 : decode cX6_choose 267 = .ok (.lload_n 2, 1) := by decide +kernel
theorem dX6_choose_268 : decode cX6_choose 268 = .ok (.lconst 0, 1) := by decide +kernel
theorem dX6_choose_269 : decode cX6_choose 269 = .ok (.lcmp, 1) := by decide +kernel
theorem dX6_choose_270 : decode cX6_choose 270 = .ok (.ifCond .ge 9, 3) := by decide +kernel
theorem dX6_choose_273 : decode cX6_choose 273 = .ok (.ldc2_w 231, 3) := by decide +kernel
theorem dX6_choose_276 : decode cX6_choose 276 = .ok (.goto 4, 3) := by decide +kernel
theorem dX6_choose_279 : decode cX6_choose 279 = .ok (.lload_n 2, 1) := by decide +kernel
theorem dX6_choose_280 : decode cX6_choose 280 = .ok (.lreturn, 1) := by decide +kernel
theorem dX6_bill_0 : decode cX6_bill 0 = .ok (.aload_n 0, 1) := by decide +kernel
theorem dX6_bill_1 : decode cX6_bill 1 = .ok (.invokevirtual 223, 3) := by decide +kernel
theorem dX6_bill_4 : decode cX6_bill 4 = .ok (.lreturn, 1) := by decide +kernel
theorem dX6_margin_0 : decode cX6_margin 0 = .ok (.aload_n 0, 1) := by decide +kernel
theorem dX6_margin_1 : decode cX6_margin 1 = .ok (.iload_n 1, 1) := by decide +kernel
theorem dX6_margin_2 : decode cX6_margin 2 = .ok (.invokevirtual 211, 3) := by decide +kernel
theorem dX6_margin_5 : decode cX6_margin 5 = .ok (.ifCond .ne 5, 3) := by decide +kernel
theorem dX6_margin_8 : decode cX6_margin 8 = .ok (.iconst (-1), 1) := by decide +kernel
theorem dX6_margin_9 : decode cX6_margin 9 = .ok (.ireturn, 1) := by decide +kernel
theorem dX6_margin_10 : decode cX6_margin 10 = .ok (.aload_n 0, 1) := by decide +kernel
theorem dX6_margin_11 : decode cX6_margin 11 = .ok (.iload_n 1, 1) := by decide +kernel
theorem dX6_margin_12 : decode cX6_margin 12 = .ok (.aload_n 0, 1) := by decide +kernel
theorem dX6_margin_13 : decode cX6_margin 13 = .ok (.getfield 7, 3) := by decide +kernel
theorem dX6_margin_16 : decode cX6_margin 16 = .ok (.invokevirtual 214, 3) := by decide +kernel
theorem dX6_margin_19 : decode cX6_margin 19 = .ok (.lconst 0, 1) := by decide +kernel
theorem dX6_margin_20 : decode cX6_margin 20 = .ok (.lcmp, 1) := by decide +kernel
theorem dX6_margin_21 : decode cX6_margin 21 = .ok (.ifCond .ge 6, 3) := by decide +kernel
theorem dX6_margin_24 : decode cX6_margin 24 = .ok (.bipush (-5), 2) := by decide +kernel
theorem dX6_margin_26 : decode cX6_margin 26 = .ok (.ireturn, 1) := by decide +kernel
theorem dX6_margin_27 : decode cX6_margin 27 = .ok (.iconst 1, 1) := by decide +kernel
theorem dX6_margin_28 : decode cX6_margin 28 = .ok (.istore_n 2, 1) := by decide +kernel
theorem dX6_margin_29 : decode cX6_margin 29 = .ok (.iload_n 2, 1) := by decide +kernel
theorem dX6_margin_30 : decode cX6_margin 30 = .ok (.bipush 100, 2) := by decide +kernel
theorem dX6_margin_32 : decode cX6_margin 32 = .ok (.if_icmp .gt 44, 3) := by decide +kernel
theorem dX6_margin_35 : decode cX6_margin 35 = .ok (.aload_n 0, 1) := by decide +kernel
theorem dX6_margin_36 : decode cX6_margin 36 = .ok (.getfield 7, 3) := by decide +kernel
theorem dX6_margin_39 : decode cX6_margin 39 = .ok (.bipush 100, 2) := by decide +kernel
theorem dX6_margin_41 : decode cX6_margin 41 = .ok (.iload_n 2, 1) := by decide +kernel
theorem dX6_margin_42 : decode cX6_margin 42 = .ok (.isub, 1) := by decide +kernel
theorem dX6_margin_43 : decode cX6_margin 43 = .ok (.imul, 1) := by decide +kernel
theorem dX6_margin_44 : decode cX6_margin 44 = .ok (.bipush 100, 2) := by decide +kernel
theorem dX6_margin_46 : decode cX6_margin 46 = .ok (.idiv, 1) := by decide +kernel
theorem dX6_margin_47 : decode cX6_margin 47 = .ok (.istore_n 3, 1) := by decide +kernel
theorem dX6_margin_48 : decode cX6_margin 48 = .ok (.aload_n 0, 1) := by decide +kernel
theorem dX6_margin_49 : decode cX6_margin 49 = .ok (.iload_n 1, 1) := by decide +kernel
theorem dX6_margin_50 : decode cX6_margin 50 = .ok (.iload_n 3, 1) := by decide +kernel
theorem dX6_margin_51 : decode cX6_margin 51 = .ok (.iconst 1, 1) := by decide +kernel
theorem dX6_margin_52 : decode cX6_margin 52 = .ok (.if_icmp .ge 7, 3) := by decide +kernel
theorem dX6_margin_55 : decode cX6_margin 55 = .ok (.iconst 1, 1) := by decide +kernel
theorem dX6_margin_56 : decode cX6_margin 56 = .ok (.goto 4, 3) := by decide +kernel
theorem dX6_margin_59 : decode cX6_margin 59 = .ok (.iload_n 3, 1) := by decide +kernel
theorem dX6_margin_60 : decode cX6_margin 60 = .ok (.invokevirtual 214, 3) := by decide +kernel
theorem dX6_margin_63 : decode cX6_margin 63 = .ok (.lconst 0, 1) := by decide +kernel
theorem dX6_margin_64 : decode cX6_margin 64 = .ok (.lcmp, 1) := by decide +kernel
theorem dX6_margin_65 : decode cX6_margin 65 = .ok (.ifCond .ge 5, 3) := by decide +kernel
theorem dX6_margin_68 : decode cX6_margin 68 = .ok (.iload_n 2, 1) := by decide +kernel
theorem dX6_margin_69 : decode cX6_margin 69 = .ok (.ireturn, 1) := by decide +kernel
theorem dX6_margin_70 : decode cX6_margin 70 = .ok (.iinc 2 1, 3) := by decide +kernel
theorem dX6_margin_73 : decode cX6_margin 73 = .ok (.goto (-44), 3) := by decide +kernel
theorem dX6_margin_76 : decode cX6_margin 76 = .ok (.bipush (-6), 2) := by decide +kernel
theorem dX6_margin_78 : decode cX6_margin 78 = .ok (.ireturn, 1) := by decide +kernel
theorem dX6_isCell_0 : decode cX6_isCell 0 = .ok (.iload_n 1, 1) := by decide +kernel
theorem dX6_isCell_1 : decode cX6_isCell 1 = .ok (.i2l, 1) := by decide +kernel
theorem dX6_isCell_2 : decode cX6_isCell 2 = .ok (.lconst 0, 1) := by decide +kernel
theorem dX6_isCell_3 : decode cX6_isCell 3 = .ok (.aload_n 0, 1) := by decide +kernel
theorem dX6_isCell_4 : decode cX6_isCell 4 = .ok (.getfield 88, 3) := by decide +kernel
theorem dX6_isCell_7 : decode cX6_isCell 7 = .ok (.iconst 1, 1) := by decide +kernel
theorem dX6_isCell_8 : decode cX6_isCell 8 = .ok (.isub, 1) := by decide +kernel
theorem dX6_isCell_9 : decode cX6_isCell 9 = .ok (.i2l, 1) := by decide +kernel
theorem dX6_isCell_10 : decode cX6_isCell 10 = .ok (.invokestatic 112, 3) := by decide +kernel
theorem dX6_isCell_13 : decode cX6_isCell 13 = .ok (.ifCond .eq 23, 3) := by decide +kernel
theorem dX6_isCell_16 : decode cX6_isCell 16 = .ok (.iload_n 2, 1) := by decide +kernel
theorem dX6_isCell_17 : decode cX6_isCell 17 = .ok (.i2l, 1) := by decide +kernel
theorem dX6_isCell_18 : decode cX6_isCell 18 = .ok (.lconst 0, 1) := by decide +kernel
theorem dX6_isCell_19 : decode cX6_isCell 19 = .ok (.aload_n 0, 1) := by decide +kernel
theorem dX6_isCell_20 : decode cX6_isCell 20 = .ok (.getfield 91, 3) := by decide +kernel
theorem dX6_isCell_23 : decode cX6_isCell 23 = .ok (.iconst 1, 1) := by decide +kernel
theorem dX6_isCell_24 : decode cX6_isCell 24 = .ok (.isub, 1) := by decide +kernel
theorem dX6_isCell_25 : decode cX6_isCell 25 = .ok (.i2l, 1) := by decide +kernel
theorem dX6_isCell_26 : decode cX6_isCell 26 = .ok (.invokestatic 112, 3) := by decide +kernel
theorem dX6_isCell_29 : decode cX6_isCell 29 = .ok (.ifCond .eq 7, 3) := by decide +kernel
theorem dX6_isCell_32 : decode cX6_isCell 32 = .ok (.iconst 1, 1) := by decide +kernel
theorem dX6_isCell_33 : decode cX6_isCell 33 = .ok (.goto 4, 3) := by decide +kernel
theorem dX6_isCell_36 : decode cX6_isCell 36 = .ok (.iconst 0, 1) := by decide +kernel
theorem dX6_isCell_37 : decode cX6_isCell 37 = .ok (.ireturn, 1) := by decide +kernel
theorem dX6_floor_0 : decode cX6_floor 0 = .ok (.iload_n 1, 1) := by decide +kernel
theorem dX6_floor_1 : decode cX6_floor 1 = .ok (.i2l, 1) := by decide +kernel
theorem dX6_floor_2 : decode cX6_floor 2 = .ok (.ldc2_w 233, 3) := by decide +kernel
theorem dX6_floor_5 : decode cX6_floor 5 = .ok (.ldc2_w 235, 3) := by decide +kernel
theorem dX6_floor_8 : decode cX6_floor 8 = .ok (.invokestatic 112, 3) := by decide +kernel
theorem dX6_floor_11 : decode cX6_floor 11 = .ok (.ifCond .eq 17, 3) := by decide +kernel
theorem dX6_floor_14 : decode cX6_floor 14 = .ok (.iload_n 2, 1) := by decide +kernel
theorem dX6_floor_15 : decode cX6_floor 15 = .ok (.i2l, 1) := by decide +kernel
theorem dX6_floor_16 : decode cX6_floor 16 = .ok (.ldc2_w 233, 3) := by decide +kernel
theorem dX6_floor_19 : decode cX6_floor 19 = .ok (.ldc2_w 235, 3) := by decide +kernel
theorem dX6_floor_22 : decode cX6_floor 22 = .ok (.invokestatic 112, 3) := by decide +kernel
theorem dX6_floor_25 : decode cX6_floor 25 = .ok (.ifCond .ne 6, 3) := by decide +kernel
theorem dX6_floor_28 : decode cX6_floor 28 = .ok (.bipush (-2), 2) := by decide +kernel
theorem dX6_floor_30 : decode cX6_floor 30 = .ok (.ireturn, 1) := by decide +kernel
theorem dX6_floor_31 : decode cX6_floor 31 = .ok (.aload_n 0, 1) := by decide +kernel
theorem dX6_floor_32 : decode cX6_floor 32 = .ok (.iload_n 1, 1) := by decide +kernel
theorem dX6_floor_33 : decode cX6_floor 33 = .ok (.putfield 88, 3) := by decide +kernel
theorem dX6_floor_36 : decode cX6_floor 36 = .ok (.aload_n 0, 1) := by decide +kernel
theorem dX6_floor_37 : decode cX6_floor 37 = .ok (.iload_n 2, 1) := by decide +kernel
theorem dX6_floor_38 : decode cX6_floor 38 = .ok (.putfield 91, 3) := by decide +kernel
theorem dX6_floor_41 : decode cX6_floor 41 = .ok (.iconst 0, 1) := by decide +kernel
theorem dX6_floor_42 : decode cX6_floor 42 = .ok (.istore_n 3, 1) := by decide +kernel
theorem dX6_floor_43 : decode cX6_floor 43 = .ok (.iload_n 3, 1) := by decide +kernel
theorem dX6_floor_44 : decode cX6_floor 44 = .ok (.sipush 256, 3) := by decide +kernel
theorem dX6_floor_47 : decode cX6_floor 47 = .ok (.if_icmp .ge 16, 3) := by decide +kernel
theorem dX6_floor_50 : decode cX6_floor 50 = .ok (.aload_n 0, 1) := by decide +kernel
theorem dX6_floor_51 : decode cX6_floor 51 = .ok (.getfield 94, 3) := by decide +kernel
theorem dX6_floor_54 : decode cX6_floor 54 = .ok (.iload_n 3, 1) := by decide +kernel
theorem dX6_floor_55 : decode cX6_floor 55 = .ok (.iconst 0, 1) := by decide +kernel
theorem dX6_floor_56 : decode cX6_floor 56 = .ok (.iastore, 1) := by decide +kernel
theorem dX6_floor_57 : decode cX6_floor 57 = .ok (.iinc 3 1, 3) := by decide +kernel
theorem dX6_floor_60 : decode cX6_floor 60 = .ok (.goto (-17), 3) := by decide +kernel
theorem dX6_floor_63 : decode cX6_floor 63 = .ok (.iconst 0, 1) := by decide +kernel
theorem dX6_floor_64 : decode cX6_floor 64 = .ok (.istore_n 3, 1) := by decide +kernel
theorem dX6_floor_65 : decode cX6_floor 65 = .ok (.iload_n 3, 1) := by decide +kernel
theorem dX6_floor_66 : decode cX6_floor 66 = .ok (.bipush 24, 2) := by decide +kernel
theorem dX6_floor_68 : decode cX6_floor 68 = .ok (.if_icmp .ge 16, 3) := by decide +kernel
theorem dX6_floor_71 : decode cX6_floor 71 = .ok (.aload_n 0, 1) := by decide +kernel
theorem dX6_floor_72 : decode cX6_floor 72 = .ok (.getfield 97, 3) := by decide +kernel
theorem dX6_floor_75 : decode cX6_floor 75 = .ok (.iload_n 3, 1) := by decide +kernel
theorem dX6_floor_76 : decode cX6_floor 76 = .ok (.iconst 0, 1) := by decide +kernel
theorem dX6_floor_77 : decode cX6_floor 77 = .ok (.bastore, 1) := by decide +kernel
theorem dX6_floor_78 : decode cX6_floor 78 = .ok (.iinc 3 1, 3) := by decide +kernel
theorem dX6_floor_81 : decode cX6_floor 81 = .ok (.goto (-16), 3) := by decide +kernel
theorem dX6_floor_84 : decode cX6_floor 84 = .ok (.iload_n 1, 1) := by decide +kernel
theorem dX6_floor_85 : decode cX6_floor 85 = .ok (.iload_n 2, 1) := by decide +kernel
theorem dX6_floor_86 : decode cX6_floor 86 = .ok (.imul, 1) := by decide +kernel
theorem dX6_floor_87 : decode cX6_floor 87 = .ok (.ireturn, 1) := by decide +kernel
theorem dX6_standsAt_0 : decode cX6_standsAt 0 = .ok (.iconst 0, 1) := by decide +kernel
theorem dX6_standsAt_1 : decode cX6_standsAt 1 = .ok (.istore_n 3, 1) := by decide +kernel
theorem dX6_standsAt_2 : decode cX6_standsAt 2 = .ok (.iload_n 3, 1) := by decide +kernel
theorem dX6_standsAt_3 : decode cX6_standsAt 3 = .ok (.aload_n 0, 1) := by decide +kernel
theorem dX6_standsAt_4 : decode cX6_standsAt 4 = .ok (.getfield 109, 3) := by decide +kernel
theorem dX6_standsAt_7 : decode cX6_standsAt 7 = .ok (.if_icmp .ge 40, 3) := by decide +kernel
theorem dX6_standsAt_10 : decode cX6_standsAt 10 = .ok (.aload_n 0, 1) := by decide +kernel
theorem dX6_standsAt_11 : decode cX6_standsAt 11 = .ok (.getfield 97, 3) := by decide +kernel
theorem dX6_standsAt_14 : decode cX6_standsAt 14 = .ok (.iload_n 3, 1) := by decide +kernel
theorem dX6_standsAt_15 : decode cX6_standsAt 15 = .ok (.baload, 1) := by decide +kernel
theorem dX6_standsAt_16 : decode cX6_standsAt 16 = .ok (.ifCond .eq 25, 3) := by decide +kernel
theorem dX6_standsAt_19 : decode cX6_standsAt 19 = .ok (.aload_n 0, 1) := by decide +kernel
theorem dX6_standsAt_20 : decode cX6_standsAt 20 = .ok (.getfield 100, 3) := by decide +kernel
theorem dX6_standsAt_23 : decode cX6_standsAt 23 = .ok (.iload_n 3, 1) := by decide +kernel
theorem dX6_standsAt_24 : decode cX6_standsAt 24 = .ok (.iaload, 1) := by decide +kernel
theorem dX6_standsAt_25 : decode cX6_standsAt 25 = .ok (.iload_n 1, 1) := by decide +kernel
theorem dX6_standsAt_26 : decode cX6_standsAt 26 = .ok (.if_icmp .ne 15, 3) := by decide +kernel
theorem dX6_standsAt_29 : decode cX6_standsAt 29 = .ok (.aload_n 0, 1) := by decide +kernel
theorem dX6_standsAt_30 : decode cX6_standsAt 30 = .ok (.getfield 103, 3) := by decide +kernel
theorem dX6_standsAt_33 : decode cX6_standsAt 33 = .ok (.iload_n 3, 1) := by decide +kernel
theorem dX6_standsAt_34 : decode cX6_standsAt 34 = .ok (.iaload, 1) := by decide +kernel
theorem dX6_standsAt_35 : decode cX6_standsAt 35 = .ok (.iload_n 2, 1) := by decide +kernel
theorem dX6_standsAt_36 : decode cX6_standsAt 36 = .ok (.if_icmp .ne 5, 3) := by decide +kernel
theorem dX6_standsAt_39 : decode cX6_standsAt 39 = .ok (.iload_n 3, 1) := by decide +kernel
theorem dX6_standsAt_40 : decode cX6_standsAt 40 = .ok (.ireturn, 1) := by decide +kernel
theorem dX6_standsAt_41 : decode cX6_standsAt 41 = .ok (.iinc 3 1, 3) := by decide +kernel
theorem dX6_standsAt_44 : decode cX6_standsAt 44 = .ok (.goto (-42), 3) := by decide +kernel
theorem dX6_standsAt_47 : decode cX6_standsAt 47 = .ok (.bipush (-6), 2) := by decide +kernel
theorem dX6_standsAt_49 : decode cX6_standsAt 49 = .ok (.ireturn, 1) := by decide +kernel
theorem dX6_cell_0 : decode cX6_cell 0 = .ok (.aload_n 0, 1) := by decide +kernel
theorem dX6_cell_1 : decode cX6_cell 1 = .ok (.iload_n 1, 1) := by decide +kernel
theorem dX6_cell_2 : decode cX6_cell 2 = .ok (.iload_n 2, 1) := by decide +kernel
theorem dX6_cell_3 : decode cX6_cell 3 = .ok (.invokevirtual 237, 3) := by decide +kernel
theorem dX6_cell_6 : decode cX6_cell 6 = .ok (.ifCond .ne 5, 3) := by decide +kernel
theorem dX6_cell_9 : decode cX6_cell 9 = .ok (.iconst (-1), 1) := by decide +kernel
theorem dX6_cell_10 : decode cX6_cell 10 = .ok (.ireturn, 1) := by decide +kernel
theorem dX6_cell_11 : decode cX6_cell 11 = .ok (.iload_n 3, 1) := by decide +kernel
theorem dX6_cell_12 : decode cX6_cell 12 = .ok (.i2l, 1) := by decide +kernel
theorem dX6_cell_13 : decode cX6_cell 13 = .ok (.lconst 0, 1) := by decide +kernel
theorem dX6_cell_14 : decode cX6_cell 14 = .ok (.ldc2_w 233, 3) := by decide +kernel
theorem dX6_cell_17 : decode cX6_cell 17 = .ok (.invokestatic 112, 3) := by decide +kernel
theorem dX6_cell_20 : decode cX6_cell 20 = .ok (.ifCond .ne 6, 3) := by decide +kernel
theorem dX6_cell_23 : decode cX6_cell 23 = .ok (.bipush (-2), 2) := by decide +kernel
theorem dX6_cell_25 : decode cX6_cell 25 = .ok (.ireturn, 1) := by decide +kernel
theorem dX6_cell_26 : decode cX6_cell 26 = .ok (.aload_n 0, 1) := by decide +kernel
theorem dX6_cell_27 : decode cX6_cell 27 = .ok (.iload_n 1, 1) := by decide +kernel
theorem dX6_cell_28 : decode cX6_cell 28 = .ok (.iload_n 2, 1) := by decide +kernel
theorem dX6_cell_29 : decode cX6_cell 29 = .ok (.invokevirtual 241, 3) := by decide +kernel
theorem dX6_cell_32 : decode cX6_cell 32 = .ok (.ifCond .lt 6, 3) := by decide +kernel
theorem dX6_cell_35 : decode cX6_cell 35 = .ok (.bipush (-3), 2) := by decide +kernel
theorem dX6_cell_37 : decode cX6_cell 37 = .ok (.ireturn, 1) := by decide +kernel
theorem dX6_cell_38 : decode cX6_cell 38 = .ok (.aload_n 0, 1) := by decide +kernel
theorem dX6_cell_39 : decode cX6_cell 39 = .ok (.getfield 94, 3) := by decide +kernel
theorem dX6_cell_42 : decode cX6_cell 42 = .ok (.bipush 16, 2) := by decide +kernel
theorem dX6_cell_44 : decode cX6_cell 44 = .ok (.iload_n 1, 1) := by decide +kernel
theorem dX6_cell_45 : decode cX6_cell 45 = .ok (.imul, 1) := by decide +kernel
theorem dX6_cell_46 : decode cX6_cell 46 = .ok (.iload_n 2, 1) := by decide +kernel
theorem dX6_cell_47 : decode cX6_cell 47 = .ok (.iadd, 1) := by decide +kernel
theorem dX6_cell_48 : decode cX6_cell 48 = .ok (.iaload, 1) := by decide +kernel
theorem dX6_cell_49 : decode cX6_cell 49 = .ok (.istore 4, 2) := by decide +kernel
theorem dX6_cell_51 : decode cX6_cell 51 = .ok (.aload_n 0, 1) := by decide +kernel
theorem dX6_cell_52 : decode cX6_cell 52 = .ok (.getfield 94, 3) := by decide +kernel
theorem dX6_cell_55 : decode cX6_cell 55 = .ok (.bipush 16, 2) := by decide +kernel
theorem dX6_cell_57 : decode cX6_cell 57 = .ok (.iload_n 1, 1) := by decide +kernel
theorem dX6_cell_58 : decode cX6_cell 58 = .ok (.imul, 1) := by decide +kernel
theorem dX6_cell_59 : decode cX6_cell 59 = .ok (.iload_n 2, 1) := by decide +kernel
theorem dX6_cell_60 : decode cX6_cell 60 = .ok (.iadd, 1) := by decide +kernel
theorem dX6_cell_61 : decode cX6_cell 61 = .ok (.iload_n 3, 1) := by decide +kernel
theorem dX6_cell_62 : decode cX6_cell 62 = .ok (.iastore, 1) := by decide +kernel
theorem dX6_cell_63 : decode cX6_cell 63 = .ok (.iload 4, 2) := by decide +kernel
theorem dX6_cell_65 : decode cX6_cell 65 = .ok (.ireturn, 1) := by decide +kernel
theorem dX6_stand_0 : decode cX6_stand 0 = .ok (.aload_n 0, 1) := by decide +kernel
theorem dX6_stand_1 : decode cX6_stand 1 = .ok (.iload_n 1, 1) := by decide +kernel
theorem dX6_stand_2 : decode cX6_stand 2 = .ok (.invokevirtual 140, 3) := by decide +kernel
theorem dX6_stand_5 : decode cX6_stand 5 = .ok (.ifCond .eq 12, 3) := by decide +kernel
theorem dX6_stand_8 : decode cX6_stand 8 = .ok (.aload_n 0, 1) := by decide +kernel
theorem dX6_stand_9 : decode cX6_stand 9 = .ok (.iload_n 2, 1) := by decide +kernel
theorem dX6_stand_10 : decode cX6_stand 10 = .ok (.iload_n 3, 1) := by decide +kernel
theorem dX6_stand_11 : decode cX6_stand 11 = .ok (.invokevirtual 237, 3) := by decide +kernel
theorem dX6_stand_14 : decode cX6_stand 14 = .ok (.ifCond .ne 5, 3) := by decide +kernel
theorem dX6_stand_17 : decode cX6_stand 17 = .ok (.iconst (-1), 1) := by decide +kernel
theorem dX6_stand_18 : decode cX6_stand 18 = .ok (.ireturn, 1) := by decide +kernel
theorem dX6_stand_19 : decode cX6_stand 19 = .ok (.iload 4, 2) := by decide +kernel
theorem dX6_stand_21 : decode cX6_stand 21 = .ok (.i2l, 1) := by decide +kernel
theorem dX6_stand_22 : decode cX6_stand 22 = .ok (.lconst 1, 1) := by decide +kernel
theorem dX6_stand_23 : decode cX6_stand 23 = .ok (.ldc2_w 245, 3) := by decide +kernel
theorem dX6_stand_26 : decode cX6_stand 26 = .ok (.invokestatic 112, 3) := by decide +kernel
theorem dX6_stand_29 : decode cX6_stand 29 = .ok (.ifCond .ne 6, 3) := by decide +kernel
theorem dX6_stand_32 : decode cX6_stand 32 = .ok (.bipush (-2), 2) := by decide +kernel
theorem dX6_stand_34 : decode cX6_stand 34 = .ok (.ireturn, 1) := by decide +kernel
theorem dX6_stand_35 : decode cX6_stand 35 = .ok (.aload_n 0, 1) := by decide +kernel
theorem dX6_stand_36 : decode cX6_stand 36 = .ok (.iload_n 2, 1) := by decide +kernel
theorem dX6_stand_37 : decode cX6_stand 37 = .ok (.iload_n 3, 1) := by decide +kernel
theorem dX6_stand_38 : decode cX6_stand 38 = .ok (.invokevirtual 241, 3) := by decide +kernel
theorem dX6_stand_41 : decode cX6_stand 41 = .ok (.istore 5, 2) := by decide +kernel
theorem dX6_stand_43 : decode cX6_stand 43 = .ok (.aload_n 0, 1) := by decide +kernel
theorem dX6_stand_44 : decode cX6_stand 44 = .ok (.getfield 94, 3) := by decide +kernel
theorem dX6_stand_47 : decode cX6_stand 47 = .ok (.bipush 16, 2) := by decide +kernel
theorem dX6_stand_49 : decode cX6_stand 49 = .ok (.iload_n 2, 1) := by decide +kernel
theorem dX6_stand_50 : decode cX6_stand 50 = .ok (.imul, 1) := by decide +kernel
theorem dX6_stand_51 : decode cX6_stand 51 = .ok (.iload_n 3, 1) := by decide +kernel
theorem dX6_stand_52 : decode cX6_stand 52 = .ok (.iadd, 1) := by decide +kernel
theorem dX6_stand_53 : decode cX6_stand 53 = .ok (.iaload, 1) := by decide +kernel
theorem dX6_stand_54 : decode cX6_stand 54 = .ok (.ifCond .ne 14, 3) := by decide +kernel
theorem dX6_stand_57 : decode cX6_stand 57 = .ok (.iload 5, 2) := by decide +kernel
theorem dX6_stand_59 : decode cX6_stand 59 = .ok (.ifCond .lt 12, 3) := by decide +kernel
theorem dX6_stand_62 : decode cX6_stand 62 = .ok (.iload 5, 2) := by decide +kernel
theorem dX6_stand_64 : decode cX6_stand 64 = .ok (.iload_n 1, 1) := by decide +kernel
theorem dX6_stand_65 : decode cX6_stand 65 = .ok (.if_icmp .eq 6, 3) := by decide +kernel
theorem dX6_stand_68 : decode cX6_stand 68 = .ok (.bipush (-5), 2) := by decide +kernel
theorem dX6_stand_70 : decode cX6_stand 70 = .ok (.ireturn, 1) := by decide +kernel
theorem dX6_stand_71 : decode cX6_stand 71 = .ok (.aload_n 0, 1) := by decide +kernel
theorem dX6_stand_72 : decode cX6_stand 72 = .ok (.getfield 97, 3) := by decide +kernel
theorem dX6_stand_75 : decode cX6_stand 75 = .ok (.iload_n 1, 1) := by decide +kernel
theorem dX6_stand_76 : decode cX6_stand 76 = .ok (.iconst 1, 1) := by decide +kernel
theorem dX6_stand_77 : decode cX6_stand 77 = .ok (.bastore, 1) := by decide +kernel
theorem dX6_stand_78 : decode cX6_stand 78 = .ok (.aload_n 0, 1) := by decide +kernel
theorem dX6_stand_79 : decode cX6_stand 79 = .ok (.getfield 100, 3) := by decide +kernel
theorem dX6_stand_82 : decode cX6_stand 82 = .ok (.iload_n 1, 1) := by decide +kernel
theorem dX6_stand_83 : decode cX6_stand 83 = .ok (.iload_n 2, 1) := by decide +kernel
theorem dX6_stand_84 : decode cX6_stand 84 = .ok (.iastore, 1) := by decide +kernel
theorem dX6_stand_85 : decode cX6_stand 85 = .ok (.aload_n 0, 1) := by decide +kernel
theorem dX6_stand_86 : decode cX6_stand 86 = .ok (.getfield 103, 3) := by decide +kernel
theorem dX6_stand_89 : decode cX6_stand 89 = .ok (.iload_n 1, 1) := by decide +kernel
theorem dX6_stand_90 : decode cX6_stand 90 = .ok (.iload_n 3, 1) := by decide +kernel
theorem dX6_stand_91 : decode cX6_stand 91 = .ok (.iastore, 1) := by decide +kernel
theorem dX6_stand_92 : decode cX6_stand 92 = .ok (.aload_n 0, 1) := by decide +kernel
theorem dX6_stand_93 : decode cX6_stand 93 = .ok (.getfield 106, 3) := by decide +kernel
theorem dX6_stand_96 : decode cX6_stand 96 = .ok (.iload_n 1, 1) := by decide +kernel
theorem dX6_stand_97 : decode cX6_stand 97 = .ok (.iload 4, 2) := by decide +kernel
theorem dX6_stand_99 : decode cX6_stand 99 = .ok (.iastore, 1) := by decide +kernel
theorem dX6_stand_100 : decode cX6_stand 100 = .ok (.iconst 1, 1) := by decide +kernel
theorem dX6_stand_101 : decode cX6_stand 101 = .ok (.ireturn, 1) := by decide +kernel
theorem dX6_lift_0 : decode cX6_lift 0 = .ok (.aload_n 0, 1) := by decide +kernel
theorem dX6_lift_1 : decode cX6_lift 1 = .ok (.iload_n 1, 1) := by decide +kernel
theorem dX6_lift_2 : decode cX6_lift 2 = .ok (.invokevirtual 140, 3) := by decide +kernel
theorem dX6_lift_5 : decode cX6_lift 5 = .ok (.ifCond .ne 5, 3) := by decide +kernel
theorem dX6_lift_8 : decode cX6_lift 8 = .ok (.iconst (-1), 1) := by decide +kernel
theorem dX6_lift_9 : decode cX6_lift 9 = .ok (.ireturn, 1) := by decide +kernel
theorem dX6_lift_10 : decode cX6_lift 10 = .ok (.aload_n 0, 1) := by decide +kernel
theorem dX6_lift_11 : decode cX6_lift 11 = .ok (.getfield 97, 3) := by decide +kernel
theorem dX6_lift_14 : decode cX6_lift 14 = .ok (.iload_n 1, 1) := by decide +kernel
theorem dX6_lift_15 : decode cX6_lift 15 = .ok (.baload, 1) := by decide +kernel
theorem dX6_lift_16 : decode cX6_lift 16 = .ok (.invokestatic 200, 3) := by decide +kernel
theorem dX6_lift_19 : decode cX6_lift 19 = .ok (.istore_n 2, 1) := by decide +kernel
theorem dX6_lift_20 : decode cX6_lift 20 = .ok (.aload_n 0, 1) := by decide +kernel
theorem dX6_lift_21 : decode cX6_lift 21 = .ok (.getfield 97, 3) := by decide +kernel
theorem dX6_lift_24 : decode cX6_lift 24 = .ok (.iload_n 1, 1) := by decide +kernel
theorem dX6_lift_25 : decode cX6_lift 25 = .ok (.iconst 0, 1) := by decide +kernel
theorem dX6_lift_26 : decode cX6_lift 26 = .ok (.bastore, 1) := by decide +kernel
theorem dX6_lift_27 : decode cX6_lift 27 = .ok (.iload_n 2, 1) := by decide +kernel
theorem dX6_lift_28 : decode cX6_lift 28 = .ok (.ireturn, 1) := by decide +kernel
theorem dX6_square_0 : decode cX6_square 0 = .ok (.iload_n 0, 1) := by decide +kernel
theorem dX6_square_1 : decode cX6_square 1 = .ok (.iload_n 0, 1) := by decide +kernel
theorem dX6_square_2 : decode cX6_square 2 = .ok (.imul, 1) := by decide +kernel
theorem dX6_square_3 : decode cX6_square 3 = .ok (.iload_n 1, 1) := by decide +kernel
theorem dX6_square_4 : decode cX6_square 4 = .ok (.iload_n 1, 1) := by decide +kernel
theorem dX6_square_5 : decode cX6_square 5 = .ok (.imul, 1) := by decide +kernel
theorem dX6_square_6 : decode cX6_square 6 = .ok (.iadd, 1) := by decide +kernel
theorem dX6_square_7 : decode cX6_square 7 = .ok (.ireturn, 1) := by decide +kernel
theorem dX6_side_0 : decode cX6_side 0 = .ok (.iload_n 2, 1) := by decide +kernel
theorem dX6_side_1 : decode cX6_side 1 = .ok (.iload_n 0, 1) := by decide +kernel
theorem dX6_side_2 : decode cX6_side 2 = .ok (.isub, 1) := by decide +kernel
theorem dX6_side_3 : decode cX6_side 3 = .ok (.iconst 2, 1) := by decide +kernel
theorem dX6_side_4 : decode cX6_side 4 = .ok (.iload 5, 2) := by decide +kernel
theorem dX6_side_6 : decode cX6_side 6 = .ok (.imul, 1) := by decide +kernel
theorem dX6_side_7 : decode cX6_side 7 = .ok (.iconst 2, 1) := by decide +kernel
theorem dX6_side_8 : decode cX6_side 8 = .ok (.iload_n 1, 1) := by decide +kernel
theorem dX6_side_9 : decode cX6_side 9 = .ok (.imul, 1) := by decide +kernel
theorem dX6_side_10 : decode cX6_side 10 = .ok (.isub, 1) := by decide +kernel
theorem dX6_side_11 : decode cX6_side 11 = .ok (.iconst 1, 1) := by decide +kernel
theorem dX6_side_12 : decode cX6_side 12 = .ok (.isub, 1) := by decide +kernel
theorem dX6_side_13 : decode cX6_side 13 = .ok (.imul, 1) := by decide +kernel
theorem dX6_side_14 : decode cX6_side 14 = .ok (.iload_n 3, 1) := by decide +kernel
theorem dX6_side_15 : decode cX6_side 15 = .ok (.iload_n 1, 1) := by decide +kernel
theorem dX6_side_16 : decode cX6_side 16 = .ok (.isub, 1) := by decide +kernel
theorem dX6_side_17 : decode cX6_side 17 = .ok (.iconst 2, 1) := by decide +kernel
theorem dX6_side_18 : decode cX6_side 18 = .ok (.iload 4, 2) := by decide +kernel
theorem dX6_side_20 : decode cX6_side 20 = .ok (.imul, 1) := by decide +kernel
theorem dX6_side_21 : decode cX6_side 21 = .ok (.iconst 2, 1) := by decide +kernel
theorem dX6_side_22 : decode cX6_side 22 = .ok (.iload_n 0, 1) := by decide +kernel
theorem dX6_side_23 : decode cX6_side 23 = .ok (.imul, 1) := by decide +kernel
theorem dX6_side_24 : decode cX6_side 24 = .ok (.isub, 1) := by decide +kernel
theorem dX6_side_25 : decode cX6_side 25 = .ok (.iconst 1, 1) := by decide +kernel
theorem dX6_side_26 : decode cX6_side 26 = .ok (.isub, 1) := by decide +kernel
theorem dX6_side_27 : decode cX6_side 27 = .ok (.imul, 1) := by decide +kernel
theorem dX6_side_28 : decode cX6_side 28 = .ok (.isub, 1) := by decide +kernel
theorem dX6_side_29 : decode cX6_side 29 = .ok (.istore 6, 2) := by decide +kernel
theorem dX6_side_31 : decode cX6_side 31 = .ok (.iload 6, 2) := by decide +kernel
theorem dX6_side_33 : decode cX6_side 33 = .ok (.ifCond .ge 7, 3) := by decide +kernel
theorem dX6_side_36 : decode cX6_side 36 = .ok (.iconst (-1), 1) := by decide +kernel
theorem dX6_side_37 : decode cX6_side 37 = .ok (.goto 13, 3) := by decide +kernel
theorem dX6_side_40 : decode cX6_side 40 = .ok (.iload 6, 2) := by decide +kernel
theorem dX6_side_42 : decode cX6_side 42 = .ok (.ifCond .le 7, 3) := by decide +kernel
theorem dX6_side_45 : decode cX6_side 45 = .ok (.iconst 1, 1) := by decide +kernel
theorem dX6_side_46 : decode cX6_side 46 = .ok (.goto 4, 3) := by decide +kernel
theorem dX6_side_49 : decode cX6_side 49 = .ok (.iconst 0, 1) := by decide +kernel
theorem dX6_side_50 : decode cX6_side 50 = .ok (.ireturn, 1) := by decide +kernel
theorem dX6_goesThrough_0 : decode cX6_goesThrough 0 = .ok (.iload_n 0, 1) := by decide +kernel
theorem dX6_goesThrough_1 : decode cX6_goesThrough 1 = .ok (.iload_n 1, 1) := by decide +kernel
theorem dX6_goesThrough_2 : decode cX6_goesThrough 2 = .ok (.iload_n 2, 1) := by decide +kernel
theorem dX6_goesThrough_3 : decode cX6_goesThrough 3 = .ok (.iload_n 3, 1) := by decide +kernel
theorem dX6_goesThrough_4 : decode cX6_goesThrough 4 = .ok (.iload 4, 2) := by decide +kernel
theorem dX6_goesThrough_6 : decode cX6_goesThrough 6 = .ok (.iload 5, 2) := by decide +kernel
theorem dX6_goesThrough_8 : decode cX6_goesThrough 8 = .ok (.invokestatic 247, 3) := by decide +kernel
theorem dX6_goesThrough_11 : decode cX6_goesThrough 11 = .ok (.istore 6, 2) := by decide +kernel
theorem dX6_goesThrough_13 : decode cX6_goesThrough 13 = .ok (.iload_n 0, 1) := by decide +kernel
theorem dX6_goesThrough_14 : decode cX6_goesThrough 14 = .ok (.iload_n 1, 1) := by decide +kernel
theorem dX6_goesThrough_15 : decode cX6_goesThrough 15 = .ok (.iload_n 2, 1) := by decide +kernel
theorem dX6_goesThrough_16 : decode cX6_goesThrough 16 = .ok (.iload_n 3, 1) := by decide +kernel
theorem dX6_goesThrough_17 : decode cX6_goesThrough 17 = .ok (.iload 4, 2) := by decide +kernel
theorem dX6_goesThrough_19 : decode cX6_goesThrough 19 = .ok (.iconst 1, 1) := by decide +kernel
theorem dX6_goesThrough_20 : decode cX6_goesThrough 20 = .ok (.iadd, 1) := by decide +kernel
theorem dX6_goesThrough_21 : decode cX6_goesThrough 21 = .ok (.iload 5, 2) := by decide +kernel
theorem dX6_goesThrough_23 : decode cX6_goesThrough 23 = .ok (.invokestatic 247, 3) := by decide +kernel
theorem dX6_goesThrough_26 : decode cX6_goesThrough 26 = .ok (.istore 7, 2) := by decide +kernel
theorem dX6_goesThrough_28 : decode cX6_goesThrough 28 = .ok (.iload_n 0, 1) := by decide +kernel
theorem dX6_goesThrough_29 : decode cX6_goesThrough 29 = .ok (.iload_n 1, 1) := by decide +kernel
theorem dX6_goesThrough_30 : decode cX6_goesThrough 30 = .ok (.iload_n 2, 1) := by decide +kernel
theorem dX6_goesThrough_31 : decode cX6_goesThrough 31 = .ok (.iload_n 3, 1) := by decide +kernel
theorem dX6_goesThrough_32 : decode cX6_goesThrough 32 = .ok (.iload 4, 2) := by decide +kernel
theorem dX6_goesThrough_34 : decode cX6_goesThrough 34 = .ok (.iload 5, 2) := by decide +kernel
theorem dX6_goesThrough_36 : decode cX6_goesThrough 36 = .ok (.iconst 1, 1) := by decide +kernel
theorem dX6_goesThrough_37 : decode cX6_goesThrough 37 = .ok (.iadd, 1) := by decide +kernel
theorem dX6_goesThrough_38 : decode cX6_goesThrough 38 = .ok (.invokestatic 247, 3) := by decide +kernel
theorem dX6_goesThrough_41 : decode cX6_goesThrough 41 = .ok (.istore 8, 2) := by decide +kernel
theorem dX6_goesThrough_43 : decode cX6_goesThrough 43 = .ok (.iload_n 0, 1) := by decide +kernel
theorem dX6_goesThrough_44 : decode cX6_goesThrough 44 = .ok (.iload_n 1, 1) := by decide +kernel
theorem dX6_goesThrough_45 : decode cX6_goesThrough 45 = .ok (.iload_n 2, 1) := by decide +kernel
theorem dX6_goesThrough_46 : decode cX6_goesThrough 46 = .ok (.iload_n 3, 1) := by decide +kernel
theorem dX6_goesThrough_47 : decode cX6_goesThrough 47 = .ok (.iload 4, 2) := by decide +kernel
theorem dX6_goesThrough_49 : decode cX6_goesThrough 49 = .ok (.iconst 1, 1) := by decide +kernel
theorem dX6_goesThrough_50 : decode cX6_goesThrough 50 = .ok (.iadd, 1) := by decide +kernel
theorem dX6_goesThrough_51 : decode cX6_goesThrough 51 = .ok (.iload 5, 2) := by decide +kernel
theorem dX6_goesThrough_53 : decode cX6_goesThrough 53 = .ok (.iconst 1, 1) := by decide +kernel
theorem dX6_goesThrough_54 : decode cX6_goesThrough 54 = .ok (.iadd, 1) := by decide +kernel
theorem dX6_goesThrough_55 : decode cX6_goesThrough 55 = .ok (.invokestatic 247, 3) := by decide +kernel
theorem dX6_goesThrough_58 : decode cX6_goesThrough 58 = .ok (.istore 9, 2) := by decide +kernel
theorem dX6_goesThrough_60 : decode cX6_goesThrough 60 = .ok (.iload 6, 2) := by decide +kernel
theorem dX6_goesThrough_62 : decode cX6_goesThrough 62 = .ok (.ifCond .lt 18, 3) := by decide +kernel
theorem dX6_goesThrough_65 : decode cX6_goesThrough 65 = .ok (.iload 7, 2) := by decide +kernel
theorem dX6_goesThrough_67 : decode cX6_goesThrough 67 = .ok (.ifCond .lt 13, 3) := by decide +kernel
theorem dX6_goesThrough_70 : decode cX6_goesThrough 70 = .ok (.iload 8, 2) := by decide +kernel
theorem dX6_goesThrough_72 : decode cX6_goesThrough 72 = .ok (.ifCond .lt 8, 3) := by decide +kernel
theorem dX6_goesThrough_75 : decode cX6_goesThrough 75 = .ok (.iload 9, 2) := by decide +kernel
theorem dX6_goesThrough_77 : decode cX6_goesThrough 77 = .ok (.ifCond .ge 7, 3) := by decide +kernel
theorem dX6_goesThrough_80 : decode cX6_goesThrough 80 = .ok (.iconst 1, 1) := by decide +kernel
theorem dX6_goesThrough_81 : decode cX6_goesThrough 81 = .ok (.goto 4, 3) := by decide +kernel
theorem dX6_goesThrough_84 : decode cX6_goesThrough 84 = .ok (.iconst 0, 1) := by decide +kernel
theorem dX6_goesThrough_85 : decode cX6_goesThrough 85 = .ok (.istore 10, 2) := by decide +kernel
theorem dX6_goesThrough_87 : decode cX6_goesThrough 87 = .ok (.iload 6, 2) := by decide +kernel
theorem dX6_goesThrough_89 : decode cX6_goesThrough 89 = .ok (.ifCond .gt 18, 3) := by decide +kernel
theorem dX6_goesThrough_92 : decode cX6_goesThrough 92 = .ok (.iload 7, 2) := by decide +kernel
theorem dX6_goesThrough_94 : decode cX6_goesThrough 94 = .ok (.ifCond .gt 13, 3) := by decide +kernel
theorem dX6_goesThrough_97 : decode cX6_goesThrough 97 = .ok (.iload 8, 2) := by decide +kernel
theorem dX6_goesThrough_99 : decode cX6_goesThrough 99 = .ok (.ifCond .gt 8, 3) := by decide +kernel
theorem dX6_goesThrough_102 : decode cX6_goesThrough 102 = .ok (.iload 9, 2) := by decide +kernel
theorem dX6_goesThrough_104 : decode cX6_goesThrough 104 = .ok (.ifCond .le 7, 3) := by decide +kernel
theorem dX6_goesThrough_107 : decode cX6_goesThrough 107 = .ok (.iconst 1, 1) := by decide +kernel
theorem dX6_goesThrough_108 : decode cX6_goesThrough 108 = .ok (.goto 4, 3) := by decide +kernel
theorem dX6_goesThrough_111 : decode cX6_goesThrough 111 = .ok (.iconst 0, 1) := by decide +kernel
theorem dX6_goesThrough_112 : decode cX6_goesThrough 112 = .ok (.istore 11, 2) := by decide +kernel
theorem dX6_goesThrough_114 : decode cX6_goesThrough 114 = .ok (.iload 10, 2) := by decide +kernel
theorem dX6_goesThrough_116 : decode cX6_goesThrough 116 = .ok (.ifCond .eq 12, 3) := by decide +kernel
theorem dX6_goesThrough_119 : decode cX6_goesThrough 119 = .ok (.iload 11, 2) := by decide +kernel
theorem dX6_goesThrough_121 : decode cX6_goesThrough 121 = .ok (.ifCond .eq 7, 3) := by decide +kernel
theorem dX6_goesThrough_124 : decode cX6_goesThrough 124 = .ok (.iconst 1, 1) := by decide +kernel
theorem dX6_goesThrough_125 : decode cX6_goesThrough 125 = .ok (.goto 4, 3) := by decide +kernel
theorem dX6_goesThrough_128 : decode cX6_goesThrough 128 = .ok (.iconst 0, 1) := by decide +kernel
theorem dX6_goesThrough_129 : decode cX6_goesThrough 129 = .ok (.ireturn, 1) := by decide +kernel
theorem dX6_wetsCell_0 : decode cX6_wetsCell 0 = .ok (.aload_n 0, 1) := by decide +kernel
theorem dX6_wetsCell_1 : decode cX6_wetsCell 1 = .ok (.getfield 100, 3) := by decide +kernel
theorem dX6_wetsCell_4 : decode cX6_wetsCell 4 = .ok (.iload_n 1, 1) := by decide +kernel
theorem dX6_wetsCell_5 : decode cX6_wetsCell 5 = .ok (.iaload, 1) := by decide +kernel
theorem dX6_wetsCell_6 : decode cX6_wetsCell 6 = .ok (.istore 4, 2) := by decide +kernel
theorem dX6_wetsCell_8 : decode cX6_wetsCell 8 = .ok (.aload_n 0, 1) := by decide +kernel
theorem dX6_wetsCell_9 : decode cX6_wetsCell 9 = .ok (.getfield 103, 3) := by decide +kernel
theorem dX6_wetsCell_12 : decode cX6_wetsCell 12 = .ok (.iload_n 1, 1) := by decide +kernel
theorem dX6_wetsCell_13 : decode cX6_wetsCell 13 = .ok (.iaload, 1) := by decide +kernel
theorem dX6_wetsCell_14 : decode cX6_wetsCell 14 = .ok (.istore 5, 2) := by decide +kernel
theorem dX6_wetsCell_16 : decode cX6_wetsCell 16 = .ok (.aload_n 0, 1) := by decide +kernel
theorem dX6_wetsCell_17 : decode cX6_wetsCell 17 = .ok (.getfield 94, 3) := by decide +kernel
theorem dX6_wetsCell_20 : decode cX6_wetsCell 20 = .ok (.bipush 16, 2) := by decide +kernel
theorem dX6_wetsCell_22 : decode cX6_wetsCell 22 = .ok (.iload_n 2, 1) := by decide +kernel
theorem dX6_wetsCell_23 : decode cX6_wetsCell 23 = .ok (.imul, 1) := by decide +kernel
theorem dX6_wetsCell_24 : decode cX6_wetsCell 24 = .ok (.iload_n 3, 1) := by decide +kernel
theorem dX6_wetsCell_25 : decode cX6_wetsCell 25 = .ok (.iadd, 1) := by decide +kernel
theorem dX6_wetsCell_26 : decode cX6_wetsCell 26 = .ok (.iaload, 1) := by decide +kernel
theorem dX6_wetsCell_27 : decode cX6_wetsCell 27 = .ok (.ifCond .ne 30, 3) := by decide +kernel
theorem dX6_wetsCell_30 : decode cX6_wetsCell 30 = .ok (.iload_n 2, 1) := by decide +kernel
theorem dX6_wetsCell_31 : decode cX6_wetsCell 31 = .ok (.iload 4, 2) := by decide +kernel
theorem dX6_wetsCell_33 : decode cX6_wetsCell 33 = .ok (.isub, 1) := by decide +kernel
theorem dX6_wetsCell_34 : decode cX6_wetsCell 34 = .ok (.iload_n 3, 1) := by decide +kernel
theorem dX6_wetsCell_35 : decode cX6_wetsCell 35 = .ok (.iload 5, 2) := by decide +kernel
theorem dX6_wetsCell_37 : decode cX6_wetsCell 37 = .ok (.isub, 1) := by decide +kernel
theorem dX6_wetsCell_38 : decode cX6_wetsCell 38 = .ok (.invokestatic 251, 3) := by decide +kernel
theorem dX6_wetsCell_41 : decode cX6_wetsCell 41 = .ok (.aload_n 0, 1) := by decide +kernel
theorem dX6_wetsCell_42 : decode cX6_wetsCell 42 = .ok (.getfield 106, 3) := by decide +kernel
theorem dX6_wetsCell_45 : decode cX6_wetsCell 45 = .ok (.iload_n 1, 1) := by decide +kernel
theorem dX6_wetsCell_46 : decode cX6_wetsCell 46 = .ok (.iaload, 1) := by decide +kernel
theorem dX6_wetsCell_47 : decode cX6_wetsCell 47 = .ok (.aload_n 0, 1) := by decide +kernel
theorem dX6_wetsCell_48 : decode cX6_wetsCell 48 = .ok (.getfield 106, 3) := by decide +kernel
theorem dX6_wetsCell_51 : decode cX6_wetsCell 51 = .ok (.iload_n 1, 1) := by decide +kernel
theorem dX6_wetsCell_52 : decode cX6_wetsCell 52 = .ok (.iaload, 1) := by decide +kernel
theorem dX6_wetsCell_53 : decode cX6_wetsCell 53 = .ok (.imul, 1) := by decide +kernel
theorem dX6_wetsCell_54 : decode cX6_wetsCell 54 = .ok (.if_icmp .le 5, 3) := by decide +kernel
theorem dX6_wetsCell_57 : decode cX6_wetsCell 57 = .ok (.iconst 0, 1) := by decide +kernel
theorem dX6_wetsCell_58 : decode cX6_wetsCell 58 = .ok (.ireturn, 1) := by decide +kernel
theorem dX6_wetsCell_59 : decode cX6_wetsCell 59 = .ok (.iconst 1, 1) := by decide +kernel
theorem dX6_wetsCell_60 : decode cX6_wetsCell 60 = .ok (.istore 6, 2) := by decide +kernel
theorem dX6_wetsCell_62 : decode cX6_wetsCell 62 = .ok (.iload_n 2, 1) := by decide +kernel
theorem dX6_wetsCell_63 : decode cX6_wetsCell 63 = .ok (.iload 4, 2) := by decide +kernel
theorem dX6_wetsCell_65 : decode cX6_wetsCell 65 = .ok (.if_icmp .ge 7, 3) := by decide +kernel
theorem dX6_wetsCell_68 : decode cX6_wetsCell 68 = .ok (.iload_n 2, 1) := by decide +kernel
theorem dX6_wetsCell_69 : decode cX6_wetsCell 69 = .ok (.goto 5, 3) := by decide +kernel
theorem dX6_wetsCell_72 : decode cX6_wetsCell 72 = .ok (.iload 4, 2) := by decide +kernel
theorem dX6_wetsCell_74 : decode cX6_wetsCell 74 = .ok (.istore 7, 2) := by decide +kernel
theorem dX6_wetsCell_76 : decode cX6_wetsCell 76 = .ok (.iload 7, 2) := by decide +kernel
theorem dX6_wetsCell_78 : decode cX6_wetsCell 78 = .ok (.iload_n 2, 1) := by decide +kernel
theorem dX6_wetsCell_79 : decode cX6_wetsCell 79 = .ok (.iload 4, 2) := by decide +kernel
theorem dX6_wetsCell_81 : decode cX6_wetsCell 81 = .ok (.if_icmp .ge 8, 3) := by decide +kernel
theorem dX6_wetsCell_84 : decode cX6_wetsCell 84 = .ok (.iload 4, 2) := by decide +kernel
theorem dX6_wetsCell_86 : decode cX6_wetsCell 86 = .ok (.goto 4, 3) := by decide +kernel
theorem dX6_wetsCell_89 : decode cX6_wetsCell 89 = .ok (.iload_n 2, 1) := by decide +kernel
theorem dX6_wetsCell_90 : decode cX6_wetsCell 90 = .ok (.if_icmp .gt 91, 3) := by decide +kernel
theorem dX6_wetsCell_93 : decode cX6_wetsCell 93 = .ok (.iload_n 3, 1) := by decide +kernel
theorem dX6_wetsCell_94 : decode cX6_wetsCell 94 = .ok (.iload 5, 2) := by decide +kernel
theorem dX6_wetsCell_96 : decode cX6_wetsCell 96 = .ok (.if_icmp .ge 7, 3) := by decide +kernel
theorem dX6_wetsCell_99 : decode cX6_wetsCell 99 = .ok (.iload_n 3, 1) := by decide +kernel
theorem dX6_wetsCell_100 : decode cX6_wetsCell 100 = .ok (.goto 5, 3) := by decide +kernel
theorem dX6_wetsCell_103 : decode cX6_wetsCell 103 = .ok (.iload 5, 2) := by decide +kernel
theorem dX6_wetsCell_105 : decode cX6_wetsCell 105 = .ok (.istore 8, 2) := by decide +kernel
theorem dX6_wetsCell_107 : decode cX6_wetsCell 107 = .ok (.iload 8, 2) := by decide +kernel
theorem dX6_wetsCell_109 : decode cX6_wetsCell 109 = .ok (.iload_n 3, 1) := by decide +kernel
theorem dX6_wetsCell_110 : decode cX6_wetsCell 110 = .ok (.iload 5, 2) := by decide +kernel
theorem dX6_wetsCell_112 : decode cX6_wetsCell 112 = .ok (.if_icmp .ge 8, 3) := by decide +kernel
theorem dX6_wetsCell_115 : decode cX6_wetsCell 115 = .ok (.iload 5, 2) := by decide +kernel
theorem dX6_wetsCell_117 : decode cX6_wetsCell 117 = .ok (.goto 4, 3) := by decide +kernel
theorem dX6_wetsCell_120 : decode cX6_wetsCell 120 = .ok (.iload_n 3, 1) := by decide +kernel
theorem dX6_wetsCell_121 : decode cX6_wetsCell 121 = .ok (.if_icmp .gt 54, 3) := by decide +kernel
theorem dX6_wetsCell_124 : decode cX6_wetsCell 124 = .ok (.iload 6, 2) := by decide +kernel
theorem dX6_wetsCell_126 : decode cX6_wetsCell 126 = .ok (.ifCond .eq 40, 3) := by decide +kernel
theorem dX6_wetsCell_129 : decode cX6_wetsCell 129 = .ok (.aload_n 0, 1) := by decide +kernel
theorem dX6_wetsCell_130 : decode cX6_wetsCell 130 = .ok (.getfield 94, 3) := by decide +kernel
theorem dX6_wetsCell_133 : decode cX6_wetsCell 133 = .ok (.bipush 16, 2) := by decide +kernel
theorem dX6_wetsCell_135 : decode cX6_wetsCell 135 = .ok (.iload 7, 2) := by decide +kernel
theorem dX6_wetsCell_137 : decode cX6_wetsCell 137 = .ok (.imul, 1) := by decide +kernel
theorem dX6_wetsCell_138 : decode cX6_wetsCell 138 = .ok (.iload 8, 2) := by decide +kernel
theorem dX6_wetsCell_140 : decode cX6_wetsCell 140 = .ok (.iadd, 1) := by decide +kernel
theorem dX6_wetsCell_141 : decode cX6_wetsCell 141 = .ok (.iaload, 1) := by decide +kernel
theorem dX6_wetsCell_142 : decode cX6_wetsCell 142 = .ok (.iconst 1, 1) := by decide +kernel
theorem dX6_wetsCell_143 : decode cX6_wetsCell 143 = .ok (.if_icmp .ne 19, 3) := by decide +kernel
theorem dX6_wetsCell_146 : decode cX6_wetsCell 146 = .ok (.iload 4, 2) := by decide +kernel
theorem dX6_wetsCell_148 : decode cX6_wetsCell 148 = .ok (.iload 5, 2) := by decide +kernel
theorem dX6_wetsCell_150 : decode cX6_wetsCell 150 = .ok (.iload_n 2, 1) := by decide +kernel
theorem dX6_wetsCell_151 : decode cX6_wetsCell 151 = .ok (.iload_n 3, 1) := by decide +kernel
theorem dX6_wetsCell_152 : decode cX6_wetsCell 152 = .ok (.iload 7, 2) := by decide +kernel
theorem dX6_wetsCell_154 : decode cX6_wetsCell 154 = .ok (.iload 8, 2) := by decide +kernel
theorem dX6_wetsCell_156 : decode cX6_wetsCell 156 = .ok (.invokestatic 254, 3) := by decide +kernel
theorem dX6_wetsCell_159 : decode cX6_wetsCell 159 = .ok (.ifCond .ne 7, 3) := by decide +kernel
theorem dX6_wetsCell_162 : decode cX6_wetsCell 162 = .ok (.iconst 1, 1) := by decide +kernel
theorem dX6_wetsCell_163 : decode cX6_wetsCell 163 = .ok (.goto 4, 3) := by decide +kernel
theorem dX6_wetsCell_166 : decode cX6_wetsCell 166 = .ok (.iconst 0, 1) := by decide +kernel
theorem dX6_wetsCell_167 : decode cX6_wetsCell 167 = .ok (.istore 6, 2) := by decide +kernel
theorem dX6_wetsCell_169 : decode cX6_wetsCell 169 = .ok (.iinc 8 1, 3) := by decide +kernel
theorem dX6_wetsCell_172 : decode cX6_wetsCell 172 = .ok (.goto (-65), 3) := by decide +kernel
theorem dX6_wetsCell_175 : decode cX6_wetsCell 175 = .ok (.iinc 7 1, 3) := by decide +kernel
theorem dX6_wetsCell_178 : decode cX6_wetsCell 178 = .ok (.goto (-102), 3) := by decide +kernel
theorem dX6_wetsCell_181 : decode cX6_wetsCell 181 = .ok (.iload 6, 2) := by decide +kernel
theorem dX6_wetsCell_183 : decode cX6_wetsCell 183 = .ok (.ireturn, 1) := by decide +kernel
theorem dX6_wets_0 : decode cX6_wets 0 = .ok (.aload_n 0, 1) := by decide +kernel
theorem dX6_wets_1 : decode cX6_wets 1 = .ok (.iload_n 1, 1) := by decide +kernel
theorem dX6_wets_2 : decode cX6_wets 2 = .ok (.invokevirtual 140, 3) := by decide +kernel
theorem dX6_wets_5 : decode cX6_wets 5 = .ok (.ifCond .eq 12, 3) := by decide +kernel
theorem dX6_wets_8 : decode cX6_wets 8 = .ok (.aload_n 0, 1) := by decide +kernel
theorem dX6_wets_9 : decode cX6_wets 9 = .ok (.iload_n 2, 1) := by decide +kernel
theorem dX6_wets_10 : decode cX6_wets 10 = .ok (.iload_n 3, 1) := by decide +kernel
theorem dX6_wets_11 : decode cX6_wets 11 = .ok (.invokevirtual 237, 3) := by decide +kernel
theorem dX6_wets_14 : decode cX6_wets 14 = .ok (.ifCond .ne 5, 3) := by decide +kernel
theorem dX6_wets_17 : decode cX6_wets 17 = .ok (.iconst (-1), 1) := by decide +kernel
theorem dX6_wets_18 : decode cX6_wets 18 = .ok (.ireturn, 1) := by decide +kernel
theorem dX6_wets_19 : decode cX6_wets 19 = .ok (.aload_n 0, 1) := by decide +kernel
theorem dX6_wets_20 : decode cX6_wets 20 = .ok (.getfield 97, 3) := by decide +kernel
theorem dX6_wets_23 : decode cX6_wets 23 = .ok (.iload_n 1, 1) := by decide +kernel
theorem dX6_wets_24 : decode cX6_wets 24 = .ok (.baload, 1) := by decide +kernel
theorem dX6_wets_25 : decode cX6_wets 25 = .ok (.ifCond .ne 8, 3) := by decide +kernel
theorem dX6_wets_28 : decode cX6_wets 28 = .ok (.bipush (-3), 2) := by decide +kernel
theorem dX6_wets_30 : decode cX6_wets 30 = .ok (.goto 13, 3) := by decide +kernel
theorem dX6_wets_33 : decode cX6_wets 33 = .ok (.aload_n 0, 1) := by decide +kernel
theorem dX6_wets_34 : decode cX6_wets 34 = .ok (.iload_n 1, 1) := by decide +kernel
theorem dX6_wets_35 : decode cX6_wets 35 = .ok (.iload_n 2, 1) := by decide +kernel
theorem dX6_wets_36 : decode cX6_wets 36 = .ok (.iload_n 3, 1) := by decide +kernel
theorem dX6_wets_37 : decode cX6_wets 37 = .ok (.invokevirtual 258, 3) := by decide +kernel
theorem dX6_wets_40 : decode cX6_wets 40 = .ok (.invokestatic 200, 3) := by decide +kernel
theorem dX6_wets_43 : decode cX6_wets 43 = .ok (.ireturn, 1) := by decide +kernel
theorem dX6_dry_0 : decode cX6_dry 0 = .ok (.iconst 0, 1) := by decide +kernel
theorem dX6_dry_1 : decode cX6_dry 1 = .ok (.istore_n 2, 1) := by decide +kernel
theorem dX6_dry_2 : decode cX6_dry 2 = .ok (.iconst 0, 1) := by decide +kernel
theorem dX6_dry_3 : decode cX6_dry 3 = .ok (.istore_n 3, 1) := by decide +kernel
theorem dX6_dry_4 : decode cX6_dry 4 = .ok (.iload_n 3, 1) := by decide +kernel
theorem dX6_dry_5 : decode cX6_dry 5 = .ok (.aload_n 0, 1) := by decide +kernel
theorem dX6_dry_6 : decode cX6_dry 6 = .ok (.getfield 88, 3) := by decide +kernel
theorem dX6_dry_9 : decode cX6_dry 9 = .ok (.if_icmp .ge 122, 3) := by decide +kernel
theorem dX6_dry_12 : decode cX6_dry 12 = .ok (.iconst 0, 1) := by decide +kernel
theorem dX6_dry_13 : decode cX6_dry 13 = .ok (.istore 4, 2) := by decide +kernel
theorem dX6_dry_15 : decode cX6_dry 15 = .ok (.iload 4, 2) := by decide +kernel
theorem dX6_dry_17 : decode cX6_dry 17 = .ok (.aload_n 0, 1) := by decide +kernel
theorem dX6_dry_18 : decode cX6_dry 18 = .ok (.getfield 91, 3) := by decide +kernel
theorem dX6_dry_21 : decode cX6_dry 21 = .ok (.if_icmp .ge 104, 3) := by decide +kernel
theorem dX6_dry_24 : decode cX6_dry 24 = .ok (.aload_n 0, 1) := by decide +kernel
theorem dX6_dry_25 : decode cX6_dry 25 = .ok (.getfield 94, 3) := by decide +kernel
theorem dX6_dry_28 : decode cX6_dry 28 = .ok (.bipush 16, 2) := by decide +kernel
theorem dX6_dry_30 : decode cX6_dry 30 = .ok (.iload_n 3, 1) := by decide +kernel
theorem dX6_dry_31 : decode cX6_dry 31 = .ok (.imul, 1) := by decide +kernel
theorem dX6_dry_32 : decode cX6_dry 32 = .ok (.iload 4, 2) := by decide +kernel
theorem dX6_dry_34 : decode cX6_dry 34 = .ok (.iadd, 1) := by decide +kernel
theorem dX6_dry_35 : decode cX6_dry 35 = .ok (.iaload, 1) := by decide +kernel
theorem dX6_dry_36 : decode cX6_dry 36 = .ok (.ifCond .ne 7, 3) := by decide +kernel
theorem dX6_dry_39 : decode cX6_dry 39 = .ok (.iconst 1, 1) := by decide +kernel
theorem dX6_dry_40 : decode cX6_dry 40 = .ok (.goto 4, 3) := by decide +kernel
theorem dX6_dry_43 : decode cX6_dry 43 = .ok (.iconst 0, 1) := by decide +kernel
theorem dX6_dry_44 : decode cX6_dry 44 = .ok (.istore 5, 2) := by decide +kernel
theorem dX6_dry_46 : decode cX6_dry 46 = .ok (.iconst 0, 1) := by decide +kernel
theorem dX6_dry_47 : decode cX6_dry 47 = .ok (.istore 6, 2) := by decide +kernel
theorem dX6_dry_49 : decode cX6_dry 49 = .ok (.iload 6, 2) := by decide +kernel
theorem dX6_dry_51 : decode cX6_dry 51 = .ok (.aload_n 0, 1) := by decide +kernel
theorem dX6_dry_52 : decode cX6_dry 52 = .ok (.getfield 109, 3) := by decide +kernel
theorem dX6_dry_55 : decode cX6_dry 55 = .ok (.if_icmp .ge 43, 3) := by decide +kernel
theorem dX6_dry_58 : decode cX6_dry 58 = .ok (.iload 5, 2) := by decide +kernel
theorem dX6_dry_60 : decode cX6_dry 60 = .ok (.ifCond .eq 38, 3) := by decide +kernel
theorem dX6_dry_63 : decode cX6_dry 63 = .ok (.aload_n 0, 1) := by decide +kernel
theorem dX6_dry_64 : decode cX6_dry 64 = .ok (.getfield 97, 3) := by decide +kernel
theorem dX6_dry_67 : decode cX6_dry 67 = .ok (.iload 6, 2) := by decide +kernel
theorem dX6_dry_69 : decode cX6_dry 69 = .ok (.baload, 1) := by decide +kernel
theorem dX6_dry_70 : decode cX6_dry 70 = .ok (.ifCond .eq 15, 3) := by decide +kernel
theorem dX6_dry_73 : decode cX6_dry 73 = .ok (.aload_n 0, 1) := by decide +kernel
theorem dX6_dry_74 : decode cX6_dry 74 = .ok (.iload 6, 2) := by decide +kernel
theorem dX6_dry_76 : decode cX6_dry 76 = .ok (.iload_n 3, 1) := by decide +kernel
theorem dX6_dry_77 : decode cX6_dry 77 = .ok (.iload 4, 2) := by decide +kernel
theorem dX6_dry_79 : decode cX6_dry 79 = .ok (.invokevirtual 258, 3) := by decide +kernel
theorem dX6_dry_82 : decode cX6_dry 82 = .ok (.ifCond .ne 7, 3) := by decide +kernel
theorem dX6_dry_85 : decode cX6_dry 85 = .ok (.iconst 1, 1) := by decide +kernel
theorem dX6_dry_86 : decode cX6_dry 86 = .ok (.goto 4, 3) := by decide +kernel
theorem dX6_dry_89 : decode cX6_dry 89 = .ok (.iconst 0, 1) := by decide +kernel
theorem dX6_dry_90 : decode cX6_dry 90 = .ok (.istore 5, 2) := by decide +kernel
theorem dX6_dry_92 : decode cX6_dry 92 = .ok (.iinc 6 1, 3) := by decide +kernel
theorem dX6_dry_95 : decode cX6_dry 95 = .ok (.goto (-46), 3) := by decide +kernel
theorem dX6_dry_98 : decode cX6_dry 98 = .ok (.iload 5, 2) := by decide +kernel
theorem dX6_dry_100 : decode cX6_dry 100 = .ok (.ifCond .eq 19, 3) := by decide +kernel
theorem dX6_dry_103 : decode cX6_dry 103 = .ok (.iload_n 2, 1) := by decide +kernel
theorem dX6_dry_104 : decode cX6_dry 104 = .ok (.iload_n 1, 1) := by decide +kernel
theorem dX6_dry_105 : decode cX6_dry 105 = .ok (.if_icmp .ne 11, 3) := by decide +kernel
theorem dX6_dry_108 : decode cX6_dry 108 = .ok (.bipush 16, 2) := by decide +kernel
theorem dX6_dry_110 : decode cX6_dry 110 = .ok (.iload_n 3, 1) := by decide +kernel
theorem dX6_dry_111 : decode cX6_dry 111 = .ok (.imul, 1) := by decide +kernel
theorem dX6_dry_112 : decode cX6_dry 112 = .ok (.iload 4, 2) := by decide +kernel
theorem dX6_dry_114 : decode cX6_dry 114 = .ok (.iadd, 1) := by decide +kernel
theorem dX6_dry_115 : decode cX6_dry 115 = .ok (.ireturn, 1) := by decide +kernel
theorem dX6_dry_116 : decode cX6_dry 116 = .ok (.iinc 2 1, 3) := by decide +kernel
theorem dX6_dry_119 : decode cX6_dry 119 = .ok (.iinc 4 1, 3) := by decide +kernel
theorem dX6_dry_122 : decode cX6_dry 122 = .ok (.goto (-107), 3) := by decide +kernel
theorem dX6_dry_125 : decode cX6_dry 125 = .ok (.iinc 3 1, 3) := by decide +kernel
theorem dX6_dry_128 : decode cX6_dry 128 = .ok (.goto (-124), 3) := by decide +kernel
theorem dX6_dry_131 : decode cX6_dry 131 = .ok (.iload_n 1, 1) := by decide +kernel
theorem dX6_dry_132 : decode cX6_dry 132 = .ok (.iconst (-1), 1) := by decide +kernel
theorem dX6_dry_133 : decode cX6_dry 133 = .ok (.if_icmp .ne 7, 3) := by decide +kernel
theorem dX6_dry_136 : decode cX6_dry 136 = .ok (.iload_n 2, 1) := by decide +kernel
theorem dX6_dry_137 : decode cX6_dry 137 = .ok (.goto 5, 3) := by decide +kernel
theorem dX6_dry_140 : decode cX6_dry 140 = .ok (.bipush (-6), 2) := by decide +kernel
theorem dX6_dry_142 : decode cX6_dry 142 = .ok (.ireturn, 1) := by decide +kernel
theorem dX6_near_0 : decode cX6_near 0 = .ok (.iload_n 1, 1) := by decide +kernel
theorem dX6_near_1 : decode cX6_near 1 = .ok (.i2l, 1) := by decide +kernel
theorem dX6_near_2 : decode cX6_near 2 = .ok (.lconst 1, 1) := by decide +kernel
theorem dX6_near_3 : decode cX6_near 3 = .ok (.ldc2_w 262, 3) := by decide +kernel
theorem dX6_near_6 : decode cX6_near 6 = .ok (.invokestatic 112, 3) := by decide +kernel
theorem dX6_near_9 : decode cX6_near 9 = .ok (.ifCond .ne 6, 3) := by decide +kernel
theorem dX6_near_12 : decode cX6_near 12 = .ok (.bipush (-2), 2) := by decide +kernel
theorem dX6_near_14 : decode cX6_near 14 = .ok (.ireturn, 1) := by decide +kernel
theorem dX6_near_15 : decode cX6_near 15 = .ok (.iconst 0, 1) := by decide +kernel
theorem dX6_near_16 : decode cX6_near 16 = .ok (.istore_n 2, 1) := by decide +kernel
theorem dX6_near_17 : decode cX6_near 17 = .ok (.iload_n 2, 1) := by decide +kernel
theorem dX6_near_18 : decode cX6_near 18 = .ok (.aload_n 0, 1) := by decide +kernel
theorem dX6_near_19 : decode cX6_near 19 = .ok (.getfield 109, 3) := by decide +kernel
theorem dX6_near_22 : decode cX6_near 22 = .ok (.if_icmp .ge 85, 3) := by decide +kernel
theorem dX6_near_25 : decode cX6_near 25 = .ok (.iconst 0, 1) := by decide +kernel
theorem dX6_near_26 : decode cX6_near 26 = .ok (.istore_n 3, 1) := by decide +kernel
theorem dX6_near_27 : decode cX6_near 27 = .ok (.iload_n 3, 1) := by decide +kernel
theorem dX6_near_28 : decode cX6_near 28 = .ok (.aload_n 0, 1) := by decide +kernel
theorem dX6_near_29 : decode cX6_near 29 = .ok (.getfield 109, 3) := by decide +kernel
theorem dX6_near_32 : decode cX6_near 32 = .ok (.if_icmp .ge 69, 3) := by decide +kernel
theorem dX6_near_35 : decode cX6_near 35 = .ok (.aload_n 0, 1) := by decide +kernel
theorem dX6_near_36 : decode cX6_near 36 = .ok (.getfield 97, 3) := by decide +kernel
theorem dX6_near_39 : decode cX6_near 39 = .ok (.iload_n 2, 1) := by decide +kernel
theorem dX6_near_40 : decode cX6_near 40 = .ok (.baload, 1) := by decide +kernel
theorem dX6_near_41 : decode cX6_near 41 = .ok (.ifCond .eq 60, 3) := by decide +kernel
theorem dX6_near_44 : decode cX6_near 44 = .ok (.iload_n 3, 1) := by decide +kernel
theorem dX6_near_45 : decode cX6_near 45 = .ok (.iload_n 2, 1) := by decide +kernel
theorem dX6_near_46 : decode cX6_near 46 = .ok (.if_icmp .eq 49, 3) := by decide +kernel
theorem dX6_near_49 : decode cX6_near 49 = .ok (.aload_n 0, 1) := by decide +kernel
theorem dX6_near_50 : decode cX6_near 50 = .ok (.getfield 97, 3) := by decide +kernel
theorem dX6_near_53 : decode cX6_near 53 = .ok (.iload_n 3, 1) := by decide +kernel
theorem dX6_near_54 : decode cX6_near 54 = .ok (.baload, 1) := by decide +kernel
theorem dX6_near_55 : decode cX6_near 55 = .ok (.ifCond .eq 40, 3) := by decide +kernel
theorem dX6_near_58 : decode cX6_near 58 = .ok (.aload_n 0, 1) := by decide +kernel
theorem dX6_near_59 : decode cX6_near 59 = .ok (.getfield 100, 3) := by decide +kernel
theorem dX6_near_62 : decode cX6_near 62 = .ok (.iload_n 2, 1) := by decide +kernel
theorem dX6_near_63 : decode cX6_near 63 = .ok (.iaload, 1) := by decide +kernel
theorem dX6_near_64 : decode cX6_near 64 = .ok (.aload_n 0, 1) := by decide +kernel
theorem dX6_near_65 : decode cX6_near 65 = .ok (.getfield 100, 3) := by decide +kernel
theorem dX6_near_68 : decode cX6_near 68 = .ok (.iload_n 3, 1) := by decide +kernel
theorem dX6_near_69 : decode cX6_near 69 = .ok (.iaload, 1) := by decide +kernel
theorem dX6_near_70 : decode cX6_near 70 = .ok (.isub, 1) := by decide +kernel
theorem dX6_near_71 : decode cX6_near 71 = .ok (.aload_n 0, 1) := by decide +kernel
theorem dX6_near_72 : decode cX6_near 72 = .ok (.getfield 103, 3) := by decide +kernel
theorem dX6_near_75 : decode cX6_near 75 = .ok (.iload_n 2, 1) := by decide +kernel
theorem dX6_near_76 : decode cX6_near 76 = .ok (.iaload, 1) := by decide +kernel
theorem dX6_near_77 : decode cX6_near 77 = .ok (.aload_n 0, 1) := by decide +kernel
theorem dX6_near_78 : decode cX6_near 78 = .ok (.getfield 103, 3) := by decide +kernel
theorem dX6_near_81 : decode cX6_near 81 = .ok (.iload_n 3, 1) := by decide +kernel
theorem dX6_near_82 : decode cX6_near 82 = .ok (.iaload, 1) := by decide +kernel
theorem dX6_near_83 : decode cX6_near 83 = .ok (.isub, 1) := by decide +kernel
theorem dX6_near_84 : decode cX6_near 84 = .ok (.invokestatic 251, 3) := by decide +kernel
theorem dX6_near_87 : decode cX6_near 87 = .ok (.iload_n 1, 1) := by decide +kernel
theorem dX6_near_88 : decode cX6_near 88 = .ok (.iload_n 1, 1) := by decide +kernel
theorem dX6_near_89 : decode cX6_near 89 = .ok (.imul, 1) := by decide +kernel
theorem dX6_near_90 : decode cX6_near 90 = .ok (.if_icmp .ge 5, 3) := by decide +kernel
theorem dX6_near_93 : decode cX6_near 93 = .ok (.iload_n 2, 1) := by decide +kernel
theorem dX6_near_94 : decode cX6_near 94 = .ok (.ireturn, 1) := by decide +kernel
theorem dX6_near_95 : decode cX6_near 95 = .ok (.iinc 3 1, 3) := by decide +kernel
theorem dX6_near_98 : decode cX6_near 98 = .ok (.goto (-71), 3) := by decide +kernel
theorem dX6_near_101 : decode cX6_near 101 = .ok (.iinc 2 1, 3) := by decide +kernel
theorem dX6_near_104 : decode cX6_near 104 = .ok (.goto (-87), 3) := by decide +kernel
theorem dX6_near_107 : decode cX6_near 107 = .ok (.bipush (-6), 2) := by decide +kernel
theorem dX6_near_109 : decode cX6_near 109 = .ok (.ireturn, 1) := by decide +kernel
theorem dX6_told_0 : decode cX6_told 0 = .ok (.iconst 0, 1) := by decide +kernel
theorem dX6_told_1 : decode cX6_told 1 = .ok (.istore_n 2, 1) := by decide +kernel
theorem dX6_told_2 : decode cX6_told 2 = .ok (.iconst 0, 1) := by decide +kernel
theorem dX6_told_3 : decode cX6_told 3 = .ok (.istore_n 3, 1) := by decide +kernel
theorem dX6_told_4 : decode cX6_told 4 = .ok (.iconst 0, 1) := by decide +kernel
theorem dX6_told_5 : decode cX6_told 5 = .ok (.istore 4, 2) := by decide +kernel
theorem dX6_told_7 : decode cX6_told 7 = .ok (.iconst 0, 1) := by decide +kernel
theorem dX6_told_8 : decode cX6_told 8 = .ok (.istore 5, 2) := by decide +kernel
theorem dX6_told_10 : decode cX6_told 10 = .ok (.iload 5, 2) := by decide +kernel
theorem dX6_told_12 : decode cX6_told 12 = .ok (.aload_n 0, 1) := by decide +kernel
theorem dX6_told_13 : decode cX6_told 13 = .ok (.getfield 109, 3) := by decide +kernel
theorem dX6_told_16 : decode cX6_told 16 = .ok (.if_icmp .ge 68, 3) := by decide +kernel
theorem dX6_told_19 : decode cX6_told 19 = .ok (.iload_n 2, 1) := by decide +kernel
theorem dX6_told_20 : decode cX6_told 20 = .ok (.aload_n 0, 1) := by decide +kernel
theorem dX6_told_21 : decode cX6_told 21 = .ok (.getfield 39, 3) := by decide +kernel
theorem dX6_told_24 : decode cX6_told 24 = .ok (.iload 5, 2) := by decide +kernel
theorem dX6_told_26 : decode cX6_told 26 = .ok (.baload, 1) := by decide +kernel
theorem dX6_told_27 : decode cX6_told 27 = .ok (.invokestatic 200, 3) := by decide +kernel
theorem dX6_told_30 : decode cX6_told 30 = .ok (.iadd, 1) := by decide +kernel
theorem dX6_told_31 : decode cX6_told 31 = .ok (.istore_n 2, 1) := by decide +kernel
theorem dX6_told_32 : decode cX6_told 32 = .ok (.iload_n 3, 1) := by decide +kernel
theorem dX6_told_33 : decode cX6_told 33 = .ok (.aload_n 0, 1) := by decide +kernel
theorem dX6_told_34 : decode cX6_told 34 = .ok (.getfield 39, 3) := by decide +kernel
theorem dX6_told_37 : decode cX6_told 37 = .ok (.iload 5, 2) := by decide +kernel
theorem dX6_told_39 : decode cX6_told 39 = .ok (.baload, 1) := by decide +kernel
theorem dX6_told_40 : decode cX6_told 40 = .ok (.ifCond .eq 17, 3) := by decide +kernel
theorem dX6_told_43 : decode cX6_told 43 = .ok (.aload_n 0, 1) := by decide +kernel
theorem dX6_told_44 : decode cX6_told 44 = .ok (.getfield 48, 3) := by decide +kernel
theorem dX6_told_47 : decode cX6_told 47 = .ok (.iload 5, 2) := by decide +kernel
theorem dX6_told_49 : decode cX6_told 49 = .ok (.baload, 1) := by decide +kernel
theorem dX6_told_50 : decode cX6_told 50 = .ok (.ifCond .eq 7, 3) := by decide +kernel
theorem dX6_told_53 : decode cX6_told 53 = .ok (.iconst 1, 1) := by decide +kernel
theorem dX6_told_54 : decode cX6_told 54 = .ok (.goto 4, 3) := by decide +kernel
theorem dX6_told_57 : decode cX6_told 57 = .ok (.iconst 0, 1) := by decide +kernel
theorem dX6_told_58 : decode cX6_told 58 = .ok (.invokestatic 200, 3) := by decide +kernel
theorem dX6_told_61 : decode cX6_told 61 = .ok (.iadd, 1) := by decide +kernel
theorem dX6_told_62 : decode cX6_told 62 = .ok (.istore_n 3, 1) := by decide +kernel
theorem dX6_told_63 : decode cX6_told 63 = .ok (.iload 4, 2) := by decide +kernel
theorem dX6_told_65 : decode cX6_told 65 = .ok (.aload_n 0, 1) := by decide +kernel
theorem dX6_told_66 : decode cX6_told 66 = .ok (.getfield 97, 3) := by decide +kernel
theorem dX6_told_69 : decode cX6_told 69 = .ok (.iload 5, 2) := by decide +kernel
theorem dX6_told_71 : decode cX6_told 71 = .ok (.baload, 1) := by decide +kernel
theorem dX6_told_72 : decode cX6_told 72 = .ok (.invokestatic 200, 3) := by decide +kernel
theorem dX6_told_75 : decode cX6_told 75 = .ok (.iadd, 1) := by decide +kernel
theorem dX6_told_76 : decode cX6_told 76 = .ok (.istore 4, 2) := by decide +kernel
theorem dX6_told_78 : decode cX6_told 78 = .ok (.iinc 5 1, 3) := by decide +kernel
theorem dX6_told_81 : decode cX6_told 81 = .ok (.goto (-71), 3) := by decide +kernel
theorem dX6_told_84 : decode cX6_told 84 = .ok (.iconst 0, 1) := by decide +kernel
theorem dX6_told_85 : decode cX6_told 85 = .ok (.istore 5, 2) := by decide +kernel
theorem dX6_told_87 : decode cX6_told 87 = .ok (.iconst 0, 1) := by decide +kernel
theorem dX6_told_88 : decode cX6_told 88 = .ok (.istore 6, 2) := by decide +kernel
theorem dX6_told_90 : decode cX6_told 90 = .ok (.iload 6, 2) := by decide +kernel
theorem dX6_told_92 : decode cX6_told 92 = .ok (.sipush 256, 3) := by decide +kernel
theorem dX6_told_95 : decode cX6_told 95 = .ok (.if_icmp .ge 46, 3) := by decide +kernel
theorem dX6_told_98 : decode cX6_told 98 = .ok (.iload 5, 2) := by decide +kernel
theorem dX6_told_100 : decode cX6_told 100 = .ok (.aload_n 0, 1) := by decide +kernel
theorem dX6_told_101 : decode cX6_told 101 = .ok (.iload 6, 2) := by decide +kernel
theorem dX6_told_103 : decode cX6_told 103 = .ok (.bipush 16, 2) := by decide +kernel
theorem dX6_told_105 : decode cX6_told 105 = .ok (.idiv, 1) := by decide +kernel
theorem dX6_told_106 : decode cX6_told 106 = .ok (.iload 6, 2) := by decide +kernel
theorem dX6_told_108 : decode cX6_told 108 = .ok (.bipush 16, 2) := by decide +kernel
theorem dX6_told_110 : decode cX6_told 110 = .ok (.irem, 1) := by decide +kernel
theorem dX6_told_111 : decode cX6_told 111 = .ok (.invokevirtual 237, 3) := by decide +kernel
theorem dX6_told_114 : decode cX6_told 114 = .ok (.ifCond .eq 17, 3) := by decide +kernel
theorem dX6_told_117 : decode cX6_told 117 = .ok (.aload_n 0, 1) := by decide +kernel
theorem dX6_told_118 : decode cX6_told 118 = .ok (.getfield 94, 3) := by decide +kernel
theorem dX6_told_121 : decode cX6_told 121 = .ok (.iload 6, 2) := by decide +kernel
theorem dX6_told_123 : decode cX6_told 123 = .ok (.iaload, 1) := by decide +kernel
theorem dX6_told_124 : decode cX6_told 124 = .ok (.ifCond .ne 7, 3) := by decide +kernel
theorem dX6_told_127 : decode cX6_told 127 = .ok (.iconst 1, 1) := by decide +kernel
theorem dX6_told_128 : decode cX6_told 128 = .ok (.goto 4, 3) := by decide +kernel
theorem dX6_told_131 : decode cX6_told 131 = .ok (.iconst 0, 1) := by decide +kernel
theorem dX6_told_132 : decode cX6_told 132 = .ok (.iadd, 1) := by decide +kernel
theorem dX6_told_133 : decode cX6_told 133 = .ok (.istore 5, 2) := by decide +kernel
theorem dX6_told_135 : decode cX6_told 135 = .ok (.iinc 6 1, 3) := by decide +kernel
theorem dX6_told_138 : decode cX6_told 138 = .ok (.goto (-48), 3) := by decide +kernel
theorem dX6_told_141 : decode cX6_told 141 = .ok (.iload_n 1, 1) := by decide +kernel
theorem dX6_told_142 : decode cX6_told 142 = .ok (.tableswitch 94 0 9 #[54, 59, 64, 66, 68, 73, 78, 81, 84, 89], 54) := by decide +kernel
theorem dX6_told_196 : decode cX6_told 196 = .ok (.aload_n 0, 1) := by decide +kernel
theorem dX6_told_197 : decode cX6_told 197 = .ok (.getfield 131, 3) := by decide +kernel
theorem dX6_told_200 : decode cX6_told 200 = .ok (.ireturn, 1) := by decide +kernel
theorem dX6_told_201 : decode cX6_told 201 = .ok (.aload_n 0, 1) := by decide +kernel
theorem dX6_told_202 : decode cX6_told 202 = .ok (.getfield 109, 3) := by decide +kernel
theorem dX6_told_205 : decode cX6_told 205 = .ok (.ireturn, 1) := by decide +kernel
theorem dX6_told_206 : decode cX6_told 206 = .ok (.iload_n 2, 1) := by decide +kernel
theorem dX6_told_207 : decode cX6_told 207 = .ok (.ireturn, 1) := by decide +kernel
theorem dX6_told_208 : decode cX6_told 208 = .ok (.iload_n 3, 1) := by decide +kernel
theorem dX6_told_209 : decode cX6_told 209 = .ok (.ireturn, 1) := by decide +kernel
theorem dX6_told_210 : decode cX6_told 210 = .ok (.aload_n 0, 1) := by decide +kernel
theorem dX6_told_211 : decode cX6_told 211 = .ok (.getfield 208, 3) := by decide +kernel
theorem dX6_told_214 : decode cX6_told 214 = .ok (.ireturn, 1) := by decide +kernel
theorem dX6_told_215 : decode cX6_told 215 = .ok (.aload_n 0, 1) := by decide +kernel
theorem dX6_told_216 : decode cX6_told 216 = .ok (.invokevirtual 219, 3) := by decide +kernel
theorem dX6_told_219 : decode cX6_told 219 = .ok (.ireturn, 1) := by decide +kernel
theorem dX6_told_220 : decode cX6_told 220 = .ok (.iload 4, 2) := by decide +kernel
theorem dX6_told_222 : decode cX6_told 222 = .ok (.ireturn, 1) := by decide +kernel
theorem dX6_told_223 : decode cX6_told 223 = .ok (.iload 5, 2) := by decide +kernel
theorem dX6_told_225 : decode cX6_told 225 = .ok (.ireturn, 1) := by decide +kernel
theorem dX6_told_226 : decode cX6_told 226 = .ok (.aload_n 0, 1) := by decide +kernel
theorem dX6_told_227 : decode cX6_told 227 = .ok (.getfield 88, 3) := by decide +kernel
theorem dX6_told_230 : decode cX6_told 230 = .ok (.ireturn, 1) := by decide +kernel
theorem dX6_told_231 : decode cX6_told 231 = .ok (.aload_n 0, 1) := by decide +kernel
theorem dX6_told_232 : decode cX6_told 232 = .ok (.getfield 91, 3) := by decide +kernel
theorem dX6_told_235 : decode cX6_told 235 = .ok (.ireturn, 1) := by decide +kernel
theorem dX6_told_236 : decode cX6_told 236 = .ok (.bipush (-2), 2) := by decide +kernel
theorem dX6_told_238 : decode cX6_told 238 = .ok (.ireturn, 1) := by decide +kernel

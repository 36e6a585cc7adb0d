theorem ml_RL_9 : Cond.methodLink RL 9 yX5_init ∈ wT := wT_at 51 (by decide +kernel) (by decide +kernel)
theorem ml_RX5_11 : Cond.methodLink RX5 11 yX1_init ∈ wT := wT_at 59 (by decide +kernel) (by decide +kernel)
theorem fl_RX1_9 : Cond.fieldLink RX1 9 RX1 "pressure" "I" ∈ wT := wT_at 63 (by decide +kernel) (by decide +kernel)
theorem fl_RX4_32 : Cond.fieldLink RX4 32 RX1 "pressure" "I" ∈ wT := wT_at 64 (by decide +kernel) (by decide +kernel)
theorem fl_RX5_50 : Cond.fieldLink RX5 50 RX1 "pressure" "I" ∈ wT := wT_at 65 (by decide +kernel) (by decide +kernel)
theorem fl_RX0_124 : Cond.fieldLink RX0 124 RX1 "pressure" "I" ∈ wT := wT_at 66 (by decide +kernel) (by decide +kernel)
theorem fl_RX1_46 : Cond.fieldLink RX1 46 RX1 "sizes" "I" ∈ wT := wT_at 67 (by decide +kernel) (by decide +kernel)
theorem fl_RX5_57 : Cond.fieldLink RX5 57 RX1 "sizes" "I" ∈ wT := wT_at 68 (by decide +kernel) (by decide +kernel)
theorem fl_RX0_90 : Cond.fieldLink RX0 90 RX1 "sizes" "I" ∈ wT := wT_at 69 (by decide +kernel) (by decide +kernel)
theorem fl_RX1_15 : Cond.fieldLink RX1 15 RX1 "sizeDrags" "[I" ∈ wT := wT_at 70 (by decide +kernel) (by decide +kernel)
theorem fl_RX1_19 : Cond.fieldLink RX1 19 RX1 "sizePrices" "[I" ∈ wT := wT_at 71 (by decide +kernel) (by decide +kernel)
theorem fl_RX1_49 : Cond.fieldLink RX1 49 RX1 "pipes" "I" ∈ wT := wT_at 72 (by decide +kernel) (by decide +kernel)
theorem fl_RX4_45 : Cond.fieldLink RX4 45 RX1 "pipes" "I" ∈ wT := wT_at 73 (by decide +kernel) (by decide +kernel)
theorem fl_RX5_71 : Cond.fieldLink RX5 71 RX1 "pipes" "I" ∈ wT := wT_at 74 (by decide +kernel) (by decide +kernel)
theorem fl_RX0_73 : Cond.fieldLink RX0 73 RX1 "pipes" "I" ∈ wT := wT_at 75 (by decide +kernel) (by decide +kernel)
theorem fl_RX1_22 : Cond.fieldLink RX1 22 RX1 "from" "[I" ∈ wT := wT_at 76 (by decide +kernel) (by decide +kernel)
theorem fl_RX4_58 : Cond.fieldLink RX4 58 RX1 "from" "[I" ∈ wT := wT_at 77 (by decide +kernel) (by decide +kernel)
theorem fl_RX5_140 : Cond.fieldLink RX5 140 RX1 "from" "[I" ∈ wT := wT_at 78 (by decide +kernel) (by decide +kernel)
theorem fl_RX1_25 : Cond.fieldLink RX1 25 RX1 "lengths" "[I" ∈ wT := wT_at 79 (by decide +kernel) (by decide +kernel)
theorem fl_RX5_143 : Cond.fieldLink RX5 143 RX1 "lengths" "[I" ∈ wT := wT_at 80 (by decide +kernel) (by decide +kernel)
theorem fl_RX1_28 : Cond.fieldLink RX1 28 RX1 "sizeOf" "[I" ∈ wT := wT_at 81 (by decide +kernel) (by decide +kernel)
theorem fl_RX5_107 : Cond.fieldLink RX5 107 RX1 "sizeOf" "[I" ∈ wT := wT_at 82 (by decide +kernel) (by decide +kernel)
theorem fl_RX1_31 : Cond.fieldLink RX1 31 RX1 "steps" "[I" ∈ wT := wT_at 83 (by decide +kernel) (by decide +kernel)
theorem fl_RX5_74 : Cond.fieldLink RX5 74 RX1 "steps" "[I" ∈ wT := wT_at 84 (by decide +kernel) (by decide +kernel)
theorem fl_RX1_34 : Cond.fieldLink RX1 34 RX1 "drags" "[I" ∈ wT := wT_at 85 (by decide +kernel) (by decide +kernel)
theorem fl_RX4_22 : Cond.fieldLink RX4 22 RX1 "drags" "[I" ∈ wT := wT_at 86 (by decide +kernel) (by decide +kernel)
theorem fl_RX5_54 : Cond.fieldLink RX5 54 RX1 "drags" "[I" ∈ wT := wT_at 87 (by decide +kernel) (by decide +kernel)
theorem fl_RX0_64 : Cond.fieldLink RX0 64 RX1 "drags" "[I" ∈ wT := wT_at 88 (by decide +kernel) (by decide +kernel)
theorem fl_RX4_89 : Cond.fieldLink RX4 89 RX1 "closed" "I" ∈ wT := wT_at 89 (by decide +kernel) (by decide +kernel)
theorem fl_RX5_101 : Cond.fieldLink RX5 101 RX1 "closed" "I" ∈ wT := wT_at 90 (by decide +kernel) (by decide +kernel)
theorem fl_RX0_75 : Cond.fieldLink RX0 75 RX1 "freed" "I" ∈ wT := wT_at 91 (by decide +kernel) (by decide +kernel)
theorem fl_RX5_156 : Cond.fieldLink RX5 156 RX1 "freed" "I" ∈ wT := wT_at 92 (by decide +kernel) (by decide +kernel)
theorem fl_RX1_60 : Cond.fieldLink RX1 60 RX1 "heads" "I" ∈ wT := wT_at 93 (by decide +kernel) (by decide +kernel)
theorem fl_RX5_146 : Cond.fieldLink RX5 146 RX1 "heads" "I" ∈ wT := wT_at 94 (by decide +kernel) (by decide +kernel)
theorem fl_RX1_67 : Cond.fieldLink RX1 67 RX1 "opened" "I" ∈ wT := wT_at 95 (by decide +kernel) (by decide +kernel)
theorem fl_RX5_91 : Cond.fieldLink RX5 91 RX1 "opened" "I" ∈ wT := wT_at 96 (by decide +kernel) (by decide +kernel)
theorem fl_RX1_37 : Cond.fieldLink RX1 37 RX1 "factors" "[I" ∈ wT := wT_at 97 (by decide +kernel) (by decide +kernel)
theorem fl_RX1_40 : Cond.fieldLink RX1 40 RX1 "needs" "[I" ∈ wT := wT_at 98 (by decide +kernel) (by decide +kernel)
theorem fl_RX4_96 : Cond.fieldLink RX4 96 RX1 "needs" "[I" ∈ wT := wT_at 99 (by decide +kernel) (by decide +kernel)
theorem fl_RX5_153 : Cond.fieldLink RX5 153 RX1 "needs" "[I" ∈ wT := wT_at 100 (by decide +kernel) (by decide +kernel)
theorem fl_RX1_43 : Cond.fieldLink RX1 43 RX1 "clogs" "[I" ∈ wT := wT_at 101 (by decide +kernel) (by decide +kernel)
theorem fl_RX5_104 : Cond.fieldLink RX5 104 RX1 "clogs" "[I" ∈ wT := wT_at 102 (by decide +kernel) (by decide +kernel)
theorem ml_RX5_14 : Cond.methodLink RX5 14 yX4_init ∈ wT := wT_at 141 (by decide +kernel) (by decide +kernel)
theorem fl_RX4_9 : Cond.fieldLink RX4 9 RX4 "net" "LSprinklerHouse$Net;" ∈ wT := wT_at 145 (by decide +kernel) (by decide +kernel)
theorem fl_RX4_15 : Cond.fieldLink RX4 15 RX4 "g" "[J" ∈ wT := wT_at 146 (by decide +kernel) (by decide +kernel)
theorem fl_RX4_19 : Cond.fieldLink RX4 19 RX4 "p" "[J" ∈ wT := wT_at 147 (by decide +kernel) (by decide +kernel)
theorem fl_RX5_132 : Cond.fieldLink RX5 132 RX4 "p" "[J" ∈ wT := wT_at 148 (by decide +kernel) (by decide +kernel)
theorem ml_RX5_31 : Cond.methodLink RX5 31 yX0_init ∈ wT := wT_at 159 (by decide +kernel) (by decide +kernel)
theorem fl_RX0_9 : Cond.fieldLink RX0 9 RX0 "net" "LSprinklerHouse$Net;" ∈ wT := wT_at 163 (by decide +kernel) (by decide +kernel)
theorem fl_RX0_15 : Cond.fieldLink RX0 15 RX0 "widths" "LSprinklerHouse$Widths;" ∈ wT := wT_at 164 (by decide +kernel) (by decide +kernel)
theorem fl_RX0_19 : Cond.fieldLink RX0 19 RX0 "members" "[I" ∈ wT := wT_at 165 (by decide +kernel) (by decide +kernel)
theorem fl_RX0_41 : Cond.fieldLink RX0 41 RX0 "heaps" "I" ∈ wT := wT_at 166 (by decide +kernel) (by decide +kernel)
theorem fl_RX0_55 : Cond.fieldLink RX0 55 RX0 "count" "I" ∈ wT := wT_at 167 (by decide +kernel) (by decide +kernel)
theorem fl_RX0_23 : Cond.fieldLink RX0 23 RX0 "pipes" "[I" ∈ wT := wT_at 168 (by decide +kernel) (by decide +kernel)
theorem fl_RX0_26 : Cond.fieldLink RX0 26 RX0 "tried" "[I" ∈ wT := wT_at 169 (by decide +kernel) (by decide +kernel)
theorem fl_RX0_29 : Cond.fieldLink RX0 29 RX0 "best" "[I" ∈ wT := wT_at 170 (by decide +kernel) (by decide +kernel)
theorem fl_RX0_49 : Cond.fieldLink RX0 49 RX0 "bestPrice" "I" ∈ wT := wT_at 171 (by decide +kernel) (by decide +kernel)
theorem fl_RX0_32 : Cond.fieldLink RX0 32 RX0 "leastRest" "[I" ∈ wT := wT_at 172 (by decide +kernel) (by decide +kernel)
theorem fl_RX0_35 : Cond.fieldLink RX0 35 RX0 "leastDrags" "[I" ∈ wT := wT_at 173 (by decide +kernel) (by decide +kernel)
theorem fl_RX0_38 : Cond.fieldLink RX0 38 RX0 "mostDrags" "[I" ∈ wT := wT_at 174 (by decide +kernel) (by decide +kernel)
theorem fl_RX0_45 : Cond.fieldLink RX0 45 RX0 "failed" "I" ∈ wT := wT_at 175 (by decide +kernel) (by decide +kernel)
theorem ml_RX5_40 : Cond.methodLink RX5 40 yX2_init ∈ wT := wT_at 205 (by decide +kernel) (by decide +kernel)
theorem fl_RX2_9 : Cond.fieldLink RX2 9 RX2 "rows" "I" ∈ wT := wT_at 209 (by decide +kernel) (by decide +kernel)
theorem fl_RX5_232 : Cond.fieldLink RX5 232 RX2 "rows" "I" ∈ wT := wT_at 210 (by decide +kernel) (by decide +kernel)
theorem fl_RX2_15 : Cond.fieldLink RX2 15 RX2 "columns" "I" ∈ wT := wT_at 211 (by decide +kernel) (by decide +kernel)
theorem fl_RX5_235 : Cond.fieldLink RX5 235 RX2 "columns" "I" ∈ wT := wT_at 212 (by decide +kernel) (by decide +kernel)
theorem fl_RX2_18 : Cond.fieldLink RX2 18 RX2 "kinds" "[I" ∈ wT := wT_at 213 (by decide +kernel) (by decide +kernel)
theorem fl_RX5_219 : Cond.fieldLink RX5 219 RX2 "kinds" "[I" ∈ wT := wT_at 214 (by decide +kernel) (by decide +kernel)
theorem fl_RX2_31 : Cond.fieldLink RX2 31 RX2 "standing" "I" ∈ wT := wT_at 215 (by decide +kernel) (by decide +kernel)
theorem fl_RX5_226 : Cond.fieldLink RX5 226 RX2 "standing" "I" ∈ wT := wT_at 216 (by decide +kernel) (by decide +kernel)
theorem fl_RX2_22 : Cond.fieldLink RX2 22 RX2 "rowOf" "[I" ∈ wT := wT_at 217 (by decide +kernel) (by decide +kernel)
theorem fl_RX2_25 : Cond.fieldLink RX2 25 RX2 "columnOf" "[I" ∈ wT := wT_at 218 (by decide +kernel) (by decide +kernel)
theorem fl_RX2_28 : Cond.fieldLink RX2 28 RX2 "reachOf" "[I" ∈ wT := wT_at 219 (by decide +kernel) (by decide +kernel)
theorem fl_RX5_17 : Cond.fieldLink RX5 17 RX5 "net" "LSprinklerHouse$Net;" ∈ wT := wT_at 235 (by decide +kernel) (by decide +kernel)
theorem fl_RX5_21 : Cond.fieldLink RX5 21 RX5 "widths" "LSprinklerHouse$Widths;" ∈ wT := wT_at 236 (by decide +kernel) (by decide +kernel)
theorem fl_RX5_34 : Cond.fieldLink RX5 34 RX5 "chooser" "LSprinklerHouse$Chooser;" ∈ wT := wT_at 237 (by decide +kernel) (by decide +kernel)
theorem fl_RX5_41 : Cond.fieldLink RX5 41 RX5 "plan" "LSprinklerHouse$Plan;" ∈ wT := wT_at 238 (by decide +kernel) (by decide +kernel)
theorem fl_RX5_25 : Cond.fieldLink RX5 25 RX5 "members" "[I" ∈ wT := wT_at 239 (by decide +kernel) (by decide +kernel)
theorem fl_RX5_166 : Cond.fieldLink RX5 166 RX5 "heaps" "I" ∈ wT := wT_at 240 (by decide +kernel) (by decide +kernel)
theorem ml_RL_13 : Cond.methodLink RL 13 yX5_supply ∈ wT := wT_at 254 (by decide +kernel) (by decide +kernel)
theorem kc_RX5_45 : Cond.constant RX5 45 (100000) ∈ wT := wT_at 258 (by decide +kernel) (by decide +kernel)
theorem ml_RX5_46 : Cond.methodLink RX5 46 yX5_isWithin ∈ wT := wT_at 259 (by decide +kernel) (by decide +kernel)
theorem ml_RL_18 : Cond.methodLink RL 18 yX5_size ∈ wT := wT_at 262 (by decide +kernel) (by decide +kernel)
theorem ml_RX5_60 : Cond.methodLink RX5 60 yX1_addSize ∈ wT := wT_at 266 (by decide +kernel) (by decide +kernel)
theorem ml_RL_22 : Cond.methodLink RL 22 yX5_pipe ∈ wT := wT_at 270 (by decide +kernel) (by decide +kernel)
theorem ml_RX5_64 : Cond.methodLink RX5 64 yX5_isEnd ∈ wT := wT_at 274 (by decide +kernel) (by decide +kernel)
theorem ml_RX5_81 : Cond.methodLink RX5 81 yX5_isPipe ∈ wT := wT_at 278 (by decide +kernel) (by decide +kernel)
theorem ml_RX5_68 : Cond.methodLink RX5 68 yX5_isSize ∈ wT := wT_at 282 (by decide +kernel) (by decide +kernel)
theorem ml_RX5_77 : Cond.methodLink RX5 77 yX1_addPipe ∈ wT := wT_at 286 (by decide +kernel) (by decide +kernel)
theorem ml_RX1_52 : Cond.methodLink RX1 52 yX1_setSize ∈ wT := wT_at 290 (by decide +kernel) (by decide +kernel)
theorem ml_RX1_56 : Cond.methodLink RX1 56 yX1_dragWith ∈ wT := wT_at 294 (by decide +kernel) (by decide +kernel)
theorem ml_RL_27 : Cond.methodLink RL 27 yX5_head ∈ wT := wT_at 298 (by decide +kernel) (by decide +kernel)
theorem ml_RX5_84 : Cond.methodLink RX5 84 yX1_setHead ∈ wT := wT_at 302 (by decide +kernel) (by decide +kernel)
theorem ml_RL_31 : Cond.methodLink RL 31 yX5_open ∈ wT := wT_at 309 (by decide +kernel) (by decide +kernel)
theorem ml_RX5_88 : Cond.methodLink RX5 88 yX5_isHead ∈ wT := wT_at 313 (by decide +kernel) (by decide +kernel)
theorem ml_RX5_94 : Cond.methodLink RX5 94 yX5_bit ∈ wT := wT_at 317 (by decide +kernel) (by decide +kernel)
theorem ml_RX5_97 : Cond.methodLink RX5 97 yX5_withBit ∈ wT := wT_at 320 (by decide +kernel) (by decide +kernel)
theorem ml_RL_36 : Cond.methodLink RL 36 yX5_shut ∈ wT := wT_at 321 (by decide +kernel) (by decide +kernel)
theorem ml_RL_40 : Cond.methodLink RL 40 yX5_clog ∈ wT := wT_at 325 (by decide +kernel) (by decide +kernel)
theorem ml_RL_44 : Cond.methodLink RL 44 yX5_resize ∈ wT := wT_at 329 (by decide +kernel) (by decide +kernel)
theorem ml_RX5_110 : Cond.methodLink RX5 110 yX1_setSize ∈ wT := wT_at 333 (by decide +kernel) (by decide +kernel)
theorem ml_RL_48 : Cond.methodLink RL 48 yX5_conduct ∈ wT := wT_at 334 (by decide +kernel) (by decide +kernel)
theorem kc_RX5_114 : Cond.constantLong RX5 114 (-1) ∈ wT := wT_at 338 (by decide +kernel) (by decide +kernel)
theorem ml_RX5_116 : Cond.methodLink RX5 116 yX5_isSide ∈ wT := wT_at 339 (by decide +kernel) (by decide +kernel)
theorem kc_RX5_119 : Cond.constantLong RX5 119 (-2) ∈ wT := wT_at 342 (by decide +kernel) (by decide +kernel)
theorem ml_RX5_121 : Cond.methodLink RX5 121 yX4_gather ∈ wT := wT_at 343 (by decide +kernel) (by decide +kernel)
theorem ml_RX4_39 : Cond.methodLink RX4 39 yJ7_fill_d0a16 ∈ wT := wT_at 347 (by decide +kernel) (by decide +kernel)
theorem kc_RX4_52 : Cond.constantLong RX4 52 (1024) ∈ wT := wT_at 351 (by decide +kernel) (by decide +kernel)
theorem ml_RX4_54 : Cond.methodLink RX4 54 yX1_factorNow ∈ wT := wT_at 352 (by decide +kernel) (by decide +kernel)
theorem ml_RX4_61 : Cond.methodLink RX4 61 yX4_conductOf ∈ wT := wT_at 356 (by decide +kernel) (by decide +kernel)
theorem ml_RX4_65 : Cond.methodLink RX4 65 yX4_isClosed ∈ wT := wT_at 360 (by decide +kernel) (by decide +kernel)
theorem kc_RX4_69 : Cond.constantLong RX4 69 (1125899906842624) ∈ wT := wT_at 364 (by decide +kernel) (by decide +kernel)
theorem ml_RX4_71 : Cond.methodLink RX4 71 yX3_root ∈ wT := wT_at 365 (by decide +kernel) (by decide +kernel)
theorem ml_RX3_7 : Cond.methodLink RX3 7 yJ13_numberOfLeadingZeros_95d88 ∈ wT := wT_at 368 (by decide +kernel) (by decide +kernel)
theorem ml_RJ13_308 : Cond.methodLink RJ13 308 yJ6_numberOfLeadingZeros_0f7a4 ∈ wT := wT_at 371 (by decide +kernel) (by decide +kernel)
theorem kc_RJ6_264 : Cond.constant RJ6 264 (65536) ∈ wT := wT_at 374 (by decide +kernel) (by decide +kernel)
theorem kc_RX3_13 : Cond.constantLong RX3 13 (2) ∈ wT := wT_at 375 (by decide +kernel) (by decide +kernel)
theorem ml_RX4_77 : Cond.methodLink RX4 77 yX3_quotient ∈ wT := wT_at 376 (by decide +kernel) (by decide +kernel)
theorem ml_RX5_125 : Cond.methodLink RX5 125 yX4_conductOf ∈ wT := wT_at 379 (by decide +kernel) (by decide +kernel)
theorem ml_RL_53 : Cond.methodLink RL 53 yX5_pressure ∈ wT := wT_at 380 (by decide +kernel) (by decide +kernel)
theorem ml_RX5_129 : Cond.methodLink RX5 129 yX4_holdPressures ∈ wT := wT_at 384 (by decide +kernel) (by decide +kernel)
theorem ml_RX4_28 : Cond.methodLink RX4 28 yX4_gather ∈ wT := wT_at 388 (by decide +kernel) (by decide +kernel)
theorem ml_RX4_36 : Cond.methodLink RX4 36 yX4_fall ∈ wT := wT_at 389 (by decide +kernel) (by decide +kernel)
theorem ml_RX4_81 : Cond.methodLink RX4 81 yX4_fallen ∈ wT := wT_at 393 (by decide +kernel) (by decide +kernel)
theorem kc_RX4_85 : Cond.constantLong RX4 85 (1073741824) ∈ wT := wT_at 397 (by decide +kernel) (by decide +kernel)
theorem kc_RX4_87 : Cond.constantLong RX4 87 (1048576) ∈ wT := wT_at 398 (by decide +kernel) (by decide +kernel)
theorem ml_RL_57 : Cond.methodLink RL 57 yX5_flow ∈ wT := wT_at 399 (by decide +kernel) (by decide +kernel)
theorem ml_RX5_136 : Cond.methodLink RX5 136 yX4_flowOf ∈ wT := wT_at 403 (by decide +kernel) (by decide +kernel)
theorem ml_RL_61 : Cond.methodLink RL 61 yX5_total ∈ wT := wT_at 407 (by decide +kernel) (by decide +kernel)
theorem ml_RL_66 : Cond.methodLink RL 66 yX5_about ∈ wT := wT_at 411 (by decide +kernel) (by decide +kernel)
theorem ml_RX5_149 : Cond.methodLink RX5 149 yX1_factorNow ∈ wT := wT_at 415 (by decide +kernel) (by decide +kernel)
theorem ml_RX5_159 : Cond.methodLink RX5 159 yX1_countFrom ∈ wT := wT_at 416 (by decide +kernel) (by decide +kernel)
theorem ml_RL_70 : Cond.methodLink RL 70 yX5_worst ∈ wT := wT_at 420 (by decide +kernel) (by decide +kernel)
theorem ml_RX5_162 : Cond.methodLink RX5 162 yX4_spareOf ∈ wT := wT_at 424 (by decide +kernel) (by decide +kernel)
theorem ml_RX4_92 : Cond.methodLink RX4 92 yX4_flowOf ∈ wT := wT_at 428 (by decide +kernel) (by decide +kernel)
theorem ml_RL_75 : Cond.methodLink RL 75 yX5_heap ∈ wT := wT_at 429 (by decide +kernel) (by decide +kernel)
theorem ml_RL_79 : Cond.methodLink RL 79 yX5_put ∈ wT := wT_at 433 (by decide +kernel) (by decide +kernel)
theorem ml_RX5_169 : Cond.methodLink RX5 169 yX5_isHeap ∈ wT := wT_at 437 (by decide +kernel) (by decide +kernel)
theorem ml_RX5_172 : Cond.methodLink RX5 172 yJ6_bitCount_0f7a4 ∈ wT := wT_at 441 (by decide +kernel) (by decide +kernel)
theorem kc_RJ6_265 : Cond.constant RJ6 265 (1431655765) ∈ wT := wT_at 444 (by decide +kernel) (by decide +kernel)
theorem kc_RJ6_266 : Cond.constant RJ6 266 (858993459) ∈ wT := wT_at 445 (by decide +kernel) (by decide +kernel)
theorem kc_RJ6_267 : Cond.constant RJ6 267 (252645135) ∈ wT := wT_at 446 (by decide +kernel) (by decide +kernel)
theorem ml_RL_84 : Cond.methodLink RL 84 yX5_least ∈ wT := wT_at 447 (by decide +kernel) (by decide +kernel)
theorem kc_RX5_177 : Cond.constantLong RX5 177 (-1000000000001) ∈ wT := wT_at 451 (by decide +kernel) (by decide +kernel)
theorem ml_RX5_179 : Cond.methodLink RX5 179 yX5_leastOfHeap ∈ wT := wT_at 452 (by decide +kernel) (by decide +kernel)
theorem ml_RX5_247 : Cond.methodLink RX5 247 yX4_leastSpare ∈ wT := wT_at 456 (by decide +kernel) (by decide +kernel)
theorem kc_RX4_99 : Cond.constantLong RX4 99 (2000000000) ∈ wT := wT_at 460 (by decide +kernel) (by decide +kernel)
theorem ml_RX4_101 : Cond.methodLink RX4 101 yX4_spareOf ∈ wT := wT_at 461 (by decide +kernel) (by decide +kernel)
theorem ml_RX4_105 : Cond.methodLink RX4 105 yJ9_min_f86c9 ∈ wT := wT_at 462 (by decide +kernel) (by decide +kernel)
theorem ml_RL_88 : Cond.methodLink RL 88 yX5_thinnest ∈ wT := wT_at 465 (by decide +kernel) (by decide +kernel)
theorem ml_RL_92 : Cond.methodLink RL 92 yX5_free ∈ wT := wT_at 469 (by decide +kernel) (by decide +kernel)
theorem ml_RL_96 : Cond.methodLink RL 96 yX5_choose ∈ wT := wT_at 473 (by decide +kernel) (by decide +kernel)
theorem ml_RX5_182 : Cond.methodLink RX5 182 yX0_begin ∈ wT := wT_at 477 (by decide +kernel) (by decide +kernel)
theorem kc_RX0_48 : Cond.constant RX0 48 (2000000000) ∈ wT := wT_at 481 (by decide +kernel) (by decide +kernel)
theorem ml_RX0_52 : Cond.methodLink RX0 52 yX0_listFreePipes ∈ wT := wT_at 482 (by decide +kernel) (by decide +kernel)
theorem ml_RX0_82 : Cond.methodLink RX0 82 yX0_widen ∈ wT := wT_at 490 (by decide +kernel) (by decide +kernel)
theorem ml_RX0_112 : Cond.methodLink RX0 112 yX1_dragWith ∈ wT := wT_at 494 (by decide +kernel) (by decide +kernel)
theorem ml_RX0_96 : Cond.methodLink RX0 96 yJ9_min_7cf53 ∈ wT := wT_at 495 (by decide +kernel) (by decide +kernel)
theorem ml_RX0_115 : Cond.methodLink RX0 115 yJ9_max_7cf53 ∈ wT := wT_at 498 (by decide +kernel) (by decide +kernel)
theorem ml_RX0_86 : Cond.methodLink RX0 86 yX0_leastPrice ∈ wT := wT_at 501 (by decide +kernel) (by decide +kernel)
theorem ml_RX0_93 : Cond.methodLink RX0 93 yX1_priceWith ∈ wT := wT_at 505 (by decide +kernel) (by decide +kernel)
theorem ml_RX0_101 : Cond.methodLink RX0 101 yX0_areAllMet ∈ wT := wT_at 512 (by decide +kernel) (by decide +kernel)
theorem ml_RX0_118 : Cond.methodLink RX0 118 yX4_gather ∈ wT := wT_at 516 (by decide +kernel) (by decide +kernel)
theorem ml_RX0_127 : Cond.methodLink RX0 127 yX4_fall ∈ wT := wT_at 517 (by decide +kernel) (by decide +kernel)
theorem ml_RX0_130 : Cond.methodLink RX0 130 yX4_leastSpare ∈ wT := wT_at 518 (by decide +kernel) (by decide +kernel)
theorem ml_RX0_105 : Cond.methodLink RX0 105 yX0_fix ∈ wT := wT_at 519 (by decide +kernel) (by decide +kernel)
theorem ml_RX0_108 : Cond.methodLink RX0 108 yX0_search ∈ wT := wT_at 523 (by decide +kernel) (by decide +kernel)
theorem ml_RX5_190 : Cond.methodLink RX5 190 yX0_settle ∈ wT := wT_at 524 (by decide +kernel) (by decide +kernel)
theorem ml_RX0_58 : Cond.methodLink RX0 58 yX1_setSize ∈ wT := wT_at 528 (by decide +kernel) (by decide +kernel)
theorem ml_RX5_194 : Cond.methodLink RX5 194 yX1_priceOfAll ∈ wT := wT_at 529 (by decide +kernel) (by decide +kernel)
theorem ml_RX1_70 : Cond.methodLink RX1 70 yX1_priceWith ∈ wT := wT_at 533 (by decide +kernel) (by decide +kernel)
theorem kc_RX5_198 : Cond.constantLong RX5 198 (-5) ∈ wT := wT_at 534 (by decide +kernel) (by decide +kernel)
theorem ml_RL_101 : Cond.methodLink RL 101 yX5_bill ∈ wT := wT_at 535 (by decide +kernel) (by decide +kernel)
theorem ml_RL_105 : Cond.methodLink RL 105 yX5_margin ∈ wT := wT_at 539 (by decide +kernel) (by decide +kernel)
theorem ml_RX5_200 : Cond.methodLink RX5 200 yX5_isMetWithLess ∈ wT := wT_at 543 (by decide +kernel) (by decide +kernel)
theorem ml_RX5_250 : Cond.methodLink RX5 250 yJ9_max_7cf53 ∈ wT := wT_at 547 (by decide +kernel) (by decide +kernel)
theorem ml_RX5_255 : Cond.methodLink RX5 255 yX4_fall ∈ wT := wT_at 548 (by decide +kernel) (by decide +kernel)
theorem ml_RX5_204 : Cond.methodLink RX5 204 yX5_leastTooMuch ∈ wT := wT_at 549 (by decide +kernel) (by decide +kernel)
theorem ml_RL_110 : Cond.methodLink RL 110 yX5_floor ∈ wT := wT_at 553 (by decide +kernel) (by decide +kernel)
theorem ml_RX5_207 : Cond.methodLink RX5 207 yX2_lay ∈ wT := wT_at 557 (by decide +kernel) (by decide +kernel)
theorem ml_RX2_34 : Cond.methodLink RX2 34 yJ7_fill_53178 ∈ wT := wT_at 561 (by decide +kernel) (by decide +kernel)
theorem ml_RL_114 : Cond.methodLink RL 114 yX5_cell ∈ wT := wT_at 564 (by decide +kernel) (by decide +kernel)
theorem ml_RX5_210 : Cond.methodLink RX5 210 yX2_isCell ∈ wT := wT_at 568 (by decide +kernel) (by decide +kernel)
theorem ml_RX5_213 : Cond.methodLink RX5 213 yX2_whoStandsIn ∈ wT := wT_at 572 (by decide +kernel) (by decide +kernel)
theorem ml_RX5_216 : Cond.methodLink RX5 216 yX2_kindOf ∈ wT := wT_at 577 (by decide +kernel) (by decide +kernel)
theorem ml_RL_118 : Cond.methodLink RL 118 yX5_stand ∈ wT := wT_at 581 (by decide +kernel) (by decide +kernel)
theorem ml_RX5_222 : Cond.methodLink RX5 222 yX2_place ∈ wT := wT_at 585 (by decide +kernel) (by decide +kernel)
theorem ml_RL_123 : Cond.methodLink RL 123 yX5_lift ∈ wT := wT_at 590 (by decide +kernel) (by decide +kernel)
theorem ml_RL_127 : Cond.methodLink RL 127 yX5_wets ∈ wT := wT_at 594 (by decide +kernel) (by decide +kernel)
theorem ml_RX5_229 : Cond.methodLink RX5 229 yX2_isWetBy ∈ wT := wT_at 598 (by decide +kernel) (by decide +kernel)
theorem ml_RX2_40 : Cond.methodLink RX2 40 yX2_kindOf ∈ wT := wT_at 602 (by decide +kernel) (by decide +kernel)
theorem ml_RX2_55 : Cond.methodLink RX2 55 yX2_squareTo ∈ wT := wT_at 603 (by decide +kernel) (by decide +kernel)
theorem ml_RX2_59 : Cond.methodLink RX2 59 yX2_isBehindWall ∈ wT := wT_at 607 (by decide +kernel) (by decide +kernel)
theorem ml_RX2_62 : Cond.methodLink RX2 62 yJ9_max_7cf53 ∈ wT := wT_at 611 (by decide +kernel) (by decide +kernel)
theorem ml_RX2_67 : Cond.methodLink RX2 67 yJ9_min_7cf53 ∈ wT := wT_at 612 (by decide +kernel) (by decide +kernel)
theorem ml_RX2_70 : Cond.methodLink RX2 70 yX2_isCut ∈ wT := wT_at 613 (by decide +kernel) (by decide +kernel)
theorem ml_RX2_74 : Cond.methodLink RX2 74 yJ9_abs_0f7a4 ∈ wT := wT_at 616 (by decide +kernel) (by decide +kernel)
theorem ml_RL_131 : Cond.methodLink RL 131 yX5_dry ∈ wT := wT_at 619 (by decide +kernel) (by decide +kernel)
theorem ml_RX5_238 : Cond.methodLink RX5 238 yX2_isDry ∈ wT := wT_at 623 (by decide +kernel) (by decide +kernel)
theorem ml_RX2_51 : Cond.methodLink RX2 51 yX2_isWetBy ∈ wT := wT_at 627 (by decide +kernel) (by decide +kernel)
theorem ml_RL_135 : Cond.methodLink RL 135 yX5_near ∈ wT := wT_at 628 (by decide +kernel) (by decide +kernel)
theorem ml_RX5_241 : Cond.methodLink RX5 241 yX2_isNearAnother ∈ wT := wT_at 632 (by decide +kernel) (by decide +kernel)
theorem ml_RL_139 : Cond.methodLink RL 139 yX5_told ∈ wT := wT_at 636 (by decide +kernel) (by decide +kernel)
theorem ml_RX5_244 : Cond.methodLink RX5 244 yX2_countOpenCells ∈ wT := wT_at 640 (by decide +kernel) (by decide +kernel)
theorem ml_RL_12 : Cond.methodLink RL 12 yX6_init ∈ wT := wT_at 646 (by decide +kernel) (by decide +kernel)
theorem fl_RX6_7 : Cond.fieldLink RX6 7 RX6 "supply" "I" ∈ wT := wT_at 650 (by decide +kernel) (by decide +kernel)
theorem fl_RX6_124 : Cond.fieldLink RX6 124 RX6 "supplyDrag" "I" ∈ wT := wT_at 651 (by decide +kernel) (by decide +kernel)
theorem fl_RX6_13 : Cond.fieldLink RX6 13 RX6 "sizeDrag" "[I" ∈ wT := wT_at 652 (by decide +kernel) (by decide +kernel)
theorem fl_RX6_17 : Cond.fieldLink RX6 17 RX6 "sizePrice" "[I" ∈ wT := wT_at 653 (by decide +kernel) (by decide +kernel)
theorem fl_RX6_131 : Cond.fieldLink RX6 131 RX6 "sizes" "I" ∈ wT := wT_at 654 (by decide +kernel) (by decide +kernel)
theorem fl_RX6_20 : Cond.fieldLink RX6 20 RX6 "from" "[I" ∈ wT := wT_at 655 (by decide +kernel) (by decide +kernel)
theorem fl_RX6_23 : Cond.fieldLink RX6 23 RX6 "length" "[I" ∈ wT := wT_at 656 (by decide +kernel) (by decide +kernel)
theorem fl_RX6_26 : Cond.fieldLink RX6 26 RX6 "sizeOf" "[I" ∈ wT := wT_at 657 (by decide +kernel) (by decide +kernel)
theorem fl_RX6_29 : Cond.fieldLink RX6 29 RX6 "deep" "[I" ∈ wT := wT_at 658 (by decide +kernel) (by decide +kernel)
theorem fl_RX6_32 : Cond.fieldLink RX6 32 RX6 "isShut" "[Z" ∈ wT := wT_at 659 (by decide +kernel) (by decide +kernel)
theorem fl_RX6_36 : Cond.fieldLink RX6 36 RX6 "isFree" "[Z" ∈ wT := wT_at 660 (by decide +kernel) (by decide +kernel)
theorem fl_RX6_109 : Cond.fieldLink RX6 109 RX6 "pipes" "I" ∈ wT := wT_at 661 (by decide +kernel) (by decide +kernel)
theorem fl_RX6_39 : Cond.fieldLink RX6 39 RX6 "hasHead" "[Z" ∈ wT := wT_at 662 (by decide +kernel) (by decide +kernel)
theorem fl_RX6_42 : Cond.fieldLink RX6 42 RX6 "factor" "[I" ∈ wT := wT_at 663 (by decide +kernel) (by decide +kernel)
theorem fl_RX6_45 : Cond.fieldLink RX6 45 RX6 "need" "[I" ∈ wT := wT_at 664 (by decide +kernel) (by decide +kernel)
theorem fl_RX6_48 : Cond.fieldLink RX6 48 RX6 "isOpen" "[Z" ∈ wT := wT_at 665 (by decide +kernel) (by decide +kernel)
theorem fl_RX6_51 : Cond.fieldLink RX6 51 RX6 "clogged" "[I" ∈ wT := wT_at 666 (by decide +kernel) (by decide +kernel)
theorem fl_RX6_54 : Cond.fieldLink RX6 54 RX6 "opens" "[Z" ∈ wT := wT_at 667 (by decide +kernel) (by decide +kernel)
theorem fl_RX6_57 : Cond.fieldLink RX6 57 RX6 "endLow" "[J" ∈ wT := wT_at 668 (by decide +kernel) (by decide +kernel)
theorem fl_RX6_61 : Cond.fieldLink RX6 61 RX6 "endHigh" "[J" ∈ wT := wT_at 669 (by decide +kernel) (by decide +kernel)
theorem fl_RX6_64 : Cond.fieldLink RX6 64 RX6 "gLow" "[J" ∈ wT := wT_at 670 (by decide +kernel) (by decide +kernel)
theorem fl_RX6_67 : Cond.fieldLink RX6 67 RX6 "gHigh" "[J" ∈ wT := wT_at 671 (by decide +kernel) (by decide +kernel)
theorem fl_RX6_70 : Cond.fieldLink RX6 70 RX6 "pLow" "[J" ∈ wT := wT_at 672 (by decide +kernel) (by decide +kernel)
theorem fl_RX6_73 : Cond.fieldLink RX6 73 RX6 "pHigh" "[J" ∈ wT := wT_at 673 (by decide +kernel) (by decide +kernel)
theorem fl_RX6_76 : Cond.fieldLink RX6 76 RX6 "isPut" "[Z" ∈ wT := wT_at 674 (by decide +kernel) (by decide +kernel)
theorem fl_RX6_208 : Cond.fieldLink RX6 208 RX6 "heaps" "I" ∈ wT := wT_at 675 (by decide +kernel) (by decide +kernel)
theorem fl_RX6_79 : Cond.fieldLink RX6 79 RX6 "freePipe" "[I" ∈ wT := wT_at 676 (by decide +kernel) (by decide +kernel)
theorem fl_RX6_82 : Cond.fieldLink RX6 82 RX6 "held" "[I" ∈ wT := wT_at 677 (by decide +kernel) (by decide +kernel)
theorem fl_RX6_85 : Cond.fieldLink RX6 85 RX6 "best" "[I" ∈ wT := wT_at 678 (by decide +kernel) (by decide +kernel)
theorem fl_RX6_88 : Cond.fieldLink RX6 88 RX6 "rows" "I" ∈ wT := wT_at 679 (by decide +kernel) (by decide +kernel)
theorem fl_RX6_91 : Cond.fieldLink RX6 91 RX6 "columns" "I" ∈ wT := wT_at 680 (by decide +kernel) (by decide +kernel)
theorem fl_RX6_94 : Cond.fieldLink RX6 94 RX6 "kinds" "[I" ∈ wT := wT_at 681 (by decide +kernel) (by decide +kernel)
theorem fl_RX6_97 : Cond.fieldLink RX6 97 RX6 "stands" "[Z" ∈ wT := wT_at 682 (by decide +kernel) (by decide +kernel)
theorem fl_RX6_100 : Cond.fieldLink RX6 100 RX6 "standRow" "[I" ∈ wT := wT_at 683 (by decide +kernel) (by decide +kernel)
theorem fl_RX6_103 : Cond.fieldLink RX6 103 RX6 "standColumn" "[I" ∈ wT := wT_at 684 (by decide +kernel) (by decide +kernel)
theorem fl_RX6_106 : Cond.fieldLink RX6 106 RX6 "reach" "[I" ∈ wT := wT_at 685 (by decide +kernel) (by decide +kernel)
theorem ml_RL_17 : Cond.methodLink RL 17 yX6_supply ∈ wT := wT_at 760 (by decide +kernel) (by decide +kernel)
theorem kc_RX6_120 : Cond.constantLong RX6 120 (100000) ∈ wT := wT_at 764 (by decide +kernel) (by decide +kernel)
theorem ml_RX6_112 : Cond.methodLink RX6 112 yX6_in ∈ wT := wT_at 765 (by decide +kernel) (by decide +kernel)
theorem kc_RX6_122 : Cond.constantLong RX6 122 (4000) ∈ wT := wT_at 768 (by decide +kernel) (by decide +kernel)
theorem ml_RL_21 : Cond.methodLink RL 21 yX6_size ∈ wT := wT_at 769 (by decide +kernel) (by decide +kernel)
theorem kc_RX6_127 : Cond.constantLong RX6 127 (400) ∈ wT := wT_at 773 (by decide +kernel) (by decide +kernel)
theorem kc_RX6_129 : Cond.constantLong RX6 129 (1000) ∈ wT := wT_at 774 (by decide +kernel) (by decide +kernel)
theorem ml_RL_26 : Cond.methodLink RL 26 yX6_pipe ∈ wT := wT_at 775 (by decide +kernel) (by decide +kernel)
theorem ml_RX6_116 : Cond.methodLink RX6 116 yX6_isPipe ∈ wT := wT_at 779 (by decide +kernel) (by decide +kernel)
theorem kc_RX6_134 : Cond.constantLong RX6 134 (10) ∈ wT := wT_at 783 (by decide +kernel) (by decide +kernel)
theorem ml_RL_30 : Cond.methodLink RL 30 yX6_head ∈ wT := wT_at 784 (by decide +kernel) (by decide +kernel)
theorem kc_RX6_136 : Cond.constantLong RX6 136 (200) ∈ wT := wT_at 788 (by decide +kernel) (by decide +kernel)
theorem kc_RX6_138 : Cond.constantLong RX6 138 (30000) ∈ wT := wT_at 789 (by decide +kernel) (by decide +kernel)
theorem ml_RL_35 : Cond.methodLink RL 35 yX6_open ∈ wT := wT_at 790 (by decide +kernel) (by decide +kernel)
theorem ml_RX6_140 : Cond.methodLink RX6 140 yX6_isHead ∈ wT := wT_at 794 (by decide +kernel) (by decide +kernel)
theorem ml_RL_39 : Cond.methodLink RL 39 yX6_shut ∈ wT := wT_at 798 (by decide +kernel) (by decide +kernel)
theorem ml_RL_43 : Cond.methodLink RL 43 yX6_clog ∈ wT := wT_at 802 (by decide +kernel) (by decide +kernel)
theorem kc_RX6_143 : Cond.constantLong RX6 143 (100) ∈ wT := wT_at 806 (by decide +kernel) (by decide +kernel)
theorem ml_RL_47 : Cond.methodLink RL 47 yX6_resize ∈ wT := wT_at 807 (by decide +kernel) (by decide +kernel)
theorem ml_RL_52 : Cond.methodLink RL 52 yX6_conduct ∈ wT := wT_at 811 (by decide +kernel) (by decide +kernel)
theorem kc_RX6_189 : Cond.constantLong RX6 189 (-1) ∈ wT := wT_at 815 (by decide +kernel) (by decide +kernel)
theorem kc_RX6_191 : Cond.constantLong RX6 191 (-2) ∈ wT := wT_at 816 (by decide +kernel) (by decide +kernel)
theorem ml_RX6_193 : Cond.methodLink RX6 193 yX6_workNow ∈ wT := wT_at 817 (by decide +kernel) (by decide +kernel)
theorem ml_RX6_183 : Cond.methodLink RX6 183 yX6_openAsTold ∈ wT := wT_at 821 (by decide +kernel) (by decide +kernel)
theorem ml_RX6_186 : Cond.methodLink RX6 186 yX6_work ∈ wT := wT_at 825 (by decide +kernel) (by decide +kernel)
theorem kc_RX6_170 : Cond.constantLong RX6 170 (1024) ∈ wT := wT_at 829 (by decide +kernel) (by decide +kernel)
theorem ml_RX6_172 : Cond.methodLink RX6 172 yX6_factorNow ∈ wT := wT_at 830 (by decide +kernel) (by decide +kernel)
theorem ml_RX6_175 : Cond.methodLink RX6 175 yX6_conductOf ∈ wT := wT_at 834 (by decide +kernel) (by decide +kernel)
theorem ml_RX6_153 : Cond.methodLink RX6 153 yX6_drag ∈ wT := wT_at 838 (by decide +kernel) (by decide +kernel)
theorem kc_RX6_157 : Cond.constantLong RX6 157 (1125899906842624) ∈ wT := wT_at 842 (by decide +kernel) (by decide +kernel)
theorem ml_RX6_159 : Cond.methodLink RX6 159 yX6_rootUp ∈ wT := wT_at 843 (by decide +kernel) (by decide +kernel)
theorem ml_RX6_149 : Cond.methodLink RX6 149 yX6_root ∈ wT := wT_at 846 (by decide +kernel) (by decide +kernel)
theorem kc_RX6_145 : Cond.constantLong RX6 145 (2147483648) ∈ wT := wT_at 849 (by decide +kernel) (by decide +kernel)
theorem kc_RX6_147 : Cond.constantLong RX6 147 (3037000499) ∈ wT := wT_at 850 (by decide +kernel) (by decide +kernel)
theorem ml_RX6_162 : Cond.methodLink RX6 162 yX6_up ∈ wT := wT_at 851 (by decide +kernel) (by decide +kernel)
theorem ml_RX6_179 : Cond.methodLink RX6 179 yX6_pressureOf ∈ wT := wT_at 854 (by decide +kernel) (by decide +kernel)
theorem kc_RX6_166 : Cond.constantLong RX6 166 (1073741824) ∈ wT := wT_at 858 (by decide +kernel) (by decide +kernel)
theorem kc_RX6_168 : Cond.constantLong RX6 168 (1048576) ∈ wT := wT_at 859 (by decide +kernel) (by decide +kernel)
theorem ml_RL_56 : Cond.methodLink RL 56 yX6_pressure ∈ wT := wT_at 860 (by decide +kernel) (by decide +kernel)
theorem ml_RL_60 : Cond.methodLink RL 60 yX6_flow ∈ wT := wT_at 864 (by decide +kernel) (by decide +kernel)
theorem ml_RX6_196 : Cond.methodLink RX6 196 yX6_flowOf ∈ wT := wT_at 868 (by decide +kernel) (by decide +kernel)
theorem ml_RL_65 : Cond.methodLink RL 65 yX6_total ∈ wT := wT_at 872 (by decide +kernel) (by decide +kernel)
theorem ml_RL_69 : Cond.methodLink RL 69 yX6_about ∈ wT := wT_at 876 (by decide +kernel) (by decide +kernel)
theorem ml_RX6_200 : Cond.methodLink RX6 200 yX6_asInt ∈ wT := wT_at 880 (by decide +kernel) (by decide +kernel)
theorem ml_RL_74 : Cond.methodLink RL 74 yX6_worst ∈ wT := wT_at 883 (by decide +kernel) (by decide +kernel)
theorem ml_RX6_204 : Cond.methodLink RX6 204 yX6_spare ∈ wT := wT_at 887 (by decide +kernel) (by decide +kernel)
theorem ml_RL_78 : Cond.methodLink RL 78 yX6_heap ∈ wT := wT_at 891 (by decide +kernel) (by decide +kernel)
theorem ml_RL_83 : Cond.methodLink RL 83 yX6_put ∈ wT := wT_at 895 (by decide +kernel) (by decide +kernel)
theorem ml_RX6_211 : Cond.methodLink RX6 211 yX6_isHeap ∈ wT := wT_at 899 (by decide +kernel) (by decide +kernel)
theorem ml_RL_87 : Cond.methodLink RL 87 yX6_least ∈ wT := wT_at 903 (by decide +kernel) (by decide +kernel)
theorem ml_RX6_214 : Cond.methodLink RX6 214 yX6_leastOf ∈ wT := wT_at 907 (by decide +kernel) (by decide +kernel)
theorem kc_RX6_217 : Cond.constantLong RX6 217 (-1000000000001) ∈ wT := wT_at 911 (by decide +kernel) (by decide +kernel)
theorem ml_RL_91 : Cond.methodLink RL 91 yX6_thinnest ∈ wT := wT_at 912 (by decide +kernel) (by decide +kernel)
theorem ml_RL_95 : Cond.methodLink RL 95 yX6_free ∈ wT := wT_at 916 (by decide +kernel) (by decide +kernel)
theorem ml_RX6_219 : Cond.methodLink RX6 219 yX6_freeMany ∈ wT := wT_at 920 (by decide +kernel) (by decide +kernel)
theorem ml_RL_100 : Cond.methodLink RL 100 yX6_choose ∈ wT := wT_at 924 (by decide +kernel) (by decide +kernel)
theorem ml_RX6_223 : Cond.methodLink RX6 223 yX6_price ∈ wT := wT_at 928 (by decide +kernel) (by decide +kernel)
theorem ml_RX6_227 : Cond.methodLink RX6 227 yX6_areMet ∈ wT := wT_at 932 (by decide +kernel) (by decide +kernel)
theorem kc_RX6_231 : Cond.constantLong RX6 231 (-5) ∈ wT := wT_at 936 (by decide +kernel) (by decide +kernel)
theorem ml_RL_104 : Cond.methodLink RL 104 yX6_bill ∈ wT := wT_at 937 (by decide +kernel) (by decide +kernel)
theorem ml_RL_109 : Cond.methodLink RL 109 yX6_margin ∈ wT := wT_at 941 (by decide +kernel) (by decide +kernel)
theorem ml_RL_113 : Cond.methodLink RL 113 yX6_floor ∈ wT := wT_at 945 (by decide +kernel) (by decide +kernel)
theorem kc_RX6_233 : Cond.constantLong RX6 233 (2) ∈ wT := wT_at 949 (by decide +kernel) (by decide +kernel)
theorem kc_RX6_235 : Cond.constantLong RX6 235 (16) ∈ wT := wT_at 950 (by decide +kernel) (by decide +kernel)
theorem ml_RL_117 : Cond.methodLink RL 117 yX6_cell ∈ wT := wT_at 951 (by decide +kernel) (by decide +kernel)
theorem ml_RX6_237 : Cond.methodLink RX6 237 yX6_isCell ∈ wT := wT_at 955 (by decide +kernel) (by decide +kernel)
theorem ml_RX6_241 : Cond.methodLink RX6 241 yX6_standsAt ∈ wT := wT_at 959 (by decide +kernel) (by decide +kernel)
theorem ml_RL_122 : Cond.methodLink RL 122 yX6_stand ∈ wT := wT_at 963 (by decide +kernel) (by decide +kernel)
theorem kc_RX6_245 : Cond.constantLong RX6 245 (12) ∈ wT := wT_at 967 (by decide +kernel) (by decide +kernel)
theorem ml_RL_126 : Cond.methodLink RL 126 yX6_lift ∈ wT := wT_at 968 (by decide +kernel) (by decide +kernel)
theorem ml_RL_130 : Cond.methodLink RL 130 yX6_wets ∈ wT := wT_at 972 (by decide +kernel) (by decide +kernel)
theorem ml_RX6_258 : Cond.methodLink RX6 258 yX6_wetsCell ∈ wT := wT_at 976 (by decide +kernel) (by decide +kernel)
theorem ml_RX6_251 : Cond.methodLink RX6 251 yX6_square ∈ wT := wT_at 980 (by decide +kernel) (by decide +kernel)
theorem ml_RX6_254 : Cond.methodLink RX6 254 yX6_goesThrough ∈ wT := wT_at 983 (by decide +kernel) (by decide +kernel)
theorem ml_RX6_247 : Cond.methodLink RX6 247 yX6_side ∈ wT := wT_at 986 (by decide +kernel) (by decide +kernel)
theorem ml_RL_134 : Cond.methodLink RL 134 yX6_dry ∈ wT := wT_at 989 (by decide +kernel) (by decide +kernel)
theorem ml_RL_138 : Cond.methodLink RL 138 yX6_near ∈ wT := wT_at 993 (by decide +kernel) (by decide +kernel)
theorem kc_RX6_262 : Cond.constantLong RX6 262 (30) ∈ wT := wT_at 997 (by decide +kernel) (by decide +kernel)
theorem ml_RL_142 : Cond.methodLink RL 142 yX6_told ∈ wT := wT_at 998 (by decide +kernel) (by decide +kernel)
set_option maxRecDepth 100000 in
theorem ym_yX5_supply : YV yX5_supply cX5_supply 3 (some .int) RX5 2 := ⟨wT_at 257 rfl rfl, wT_at 255 (by decide +kernel) (by decide +kernel), wT_at 256 (by decide +kernel) (by decide +kernel), wT_at 37 (by decide +kernel) (by decide +kernel), by decide, by decide +kernel⟩
set_option maxRecDepth 100000 in
theorem ym_yX5_isWithin : YS yX5_isWithin cX5_isWithin 3 (some .boolean) 3 := ⟨wT_at 261 rfl rfl, wT_at 260 (by decide +kernel) (by decide +kernel), wT_at 37 (by decide +kernel) (by decide +kernel), by decide, by decide +kernel⟩
set_option maxRecDepth 100000 in
theorem ym_yX5_size : YV yX5_size cX5_size 3 (some .int) RX5 2 := ⟨wT_at 265 rfl rfl, wT_at 263 (by decide +kernel) (by decide +kernel), wT_at 264 (by decide +kernel) (by decide +kernel), wT_at 37 (by decide +kernel) (by decide +kernel), by decide, by decide +kernel⟩
set_option maxRecDepth 100000 in
theorem ym_yX1_addSize : YV yX1_addSize cX1_addSize 3 (some .int) RX1 2 := ⟨wT_at 269 rfl rfl, wT_at 267 (by decide +kernel) (by decide +kernel), wT_at 268 (by decide +kernel) (by decide +kernel), wT_at 38 (by decide +kernel) (by decide +kernel), by decide, by decide +kernel⟩
set_option maxRecDepth 100000 in
theorem ym_yX5_pipe : YV yX5_pipe cX5_pipe 4 (some .int) RX5 3 := ⟨wT_at 273 rfl rfl, wT_at 271 (by decide +kernel) (by decide +kernel), wT_at 272 (by decide +kernel) (by decide +kernel), wT_at 37 (by decide +kernel) (by decide +kernel), by decide, by decide +kernel⟩
set_option maxRecDepth 100000 in
theorem ym_yX5_isEnd : YV yX5_isEnd cX5_isEnd 2 (some .boolean) RX5 1 := ⟨wT_at 277 rfl rfl, wT_at 276 (by decide +kernel) (by decide +kernel), wT_at 0 (by decide +kernel) (by decide +kernel), wT_at 37 (by decide +kernel) (by decide +kernel), by decide, by decide +kernel⟩
set_option maxRecDepth 100000 in
theorem ym_yX5_isPipe : YV yX5_isPipe cX5_isPipe 2 (some .boolean) RX5 1 := ⟨wT_at 281 rfl rfl, wT_at 280 (by decide +kernel) (by decide +kernel), wT_at 1 (by decide +kernel) (by decide +kernel), wT_at 37 (by decide +kernel) (by decide +kernel), by decide, by decide +kernel⟩
set_option maxRecDepth 100000 in
theorem ym_yX5_isSize : YV yX5_isSize cX5_isSize 2 (some .boolean) RX5 1 := ⟨wT_at 285 rfl rfl, wT_at 284 (by decide +kernel) (by decide +kernel), wT_at 2 (by decide +kernel) (by decide +kernel), wT_at 37 (by decide +kernel) (by decide +kernel), by decide, by decide +kernel⟩
set_option maxRecDepth 100000 in
theorem ym_yX1_addPipe : YV yX1_addPipe cX1_addPipe 4 (some .int) RX1 3 := ⟨wT_at 289 rfl rfl, wT_at 287 (by decide +kernel) (by decide +kernel), wT_at 288 (by decide +kernel) (by decide +kernel), wT_at 38 (by decide +kernel) (by decide +kernel), by decide, by decide +kernel⟩
set_option maxRecDepth 100000 in
theorem ym_yX1_setSize : YV yX1_setSize cX1_setSize 3 none RX1 2 := ⟨wT_at 293 rfl rfl, wT_at 291 (by decide +kernel) (by decide +kernel), wT_at 292 (by decide +kernel) (by decide +kernel), wT_at 38 (by decide +kernel) (by decide +kernel), by decide, by decide +kernel⟩
set_option maxRecDepth 100000 in
theorem ym_yX1_dragWith : YV yX1_dragWith cX1_dragWith 3 (some .int) RX1 2 := ⟨wT_at 297 rfl rfl, wT_at 295 (by decide +kernel) (by decide +kernel), wT_at 296 (by decide +kernel) (by decide +kernel), wT_at 38 (by decide +kernel) (by decide +kernel), by decide, by decide +kernel⟩
set_option maxRecDepth 100000 in
theorem ym_yX5_head : YV yX5_head cX5_head 4 (some .int) RX5 3 := ⟨wT_at 301 rfl rfl, wT_at 299 (by decide +kernel) (by decide +kernel), wT_at 300 (by decide +kernel) (by decide +kernel), wT_at 37 (by decide +kernel) (by decide +kernel), by decide, by decide +kernel⟩
set_option maxRecDepth 100000 in
theorem ym_yX1_setHead : YV yX1_setHead cX1_setHead 4 none RX1 3 := ⟨wT_at 305 rfl rfl, wT_at 303 (by decide +kernel) (by decide +kernel), wT_at 304 (by decide +kernel) (by decide +kernel), wT_at 38 (by decide +kernel) (by decide +kernel), by decide, by decide +kernel⟩
set_option maxRecDepth 100000 in
theorem ym_yX5_withBit : YS yX5_withBit cX5_withBit 3 (some .int) 3 := ⟨wT_at 308 rfl rfl, wT_at 307 (by decide +kernel) (by decide +kernel), wT_at 37 (by decide +kernel) (by decide +kernel), by decide, by decide +kernel⟩
set_option maxRecDepth 100000 in
theorem ym_yX5_open : YV yX5_open cX5_open 4 (some .int) RX5 2 := ⟨wT_at 312 rfl rfl, wT_at 310 (by decide +kernel) (by decide +kernel), wT_at 311 (by decide +kernel) (by decide +kernel), wT_at 37 (by decide +kernel) (by decide +kernel), by decide, by decide +kernel⟩
set_option maxRecDepth 100000 in
theorem ym_yX5_isHead : YV yX5_isHead cX5_isHead 2 (some .boolean) RX5 1 := ⟨wT_at 316 rfl rfl, wT_at 315 (by decide +kernel) (by decide +kernel), wT_at 3 (by decide +kernel) (by decide +kernel), wT_at 37 (by decide +kernel) (by decide +kernel), by decide, by decide +kernel⟩
set_option maxRecDepth 100000 in
theorem ym_yX5_bit : YS yX5_bit cX5_bit 2 (some .int) 2 := ⟨wT_at 319 rfl rfl, wT_at 318 (by decide +kernel) (by decide +kernel), wT_at 37 (by decide +kernel) (by decide +kernel), by decide, by decide +kernel⟩
set_option maxRecDepth 100000 in
theorem ym_yX5_shut : YV yX5_shut cX5_shut 4 (some .int) RX5 2 := ⟨wT_at 324 rfl rfl, wT_at 322 (by decide +kernel) (by decide +kernel), wT_at 323 (by decide +kernel) (by decide +kernel), wT_at 37 (by decide +kernel) (by decide +kernel), by decide, by decide +kernel⟩
set_option maxRecDepth 100000 in
theorem ym_yX5_clog : YV yX5_clog cX5_clog 4 (some .int) RX5 2 := ⟨wT_at 328 rfl rfl, wT_at 326 (by decide +kernel) (by decide +kernel), wT_at 327 (by decide +kernel) (by decide +kernel), wT_at 37 (by decide +kernel) (by decide +kernel), by decide, by decide +kernel⟩
set_option maxRecDepth 100000 in
theorem ym_yX5_resize : YV yX5_resize cX5_resize 4 (some .int) RX5 2 := ⟨wT_at 332 rfl rfl, wT_at 330 (by decide +kernel) (by decide +kernel), wT_at 331 (by decide +kernel) (by decide +kernel), wT_at 37 (by decide +kernel) (by decide +kernel), by decide, by decide +kernel⟩
set_option maxRecDepth 100000 in
theorem ym_yX5_conduct : YV yX5_conduct cX5_conduct 3 (some .long) RX5 2 := ⟨wT_at 337 rfl rfl, wT_at 335 (by decide +kernel) (by decide +kernel), wT_at 336 (by decide +kernel) (by decide +kernel), wT_at 37 (by decide +kernel) (by decide +kernel), by decide, by decide +kernel⟩
set_option maxRecDepth 100000 in
theorem ym_yX5_isSide : YS yX5_isSide cX5_isSide 1 (some .boolean) 1 := ⟨wT_at 341 rfl rfl, wT_at 340 (by decide +kernel) (by decide +kernel), wT_at 37 (by decide +kernel) (by decide +kernel), by decide, by decide +kernel⟩
set_option maxRecDepth 100000 in
theorem ym_yX4_gather : YV yX4_gather cX4_gather 5 none RX4 3 := ⟨wT_at 346 rfl rfl, wT_at 344 (by decide +kernel) (by decide +kernel), wT_at 345 (by decide +kernel) (by decide +kernel), wT_at 39 (by decide +kernel) (by decide +kernel), by decide, by decide +kernel⟩
set_option maxRecDepth 100000 in
theorem ym_yJ7_fill_d0a16 : YS yJ7_fill_d0a16 cJ7_fill_d0a16 5 none 2 := ⟨wT_at 349 rfl rfl, wT_at 348 (by decide +kernel) (by decide +kernel), wT_at 43 (by decide +kernel) (by decide +kernel), by decide, by decide +kernel⟩
set_option maxRecDepth 100000 in
theorem ym_yX1_factorNow : YV yX1_factorNow cX1_factorNow 2 (some .int) RX1 1 := ⟨wT_at 355 rfl rfl, wT_at 353 (by decide +kernel) (by decide +kernel), wT_at 354 (by decide +kernel) (by decide +kernel), wT_at 38 (by decide +kernel) (by decide +kernel), by decide, by decide +kernel⟩
set_option maxRecDepth 100000 in
theorem ym_yX4_conductOf : YV yX4_conductOf cX4_conductOf 8 (some .long) RX4 3 := ⟨wT_at 359 rfl rfl, wT_at 357 (by decide +kernel) (by decide +kernel), wT_at 358 (by decide +kernel) (by decide +kernel), wT_at 39 (by decide +kernel) (by decide +kernel), by decide, by decide +kernel⟩
set_option maxRecDepth 100000 in
theorem ym_yX4_isClosed : YV yX4_isClosed cX4_isClosed 2 (some .boolean) RX4 1 := ⟨wT_at 363 rfl rfl, wT_at 362 (by decide +kernel) (by decide +kernel), wT_at 4 (by decide +kernel) (by decide +kernel), wT_at 39 (by decide +kernel) (by decide +kernel), by decide, by decide +kernel⟩
set_option maxRecDepth 100000 in
theorem ym_yX3_root : YS yX3_root cX3_root 8 (some .long) 2 := ⟨wT_at 367 rfl rfl, wT_at 366 (by decide +kernel) (by decide +kernel), wT_at 44 (by decide +kernel) (by decide +kernel), by decide, by decide +kernel⟩
set_option maxRecDepth 100000 in
theorem ym_yJ13_numberOfLeadingZeros_95d88 : YS yJ13_numberOfLeadingZeros_95d88 cJ13_numberOfLeadingZeros_95d88 3 (some .int) 1 := ⟨wT_at 370 rfl rfl, wT_at 369 (by decide +kernel) (by decide +kernel), wT_at 45 (by decide +kernel) (by decide +kernel), by decide, by decide +kernel⟩
set_option maxRecDepth 100000 in
theorem ym_yJ6_numberOfLeadingZeros_0f7a4 : YS yJ6_numberOfLeadingZeros_0f7a4 cJ6_numberOfLeadingZeros_0f7a4 2 (some .int) 1 := ⟨wT_at 373 rfl rfl, wT_at 372 (by decide +kernel) (by decide +kernel), wT_at 46 (by decide +kernel) (by decide +kernel), by decide, by decide +kernel⟩
set_option maxRecDepth 100000 in
theorem ym_yX3_quotient : YS yX3_quotient cX3_quotient 5 (some .long) 3 := ⟨wT_at 378 rfl rfl, wT_at 377 (by decide +kernel) (by decide +kernel), wT_at 44 (by decide +kernel) (by decide +kernel), by decide, by decide +kernel⟩
set_option maxRecDepth 100000 in
theorem ym_yX5_pressure : YV yX5_pressure cX5_pressure 3 (some .long) RX5 2 := ⟨wT_at 383 rfl rfl, wT_at 381 (by decide +kernel) (by decide +kernel), wT_at 382 (by decide +kernel) (by decide +kernel), wT_at 37 (by decide +kernel) (by decide +kernel), by decide, by decide +kernel⟩
set_option maxRecDepth 100000 in
theorem ym_yX4_holdPressures : YV yX4_holdPressures cX4_holdPressures 3 none RX4 2 := ⟨wT_at 387 rfl rfl, wT_at 385 (by decide +kernel) (by decide +kernel), wT_at 386 (by decide +kernel) (by decide +kernel), wT_at 39 (by decide +kernel) (by decide +kernel), by decide, by decide +kernel⟩
set_option maxRecDepth 100000 in
theorem ym_yX4_fall : YV yX4_fall cX4_fall 5 none RX4 3 := ⟨wT_at 392 rfl rfl, wT_at 390 (by decide +kernel) (by decide +kernel), wT_at 391 (by decide +kernel) (by decide +kernel), wT_at 39 (by decide +kernel) (by decide +kernel), by decide, by decide +kernel⟩
set_option maxRecDepth 100000 in
theorem ym_yX4_fallen : YV yX4_fallen cX4_fallen 8 (some .long) RX4 4 := ⟨wT_at 396 rfl rfl, wT_at 395 (by decide +kernel) (by decide +kernel), wT_at 5 (by decide +kernel) (by decide +kernel), wT_at 39 (by decide +kernel) (by decide +kernel), by decide, by decide +kernel⟩
set_option maxRecDepth 100000 in
theorem ym_yX5_flow : YV yX5_flow cX5_flow 3 (some .long) RX5 2 := ⟨wT_at 402 rfl rfl, wT_at 400 (by decide +kernel) (by decide +kernel), wT_at 401 (by decide +kernel) (by decide +kernel), wT_at 37 (by decide +kernel) (by decide +kernel), by decide, by decide +kernel⟩
set_option maxRecDepth 100000 in
theorem ym_yX4_flowOf : YV yX4_flowOf cX4_flowOf 3 (some .long) RX4 2 := ⟨wT_at 406 rfl rfl, wT_at 404 (by decide +kernel) (by decide +kernel), wT_at 405 (by decide +kernel) (by decide +kernel), wT_at 39 (by decide +kernel) (by decide +kernel), by decide, by decide +kernel⟩
set_option maxRecDepth 100000 in
theorem ym_yX5_total : YV yX5_total cX5_total 5 (some .long) RX5 1 := ⟨wT_at 410 rfl rfl, wT_at 408 (by decide +kernel) (by decide +kernel), wT_at 409 (by decide +kernel) (by decide +kernel), wT_at 37 (by decide +kernel) (by decide +kernel), by decide, by decide +kernel⟩
set_option maxRecDepth 100000 in
theorem ym_yX5_about : YV yX5_about cX5_about 3 (some .int) RX5 2 := ⟨wT_at 414 rfl rfl, wT_at 412 (by decide +kernel) (by decide +kernel), wT_at 413 (by decide +kernel) (by decide +kernel), wT_at 37 (by decide +kernel) (by decide +kernel), by decide, by decide +kernel⟩
set_option maxRecDepth 100000 in
theorem ym_yX1_countFrom : YV yX1_countFrom cX1_countFrom 4 (some .int) RX1 1 := ⟨wT_at 419 rfl rfl, wT_at 417 (by decide +kernel) (by decide +kernel), wT_at 418 (by decide +kernel) (by decide +kernel), wT_at 38 (by decide +kernel) (by decide +kernel), by decide, by decide +kernel⟩
set_option maxRecDepth 100000 in
theorem ym_yX5_worst : YV yX5_worst cX5_worst 7 (some .int) RX5 0 := ⟨wT_at 423 rfl rfl, wT_at 421 (by decide +kernel) (by decide +kernel), wT_at 422 (by decide +kernel) (by decide +kernel), wT_at 37 (by decide +kernel) (by decide +kernel), by decide, by decide +kernel⟩
set_option maxRecDepth 100000 in
theorem ym_yX4_spareOf : YV yX4_spareOf cX4_spareOf 2 (some .long) RX4 1 := ⟨wT_at 427 rfl rfl, wT_at 425 (by decide +kernel) (by decide +kernel), wT_at 426 (by decide +kernel) (by decide +kernel), wT_at 39 (by decide +kernel) (by decide +kernel), by decide, by decide +kernel⟩
set_option maxRecDepth 100000 in
theorem ym_yX5_heap : YV yX5_heap cX5_heap 1 (some .int) RX5 0 := ⟨wT_at 432 rfl rfl, wT_at 430 (by decide +kernel) (by decide +kernel), wT_at 431 (by decide +kernel) (by decide +kernel), wT_at 37 (by decide +kernel) (by decide +kernel), by decide, by decide +kernel⟩
set_option maxRecDepth 100000 in
theorem ym_yX5_put : YV yX5_put cX5_put 4 (some .int) RX5 3 := ⟨wT_at 436 rfl rfl, wT_at 434 (by decide +kernel) (by decide +kernel), wT_at 435 (by decide +kernel) (by decide +kernel), wT_at 37 (by decide +kernel) (by decide +kernel), by decide, by decide +kernel⟩
set_option maxRecDepth 100000 in
theorem ym_yX5_isHeap : YV yX5_isHeap cX5_isHeap 2 (some .boolean) RX5 1 := ⟨wT_at 440 rfl rfl, wT_at 439 (by decide +kernel) (by decide +kernel), wT_at 6 (by decide +kernel) (by decide +kernel), wT_at 37 (by decide +kernel) (by decide +kernel), by decide, by decide +kernel⟩
set_option maxRecDepth 100000 in
theorem ym_yJ6_bitCount_0f7a4 : YS yJ6_bitCount_0f7a4 cJ6_bitCount_0f7a4 1 (some .int) 1 := ⟨wT_at 443 rfl rfl, wT_at 442 (by decide +kernel) (by decide +kernel), wT_at 46 (by decide +kernel) (by decide +kernel), by decide, by decide +kernel⟩
set_option maxRecDepth 100000 in
theorem ym_yX5_least : YV yX5_least cX5_least 2 (some .long) RX5 1 := ⟨wT_at 450 rfl rfl, wT_at 448 (by decide +kernel) (by decide +kernel), wT_at 449 (by decide +kernel) (by decide +kernel), wT_at 37 (by decide +kernel) (by decide +kernel), by decide, by decide +kernel⟩
set_option maxRecDepth 100000 in
theorem ym_yX5_leastOfHeap : YV yX5_leastOfHeap cX5_leastOfHeap 2 (some .long) RX5 1 := ⟨wT_at 455 rfl rfl, wT_at 454 (by decide +kernel) (by decide +kernel), wT_at 7 (by decide +kernel) (by decide +kernel), wT_at 37 (by decide +kernel) (by decide +kernel), by decide, by decide +kernel⟩
set_option maxRecDepth 100000 in
theorem ym_yX4_leastSpare : YV yX4_leastSpare cX4_leastSpare 5 (some .long) RX4 1 := ⟨wT_at 459 rfl rfl, wT_at 457 (by decide +kernel) (by decide +kernel), wT_at 458 (by decide +kernel) (by decide +kernel), wT_at 39 (by decide +kernel) (by decide +kernel), by decide, by decide +kernel⟩
set_option maxRecDepth 100000 in
theorem ym_yJ9_min_f86c9 : YS yJ9_min_f86c9 cJ9_min_f86c9 4 (some .long) 2 := ⟨wT_at 464 rfl rfl, wT_at 463 (by decide +kernel) (by decide +kernel), wT_at 47 (by decide +kernel) (by decide +kernel), by decide, by decide +kernel⟩
set_option maxRecDepth 100000 in
theorem ym_yX5_thinnest : YV yX5_thinnest cX5_thinnest 7 (some .int) RX5 0 := ⟨wT_at 468 rfl rfl, wT_at 466 (by decide +kernel) (by decide +kernel), wT_at 467 (by decide +kernel) (by decide +kernel), wT_at 37 (by decide +kernel) (by decide +kernel), by decide, by decide +kernel⟩
set_option maxRecDepth 100000 in
theorem ym_yX5_free : YV yX5_free cX5_free 4 (some .int) RX5 2 := ⟨wT_at 472 rfl rfl, wT_at 470 (by decide +kernel) (by decide +kernel), wT_at 471 (by decide +kernel) (by decide +kernel), wT_at 37 (by decide +kernel) (by decide +kernel), by decide, by decide +kernel⟩
set_option maxRecDepth 100000 in
theorem ym_yX5_choose : YV yX5_choose cX5_choose 1 (some .long) RX5 0 := ⟨wT_at 476 rfl rfl, wT_at 474 (by decide +kernel) (by decide +kernel), wT_at 475 (by decide +kernel) (by decide +kernel), wT_at 37 (by decide +kernel) (by decide +kernel), by decide, by decide +kernel⟩
set_option maxRecDepth 100000 in
theorem ym_yX0_begin : YV yX0_begin cX0_begin 2 none RX0 1 := ⟨wT_at 480 rfl rfl, wT_at 478 (by decide +kernel) (by decide +kernel), wT_at 479 (by decide +kernel) (by decide +kernel), wT_at 40 (by decide +kernel) (by decide +kernel), by decide, by decide +kernel⟩
set_option maxRecDepth 100000 in
theorem ym_yX0_listFreePipes : YV yX0_listFreePipes cX0_listFreePipes 2 none RX0 0 := ⟨wT_at 485 rfl rfl, wT_at 484 (by decide +kernel) (by decide +kernel), wT_at 8 (by decide +kernel) (by decide +kernel), wT_at 40 (by decide +kernel) (by decide +kernel), by decide, by decide +kernel⟩
set_option maxRecDepth 100000 in
theorem ym_yX0_widen : YV yX0_widen cX0_widen 6 none RX0 1 := ⟨wT_at 493 rfl rfl, wT_at 492 (by decide +kernel) (by decide +kernel), wT_at 9 (by decide +kernel) (by decide +kernel), wT_at 40 (by decide +kernel) (by decide +kernel), by decide, by decide +kernel⟩
set_option maxRecDepth 100000 in
theorem ym_yJ9_min_7cf53 : YS yJ9_min_7cf53 cJ9_min_7cf53 2 (some .int) 2 := ⟨wT_at 497 rfl rfl, wT_at 496 (by decide +kernel) (by decide +kernel), wT_at 47 (by decide +kernel) (by decide +kernel), by decide, by decide +kernel⟩
set_option maxRecDepth 100000 in
theorem ym_yJ9_max_7cf53 : YS yJ9_max_7cf53 cJ9_max_7cf53 2 (some .int) 2 := ⟨wT_at 500 rfl rfl, wT_at 499 (by decide +kernel) (by decide +kernel), wT_at 47 (by decide +kernel) (by decide +kernel), by decide, by decide +kernel⟩
set_option maxRecDepth 100000 in
theorem ym_yX0_leastPrice : YV yX0_leastPrice cX0_leastPrice 4 (some .int) RX0 1 := ⟨wT_at 504 rfl rfl, wT_at 503 (by decide +kernel) (by decide +kernel), wT_at 10 (by decide +kernel) (by decide +kernel), wT_at 40 (by decide +kernel) (by decide +kernel), by decide, by decide +kernel⟩
set_option maxRecDepth 100000 in
theorem ym_yX1_priceWith : YV yX1_priceWith cX1_priceWith 3 (some .int) RX1 2 := ⟨wT_at 508 rfl rfl, wT_at 506 (by decide +kernel) (by decide +kernel), wT_at 507 (by decide +kernel) (by decide +kernel), wT_at 38 (by decide +kernel) (by decide +kernel), by decide, by decide +kernel⟩
set_option maxRecDepth 100000 in
theorem ym_yX0_search : YS yX0_search cX0_search 4 none 3 := ⟨wT_at 511 rfl rfl, wT_at 510 (by decide +kernel) (by decide +kernel), wT_at 40 (by decide +kernel) (by decide +kernel), by decide, by decide +kernel⟩
set_option maxRecDepth 100000 in
theorem ym_yX0_areAllMet : YV yX0_areAllMet cX0_areAllMet 4 (some .boolean) RX0 1 := ⟨wT_at 515 rfl rfl, wT_at 514 (by decide +kernel) (by decide +kernel), wT_at 11 (by decide +kernel) (by decide +kernel), wT_at 40 (by decide +kernel) (by decide +kernel), by decide, by decide +kernel⟩
set_option maxRecDepth 100000 in
theorem ym_yX0_fix : YV yX0_fix cX0_fix 4 none RX0 2 := ⟨wT_at 522 rfl rfl, wT_at 521 (by decide +kernel) (by decide +kernel), wT_at 12 (by decide +kernel) (by decide +kernel), wT_at 40 (by decide +kernel) (by decide +kernel), by decide, by decide +kernel⟩
set_option maxRecDepth 100000 in
theorem ym_yX0_settle : YV yX0_settle cX0_settle 2 (some .boolean) RX0 0 := ⟨wT_at 527 rfl rfl, wT_at 525 (by decide +kernel) (by decide +kernel), wT_at 526 (by decide +kernel) (by decide +kernel), wT_at 40 (by decide +kernel) (by decide +kernel), by decide, by decide +kernel⟩
set_option maxRecDepth 100000 in
theorem ym_yX1_priceOfAll : YV yX1_priceOfAll cX1_priceOfAll 3 (some .int) RX1 0 := ⟨wT_at 532 rfl rfl, wT_at 530 (by decide +kernel) (by decide +kernel), wT_at 531 (by decide +kernel) (by decide +kernel), wT_at 38 (by decide +kernel) (by decide +kernel), by decide, by decide +kernel⟩
set_option maxRecDepth 100000 in
theorem ym_yX5_bill : YV yX5_bill cX5_bill 1 (some .long) RX5 0 := ⟨wT_at 538 rfl rfl, wT_at 536 (by decide +kernel) (by decide +kernel), wT_at 537 (by decide +kernel) (by decide +kernel), wT_at 37 (by decide +kernel) (by decide +kernel), by decide, by decide +kernel⟩
set_option maxRecDepth 100000 in
theorem ym_yX5_margin : YV yX5_margin cX5_margin 2 (some .int) RX5 1 := ⟨wT_at 542 rfl rfl, wT_at 540 (by decide +kernel) (by decide +kernel), wT_at 541 (by decide +kernel) (by decide +kernel), wT_at 37 (by decide +kernel) (by decide +kernel), by decide, by decide +kernel⟩
set_option maxRecDepth 100000 in
theorem ym_yX5_isMetWithLess : YV yX5_isMetWithLess cX5_isMetWithLess 4 (some .boolean) RX5 2 := ⟨wT_at 546 rfl rfl, wT_at 545 (by decide +kernel) (by decide +kernel), wT_at 13 (by decide +kernel) (by decide +kernel), wT_at 37 (by decide +kernel) (by decide +kernel), by decide, by decide +kernel⟩
set_option maxRecDepth 100000 in
theorem ym_yX5_leastTooMuch : YV yX5_leastTooMuch cX5_leastTooMuch 6 (some .int) RX5 1 := ⟨wT_at 552 rfl rfl, wT_at 551 (by decide +kernel) (by decide +kernel), wT_at 14 (by decide +kernel) (by decide +kernel), wT_at 37 (by decide +kernel) (by decide +kernel), by decide, by decide +kernel⟩
set_option maxRecDepth 100000 in
theorem ym_yX5_floor : YV yX5_floor cX5_floor 3 (some .int) RX5 2 := ⟨wT_at 556 rfl rfl, wT_at 554 (by decide +kernel) (by decide +kernel), wT_at 555 (by decide +kernel) (by decide +kernel), wT_at 37 (by decide +kernel) (by decide +kernel), by decide, by decide +kernel⟩
set_option maxRecDepth 100000 in
theorem ym_yX2_lay : YV yX2_lay cX2_lay 3 none RX2 2 := ⟨wT_at 560 rfl rfl, wT_at 558 (by decide +kernel) (by decide +kernel), wT_at 559 (by decide +kernel) (by decide +kernel), wT_at 41 (by decide +kernel) (by decide +kernel), by decide, by decide +kernel⟩
set_option maxRecDepth 100000 in
theorem ym_yJ7_fill_53178 : YS yJ7_fill_53178 cJ7_fill_53178 4 none 2 := ⟨wT_at 563 rfl rfl, wT_at 562 (by decide +kernel) (by decide +kernel), wT_at 43 (by decide +kernel) (by decide +kernel), by decide, by decide +kernel⟩
set_option maxRecDepth 100000 in
theorem ym_yX5_cell : YV yX5_cell cX5_cell 5 (some .int) RX5 3 := ⟨wT_at 567 rfl rfl, wT_at 565 (by decide +kernel) (by decide +kernel), wT_at 566 (by decide +kernel) (by decide +kernel), wT_at 37 (by decide +kernel) (by decide +kernel), by decide, by decide +kernel⟩
set_option maxRecDepth 100000 in
theorem ym_yX2_isCell : YV yX2_isCell cX2_isCell 3 (some .boolean) RX2 2 := ⟨wT_at 571 rfl rfl, wT_at 569 (by decide +kernel) (by decide +kernel), wT_at 570 (by decide +kernel) (by decide +kernel), wT_at 41 (by decide +kernel) (by decide +kernel), by decide, by decide +kernel⟩
set_option maxRecDepth 100000 in
theorem ym_yX2_whoStandsIn : YV yX2_whoStandsIn cX2_whoStandsIn 4 (some .int) RX2 2 := ⟨wT_at 575 rfl rfl, wT_at 573 (by decide +kernel) (by decide +kernel), wT_at 574 (by decide +kernel) (by decide +kernel), wT_at 41 (by decide +kernel) (by decide +kernel), by decide, by decide +kernel⟩
set_option maxRecDepth 100000 in
theorem ym_yX2_kindOf : YV yX2_kindOf cX2_kindOf 3 (some .int) RX2 2 := ⟨wT_at 580 rfl rfl, wT_at 578 (by decide +kernel) (by decide +kernel), wT_at 579 (by decide +kernel) (by decide +kernel), wT_at 41 (by decide +kernel) (by decide +kernel), by decide, by decide +kernel⟩
set_option maxRecDepth 100000 in
theorem ym_yX5_stand : YV yX5_stand cX5_stand 6 (some .int) RX5 4 := ⟨wT_at 584 rfl rfl, wT_at 582 (by decide +kernel) (by decide +kernel), wT_at 583 (by decide +kernel) (by decide +kernel), wT_at 37 (by decide +kernel) (by decide +kernel), by decide, by decide +kernel⟩
set_option maxRecDepth 100000 in
theorem ym_yX2_place : YV yX2_place cX2_place 5 none RX2 4 := ⟨wT_at 588 rfl rfl, wT_at 586 (by decide +kernel) (by decide +kernel), wT_at 587 (by decide +kernel) (by decide +kernel), wT_at 41 (by decide +kernel) (by decide +kernel), by decide, by decide +kernel⟩
set_option maxRecDepth 100000 in
theorem ym_yX5_lift : YV yX5_lift cX5_lift 3 (some .int) RX5 1 := ⟨wT_at 593 rfl rfl, wT_at 591 (by decide +kernel) (by decide +kernel), wT_at 592 (by decide +kernel) (by decide +kernel), wT_at 37 (by decide +kernel) (by decide +kernel), by decide, by decide +kernel⟩
set_option maxRecDepth 100000 in
theorem ym_yX5_wets : YV yX5_wets cX5_wets 4 (some .int) RX5 3 := ⟨wT_at 597 rfl rfl, wT_at 595 (by decide +kernel) (by decide +kernel), wT_at 596 (by decide +kernel) (by decide +kernel), wT_at 37 (by decide +kernel) (by decide +kernel), by decide, by decide +kernel⟩
set_option maxRecDepth 100000 in
theorem ym_yX2_isWetBy : YV yX2_isWetBy cX2_isWetBy 4 (some .boolean) RX2 3 := ⟨wT_at 601 rfl rfl, wT_at 599 (by decide +kernel) (by decide +kernel), wT_at 600 (by decide +kernel) (by decide +kernel), wT_at 41 (by decide +kernel) (by decide +kernel), by decide, by decide +kernel⟩
set_option maxRecDepth 100000 in
theorem ym_yX2_squareTo : YV yX2_squareTo cX2_squareTo 6 (some .int) RX2 3 := ⟨wT_at 606 rfl rfl, wT_at 605 (by decide +kernel) (by decide +kernel), wT_at 15 (by decide +kernel) (by decide +kernel), wT_at 41 (by decide +kernel) (by decide +kernel), by decide, by decide +kernel⟩
set_option maxRecDepth 100000 in
theorem ym_yX2_isBehindWall : YV yX2_isBehindWall cX2_isBehindWall 8 (some .boolean) RX2 3 := ⟨wT_at 610 rfl rfl, wT_at 609 (by decide +kernel) (by decide +kernel), wT_at 16 (by decide +kernel) (by decide +kernel), wT_at 41 (by decide +kernel) (by decide +kernel), by decide, by decide +kernel⟩
set_option maxRecDepth 100000 in
theorem ym_yX2_isCut : YS yX2_isCut cX2_isCut 5 (some .boolean) 4 := ⟨wT_at 615 rfl rfl, wT_at 614 (by decide +kernel) (by decide +kernel), wT_at 41 (by decide +kernel) (by decide +kernel), by decide, by decide +kernel⟩
set_option maxRecDepth 100000 in
theorem ym_yJ9_abs_0f7a4 : YS yJ9_abs_0f7a4 cJ9_abs_0f7a4 1 (some .int) 1 := ⟨wT_at 618 rfl rfl, wT_at 617 (by decide +kernel) (by decide +kernel), wT_at 47 (by decide +kernel) (by decide +kernel), by decide, by decide +kernel⟩
set_option maxRecDepth 100000 in
theorem ym_yX5_dry : YV yX5_dry cX5_dry 5 (some .int) RX5 1 := ⟨wT_at 622 rfl rfl, wT_at 620 (by decide +kernel) (by decide +kernel), wT_at 621 (by decide +kernel) (by decide +kernel), wT_at 37 (by decide +kernel) (by decide +kernel), by decide, by decide +kernel⟩
set_option maxRecDepth 100000 in
theorem ym_yX2_isDry : YV yX2_isDry cX2_isDry 4 (some .boolean) RX2 2 := ⟨wT_at 626 rfl rfl, wT_at 624 (by decide +kernel) (by decide +kernel), wT_at 625 (by decide +kernel) (by decide +kernel), wT_at 41 (by decide +kernel) (by decide +kernel), by decide, by decide +kernel⟩
set_option maxRecDepth 100000 in
theorem ym_yX5_near : YV yX5_near cX5_near 3 (some .int) RX5 1 := ⟨wT_at 631 rfl rfl, wT_at 629 (by decide +kernel) (by decide +kernel), wT_at 630 (by decide +kernel) (by decide +kernel), wT_at 37 (by decide +kernel) (by decide +kernel), by decide, by decide +kernel⟩
set_option maxRecDepth 100000 in
theorem ym_yX2_isNearAnother : YV yX2_isNearAnother cX2_isNearAnother 4 (some .boolean) RX2 2 := ⟨wT_at 635 rfl rfl, wT_at 633 (by decide +kernel) (by decide +kernel), wT_at 634 (by decide +kernel) (by decide +kernel), wT_at 41 (by decide +kernel) (by decide +kernel), by decide, by decide +kernel⟩
set_option maxRecDepth 100000 in
theorem ym_yX5_told : YV yX5_told cX5_told 2 (some .int) RX5 1 := ⟨wT_at 639 rfl rfl, wT_at 637 (by decide +kernel) (by decide +kernel), wT_at 638 (by decide +kernel) (by decide +kernel), wT_at 37 (by decide +kernel) (by decide +kernel), by decide, by decide +kernel⟩
set_option maxRecDepth 100000 in
theorem ym_yX2_countOpenCells : YV yX2_countOpenCells cX2_countOpenCells 4 (some .int) RX2 0 := ⟨wT_at 643 rfl rfl, wT_at 641 (by decide +kernel) (by decide +kernel), wT_at 642 (by decide +kernel) (by decide +kernel), wT_at 41 (by decide +kernel) (by decide +kernel), by decide, by decide +kernel⟩
set_option maxRecDepth 100000 in
theorem ym_yX6_supply : YV yX6_supply cX6_supply 3 (some .int) RX6 2 := ⟨wT_at 763 rfl rfl, wT_at 761 (by decide +kernel) (by decide +kernel), wT_at 762 (by decide +kernel) (by decide +kernel), wT_at 42 (by decide +kernel) (by decide +kernel), by decide, by decide +kernel⟩
set_option maxRecDepth 100000 in
theorem ym_yX6_in : YS yX6_in cX6_in 6 (some .boolean) 3 := ⟨wT_at 767 rfl rfl, wT_at 766 (by decide +kernel) (by decide +kernel), wT_at 42 (by decide +kernel) (by decide +kernel), by decide, by decide +kernel⟩
set_option maxRecDepth 100000 in
theorem ym_yX6_size : YV yX6_size cX6_size 3 (some .int) RX6 2 := ⟨wT_at 772 rfl rfl, wT_at 770 (by decide +kernel) (by decide +kernel), wT_at 771 (by decide +kernel) (by decide +kernel), wT_at 42 (by decide +kernel) (by decide +kernel), by decide, by decide +kernel⟩
set_option maxRecDepth 100000 in
theorem ym_yX6_pipe : YV yX6_pipe cX6_pipe 4 (some .int) RX6 3 := ⟨wT_at 778 rfl rfl, wT_at 776 (by decide +kernel) (by decide +kernel), wT_at 777 (by decide +kernel) (by decide +kernel), wT_at 42 (by decide +kernel) (by decide +kernel), by decide, by decide +kernel⟩
set_option maxRecDepth 100000 in
theorem ym_yX6_isPipe : YV yX6_isPipe cX6_isPipe 2 (some .boolean) RX6 1 := ⟨wT_at 782 rfl rfl, wT_at 781 (by decide +kernel) (by decide +kernel), wT_at 17 (by decide +kernel) (by decide +kernel), wT_at 42 (by decide +kernel) (by decide +kernel), by decide, by decide +kernel⟩
set_option maxRecDepth 100000 in
theorem ym_yX6_head : YV yX6_head cX6_head 4 (some .int) RX6 3 := ⟨wT_at 787 rfl rfl, wT_at 785 (by decide +kernel) (by decide +kernel), wT_at 786 (by decide +kernel) (by decide +kernel), wT_at 42 (by decide +kernel) (by decide +kernel), by decide, by decide +kernel⟩
set_option maxRecDepth 100000 in
theorem ym_yX6_open : YV yX6_open cX6_open 4 (some .int) RX6 2 := ⟨wT_at 793 rfl rfl, wT_at 791 (by decide +kernel) (by decide +kernel), wT_at 792 (by decide +kernel) (by decide +kernel), wT_at 42 (by decide +kernel) (by decide +kernel), by decide, by decide +kernel⟩
set_option maxRecDepth 100000 in
theorem ym_yX6_isHead : YV yX6_isHead cX6_isHead 2 (some .boolean) RX6 1 := ⟨wT_at 797 rfl rfl, wT_at 796 (by decide +kernel) (by decide +kernel), wT_at 18 (by decide +kernel) (by decide +kernel), wT_at 42 (by decide +kernel) (by decide +kernel), by decide, by decide +kernel⟩
set_option maxRecDepth 100000 in
theorem ym_yX6_shut : YV yX6_shut cX6_shut 4 (some .int) RX6 2 := ⟨wT_at 801 rfl rfl, wT_at 799 (by decide +kernel) (by decide +kernel), wT_at 800 (by decide +kernel) (by decide +kernel), wT_at 42 (by decide +kernel) (by decide +kernel), by decide, by decide +kernel⟩
set_option maxRecDepth 100000 in
theorem ym_yX6_clog : YV yX6_clog cX6_clog 4 (some .int) RX6 2 := ⟨wT_at 805 rfl rfl, wT_at 803 (by decide +kernel) (by decide +kernel), wT_at 804 (by decide +kernel) (by decide +kernel), wT_at 42 (by decide +kernel) (by decide +kernel), by decide, by decide +kernel⟩
set_option maxRecDepth 100000 in
theorem ym_yX6_resize : YV yX6_resize cX6_resize 4 (some .int) RX6 2 := ⟨wT_at 810 rfl rfl, wT_at 808 (by decide +kernel) (by decide +kernel), wT_at 809 (by decide +kernel) (by decide +kernel), wT_at 42 (by decide +kernel) (by decide +kernel), by decide, by decide +kernel⟩
set_option maxRecDepth 100000 in
theorem ym_yX6_conduct : YV yX6_conduct cX6_conduct 4 (some .long) RX6 2 := ⟨wT_at 814 rfl rfl, wT_at 812 (by decide +kernel) (by decide +kernel), wT_at 813 (by decide +kernel) (by decide +kernel), wT_at 42 (by decide +kernel) (by decide +kernel), by decide, by decide +kernel⟩
set_option maxRecDepth 100000 in
theorem ym_yX6_workNow : YV yX6_workNow cX6_workNow 1 none RX6 0 := ⟨wT_at 820 rfl rfl, wT_at 819 (by decide +kernel) (by decide +kernel), wT_at 19 (by decide +kernel) (by decide +kernel), wT_at 42 (by decide +kernel) (by decide +kernel), by decide, by decide +kernel⟩
set_option maxRecDepth 100000 in
theorem ym_yX6_openAsTold : YV yX6_openAsTold cX6_openAsTold 2 none RX6 0 := ⟨wT_at 824 rfl rfl, wT_at 823 (by decide +kernel) (by decide +kernel), wT_at 20 (by decide +kernel) (by decide +kernel), wT_at 42 (by decide +kernel) (by decide +kernel), by decide, by decide +kernel⟩
set_option maxRecDepth 100000 in
theorem ym_yX6_work : YV yX6_work cX6_work 4 none RX6 1 := ⟨wT_at 828 rfl rfl, wT_at 827 (by decide +kernel) (by decide +kernel), wT_at 21 (by decide +kernel) (by decide +kernel), wT_at 42 (by decide +kernel) (by decide +kernel), by decide, by decide +kernel⟩
set_option maxRecDepth 100000 in
theorem ym_yX6_factorNow : YV yX6_factorNow cX6_factorNow 2 (some .int) RX6 1 := ⟨wT_at 833 rfl rfl, wT_at 832 (by decide +kernel) (by decide +kernel), wT_at 22 (by decide +kernel) (by decide +kernel), wT_at 42 (by decide +kernel) (by decide +kernel), by decide, by decide +kernel⟩
set_option maxRecDepth 100000 in
theorem ym_yX6_conductOf : YV yX6_conductOf cX6_conductOf 9 none RX6 1 := ⟨wT_at 837 rfl rfl, wT_at 836 (by decide +kernel) (by decide +kernel), wT_at 23 (by decide +kernel) (by decide +kernel), wT_at 42 (by decide +kernel) (by decide +kernel), by decide, by decide +kernel⟩
set_option maxRecDepth 100000 in
theorem ym_yX6_drag : YV yX6_drag cX6_drag 2 (some .int) RX6 1 := ⟨wT_at 841 rfl rfl, wT_at 840 (by decide +kernel) (by decide +kernel), wT_at 24 (by decide +kernel) (by decide +kernel), wT_at 42 (by decide +kernel) (by decide +kernel), by decide, by decide +kernel⟩
set_option maxRecDepth 100000 in
theorem ym_yX6_rootUp : YS yX6_rootUp cX6_rootUp 4 (some .long) 1 := ⟨wT_at 845 rfl rfl, wT_at 844 (by decide +kernel) (by decide +kernel), wT_at 42 (by decide +kernel) (by decide +kernel), by decide, by decide +kernel⟩
set_option maxRecDepth 100000 in
theorem ym_yX6_root : YS yX6_root cX6_root 8 (some .long) 1 := ⟨wT_at 848 rfl rfl, wT_at 847 (by decide +kernel) (by decide +kernel), wT_at 42 (by decide +kernel) (by decide +kernel), by decide, by decide +kernel⟩
set_option maxRecDepth 100000 in
theorem ym_yX6_up : YS yX6_up cX6_up 4 (some .long) 2 := ⟨wT_at 853 rfl rfl, wT_at 852 (by decide +kernel) (by decide +kernel), wT_at 42 (by decide +kernel) (by decide +kernel), by decide, by decide +kernel⟩
set_option maxRecDepth 100000 in
theorem ym_yX6_pressureOf : YV yX6_pressureOf cX6_pressureOf 12 none RX6 3 := ⟨wT_at 857 rfl rfl, wT_at 856 (by decide +kernel) (by decide +kernel), wT_at 25 (by decide +kernel) (by decide +kernel), wT_at 42 (by decide +kernel) (by decide +kernel), by decide, by decide +kernel⟩
set_option maxRecDepth 100000 in
theorem ym_yX6_pressure : YV yX6_pressure cX6_pressure 4 (some .long) RX6 2 := ⟨wT_at 863 rfl rfl, wT_at 861 (by decide +kernel) (by decide +kernel), wT_at 862 (by decide +kernel) (by decide +kernel), wT_at 42 (by decide +kernel) (by decide +kernel), by decide, by decide +kernel⟩
set_option maxRecDepth 100000 in
theorem ym_yX6_flow : YV yX6_flow cX6_flow 3 (some .long) RX6 2 := ⟨wT_at 867 rfl rfl, wT_at 865 (by decide +kernel) (by decide +kernel), wT_at 866 (by decide +kernel) (by decide +kernel), wT_at 42 (by decide +kernel) (by decide +kernel), by decide, by decide +kernel⟩
set_option maxRecDepth 100000 in
theorem ym_yX6_flowOf : YV yX6_flowOf cX6_flowOf 5 (some .long) RX6 2 := ⟨wT_at 871 rfl rfl, wT_at 870 (by decide +kernel) (by decide +kernel), wT_at 26 (by decide +kernel) (by decide +kernel), wT_at 42 (by decide +kernel) (by decide +kernel), by decide, by decide +kernel⟩
set_option maxRecDepth 100000 in
theorem ym_yX6_total : YV yX6_total cX6_total 5 (some .long) RX6 1 := ⟨wT_at 875 rfl rfl, wT_at 873 (by decide +kernel) (by decide +kernel), wT_at 874 (by decide +kernel) (by decide +kernel), wT_at 42 (by decide +kernel) (by decide +kernel), by decide, by decide +kernel⟩
set_option maxRecDepth 100000 in
theorem ym_yX6_about : YV yX6_about cX6_about 6 (some .int) RX6 2 := ⟨wT_at 879 rfl rfl, wT_at 877 (by decide +kernel) (by decide +kernel), wT_at 878 (by decide +kernel) (by decide +kernel), wT_at 42 (by decide +kernel) (by decide +kernel), by decide, by decide +kernel⟩
set_option maxRecDepth 100000 in
theorem ym_yX6_asInt : YS yX6_asInt cX6_asInt 1 (some .int) 1 := ⟨wT_at 882 rfl rfl, wT_at 881 (by decide +kernel) (by decide +kernel), wT_at 42 (by decide +kernel) (by decide +kernel), by decide, by decide +kernel⟩
set_option maxRecDepth 100000 in
theorem ym_yX6_worst : YV yX6_worst cX6_worst 3 (some .int) RX6 0 := ⟨wT_at 886 rfl rfl, wT_at 884 (by decide +kernel) (by decide +kernel), wT_at 885 (by decide +kernel) (by decide +kernel), wT_at 42 (by decide +kernel) (by decide +kernel), by decide, by decide +kernel⟩
set_option maxRecDepth 100000 in
theorem ym_yX6_spare : YV yX6_spare cX6_spare 2 (some .long) RX6 1 := ⟨wT_at 890 rfl rfl, wT_at 889 (by decide +kernel) (by decide +kernel), wT_at 27 (by decide +kernel) (by decide +kernel), wT_at 42 (by decide +kernel) (by decide +kernel), by decide, by decide +kernel⟩
set_option maxRecDepth 100000 in
theorem ym_yX6_heap : YV yX6_heap cX6_heap 1 (some .int) RX6 0 := ⟨wT_at 894 rfl rfl, wT_at 892 (by decide +kernel) (by decide +kernel), wT_at 893 (by decide +kernel) (by decide +kernel), wT_at 42 (by decide +kernel) (by decide +kernel), by decide, by decide +kernel⟩
set_option maxRecDepth 100000 in
theorem ym_yX6_put : YV yX6_put cX6_put 6 (some .int) RX6 3 := ⟨wT_at 898 rfl rfl, wT_at 896 (by decide +kernel) (by decide +kernel), wT_at 897 (by decide +kernel) (by decide +kernel), wT_at 42 (by decide +kernel) (by decide +kernel), by decide, by decide +kernel⟩
set_option maxRecDepth 100000 in
theorem ym_yX6_isHeap : YV yX6_isHeap cX6_isHeap 2 (some .boolean) RX6 1 := ⟨wT_at 902 rfl rfl, wT_at 901 (by decide +kernel) (by decide +kernel), wT_at 28 (by decide +kernel) (by decide +kernel), wT_at 42 (by decide +kernel) (by decide +kernel), by decide, by decide +kernel⟩
set_option maxRecDepth 100000 in
theorem ym_yX6_least : YV yX6_least cX6_least 2 (some .long) RX6 1 := ⟨wT_at 906 rfl rfl, wT_at 904 (by decide +kernel) (by decide +kernel), wT_at 905 (by decide +kernel) (by decide +kernel), wT_at 42 (by decide +kernel) (by decide +kernel), by decide, by decide +kernel⟩
set_option maxRecDepth 100000 in
theorem ym_yX6_leastOf : YV yX6_leastOf cX6_leastOf 9 (some .long) RX6 2 := ⟨wT_at 910 rfl rfl, wT_at 909 (by decide +kernel) (by decide +kernel), wT_at 29 (by decide +kernel) (by decide +kernel), wT_at 42 (by decide +kernel) (by decide +kernel), by decide, by decide +kernel⟩
set_option maxRecDepth 100000 in
theorem ym_yX6_thinnest : YV yX6_thinnest cX6_thinnest 7 (some .int) RX6 0 := ⟨wT_at 915 rfl rfl, wT_at 913 (by decide +kernel) (by decide +kernel), wT_at 914 (by decide +kernel) (by decide +kernel), wT_at 42 (by decide +kernel) (by decide +kernel), by decide, by decide +kernel⟩
set_option maxRecDepth 100000 in
theorem ym_yX6_free : YV yX6_free cX6_free 3 (some .int) RX6 2 := ⟨wT_at 919 rfl rfl, wT_at 917 (by decide +kernel) (by decide +kernel), wT_at 918 (by decide +kernel) (by decide +kernel), wT_at 42 (by decide +kernel) (by decide +kernel), by decide, by decide +kernel⟩
set_option maxRecDepth 100000 in
theorem ym_yX6_freeMany : YV yX6_freeMany cX6_freeMany 3 (some .int) RX6 0 := ⟨wT_at 923 rfl rfl, wT_at 922 (by decide +kernel) (by decide +kernel), wT_at 30 (by decide +kernel) (by decide +kernel), wT_at 42 (by decide +kernel) (by decide +kernel), by decide, by decide +kernel⟩
set_option maxRecDepth 100000 in
theorem ym_yX6_choose : YV yX6_choose cX6_choose 8 (some .long) RX6 0 := ⟨wT_at 927 rfl rfl, wT_at 925 (by decide +kernel) (by decide +kernel), wT_at 926 (by decide +kernel) (by decide +kernel), wT_at 42 (by decide +kernel) (by decide +kernel), by decide, by decide +kernel⟩
set_option maxRecDepth 100000 in
theorem ym_yX6_price : YV yX6_price cX6_price 4 (some .long) RX6 0 := ⟨wT_at 931 rfl rfl, wT_at 930 (by decide +kernel) (by decide +kernel), wT_at 31 (by decide +kernel) (by decide +kernel), wT_at 42 (by decide +kernel) (by decide +kernel), by decide, by decide +kernel⟩
set_option maxRecDepth 100000 in
theorem ym_yX6_areMet : YV yX6_areMet cX6_areMet 3 (some .boolean) RX6 0 := ⟨wT_at 935 rfl rfl, wT_at 934 (by decide +kernel) (by decide +kernel), wT_at 32 (by decide +kernel) (by decide +kernel), wT_at 42 (by decide +kernel) (by decide +kernel), by decide, by decide +kernel⟩
set_option maxRecDepth 100000 in
theorem ym_yX6_bill : YV yX6_bill cX6_bill 1 (some .long) RX6 0 := ⟨wT_at 940 rfl rfl, wT_at 938 (by decide +kernel) (by decide +kernel), wT_at 939 (by decide +kernel) (by decide +kernel), wT_at 42 (by decide +kernel) (by decide +kernel), by decide, by decide +kernel⟩
set_option maxRecDepth 100000 in
theorem ym_yX6_margin : YV yX6_margin cX6_margin 4 (some .int) RX6 1 := ⟨wT_at 944 rfl rfl, wT_at 942 (by decide +kernel) (by decide +kernel), wT_at 943 (by decide +kernel) (by decide +kernel), wT_at 42 (by decide +kernel) (by decide +kernel), by decide, by decide +kernel⟩
set_option maxRecDepth 100000 in
theorem ym_yX6_floor : YV yX6_floor cX6_floor 4 (some .int) RX6 2 := ⟨wT_at 948 rfl rfl, wT_at 946 (by decide +kernel) (by decide +kernel), wT_at 947 (by decide +kernel) (by decide +kernel), wT_at 42 (by decide +kernel) (by decide +kernel), by decide, by decide +kernel⟩
set_option maxRecDepth 100000 in
theorem ym_yX6_cell : YV yX6_cell cX6_cell 5 (some .int) RX6 3 := ⟨wT_at 954 rfl rfl, wT_at 952 (by decide +kernel) (by decide +kernel), wT_at 953 (by decide +kernel) (by decide +kernel), wT_at 42 (by decide +kernel) (by decide +kernel), by decide, by decide +kernel⟩
set_option maxRecDepth 100000 in
theorem ym_yX6_isCell : YV yX6_isCell cX6_isCell 3 (some .boolean) RX6 2 := ⟨wT_at 958 rfl rfl, wT_at 957 (by decide +kernel) (by decide +kernel), wT_at 33 (by decide +kernel) (by decide +kernel), wT_at 42 (by decide +kernel) (by decide +kernel), by decide, by decide +kernel⟩
set_option maxRecDepth 100000 in
theorem ym_yX6_standsAt : YV yX6_standsAt cX6_standsAt 4 (some .int) RX6 2 := ⟨wT_at 962 rfl rfl, wT_at 961 (by decide +kernel) (by decide +kernel), wT_at 34 (by decide +kernel) (by decide +kernel), wT_at 42 (by decide +kernel) (by decide +kernel), by decide, by decide +kernel⟩
set_option maxRecDepth 100000 in
theorem ym_yX6_stand : YV yX6_stand cX6_stand 6 (some .int) RX6 4 := ⟨wT_at 966 rfl rfl, wT_at 964 (by decide +kernel) (by decide +kernel), wT_at 965 (by decide +kernel) (by decide +kernel), wT_at 42 (by decide +kernel) (by decide +kernel), by decide, by decide +kernel⟩
set_option maxRecDepth 100000 in
theorem ym_yX6_lift : YV yX6_lift cX6_lift 3 (some .int) RX6 1 := ⟨wT_at 971 rfl rfl, wT_at 969 (by decide +kernel) (by decide +kernel), wT_at 970 (by decide +kernel) (by decide +kernel), wT_at 42 (by decide +kernel) (by decide +kernel), by decide, by decide +kernel⟩
set_option maxRecDepth 100000 in
theorem ym_yX6_wets : YV yX6_wets cX6_wets 4 (some .int) RX6 3 := ⟨wT_at 975 rfl rfl, wT_at 973 (by decide +kernel) (by decide +kernel), wT_at 974 (by decide +kernel) (by decide +kernel), wT_at 42 (by decide +kernel) (by decide +kernel), by decide, by decide +kernel⟩
set_option maxRecDepth 100000 in
theorem ym_yX6_wetsCell : YV yX6_wetsCell cX6_wetsCell 9 (some .boolean) RX6 3 := ⟨wT_at 979 rfl rfl, wT_at 978 (by decide +kernel) (by decide +kernel), wT_at 35 (by decide +kernel) (by decide +kernel), wT_at 42 (by decide +kernel) (by decide +kernel), by decide, by decide +kernel⟩
set_option maxRecDepth 100000 in
theorem ym_yX6_square : YS yX6_square cX6_square 2 (some .int) 2 := ⟨wT_at 982 rfl rfl, wT_at 981 (by decide +kernel) (by decide +kernel), wT_at 42 (by decide +kernel) (by decide +kernel), by decide, by decide +kernel⟩
set_option maxRecDepth 100000 in
theorem ym_yX6_goesThrough : YS yX6_goesThrough cX6_goesThrough 12 (some .boolean) 6 := ⟨wT_at 985 rfl rfl, wT_at 984 (by decide +kernel) (by decide +kernel), wT_at 42 (by decide +kernel) (by decide +kernel), by decide, by decide +kernel⟩
set_option maxRecDepth 100000 in
theorem ym_yX6_side : YS yX6_side cX6_side 7 (some .int) 6 := ⟨wT_at 988 rfl rfl, wT_at 987 (by decide +kernel) (by decide +kernel), wT_at 42 (by decide +kernel) (by decide +kernel), by decide, by decide +kernel⟩
set_option maxRecDepth 100000 in
theorem ym_yX6_dry : YV yX6_dry cX6_dry 7 (some .int) RX6 1 := ⟨wT_at 992 rfl rfl, wT_at 990 (by decide +kernel) (by decide +kernel), wT_at 991 (by decide +kernel) (by decide +kernel), wT_at 42 (by decide +kernel) (by decide +kernel), by decide, by decide +kernel⟩
set_option maxRecDepth 100000 in
theorem ym_yX6_near : YV yX6_near cX6_near 4 (some .int) RX6 1 := ⟨wT_at 996 rfl rfl, wT_at 994 (by decide +kernel) (by decide +kernel), wT_at 995 (by decide +kernel) (by decide +kernel), wT_at 42 (by decide +kernel) (by decide +kernel), by decide, by decide +kernel⟩
set_option maxRecDepth 100000 in
theorem ym_yX6_told : YV yX6_told cX6_told 7 (some .int) RX6 1 := ⟨wT_at 1001 rfl rfl, wT_at 999 (by decide +kernel) (by decide +kernel), wT_at 1000 (by decide +kernel) (by decide +kernel), wT_at 42 (by decide +kernel) (by decide +kernel), by decide, by decide +kernel⟩
theorem uw_RX0 : ∀ w ∈ u_ws RX0 TX0 13, w ∈ wT := by decide +kernel
theorem uw_RX1 : ∀ w ∈ u_ws RX1 TX1 17, w ∈ wT := by decide +kernel
theorem uw_RX2 : ∀ w ∈ u_ws RX2 TX2 7, w ∈ wT := by decide +kernel
theorem uw_RX4 : ∀ w ∈ u_ws RX4 TX4 3, w ∈ wT := by decide +kernel
theorem uw_RX5 : ∀ w ∈ u_ws RX5 TX5 6, w ∈ wT := by decide +kernel
theorem uw_RX6 : ∀ w ∈ u_ws RX6 TX6 36, w ∈ wT := by decide +kernel

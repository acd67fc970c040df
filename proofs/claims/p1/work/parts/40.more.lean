theorem m_71 : Cond.initialized "java/lang/String" ∈ gT := gT_in (i := 71) (by decide +kernel) (by decide +kernel)
theorem m_97 : Cond.methodLink "StorksLet" 1 Lib.objectInit ∈ gT := gT_in (i := 97) (by decide +kernel) (by decide +kernel)
theorem m_98 : Cond.instanceMethod Lib.objectInit ∈ gT := gT_in (i := 98) (by decide +kernel) (by decide +kernel)
theorem m_99 : Cond.code Lib.objectInit ⟨#[0xb1]⟩ 1 none ∈ gT := gT_in (i := 99) (by decide +kernel) (by decide +kernel)
theorem m_100 : Cond.classLink "StorksLet" 7 "StorksLet$Signs" ∈ gT := gT_in (i := 100) (by decide +kernel) (by decide +kernel)
theorem m_101 : Cond.instantiable "StorksLet$Signs" 4 ∈ gT := gT_in (i := 101) (by decide +kernel) (by decide +kernel)
theorem m_103 : Cond.instanceMethod yX6_init ∈ gT := gT_in (i := 103) (by decide +kernel) (by decide +kernel)
theorem m_104 : Cond.code yX6_init cX6_init 1 none ∈ gT := gT_in (i := 104) (by decide +kernel) (by decide +kernel)
theorem m_105 : Cond.methodLink "StorksLet$Signs" 3 Lib.objectInit ∈ gT := gT_in (i := 105) (by decide +kernel) (by decide +kernel)
theorem m_133 : Cond.arrayClass .char ∈ gT := gT_in (i := 133) (by decide +kernel) (by decide +kernel)
theorem m_134 : Cond.classLink "StorksLet" 16 "StorksLet$Row" ∈ gT := gT_in (i := 134) (by decide +kernel) (by decide +kernel)
theorem m_135 : Cond.instantiable "StorksLet$Row" 2 ∈ gT := gT_in (i := 135) (by decide +kernel) (by decide +kernel)
theorem m_137 : Cond.instanceMethod yX2_init ∈ gT := gT_in (i := 137) (by decide +kernel) (by decide +kernel)
theorem m_138 : Cond.code yX2_init cX2_init 1 none ∈ gT := gT_in (i := 138) (by decide +kernel) (by decide +kernel)
theorem m_139 : Cond.methodLink "StorksLet$Row" 1 Lib.objectInit ∈ gT := gT_in (i := 139) (by decide +kernel) (by decide +kernel)
theorem m_151 : Cond.arrayClass .int ∈ gT := gT_in (i := 151) (by decide +kernel) (by decide +kernel)
theorem m_152 : Cond.classLink "StorksLet" 23 "StorksLet$Town" ∈ gT := gT_in (i := 152) (by decide +kernel) (by decide +kernel)
theorem m_153 : Cond.instantiable "StorksLet$Town" 19 ∈ gT := gT_in (i := 153) (by decide +kernel) (by decide +kernel)
theorem m_155 : Cond.instanceMethod yX8_init ∈ gT := gT_in (i := 155) (by decide +kernel) (by decide +kernel)
theorem m_156 : Cond.code yX8_init cX8_init 1 none ∈ gT := gT_in (i := 156) (by decide +kernel) (by decide +kernel)
theorem m_157 : Cond.methodLink "StorksLet$Town" 3 Lib.objectInit ∈ gT := gT_in (i := 157) (by decide +kernel) (by decide +kernel)
theorem m_158 : Cond.classLink "StorksLet$Town" 67 "StorksLet$Worths" ∈ gT := gT_in (i := 158) (by decide +kernel) (by decide +kernel)
theorem m_159 : Cond.instantiable "StorksLet$Worths" 6 ∈ gT := gT_in (i := 159) (by decide +kernel) (by decide +kernel)
theorem m_161 : Cond.instanceMethod yX10_init ∈ gT := gT_in (i := 161) (by decide +kernel) (by decide +kernel)
theorem m_162 : Cond.code yX10_init cX10_init 1 none ∈ gT := gT_in (i := 162) (by decide +kernel) (by decide +kernel)
theorem m_163 : Cond.methodLink "StorksLet$Worths" 3 Lib.objectInit ∈ gT := gT_in (i := 163) (by decide +kernel) (by decide +kernel)
theorem m_165 : Cond.methodLink "StorksLet$Worths" 26 yJ0_length_8abf5 ∈ gT := gT_in (i := 165) (by decide +kernel) (by decide +kernel)
theorem m_166 : Cond.instanceMethod yJ0_length_8abf5 ∈ gT := gT_in (i := 166) (by decide +kernel) (by decide +kernel)
theorem m_167 : Cond.selects "java/lang/String" yJ0_length_8abf5 yJ0_length_8abf5 ∈ gT := gT_in (i := 167) (by decide +kernel) (by decide +kernel)
theorem m_168 : Cond.code yJ0_length_8abf5 cJ0_length_8abf5 1 (some .int) ∈ gT := gT_in (i := 168) (by decide +kernel) (by decide +kernel)
theorem m_169 : Cond.methodLink "java/lang/String" 335 yJ0_coder_7d493 ∈ gT := gT_in (i := 169) (by decide +kernel) (by decide +kernel)
theorem m_170 : Cond.instanceMethod yJ0_coder_7d493 ∈ gT := gT_in (i := 170) (by decide +kernel) (by decide +kernel)
theorem m_171 : Cond.selects "java/lang/String" yJ0_coder_7d493 yJ0_coder_7d493 ∈ gT := gT_in (i := 171) (by decide +kernel) (by decide +kernel)
theorem m_172 : Cond.code yJ0_coder_7d493 cJ0_coder_7d493 1 (some .byte) ∈ gT := gT_in (i := 172) (by decide +kernel) (by decide +kernel)
theorem m_173 : Cond.fieldLink "java/lang/String" 38 "java/lang/String" "COMPACT_STRINGS" "Z" ∈ gT := gT_in (i := 173) (by decide +kernel) (by decide +kernel)
theorem m_177 : Cond.fieldLink "StorksLet$Worths" 15 "StorksLet$Worths" "ofOthers" "[I" ∈ gT := gT_in (i := 177) (by decide +kernel) (by decide +kernel)
theorem m_178 : Cond.fieldLink "StorksLet$Worths" 19 "StorksLet$Worths" "ofNests" "[I" ∈ gT := gT_in (i := 178) (by decide +kernel) (by decide +kernel)
theorem m_195 : Cond.arrayClass .byte ∈ gT := gT_in (i := 195) (by decide +kernel) (by decide +kernel)
theorem m_286 : Cond.classLink "StorksLet" 36 "StorksLet$Rule" ∈ gT := gT_in (i := 286) (by decide +kernel) (by decide +kernel)
theorem m_287 : Cond.instantiable "StorksLet$Rule" 11 ∈ gT := gT_in (i := 287) (by decide +kernel) (by decide +kernel)
theorem m_289 : Cond.instanceMethod yX3_init ∈ gT := gT_in (i := 289) (by decide +kernel) (by decide +kernel)
theorem m_290 : Cond.code yX3_init cX3_init 1 none ∈ gT := gT_in (i := 290) (by decide +kernel) (by decide +kernel)
theorem m_291 : Cond.methodLink "StorksLet$Rule" 5 Lib.objectInit ∈ gT := gT_in (i := 291) (by decide +kernel) (by decide +kernel)
theorem m_292 : Cond.fieldLink "StorksLet$Rule" 11 "StorksLet$Rule" "steps" "[I" ∈ gT := gT_in (i := 292) (by decide +kernel) (by decide +kernel)
theorem m_293 : Cond.fieldLink "StorksLet$Rule" 15 "StorksLet$Rule" "waiting" "[I" ∈ gT := gT_in (i := 293) (by decide +kernel) (by decide +kernel)
theorem m_294 : Cond.fieldLink "StorksLet$Rule" 18 "StorksLet$Rule" "values" "[I" ∈ gT := gT_in (i := 294) (by decide +kernel) (by decide +kernel)
theorem m_328 : Cond.classLink "StorksLet" 50 "StorksLet$Works" ∈ gT := gT_in (i := 328) (by decide +kernel) (by decide +kernel)
theorem m_329 : Cond.instantiable "StorksLet$Works" 4 ∈ gT := gT_in (i := 329) (by decide +kernel) (by decide +kernel)
theorem m_331 : Cond.instanceMethod yX9_init ∈ gT := gT_in (i := 331) (by decide +kernel) (by decide +kernel)
theorem m_332 : Cond.code yX9_init cX9_init 1 none ∈ gT := gT_in (i := 332) (by decide +kernel) (by decide +kernel)
theorem m_333 : Cond.methodLink "StorksLet$Works" 3 Lib.objectInit ∈ gT := gT_in (i := 333) (by decide +kernel) (by decide +kernel)
theorem m_334 : Cond.fieldLink "StorksLet$Works" 11 "StorksLet$Works" "kind" "[C" ∈ gT := gT_in (i := 334) (by decide +kernel) (by decide +kernel)
theorem m_335 : Cond.fieldLink "StorksLet$Works" 15 "StorksLet$Works" "first" "[I" ∈ gT := gT_in (i := 335) (by decide +kernel) (by decide +kernel)
theorem m_336 : Cond.fieldLink "StorksLet$Works" 19 "StorksLet$Works" "second" "[I" ∈ gT := gT_in (i := 336) (by decide +kernel) (by decide +kernel)
theorem m_348 : Cond.classLink "StorksLet" 57 "StorksLet$History" ∈ gT := gT_in (i := 348) (by decide +kernel) (by decide +kernel)
theorem m_349 : Cond.instantiable "StorksLet$History" 3 ∈ gT := gT_in (i := 349) (by decide +kernel) (by decide +kernel)
theorem m_351 : Cond.instanceMethod yX0_init ∈ gT := gT_in (i := 351) (by decide +kernel) (by decide +kernel)
theorem m_352 : Cond.code yX0_init cX0_init 1 none ∈ gT := gT_in (i := 352) (by decide +kernel) (by decide +kernel)
theorem m_353 : Cond.methodLink "StorksLet$History" 3 Lib.objectInit ∈ gT := gT_in (i := 353) (by decide +kernel) (by decide +kernel)
theorem m_354 : Cond.classLink "StorksLet$History" 11 "[[I" ∈ gT := gT_in (i := 354) (by decide +kernel) (by decide +kernel)
theorem m_367 : Cond.classLink "StorksLet" 64 "[[I" ∈ gT := gT_in (i := 367) (by decide +kernel) (by decide +kernel)
theorem m_368 : Cond.classLink "StorksLet" 72 "StorksLet$Steps" ∈ gT := gT_in (i := 368) (by decide +kernel) (by decide +kernel)
theorem m_369 : Cond.instantiable "StorksLet$Steps" 7 ∈ gT := gT_in (i := 369) (by decide +kernel) (by decide +kernel)
theorem m_371 : Cond.instanceMethod yX7_init ∈ gT := gT_in (i := 371) (by decide +kernel) (by decide +kernel)
theorem m_372 : Cond.code yX7_init cX7_init 1 none ∈ gT := gT_in (i := 372) (by decide +kernel) (by decide +kernel)
theorem m_373 : Cond.methodLink "StorksLet$Steps" 3 Lib.objectInit ∈ gT := gT_in (i := 373) (by decide +kernel) (by decide +kernel)
theorem m_380 : Cond.fieldLink "StorksLet$Steps" 29 "StorksLet$Steps" "nest" "[I" ∈ gT := gT_in (i := 380) (by decide +kernel) (by decide +kernel)
theorem m_381 : Cond.fieldLink "StorksLet$Steps" 32 "StorksLet$Steps" "sitter" "[I" ∈ gT := gT_in (i := 381) (by decide +kernel) (by decide +kernel)
theorem m_397 : Cond.classLink "StorksLet" 83 "StorksLet$Sightings" ∈ gT := gT_in (i := 397) (by decide +kernel) (by decide +kernel)
theorem m_398 : Cond.instantiable "StorksLet$Sightings" 4 ∈ gT := gT_in (i := 398) (by decide +kernel) (by decide +kernel)
theorem m_400 : Cond.instanceMethod yX5_init ∈ gT := gT_in (i := 400) (by decide +kernel) (by decide +kernel)
theorem m_401 : Cond.code yX5_init cX5_init 1 none ∈ gT := gT_in (i := 401) (by decide +kernel) (by decide +kernel)
theorem m_402 : Cond.methodLink "StorksLet$Sightings" 1 Lib.objectInit ∈ gT := gT_in (i := 402) (by decide +kernel) (by decide +kernel)
theorem m_403 : Cond.fieldLink "StorksLet$Sightings" 9 "StorksLet$Sightings" "bird" "[I" ∈ gT := gT_in (i := 403) (by decide +kernel) (by decide +kernel)
theorem m_404 : Cond.fieldLink "StorksLet$Sightings" 13 "StorksLet$Sightings" "roof" "[I" ∈ gT := gT_in (i := 404) (by decide +kernel) (by decide +kernel)
theorem m_405 : Cond.fieldLink "StorksLet$Sightings" 16 "StorksLet$Sightings" "after" "[I" ∈ gT := gT_in (i := 405) (by decide +kernel) (by decide +kernel)
theorem m_430 : Cond.fieldLink "StorksLet" 79 "StorksLet" "search" "LStorksLet$Search;" ∈ gT := gT_in (i := 430) (by decide +kernel) (by decide +kernel)
theorem m_432 : Cond.fieldLink "StorksLet" 90 "StorksLet" "odds" "[I" ∈ gT := gT_in (i := 432) (by decide +kernel) (by decide +kernel)
theorem m_1167 : Cond.arrayClass .boolean ∈ gT := gT_in (i := 1167) (by decide +kernel) (by decide +kernel)
theorem m_1436 : Cond.methodLink "StorksLetModel" 3 Lib.objectInit ∈ gT := gT_in (i := 1436) (by decide +kernel) (by decide +kernel)
theorem m_1439 : Cond.fieldLink "StorksLetModel" 13 "StorksLetModel" "height" "[I" ∈ gT := gT_in (i := 1439) (by decide +kernel) (by decide +kernel)
theorem m_1441 : Cond.fieldLink "StorksLetModel" 19 "StorksLetModel" "view" "[I" ∈ gT := gT_in (i := 1441) (by decide +kernel) (by decide +kernel)
theorem m_1443 : Cond.fieldLink "StorksLetModel" 25 "StorksLetModel" "lordOf" "[I" ∈ gT := gT_in (i := 1443) (by decide +kernel) (by decide +kernel)
theorem m_1445 : Cond.fieldLink "StorksLetModel" 28 "StorksLetModel" "strength" "[I" ∈ gT := gT_in (i := 1445) (by decide +kernel) (by decide +kernel)
theorem m_1446 : Cond.fieldLink "StorksLetModel" 31 "StorksLetModel" "arrival" "[I" ∈ gT := gT_in (i := 1446) (by decide +kernel) (by decide +kernel)
theorem m_1449 : Cond.fieldLink "StorksLetModel" 37 "StorksLetModel" "rent" "[I" ∈ gT := gT_in (i := 1449) (by decide +kernel) (by decide +kernel)
theorem m_1450 : Cond.fieldLink "StorksLetModel" 40 "StorksLetModel" "frosts" "[I" ∈ gT := gT_in (i := 1450) (by decide +kernel) (by decide +kernel)
theorem m_1464 : Cond.fieldLink "StorksLetModel" 54 "StorksLetModel" "newRoofs" "[I" ∈ gT := gT_in (i := 1464) (by decide +kernel) (by decide +kernel)
theorem m_1465 : Cond.fieldLink "StorksLetModel" 57 "StorksLetModel" "newBirds" "[I" ∈ gT := gT_in (i := 1465) (by decide +kernel) (by decide +kernel)
theorem m_1466 : Cond.fieldLink "StorksLetModel" 60 "StorksLetModel" "newFamilies" "[I" ∈ gT := gT_in (i := 1466) (by decide +kernel) (by decide +kernel)
theorem m_1467 : Cond.fieldLink "StorksLetModel" 63 "StorksLetModel" "rule" "[B" ∈ gT := gT_in (i := 1467) (by decide +kernel) (by decide +kernel)
theorem m_1475 : Cond.fieldLink "StorksLetModel" 69 "StorksLetModel" "askedFamily" "I" ∈ gT := gT_in (i := 1475) (by decide +kernel) (by decide +kernel)
theorem m_1480 : Cond.fieldLink "StorksLetModel" 78 "StorksLetModel" "works" "[I" ∈ gT := gT_in (i := 1480) (by decide +kernel) (by decide +kernel)
theorem m_1489 : Cond.fieldLink "StorksLetModel" 93 "StorksLetModel" "aim" "[I" ∈ gT := gT_in (i := 1489) (by decide +kernel) (by decide +kernel)
theorem m_1492 : Cond.fieldLink "StorksLetModel" 96 "StorksLetModel" "pool" "[I" ∈ gT := gT_in (i := 1492) (by decide +kernel) (by decide +kernel)
theorem m_1493 : Cond.fieldLink "StorksLetModel" 99 "StorksLetModel" "parent" "[I" ∈ gT := gT_in (i := 1493) (by decide +kernel) (by decide +kernel)
theorem m_1494 : Cond.fieldLink "StorksLetModel" 102 "StorksLetModel" "move" "[I" ∈ gT := gT_in (i := 1494) (by decide +kernel) (by decide +kernel)
theorem m_1495 : Cond.fieldLink "StorksLetModel" 105 "StorksLetModel" "places" "[I" ∈ gT := gT_in (i := 1495) (by decide +kernel) (by decide +kernel)
theorem m_1497 : Cond.fieldLink "StorksLetModel" 108 "StorksLetModel" "sights" "[I" ∈ gT := gT_in (i := 1497) (by decide +kernel) (by decide +kernel)
theorem m_1499 : Cond.fieldLink "StorksLetModel" 111 "StorksLetModel" "likely" "[I" ∈ gT := gT_in (i := 1499) (by decide +kernel) (by decide +kernel)
theorem m_2099 : Cond.fieldLink "java/lang/String" 9 "java/lang/String" "value" "[B" ∈ gT := gT_in (i := 2099) (by decide +kernel) (by decide +kernel)
theorem m_2100 : Cond.fieldLink "java/lang/String" 15 "java/lang/String" "coder" "B" ∈ gT := gT_in (i := 2100) (by decide +kernel) (by decide +kernel)
theorem dJ0_coder_7d493_0 : decode cJ0_coder_7d493 0 = .ok (.getstatic 38, 3) := by decide +kernel
theorem dJ0_coder_7d493_3 : decode cJ0_coder_7d493 3 = .ok (.ifCond .eq 10, 3) := by decide +kernel
theorem dJ0_coder_7d493_6 : decode cJ0_coder_7d493 6 = .ok (.aload_n 0, 1) := by decide +kernel
theorem dJ0_coder_7d493_7 : decode cJ0_coder_7d493 7 = .ok (.getfield 15, 3) := by decide +kernel
theorem dJ0_coder_7d493_10 : decode cJ0_coder_7d493 10 = .ok (.goto 4, 3) := by decide +kernel
theorem dJ0_coder_7d493_14 : decode cJ0_coder_7d493 14 = .ok (.ireturn, 1) := by decide +kernel
theorem dJ0_length_8abf5_0 : decode cJ0_length_8abf5 0 = .ok (.aload_n 0, 1) := by decide +kernel
theorem dJ0_length_8abf5_1 : decode cJ0_length_8abf5 1 = .ok (.getfield 9, 3) := by decide +kernel
theorem dJ0_length_8abf5_4 : decode cJ0_length_8abf5 4 = .ok (.arraylength, 1) := by decide +kernel
theorem dJ0_length_8abf5_5 : decode cJ0_length_8abf5 5 = .ok (.aload_n 0, 1) := by decide +kernel
theorem dJ0_length_8abf5_6 : decode cJ0_length_8abf5 6 = .ok (.invokevirtual 335, 3) := by decide +kernel
theorem dJ0_length_8abf5_9 : decode cJ0_length_8abf5 9 = .ok (.ishr, 1) := by decide +kernel
theorem dJ0_length_8abf5_10 : decode cJ0_length_8abf5 10 = .ok (.ireturn, 1) := by decide +kernel
theorem dX0_init_0 : decode cX0_init 0 = .ok (.aload_n 0, 1) := by decide +kernel
theorem dX0_init_1 : decode cX0_init 1 = .ok (.invokespecial 3, 3) := by decide +kernel
theorem dX0_init_4 : decode cX0_init 4 = .ok (.aload_n 0, 1) := by decide +kernel
theorem dX0_init_5 : decode cX0_init 5 = .ok (.bipush 13, 2) := by decide +kernel
theorem dX0_init_7 : decode cX0_init 7 = .ok (.bipush 76, 2) := by decide +kernel
theorem dX0_init_9 : decode cX0_init 9 = .ok (.multianewarray 11 2, 4) := by decide +kernel
theorem dX0_init_13 : decode cX0_init 13 = .ok (.putfield 13, 3) := by decide +kernel
theorem dX0_init_16 : decode cX0_init 16 = .ok (.aload_n 0, 1) := by decide +kernel
theorem dX0_init_17 : decode cX0_init 17 = .ok (.iconst 0, 1) := by decide +kernel
theorem dX0_init_18 : decode cX0_init 18 = .ok (.putfield 16, 3) := by decide +kernel
theorem dX0_init_21 : decode cX0_init 21 = .ok (.aload_n 0, 1) := by decide +kernel
theorem dX0_init_22 : decode cX0_init 22 = .ok (.iconst 0, 1) := by decide +kernel
theorem dX0_init_23 : decode cX0_init 23 = .ok (.putfield 20, 3) := by decide +kernel
theorem dX0_init_26 : decode cX0_init 26 = .ok (.return_, 1) := by decide +kernel
theorem dX10_init_0 : decode cX10_init 0 = .ok (.aload_n 0, 1) := by decide +kernel
theorem dX10_init_1 : decode cX10_init 1 = .ok (.invokespecial 3, 3) := by decide +kernel
theorem dX10_init_4 : decode cX10_init 4 = .ok (.aload_n 0, 1) := by decide +kernel
theorem dX10_init_5 : decode cX10_init 5 = .ok (.aconst_null, 1) := by decide +kernel
theorem dX10_init_6 : decode cX10_init 6 = .ok (.putfield 9, 3) := by decide +kernel
theorem dX10_init_9 : decode cX10_init 9 = .ok (.aload_n 0, 1) := by decide +kernel
theorem dX10_init_10 : decode cX10_init 10 = .ok (.bipush 36, 2) := by decide +kernel
theorem dX10_init_12 : decode cX10_init 12 = .ok (.newarray .int, 2) := by decide +kernel
theorem dX10_init_14 : decode cX10_init 14 = .ok (.putfield 15, 3) := by decide +kernel
theorem dX10_init_17 : decode cX10_init 17 = .ok (.aload_n 0, 1) := by decide +kernel
theorem dX10_init_18 : decode cX10_init 18 = .ok (.bipush 36, 2) := by decide +kernel
theorem dX10_init_20 : decode cX10_init 20 = .ok (.newarray .int, 2) := by decide +kernel
theorem dX10_init_22 : decode cX10_init 22 = .ok (.putfield 19, 3) := by decide +kernel
theorem dX10_init_25 : decode cX10_init 25 = .ok (.aload_n 0, 1) := by decide +kernel
theorem dX10_init_26 : decode cX10_init 26 = .ok (.ldc 24, 2) := by decide +kernel
theorem dX10_init_28 : decode cX10_init 28 = .ok (.invokevirtual 26, 3) := by decide +kernel
theorem dX10_init_31 : decode cX10_init 31 = .ok (.newarray .int, 2) := by decide +kernel
theorem dX10_init_33 : decode cX10_init 33 = .ok (.putfield 32, 3) := by decide +kernel
theorem dX10_init_36 : decode cX10_init 36 = .ok (.aload_n 0, 1) := by decide +kernel
theorem dX10_init_37 : decode cX10_init 37 = .ok (.iconst 0, 1) := by decide +kernel
theorem dX10_init_38 : decode cX10_init 38 = .ok (.putfield 35, 3) := by decide +kernel
theorem dX10_init_41 : decode cX10_init 41 = .ok (.aload_n 0, 1) := by decide +kernel
theorem dX10_init_42 : decode cX10_init 42 = .ok (.iconst 0, 1) := by decide +kernel
theorem dX10_init_43 : decode cX10_init 43 = .ok (.putfield 39, 3) := by decide +kernel
theorem dX10_init_46 : decode cX10_init 46 = .ok (.return_, 1) := by decide +kernel
theorem dX11_init_0 : decode cX11_init 0 = .ok (.aload_n 0, 1) := by decide +kernel
theorem dX11_init_1 : decode cX11_init 1 = .ok (.invokespecial 1, 3) := by decide +kernel
theorem dX11_init_4 : decode cX11_init 4 = .ok (.aload_n 0, 1) := by decide +kernel
theorem dX11_init_5 : decode cX11_init 5 = .ok (.new 7, 3) := by decide +kernel
theorem dX11_init_8 : decode cX11_init 8 = .ok (.dup, 1) := by decide +kernel
theorem dX11_init_9 : decode cX11_init 9 = .ok (.invokespecial 9, 3) := by decide +kernel
theorem dX11_init_12 : decode cX11_init 12 = .ok (.putfield 10, 3) := by decide +kernel
theorem dX11_init_15 : decode cX11_init 15 = .ok (.aload_n 0, 1) := by decide +kernel
theorem dX11_init_16 : decode cX11_init 16 = .ok (.new 16, 3) := by decide +kernel
theorem dX11_init_19 : decode cX11_init 19 = .ok (.dup, 1) := by decide +kernel
theorem dX11_init_20 : decode cX11_init 20 = .ok (.invokespecial 18, 3) := by decide +kernel
theorem dX11_init_23 : decode cX11_init 23 = .ok (.putfield 19, 3) := by decide +kernel
theorem dX11_init_26 : decode cX11_init 26 = .ok (.aload_n 0, 1) := by decide +kernel
theorem dX11_init_27 : decode cX11_init 27 = .ok (.new 23, 3) := by decide +kernel
theorem dX11_init_30 : decode cX11_init 30 = .ok (.dup, 1) := by decide +kernel
theorem dX11_init_31 : decode cX11_init 31 = .ok (.invokespecial 25, 3) := by decide +kernel
theorem dX11_init_34 : decode cX11_init 34 = .ok (.putfield 26, 3) := by decide +kernel
theorem dX11_init_37 : decode cX11_init 37 = .ok (.aload_n 0, 1) := by decide +kernel
theorem dX11_init_38 : decode cX11_init 38 = .ok (.new 23, 3) := by decide +kernel
theorem dX11_init_41 : decode cX11_init 41 = .ok (.dup, 1) := by decide +kernel
theorem dX11_init_42 : decode cX11_init 42 = .ok (.invokespecial 25, 3) := by decide +kernel
theorem dX11_init_45 : decode cX11_init 45 = .ok (.putfield 30, 3) := by decide +kernel
theorem dX11_init_48 : decode cX11_init 48 = .ok (.aload_n 0, 1) := by decide +kernel
theorem dX11_init_49 : decode cX11_init 49 = .ok (.new 23, 3) := by decide +kernel
theorem dX11_init_52 : decode cX11_init 52 = .ok (.dup, 1) := by decide +kernel
theorem dX11_init_53 : decode cX11_init 53 = .ok (.invokespecial 25, 3) := by decide +kernel
theorem dX11_init_56 : decode cX11_init 56 = .ok (.putfield 33, 3) := by decide +kernel
theorem dX11_init_59 : decode cX11_init 59 = .ok (.aload_n 0, 1) := by decide +kernel
theorem dX11_init_60 : decode cX11_init 60 = .ok (.new 36, 3) := by decide +kernel
theorem dX11_init_63 : decode cX11_init 63 = .ok (.dup, 1) := by decide +kernel
theorem dX11_init_64 : decode cX11_init 64 = .ok (.invokespecial 38, 3) := by decide +kernel
theorem dX11_init_67 : decode cX11_init 67 = .ok (.putfield 39, 3) := by decide +kernel
theorem dX11_init_70 : decode cX11_init 70 = .ok (.aload_n 0, 1) := by decide +kernel
theorem dX11_init_71 : decode cX11_init 71 = .ok (.bipush 40, 2) := by decide +kernel
theorem dX11_init_73 : decode cX11_init 73 = .ok (.newarray .int, 2) := by decide +kernel
theorem dX11_init_75 : decode cX11_init 75 = .ok (.putfield 43, 3) := by decide +kernel
theorem dX11_init_78 : decode cX11_init 78 = .ok (.aload_n 0, 1) := by decide +kernel
theorem dX11_init_79 : decode cX11_init 79 = .ok (.iconst 1, 1) := by decide +kernel
theorem dX11_init_80 : decode cX11_init 80 = .ok (.newarray .int, 2) := by decide +kernel
theorem dX11_init_82 : decode cX11_init 82 = .ok (.putfield 47, 3) := by decide +kernel
theorem dX11_init_85 : decode cX11_init 85 = .ok (.aload_n 0, 1) := by decide +kernel
theorem dX11_init_86 : decode cX11_init 86 = .ok (.new 50, 3) := by decide +kernel
theorem dX11_init_89 : decode cX11_init 89 = .ok (.dup, 1) := by decide +kernel
theorem dX11_init_90 : decode cX11_init 90 = .ok (.invokespecial 52, 3) := by decide +kernel
theorem dX11_init_93 : decode cX11_init 93 = .ok (.putfield 53, 3) := by decide +kernel
theorem dX11_init_96 : decode cX11_init 96 = .ok (.aload_n 0, 1) := by decide +kernel
theorem dX11_init_97 : decode cX11_init 97 = .ok (.new 57, 3) := by decide +kernel
theorem dX11_init_100 : decode cX11_init 100 = .ok (.dup, 1) := by decide +kernel
theorem dX11_init_101 : decode cX11_init 101 = .ok (.invokespecial 59, 3) := by decide +kernel
theorem dX11_init_104 : decode cX11_init 104 = .ok (.putfield 60, 3) := by decide +kernel
theorem dX11_init_107 : decode cX11_init 107 = .ok (.aload_n 0, 1) := by decide +kernel
theorem dX11_init_108 : decode cX11_init 108 = .ok (.iconst 2, 1) := by decide +kernel
theorem dX11_init_109 : decode cX11_init 109 = .ok (.bipush 76, 2) := by decide +kernel
theorem dX11_init_111 : decode cX11_init 111 = .ok (.multianewarray 64 2, 4) := by decide +kernel
theorem dX11_init_115 : decode cX11_init 115 = .ok (.putfield 66, 3) := by decide +kernel
theorem dX11_init_118 : decode cX11_init 118 = .ok (.aload_n 0, 1) := by decide +kernel
theorem dX11_init_119 : decode cX11_init 119 = .ok (.iconst 2, 1) := by decide +kernel
theorem dX11_init_120 : decode cX11_init 120 = .ok (.newarray .int, 2) := by decide +kernel
theorem dX11_init_122 : decode cX11_init 122 = .ok (.putfield 69, 3) := by decide +kernel
theorem dX11_init_125 : decode cX11_init 125 = .ok (.aload_n 0, 1) := by decide +kernel
theorem dX11_init_126 : decode cX11_init 126 = .ok (.new 72, 3) := by decide +kernel
theorem dX11_init_129 : decode cX11_init 129 = .ok (.dup, 1) := by decide +kernel
theorem dX11_init_130 : decode cX11_init 130 = .ok (.invokespecial 74, 3) := by decide +kernel
theorem dX11_init_133 : decode cX11_init 133 = .ok (.putfield 75, 3) := by decide +kernel
theorem dX11_init_136 : decode cX11_init 136 = .ok (.aload_n 0, 1) := by decide +kernel
theorem dX11_init_137 : decode cX11_init 137 = .ok (.aconst_null, 1) := by decide +kernel
theorem dX11_init_138 : decode cX11_init 138 = .ok (.putfield 79, 3) := by decide +kernel
theorem dX11_init_141 : decode cX11_init 141 = .ok (.aload_n 0, 1) := by decide +kernel
theorem dX11_init_142 : decode cX11_init 142 = .ok (.new 83, 3) := by decide +kernel
theorem dX11_init_145 : decode cX11_init 145 = .ok (.dup, 1) := by decide +kernel
theorem dX11_init_146 : decode cX11_init 146 = .ok (.invokespecial 85, 3) := by decide +kernel
theorem dX11_init_149 : decode cX11_init 149 = .ok (.putfield 86, 3) := by decide +kernel
theorem dX11_init_152 : decode cX11_init 152 = .ok (.aload_n 0, 1) := by decide +kernel
theorem dX11_init_153 : decode cX11_init 153 = .ok (.bipush 6, 2) := by decide +kernel
theorem dX11_init_155 : decode cX11_init 155 = .ok (.newarray .int, 2) := by decide +kernel
theorem dX11_init_157 : decode cX11_init 157 = .ok (.putfield 90, 3) := by decide +kernel
theorem dX11_init_160 : decode cX11_init 160 = .ok (.aload_n 0, 1) := by decide +kernel
theorem dX11_init_161 : decode cX11_init 161 = .ok (.getfield 26, 3) := by decide +kernel
theorem dX11_init_164 : decode cX11_init 164 = .ok (.bipush 40, 2) := by decide +kernel
theorem dX11_init_166 : decode cX11_init 166 = .ok (.newarray .int, 2) := by decide +kernel
theorem dX11_init_168 : decode cX11_init 168 = .ok (.putfield 93, 3) := by decide +kernel
theorem dX11_init_171 : decode cX11_init 171 = .ok (.aload_n 0, 1) := by decide +kernel
theorem dX11_init_172 : decode cX11_init 172 = .ok (.getfield 26, 3) := by decide +kernel
theorem dX11_init_175 : decode cX11_init 175 = .ok (.getfield 96, 3) := by decide +kernel
theorem dX11_init_178 : decode cX11_init 178 = .ok (.new 36, 3) := by decide +kernel
theorem dX11_init_181 : decode cX11_init 181 = .ok (.dup, 1) := by decide +kernel
theorem dX11_init_182 : decode cX11_init 182 = .ok (.invokespecial 38, 3) := by decide +kernel
theorem dX11_init_185 : decode cX11_init 185 = .ok (.putfield 100, 3) := by decide +kernel
theorem dX11_init_188 : decode cX11_init 188 = .ok (.return_, 1) := by decide +kernel
theorem dX12_init_0 : decode cX12_init 0 = .ok (.aload_n 0, 1) := by decide +kernel
theorem dX12_init_1 : decode cX12_init 1 = .ok (.invokespecial 3, 3) := by decide +kernel
theorem dX12_init_4 : decode cX12_init 4 = .ok (.aload_n 0, 1) := by decide +kernel
theorem dX12_init_5 : decode cX12_init 5 = .ok (.bipush 55, 2) := by decide +kernel
theorem dX12_init_7 : decode cX12_init 7 = .ok (.newarray .int, 2) := by decide +kernel
theorem dX12_init_9 : decode cX12_init 9 = .ok (.putfield 9, 3) := by decide +kernel
theorem dX12_init_12 : decode cX12_init 12 = .ok (.aload_n 0, 1) := by decide +kernel
theorem dX12_init_13 : decode cX12_init 13 = .ok (.bipush 6, 2) := by decide +kernel
theorem dX12_init_15 : decode cX12_init 15 = .ok (.newarray .int, 2) := by decide +kernel
theorem dX12_init_17 : decode cX12_init 17 = .ok (.putfield 13, 3) := by decide +kernel
theorem dX12_init_20 : decode cX12_init 20 = .ok (.aload_n 0, 1) := by decide +kernel
theorem dX12_init_21 : decode cX12_init 21 = .ok (.bipush 6, 2) := by decide +kernel
theorem dX12_init_23 : decode cX12_init 23 = .ok (.newarray .int, 2) := by decide +kernel
theorem dX12_init_25 : decode cX12_init 25 = .ok (.putfield 16, 3) := by decide +kernel
theorem dX12_init_28 : decode cX12_init 28 = .ok (.aload_n 0, 1) := by decide +kernel
theorem dX12_init_29 : decode cX12_init 29 = .ok (.bipush 6, 2) := by decide +kernel
theorem dX12_init_31 : decode cX12_init 31 = .ok (.newarray .int, 2) := by decide +kernel
theorem dX12_init_33 : decode cX12_init 33 = .ok (.putfield 19, 3) := by decide +kernel
theorem dX12_init_36 : decode cX12_init 36 = .ok (.aload_n 0, 1) := by decide +kernel
theorem dX12_init_37 : decode cX12_init 37 = .ok (.bipush 6, 2) := by decide +kernel
theorem dX12_init_39 : decode cX12_init 39 = .ok (.newarray .int, 2) := by decide +kernel
theorem dX12_init_41 : decode cX12_init 41 = .ok (.putfield 22, 3) := by decide +kernel
theorem dX12_init_44 : decode cX12_init 44 = .ok (.aload_n 0, 1) := by decide +kernel
theorem dX12_init_45 : decode cX12_init 45 = .ok (.bipush 6, 2) := by decide +kernel
theorem dX12_init_47 : decode cX12_init 47 = .ok (.newarray .int, 2) := by decide +kernel
theorem dX12_init_49 : decode cX12_init 49 = .ok (.putfield 25, 3) := by decide +kernel
theorem dX12_init_52 : decode cX12_init 52 = .ok (.aload_n 0, 1) := by decide +kernel
theorem dX12_init_53 : decode cX12_init 53 = .ok (.bipush 6, 2) := by decide +kernel
theorem dX12_init_55 : decode cX12_init 55 = .ok (.newarray .int, 2) := by decide +kernel
theorem dX12_init_57 : decode cX12_init 57 = .ok (.putfield 28, 3) := by decide +kernel
theorem dX12_init_60 : decode cX12_init 60 = .ok (.aload_n 0, 1) := by decide +kernel
theorem dX12_init_61 : decode cX12_init 61 = .ok (.bipush 6, 2) := by decide +kernel
theorem dX12_init_63 : decode cX12_init 63 = .ok (.newarray .int, 2) := by decide +kernel
theorem dX12_init_65 : decode cX12_init 65 = .ok (.putfield 31, 3) := by decide +kernel
theorem dX12_init_68 : decode cX12_init 68 = .ok (.aload_n 0, 1) := by decide +kernel
theorem dX12_init_69 : decode cX12_init 69 = .ok (.bipush 8, 2) := by decide +kernel
theorem dX12_init_71 : decode cX12_init 71 = .ok (.newarray .int, 2) := by decide +kernel
theorem dX12_init_73 : decode cX12_init 73 = .ok (.putfield 34, 3) := by decide +kernel
theorem dX12_init_76 : decode cX12_init 76 = .ok (.aload_n 0, 1) := by decide +kernel
theorem dX12_init_77 : decode cX12_init 77 = .ok (.bipush 8, 2) := by decide +kernel
theorem dX12_init_79 : decode cX12_init 79 = .ok (.newarray .int, 2) := by decide +kernel
theorem dX12_init_81 : decode cX12_init 81 = .ok (.putfield 37, 3) := by decide +kernel
theorem dX12_init_84 : decode cX12_init 84 = .ok (.aload_n 0, 1) := by decide +kernel
theorem dX12_init_85 : decode cX12_init 85 = .ok (.bipush 40, 2) := by decide +kernel
theorem dX12_init_87 : decode cX12_init 87 = .ok (.newarray .int, 2) := by decide +kernel
theorem dX12_init_89 : decode cX12_init 89 = .ok (.putfield 40, 3) := by decide +kernel
theorem dX12_init_92 : decode cX12_init 92 = .ok (.aload_n 0, 1) := by decide +kernel
theorem dX12_init_93 : decode cX12_init 93 = .ok (.iconst (-1), 1) := by decide +kernel
theorem dX12_init_94 : decode cX12_init 94 = .ok (.putfield 43, 3) := by decide +kernel
theorem dX12_init_97 : decode cX12_init 97 = .ok (.aload_n 0, 1) := by decide +kernel
theorem dX12_init_98 : decode cX12_init 98 = .ok (.bipush 80, 2) := by decide +kernel
theorem dX12_init_100 : decode cX12_init 100 = .ok (.newarray .byte, 2) := by decide +kernel
theorem dX12_init_102 : decode cX12_init 102 = .ok (.putfield 47, 3) := by decide +kernel
theorem dX12_init_105 : decode cX12_init 105 = .ok (.aload_n 0, 1) := by decide +kernel
theorem dX12_init_106 : decode cX12_init 106 = .ok (.bipush 16, 2) := by decide +kernel
theorem dX12_init_108 : decode cX12_init 108 = .ok (.newarray .int, 2) := by decide +kernel
theorem dX12_init_110 : decode cX12_init 110 = .ok (.putfield 51, 3) := by decide +kernel
theorem dX12_init_113 : decode cX12_init 113 = .ok (.aload_n 0, 1) := by decide +kernel
theorem dX12_init_114 : decode cX12_init 114 = .ok (.bipush 30, 2) := by decide +kernel
theorem dX12_init_116 : decode cX12_init 116 = .ok (.newarray .int, 2) := by decide +kernel
theorem dX12_init_118 : decode cX12_init 118 = .ok (.putfield 54, 3) := by decide +kernel
theorem dX12_init_121 : decode cX12_init 121 = .ok (.aload_n 0, 1) := by decide +kernel
theorem dX12_init_122 : decode cX12_init 122 = .ok (.bipush 12, 2) := by decide +kernel
theorem dX12_init_124 : decode cX12_init 124 = .ok (.newarray .int, 2) := by decide +kernel
theorem dX12_init_126 : decode cX12_init 126 = .ok (.putfield 57, 3) := by decide +kernel
theorem dX12_init_129 : decode cX12_init 129 = .ok (.aload_n 0, 1) := by decide +kernel
theorem dX12_init_130 : decode cX12_init 130 = .ok (.bipush 16, 2) := by decide +kernel
theorem dX12_init_132 : decode cX12_init 132 = .ok (.newarray .int, 2) := by decide +kernel
theorem dX12_init_134 : decode cX12_init 134 = .ok (.putfield 60, 3) := by decide +kernel
theorem dX12_init_137 : decode cX12_init 137 = .ok (.aload_n 0, 1) := by decide +kernel
theorem dX12_init_138 : decode cX12_init 138 = .ok (.bipush 40, 2) := by decide +kernel
theorem dX12_init_140 : decode cX12_init 140 = .ok (.newarray .byte, 2) := by decide +kernel
theorem dX12_init_142 : decode cX12_init 142 = .ok (.putfield 63, 3) := by decide +kernel
theorem dX12_init_145 : decode cX12_init 145 = .ok (.aload_n 0, 1) := by decide +kernel
theorem dX12_init_146 : decode cX12_init 146 = .ok (.iconst 4, 1) := by decide +kernel
theorem dX12_init_147 : decode cX12_init 147 = .ok (.newarray .int, 2) := by decide +kernel
theorem dX12_init_149 : decode cX12_init 149 = .ok (.putfield 66, 3) := by decide +kernel
theorem dX12_init_152 : decode cX12_init 152 = .ok (.aload_n 0, 1) := by decide +kernel
theorem dX12_init_153 : decode cX12_init 153 = .ok (.iconst (-1), 1) := by decide +kernel
theorem dX12_init_154 : decode cX12_init 154 = .ok (.putfield 69, 3) := by decide +kernel
theorem dX12_init_157 : decode cX12_init 157 = .ok (.aload_n 0, 1) := by decide +kernel
theorem dX12_init_158 : decode cX12_init 158 = .ok (.sipush 912, 3) := by decide +kernel
theorem dX12_init_161 : decode cX12_init 161 = .ok (.newarray .int, 2) := by decide +kernel
theorem dX12_init_163 : decode cX12_init 163 = .ok (.putfield 72, 3) := by decide +kernel
theorem dX12_init_166 : decode cX12_init 166 = .ok (.aload_n 0, 1) := by decide +kernel
theorem dX12_init_167 : decode cX12_init 167 = .ok (.bipush 76, 2) := by decide +kernel
theorem dX12_init_169 : decode cX12_init 169 = .ok (.newarray .int, 2) := by decide +kernel
theorem dX12_init_171 : decode cX12_init 171 = .ok (.putfield 75, 3) := by decide +kernel
theorem dX12_init_174 : decode cX12_init 174 = .ok (.aload_n 0, 1) := by decide +kernel
theorem dX12_init_175 : decode cX12_init 175 = .ok (.sipush 240, 3) := by decide +kernel
theorem dX12_init_178 : decode cX12_init 178 = .ok (.newarray .int, 2) := by decide +kernel
theorem dX12_init_180 : decode cX12_init 180 = .ok (.putfield 78, 3) := by decide +kernel
theorem dX12_init_183 : decode cX12_init 183 = .ok (.aload_n 0, 1) := by decide +kernel
theorem dX12_init_184 : decode cX12_init 184 = .ok (.bipush 55, 2) := by decide +kernel
theorem dX12_init_186 : decode cX12_init 186 = .ok (.newarray .int, 2) := by decide +kernel
theorem dX12_init_188 : decode cX12_init 188 = .ok (.putfield 81, 3) := by decide +kernel
theorem dX12_init_191 : decode cX12_init 191 = .ok (.aload_n 0, 1) := by decide +kernel
theorem dX12_init_192 : decode cX12_init 192 = .ok (.bipush 55, 2) := by decide +kernel
theorem dX12_init_194 : decode cX12_init 194 = .ok (.newarray .int, 2) := by decide +kernel
theorem dX12_init_196 : decode cX12_init 196 = .ok (.putfield 84, 3) := by decide +kernel
theorem dX12_init_199 : decode cX12_init 199 = .ok (.aload_n 0, 1) := by decide +kernel
theorem dX12_init_200 : decode cX12_init 200 = .ok (.iconst 4, 1) := by decide +kernel
theorem dX12_init_201 : decode cX12_init 201 = .ok (.newarray .int, 2) := by decide +kernel
theorem dX12_init_203 : decode cX12_init 203 = .ok (.putfield 87, 3) := by decide +kernel
theorem dX12_init_206 : decode cX12_init 206 = .ok (.aload_n 0, 1) := by decide +kernel
theorem dX12_init_207 : decode cX12_init 207 = .ok (.bipush 6, 2) := by decide +kernel
theorem dX12_init_209 : decode cX12_init 209 = .ok (.newarray .int, 2) := by decide +kernel
theorem dX12_init_211 : decode cX12_init 211 = .ok (.putfield 90, 3) := by decide +kernel
theorem dX12_init_214 : decode cX12_init 214 = .ok (.aload_n 0, 1) := by decide +kernel
theorem dX12_init_215 : decode cX12_init 215 = .ok (.bipush 6, 2) := by decide +kernel
theorem dX12_init_217 : decode cX12_init 217 = .ok (.newarray .int, 2) := by decide +kernel
theorem dX12_init_219 : decode cX12_init 219 = .ok (.putfield 93, 3) := by decide +kernel
theorem dX12_init_222 : decode cX12_init 222 = .ok (.aload_n 0, 1) := by decide +kernel
theorem dX12_init_223 : decode cX12_init 223 = .ok (.sipush 3000, 3) := by decide +kernel
theorem dX12_init_226 : decode cX12_init 226 = .ok (.newarray .int, 2) := by decide +kernel
theorem dX12_init_228 : decode cX12_init 228 = .ok (.putfield 96, 3) := by decide +kernel
theorem dX12_init_231 : decode cX12_init 231 = .ok (.aload_n 0, 1) := by decide +kernel
theorem dX12_init_232 : decode cX12_init 232 = .ok (.sipush 3000, 3) := by decide +kernel
theorem dX12_init_235 : decode cX12_init 235 = .ok (.newarray .int, 2) := by decide +kernel
theorem dX12_init_237 : decode cX12_init 237 = .ok (.putfield 99, 3) := by decide +kernel
theorem dX12_init_240 : decode cX12_init 240 = .ok (.aload_n 0, 1) := by decide +kernel
theorem dX12_init_241 : decode cX12_init 241 = .ok (.sipush 3000, 3) := by decide +kernel
theorem dX12_init_244 : decode cX12_init 244 = .ok (.newarray .int, 2) := by decide +kernel
theorem dX12_init_246 : decode cX12_init 246 = .ok (.putfield 102, 3) := by decide +kernel
theorem dX12_init_249 : decode cX12_init 249 = .ok (.aload_n 0, 1) := by decide +kernel
theorem dX12_init_250 : decode cX12_init 250 = .ok (.sipush 8192, 3) := by decide +kernel
theorem dX12_init_253 : decode cX12_init 253 = .ok (.newarray .int, 2) := by decide +kernel
theorem dX12_init_255 : decode cX12_init 255 = .ok (.putfield 105, 3) := by decide +kernel
theorem dX12_init_258 : decode cX12_init 258 = .ok (.aload_n 0, 1) := by decide +kernel
theorem dX12_init_259 : decode cX12_init 259 = .ok (.bipush 30, 2) := by decide +kernel
theorem dX12_init_261 : decode cX12_init 261 = .ok (.newarray .int, 2) := by decide +kernel
theorem dX12_init_263 : decode cX12_init 263 = .ok (.putfield 108, 3) := by decide +kernel
theorem dX12_init_266 : decode cX12_init 266 = .ok (.aload_n 0, 1) := by decide +kernel
theorem dX12_init_267 : decode cX12_init 267 = .ok (.bipush 6, 2) := by decide +kernel
theorem dX12_init_269 : decode cX12_init 269 = .ok (.newarray .int, 2) := by decide +kernel
theorem dX12_init_271 : decode cX12_init 271 = .ok (.putfield 111, 3) := by decide +kernel
theorem dX12_init_274 : decode cX12_init 274 = .ok (.aload_n 0, 1) := by decide +kernel
theorem dX12_init_275 : decode cX12_init 275 = .ok (.bipush 110, 2) := by decide +kernel
theorem dX12_init_277 : decode cX12_init 277 = .ok (.newarray .int, 2) := by decide +kernel
theorem dX12_init_279 : decode cX12_init 279 = .ok (.putfield 114, 3) := by decide +kernel
theorem dX12_init_282 : decode cX12_init 282 = .ok (.aload_n 0, 1) := by decide +kernel
theorem dX12_init_283 : decode cX12_init 283 = .ok (.iconst 2, 1) := by decide +kernel
theorem dX12_init_284 : decode cX12_init 284 = .ok (.newarray .boolean, 2) := by decide +kernel
theorem dX12_init_286 : decode cX12_init 286 = .ok (.putfield 117, 3) := by decide +kernel
theorem dX12_init_289 : decode cX12_init 289 = .ok (.aload_n 0, 1) := by decide +kernel
theorem dX12_init_290 : decode cX12_init 290 = .ok (.iconst 2, 1) := by decide +kernel
theorem dX12_init_291 : decode cX12_init 291 = .ok (.newarray .int, 2) := by decide +kernel
theorem dX12_init_293 : decode cX12_init 293 = .ok (.putfield 121, 3) := by decide +kernel
theorem dX12_init_296 : decode cX12_init 296 = .ok (.return_, 1) := by decide +kernel
theorem dX2_init_0 : decode cX2_init 0 = .ok (.aload_n 0, 1) := by decide +kernel
theorem dX2_init_1 : decode cX2_init 1 = .ok (.invokespecial 1, 3) := by decide +kernel
theorem dX2_init_4 : decode cX2_init 4 = .ok (.aload_n 0, 1) := by decide +kernel
theorem dX2_init_5 : decode cX2_init 5 = .ok (.bipush 10, 2) := by decide +kernel
theorem dX2_init_7 : decode cX2_init 7 = .ok (.newarray .int, 2) := by decide +kernel
theorem dX2_init_9 : decode cX2_init 9 = .ok (.putfield 9, 3) := by decide +kernel
theorem dX2_init_12 : decode cX2_init 12 = .ok (.aload_n 0, 1) := by decide +kernel
theorem dX2_init_13 : decode cX2_init 13 = .ok (.iconst 0, 1) := by decide +kernel
theorem dX2_init_14 : decode cX2_init 14 = .ok (.putfield 13, 3) := by decide +kernel
theorem dX2_init_17 : decode cX2_init 17 = .ok (.return_, 1) := by decide +kernel
theorem dX3_init_0 : decode cX3_init 0 = .ok (.aload_n 0, 1) := by decide +kernel
theorem dX3_init_1 : decode cX3_init 1 = .ok (.invokespecial 5, 3) := by decide +kernel
theorem dX3_init_4 : decode cX3_init 4 = .ok (.aload_n 0, 1) := by decide +kernel
theorem dX3_init_5 : decode cX3_init 5 = .ok (.bipush 40, 2) := by decide +kernel
theorem dX3_init_7 : decode cX3_init 7 = .ok (.newarray .int, 2) := by decide +kernel
theorem dX3_init_9 : decode cX3_init 9 = .ok (.putfield 11, 3) := by decide +kernel
theorem dX3_init_12 : decode cX3_init 12 = .ok (.aload_n 0, 1) := by decide +kernel
theorem dX3_init_13 : decode cX3_init 13 = .ok (.bipush 40, 2) := by decide +kernel
theorem dX3_init_15 : decode cX3_init 15 = .ok (.newarray .int, 2) := by decide +kernel
theorem dX3_init_17 : decode cX3_init 17 = .ok (.putfield 15, 3) := by decide +kernel
theorem dX3_init_20 : decode cX3_init 20 = .ok (.aload_n 0, 1) := by decide +kernel
theorem dX3_init_21 : decode cX3_init 21 = .ok (.bipush 40, 2) := by decide +kernel
theorem dX3_init_23 : decode cX3_init 23 = .ok (.newarray .int, 2) := by decide +kernel
theorem dX3_init_25 : decode cX3_init 25 = .ok (.putfield 18, 3) := by decide +kernel
theorem dX3_init_28 : decode cX3_init 28 = .ok (.aload_n 0, 1) := by decide +kernel
theorem dX3_init_29 : decode cX3_init 29 = .ok (.iconst 0, 1) := by decide +kernel
theorem dX3_init_30 : decode cX3_init 30 = .ok (.putfield 21, 3) := by decide +kernel
theorem dX3_init_33 : decode cX3_init 33 = .ok (.aload_n 0, 1) := by decide +kernel
theorem dX3_init_34 : decode cX3_init 34 = .ok (.iconst 0, 1) := by decide +kernel
theorem dX3_init_35 : decode cX3_init 35 = .ok (.putfield 25, 3) := by decide +kernel
theorem dX3_init_38 : decode cX3_init 38 = .ok (.aload_n 0, 1) := by decide +kernel
theorem dX3_init_39 : decode cX3_init 39 = .ok (.iconst 0, 1) := by decide +kernel
theorem dX3_init_40 : decode cX3_init 40 = .ok (.putfield 28, 3) := by decide +kernel
theorem dX3_init_43 : decode cX3_init 43 = .ok (.aload_n 0, 1) := by decide +kernel
theorem dX3_init_44 : decode cX3_init 44 = .ok (.iconst 0, 1) := by decide +kernel
theorem dX3_init_45 : decode cX3_init 45 = .ok (.putfield 31, 3) := by decide +kernel
theorem dX3_init_48 : decode cX3_init 48 = .ok (.aload_n 0, 1) := by decide +kernel
theorem dX3_init_49 : decode cX3_init 49 = .ok (.iconst 0, 1) := by decide +kernel
theorem dX3_init_50 : decode cX3_init 50 = .ok (.putfield 34, 3) := by decide +kernel
theorem dX3_init_53 : decode cX3_init 53 = .ok (.aload_n 0, 1) := by decide +kernel
theorem dX3_init_54 : decode cX3_init 54 = .ok (.iconst 1, 1) := by decide +kernel
theorem dX3_init_55 : decode cX3_init 55 = .ok (.putfield 37, 3) := by decide +kernel
theorem dX3_init_58 : decode cX3_init 58 = .ok (.aload_n 0, 1) := by decide +kernel
theorem dX3_init_59 : decode cX3_init 59 = .ok (.iconst 0, 1) := by decide +kernel
theorem dX3_init_60 : decode cX3_init 60 = .ok (.putfield 41, 3) := by decide +kernel
theorem dX3_init_63 : decode cX3_init 63 = .ok (.aload_n 0, 1) := by decide +kernel
theorem dX3_init_64 : decode cX3_init 64 = .ok (.iconst 0, 1) := by decide +kernel
theorem dX3_init_65 : decode cX3_init 65 = .ok (.putfield 44, 3) := by decide +kernel
theorem dX3_init_68 : decode cX3_init 68 = .ok (.return_, 1) := by decide +kernel
theorem dX5_init_0 : decode cX5_init 0 = .ok (.aload_n 0, 1) := by decide +kernel
theorem dX5_init_1 : decode cX5_init 1 = .ok (.invokespecial 1, 3) := by decide +kernel
theorem dX5_init_4 : decode cX5_init 4 = .ok (.aload_n 0, 1) := by decide +kernel
theorem dX5_init_5 : decode cX5_init 5 = .ok (.bipush 10, 2) := by decide +kernel
theorem dX5_init_7 : decode cX5_init 7 = .ok (.newarray .int, 2) := by decide +kernel
theorem dX5_init_9 : decode cX5_init 9 = .ok (.putfield 9, 3) := by decide +kernel
theorem dX5_init_12 : decode cX5_init 12 = .ok (.aload_n 0, 1) := by decide +kernel
theorem dX5_init_13 : decode cX5_init 13 = .ok (.bipush 10, 2) := by decide +kernel
theorem dX5_init_15 : decode cX5_init 15 = .ok (.newarray .int, 2) := by decide +kernel
theorem dX5_init_17 : decode cX5_init 17 = .ok (.putfield 13, 3) := by decide +kernel
theorem dX5_init_20 : decode cX5_init 20 = .ok (.aload_n 0, 1) := by decide +kernel
theorem dX5_init_21 : decode cX5_init 21 = .ok (.bipush 10, 2) := by decide +kernel
theorem dX5_init_23 : decode cX5_init 23 = .ok (.newarray .int, 2) := by decide +kernel
theorem dX5_init_25 : decode cX5_init 25 = .ok (.putfield 16, 3) := by decide +kernel
theorem dX5_init_28 : decode cX5_init 28 = .ok (.aload_n 0, 1) := by decide +kernel
theorem dX5_init_29 : decode cX5_init 29 = .ok (.iconst 0, 1) := by decide +kernel
theorem dX5_init_30 : decode cX5_init 30 = .ok (.putfield 19, 3) := by decide +kernel
theorem dX5_init_33 : decode cX5_init 33 = .ok (.return_, 1) := by decide +kernel
theorem dX6_init_0 : decode cX6_init 0 = .ok (.aload_n 0, 1) := by decide +kernel
theorem dX6_init_1 : decode cX6_init 1 = .ok (.invokespecial 3, 3) := by decide +kernel
theorem dX6_init_4 : decode cX6_init 4 = .ok (.aload_n 0, 1) := by decide +kernel
theorem dX6_init_5 : decode cX6_init 5 = .ok (.bipush 80, 2) := by decide +kernel
theorem dX6_init_7 : decode cX6_init 7 = .ok (.newarray .char, 2) := by decide +kernel
theorem dX6_init_9 : decode cX6_init 9 = .ok (.putfield 9, 3) := by decide +kernel
theorem dX6_init_12 : decode cX6_init 12 = .ok (.aload_n 0, 1) := by decide +kernel
theorem dX6_init_13 : decode cX6_init 13 = .ok (.iconst 0, 1) := by decide +kernel
theorem dX6_init_14 : decode cX6_init 14 = .ok (.putfield 15, 3) := by decide +kernel
theorem dX6_init_17 : decode cX6_init 17 = .ok (.aload_n 0, 1) := by decide +kernel
theorem dX6_init_18 : decode cX6_init 18 = .ok (.iconst 0, 1) := by decide +kernel
theorem dX6_init_19 : decode cX6_init 19 = .ok (.putfield 19, 3) := by decide +kernel
theorem dX6_init_22 : decode cX6_init 22 = .ok (.aload_n 0, 1) := by decide +kernel
theorem dX6_init_23 : decode cX6_init 23 = .ok (.iconst 0, 1) := by decide +kernel
theorem dX6_init_24 : decode cX6_init 24 = .ok (.putfield 22, 3) := by decide +kernel
theorem dX6_init_27 : decode cX6_init 27 = .ok (.return_, 1) := by decide +kernel
theorem dX7_init_0 : decode cX7_init 0 = .ok (.aload_n 0, 1) := by decide +kernel
theorem dX7_init_1 : decode cX7_init 1 = .ok (.invokespecial 3, 3) := by decide +kernel
theorem dX7_init_4 : decode cX7_init 4 = .ok (.aload_n 0, 1) := by decide +kernel
theorem dX7_init_5 : decode cX7_init 5 = .ok (.bipush 6, 2) := by decide +kernel
theorem dX7_init_7 : decode cX7_init 7 = .ok (.newarray .int, 2) := by decide +kernel
theorem dX7_init_9 : decode cX7_init 9 = .ok (.putfield 9, 3) := by decide +kernel
theorem dX7_init_12 : decode cX7_init 12 = .ok (.aload_n 0, 1) := by decide +kernel
theorem dX7_init_13 : decode cX7_init 13 = .ok (.bipush 6, 2) := by decide +kernel
theorem dX7_init_15 : decode cX7_init 15 = .ok (.newarray .int, 2) := by decide +kernel
theorem dX7_init_17 : decode cX7_init 17 = .ok (.putfield 15, 3) := by decide +kernel
theorem dX7_init_20 : decode cX7_init 20 = .ok (.aload_n 0, 1) := by decide +kernel
theorem dX7_init_21 : decode cX7_init 21 = .ok (.iconst 0, 1) := by decide +kernel
theorem dX7_init_22 : decode cX7_init 22 = .ok (.putfield 18, 3) := by decide +kernel
theorem dX7_init_25 : decode cX7_init 25 = .ok (.aload_n 0, 1) := by decide +kernel
theorem dX7_init_26 : decode cX7_init 26 = .ok (.iconst 0, 1) := by decide +kernel
theorem dX7_init_27 : decode cX7_init 27 = .ok (.putfield 22, 3) := by decide +kernel
theorem dX7_init_30 : decode cX7_init 30 = .ok (.aload_n 0, 1) := by decide +kernel
theorem dX7_init_31 : decode cX7_init 31 = .ok (.iconst 0, 1) := by decide +kernel
theorem dX7_init_32 : decode cX7_init 32 = .ok (.putfield 26, 3) := by decide +kernel
theorem dX7_init_35 : decode cX7_init 35 = .ok (.aload_n 0, 1) := by decide +kernel
theorem dX7_init_36 : decode cX7_init 36 = .ok (.bipush 6, 2) := by decide +kernel
theorem dX7_init_38 : decode cX7_init 38 = .ok (.newarray .int, 2) := by decide +kernel
theorem dX7_init_40 : decode cX7_init 40 = .ok (.putfield 29, 3) := by decide +kernel
theorem dX7_init_43 : decode cX7_init 43 = .ok (.aload_n 0, 1) := by decide +kernel
theorem dX7_init_44 : decode cX7_init 44 = .ok (.bipush 6, 2) := by decide +kernel
theorem dX7_init_46 : decode cX7_init 46 = .ok (.newarray .int, 2) := by decide +kernel
theorem dX7_init_48 : decode cX7_init 48 = .ok (.putfield 32, 3) := by decide +kernel
theorem dX7_init_51 : decode cX7_init 51 = .ok (.return_, 1) := by decide +kernel
theorem dX8_init_0 : decode cX8_init 0 = .ok (.aload_n 0, 1) := by decide +kernel
theorem dX8_init_1 : decode cX8_init 1 = .ok (.invokespecial 3, 3) := by decide +kernel
theorem dX8_init_4 : decode cX8_init 4 = .ok (.aload_n 0, 1) := by decide +kernel
theorem dX8_init_5 : decode cX8_init 5 = .ok (.iconst 0, 1) := by decide +kernel
theorem dX8_init_6 : decode cX8_init 6 = .ok (.putfield 9, 3) := by decide +kernel
theorem dX8_init_9 : decode cX8_init 9 = .ok (.aload_n 0, 1) := by decide +kernel
theorem dX8_init_10 : decode cX8_init 10 = .ok (.iconst 0, 1) := by decide +kernel
theorem dX8_init_11 : decode cX8_init 11 = .ok (.putfield 15, 3) := by decide +kernel
theorem dX8_init_14 : decode cX8_init 14 = .ok (.aload_n 0, 1) := by decide +kernel
theorem dX8_init_15 : decode cX8_init 15 = .ok (.iconst 0, 1) := by decide +kernel
theorem dX8_init_16 : decode cX8_init 16 = .ok (.putfield 18, 3) := by decide +kernel
theorem dX8_init_19 : decode cX8_init 19 = .ok (.aload_n 0, 1) := by decide +kernel
theorem dX8_init_20 : decode cX8_init 20 = .ok (.iconst 0, 1) := by decide +kernel
theorem dX8_init_21 : decode cX8_init 21 = .ok (.putfield 21, 3) := by decide +kernel
theorem dX8_init_24 : decode cX8_init 24 = .ok (.aload_n 0, 1) := by decide +kernel
theorem dX8_init_25 : decode cX8_init 25 = .ok (.bipush 30, 2) := by decide +kernel
theorem dX8_init_27 : decode cX8_init 27 = .ok (.newarray .int, 2) := by decide +kernel
theorem dX8_init_29 : decode cX8_init 29 = .ok (.putfield 24, 3) := by decide +kernel
theorem dX8_init_32 : decode cX8_init 32 = .ok (.aload_n 0, 1) := by decide +kernel
theorem dX8_init_33 : decode cX8_init 33 = .ok (.bipush 6, 2) := by decide +kernel
theorem dX8_init_35 : decode cX8_init 35 = .ok (.newarray .int, 2) := by decide +kernel
theorem dX8_init_37 : decode cX8_init 37 = .ok (.putfield 28, 3) := by decide +kernel
theorem dX8_init_40 : decode cX8_init 40 = .ok (.aload_n 0, 1) := by decide +kernel
theorem dX8_init_41 : decode cX8_init 41 = .ok (.bipush 6, 2) := by decide +kernel
theorem dX8_init_43 : decode cX8_init 43 = .ok (.newarray .int, 2) := by decide +kernel
theorem dX8_init_45 : decode cX8_init 45 = .ok (.putfield 31, 3) := by decide +kernel
theorem dX8_init_48 : decode cX8_init 48 = .ok (.aload_n 0, 1) := by decide +kernel
theorem dX8_init_49 : decode cX8_init 49 = .ok (.bipush 6, 2) := by decide +kernel
theorem dX8_init_51 : decode cX8_init 51 = .ok (.newarray .int, 2) := by decide +kernel
theorem dX8_init_53 : decode cX8_init 53 = .ok (.putfield 34, 3) := by decide +kernel
theorem dX8_init_56 : decode cX8_init 56 = .ok (.aload_n 0, 1) := by decide +kernel
theorem dX8_init_57 : decode cX8_init 57 = .ok (.bipush 6, 2) := by decide +kernel
theorem dX8_init_59 : decode cX8_init 59 = .ok (.newarray .int, 2) := by decide +kernel
theorem dX8_init_61 : decode cX8_init 61 = .ok (.putfield 37, 3) := by decide +kernel
theorem dX8_init_64 : decode cX8_init 64 = .ok (.aload_n 0, 1) := by decide +kernel
theorem dX8_init_65 : decode cX8_init 65 = .ok (.bipush 6, 2) := by decide +kernel
theorem dX8_init_67 : decode cX8_init 67 = .ok (.newarray .int, 2) := by decide +kernel
theorem dX8_init_69 : decode cX8_init 69 = .ok (.putfield 40, 3) := by decide +kernel
theorem dX8_init_72 : decode cX8_init 72 = .ok (.aload_n 0, 1) := by decide +kernel
theorem dX8_init_73 : decode cX8_init 73 = .ok (.bipush 8, 2) := by decide +kernel
theorem dX8_init_75 : decode cX8_init 75 = .ok (.newarray .int, 2) := by decide +kernel
theorem dX8_init_77 : decode cX8_init 77 = .ok (.putfield 43, 3) := by decide +kernel
theorem dX8_init_80 : decode cX8_init 80 = .ok (.aload_n 0, 1) := by decide +kernel
theorem dX8_init_81 : decode cX8_init 81 = .ok (.bipush 8, 2) := by decide +kernel
theorem dX8_init_83 : decode cX8_init 83 = .ok (.newarray .int, 2) := by decide +kernel
theorem dX8_init_85 : decode cX8_init 85 = .ok (.putfield 46, 3) := by decide +kernel
theorem dX8_init_88 : decode cX8_init 88 = .ok (.aload_n 0, 1) := by decide +kernel
theorem dX8_init_89 : decode cX8_init 89 = .ok (.bipush 8, 2) := by decide +kernel
theorem dX8_init_91 : decode cX8_init 91 = .ok (.newarray .int, 2) := by decide +kernel
theorem dX8_init_93 : decode cX8_init 93 = .ok (.putfield 49, 3) := by decide +kernel
theorem dX8_init_96 : decode cX8_init 96 = .ok (.aload_n 0, 1) := by decide +kernel
theorem dX8_init_97 : decode cX8_init 97 = .ok (.bipush 8, 2) := by decide +kernel
theorem dX8_init_99 : decode cX8_init 99 = .ok (.newarray .int, 2) := by decide +kernel
theorem dX8_init_101 : decode cX8_init 101 = .ok (.putfield 52, 3) := by decide +kernel
theorem dX8_init_104 : decode cX8_init 104 = .ok (.aload_n 0, 1) := by decide +kernel
theorem dX8_init_105 : decode cX8_init 105 = .ok (.bipush 32, 2) := by decide +kernel
theorem dX8_init_107 : decode cX8_init 107 = .ok (.newarray .int, 2) := by decide +kernel
theorem dX8_init_109 : decode cX8_init 109 = .ok (.putfield 55, 3) := by decide +kernel
theorem dX8_init_112 : decode cX8_init 112 = .ok (.aload_n 0, 1) := by decide +kernel
theorem dX8_init_113 : decode cX8_init 113 = .ok (.iconst 4, 1) := by decide +kernel
theorem dX8_init_114 : decode cX8_init 114 = .ok (.newarray .int, 2) := by decide +kernel
theorem dX8_init_116 : decode cX8_init 116 = .ok (.putfield 58, 3) := by decide +kernel
theorem dX8_init_119 : decode cX8_init 119 = .ok (.aload_n 0, 1) := by decide +kernel
theorem dX8_init_120 : decode cX8_init 120 = .ok (.aconst_null, 1) := by decide +kernel
theorem dX8_init_121 : decode cX8_init 121 = .ok (.putfield 61, 3) := by decide +kernel
theorem dX8_init_124 : decode cX8_init 124 = .ok (.aload_n 0, 1) := by decide +kernel
theorem dX8_init_125 : decode cX8_init 125 = .ok (.iconst 0, 1) := by decide +kernel
theorem dX8_init_126 : decode cX8_init 126 = .ok (.putfield 64, 3) := by decide +kernel
theorem dX8_init_129 : decode cX8_init 129 = .ok (.aload_n 0, 1) := by decide +kernel
theorem dX8_init_130 : decode cX8_init 130 = .ok (.new 67, 3) := by decide +kernel
theorem dX8_init_133 : decode cX8_init 133 = .ok (.dup, 1) := by decide +kernel
theorem dX8_init_134 : decode cX8_init 134 = .ok (.invokespecial 69, 3) := by decide +kernel
theorem dX8_init_137 : decode cX8_init 137 = .ok (.putfield 70, 3) := by decide +kernel
theorem dX8_init_140 : decode cX8_init 140 = .ok (.return_, 1) := by decide +kernel
theorem dX9_init_0 : decode cX9_init 0 = .ok (.aload_n 0, 1) := by decide +kernel
theorem dX9_init_1 : decode cX9_init 1 = .ok (.invokespecial 3, 3) := by decide +kernel
theorem dX9_init_4 : decode cX9_init 4 = .ok (.aload_n 0, 1) := by decide +kernel
theorem dX9_init_5 : decode cX9_init 5 = .ok (.bipush 31, 2) := by decide +kernel
theorem dX9_init_7 : decode cX9_init 7 = .ok (.newarray .char, 2) := by decide +kernel
theorem dX9_init_9 : decode cX9_init 9 = .ok (.putfield 11, 3) := by decide +kernel
theorem dX9_init_12 : decode cX9_init 12 = .ok (.aload_n 0, 1) := by decide +kernel
theorem dX9_init_13 : decode cX9_init 13 = .ok (.bipush 31, 2) := by decide +kernel
theorem dX9_init_15 : decode cX9_init 15 = .ok (.newarray .int, 2) := by decide +kernel
theorem dX9_init_17 : decode cX9_init 17 = .ok (.putfield 15, 3) := by decide +kernel
theorem dX9_init_20 : decode cX9_init 20 = .ok (.aload_n 0, 1) := by decide +kernel
theorem dX9_init_21 : decode cX9_init 21 = .ok (.bipush 31, 2) := by decide +kernel
theorem dX9_init_23 : decode cX9_init 23 = .ok (.newarray .int, 2) := by decide +kernel
theorem dX9_init_25 : decode cX9_init 25 = .ok (.putfield 19, 3) := by decide +kernel
theorem dX9_init_28 : decode cX9_init 28 = .ok (.aload_n 0, 1) := by decide +kernel
theorem dX9_init_29 : decode cX9_init 29 = .ok (.iconst 0, 1) := by decide +kernel
theorem dX9_init_30 : decode cX9_init 30 = .ok (.putfield 22, 3) := by decide +kernel
theorem dX9_init_33 : decode cX9_init 33 = .ok (.return_, 1) := by decide +kernel
section GSITES
variable {p : Program} {l : Launch} {e : Env} {R : Room} {s : State} {m : MethodId} {args : Array Value} {below : List Frame} {meth : Method} {c : Code} {H H0 : Heap} {locs : List Loc} {cells slots : Nat} {Q : State → Prop}
variable {cc : ByteArray} {nL pc : Nat} {ls : Array Slot} {rest : List Value} {D : va_G} {A : Nat → Prop} {ws : va_W} {cT : Nat → ClassId} {a : Nat}

theorem gp_X6_9 (X : gX p m c cc nL s args "StorksLet$Signs" D cT) (hG : gG D A H0 ws H locs) (hin2 : meth.name = "<init>") (q0 : Nat) {fs : List Value} (he : ws[q0]? = some (a, .inr (5, fs))) {v : Value} (hn : narrow (.array .char) v = v) (hfit : fits (.array .char) v = true) (hl : 0 < fs.length) (hdg : decode cc pc = .ok (.putfield 9, 3)) (kk : ∀ (H1 : Heap) (locs1 : List Loc), gG D A H0 (ws.set q0 (a, .inr (5, fs.set 0 v))) H1 locs1 → W p l e R s m args below meth c H1 locs1 cells slots Q (F0 m (pc + 3) ls rest)) : W p l e R s m args below meth c H locs cells slots Q (F0 m pc ls (v :: .ref a :: rest)) := g_putF X hG in_X6 tyX6 tyX6_ok nmX6 rfl 0 (by decide) m_106 rfl rfl rfl hin2 q0 he hn hfit hl hdg kk
theorem gp_X2_9 (X : gX p m c cc nL s args "StorksLet$Row" D cT) (hG : gG D A H0 ws H locs) (hin2 : meth.name = "<init>") (q0 : Nat) {fs : List Value} (he : ws[q0]? = some (a, .inr (1, fs))) {v : Value} (hn : narrow (.array .int) v = v) (hfit : fits (.array .int) v = true) (hl : 0 < fs.length) (hdg : decode cc pc = .ok (.putfield 9, 3)) (kk : ∀ (H1 : Heap) (locs1 : List Loc), gG D A H0 (ws.set q0 (a, .inr (1, fs.set 0 v))) H1 locs1 → W p l e R s m args below meth c H1 locs1 cells slots Q (F0 m (pc + 3) ls rest)) : W p l e R s m args below meth c H locs cells slots Q (F0 m pc ls (v :: .ref a :: rest)) := g_putF X hG in_X2 tyX2 tyX2_ok nmX2 rfl 0 (by decide) m_140 rfl rfl rfl hin2 q0 he hn hfit hl hdg kk
theorem gp_X10_15 (X : gX p m c cc nL s args "StorksLet$Worths" D cT) (hG : gG D A H0 ws H locs) (hin2 : meth.name = "<init>") (q0 : Nat) {fs : List Value} (he : ws[q0]? = some (a, .inr (9, fs))) {v : Value} (hn : narrow (.array .int) v = v) (hfit : fits (.array .int) v = true) (hl : 1 < fs.length) (hdg : decode cc pc = .ok (.putfield 15, 3)) (kk : ∀ (H1 : Heap) (locs1 : List Loc), gG D A H0 (ws.set q0 (a, .inr (9, fs.set 1 v))) H1 locs1 → W p l e R s m args below meth c H1 locs1 cells slots Q (F0 m (pc + 3) ls rest)) : W p l e R s m args below meth c H locs cells slots Q (F0 m pc ls (v :: .ref a :: rest)) := g_putF X hG in_X10 tyX10 tyX10_ok nmX10 rfl 1 (by decide) m_177 rfl rfl rfl hin2 q0 he hn hfit hl hdg kk
theorem gp_X10_19 (X : gX p m c cc nL s args "StorksLet$Worths" D cT) (hG : gG D A H0 ws H locs) (hin2 : meth.name = "<init>") (q0 : Nat) {fs : List Value} (he : ws[q0]? = some (a, .inr (9, fs))) {v : Value} (hn : narrow (.array .int) v = v) (hfit : fits (.array .int) v = true) (hl : 2 < fs.length) (hdg : decode cc pc = .ok (.putfield 19, 3)) (kk : ∀ (H1 : Heap) (locs1 : List Loc), gG D A H0 (ws.set q0 (a, .inr (9, fs.set 2 v))) H1 locs1 → W p l e R s m args below meth c H1 locs1 cells slots Q (F0 m (pc + 3) ls rest)) : W p l e R s m args below meth c H locs cells slots Q (F0 m pc ls (v :: .ref a :: rest)) := g_putF X hG in_X10 tyX10 tyX10_ok nmX10 rfl 2 (by decide) m_178 rfl rfl rfl hin2 q0 he hn hfit hl hdg kk
theorem gw_X10_26 : gWV "StorksLet$Worths" "java/lang/String" 26 yJ0_length_8abf5 cJ0_length_8abf5 1 0 (some .int) := ⟨⟨m_165, m_166, m_167, m_71, m_168⟩, rfl, by decide +kernel⟩
theorem gw_S_335 : gWV "java/lang/String" "java/lang/String" 335 yJ0_coder_7d493 cJ0_coder_7d493 1 0 (some .byte) := ⟨⟨m_169, m_170, m_171, m_71, m_172⟩, rfl, by decide +kernel⟩
theorem gp_X10_32 (X : gX p m c cc nL s args "StorksLet$Worths" D cT) (hG : gG D A H0 ws H locs) (hin2 : meth.name = "<init>") (q0 : Nat) {fs : List Value} (he : ws[q0]? = some (a, .inr (9, fs))) {v : Value} (hn : narrow (.array .int) v = v) (hfit : fits (.array .int) v = true) (hl : 3 < fs.length) (hdg : decode cc pc = .ok (.putfield 32, 3)) (kk : ∀ (H1 : Heap) (locs1 : List Loc), gG D A H0 (ws.set q0 (a, .inr (9, fs.set 3 v))) H1 locs1 → W p l e R s m args below meth c H1 locs1 cells slots Q (F0 m (pc + 3) ls rest)) : W p l e R s m args below meth c H locs cells slots Q (F0 m pc ls (v :: .ref a :: rest)) := g_putF X hG in_X10 tyX10 tyX10_ok nmX10 rfl 3 (by decide) m_179 rfl rfl rfl hin2 q0 he hn hfit hl hdg kk
theorem gp_X8_24 (X : gX p m c cc nL s args "StorksLet$Town" D cT) (hG : gG D A H0 ws H locs) (hin2 : meth.name = "<init>") (q0 : Nat) {fs : List Value} (he : ws[q0]? = some (a, .inr (7, fs))) {v : Value} (hn : narrow (.array .int) v = v) (hfit : fits (.array .int) v = true) (hl : 4 < fs.length) (hdg : decode cc pc = .ok (.putfield 24, 3)) (kk : ∀ (H1 : Heap) (locs1 : List Loc), gG D A H0 (ws.set q0 (a, .inr (7, fs.set 4 v))) H1 locs1 → W p l e R s m args below meth c H1 locs1 cells slots Q (F0 m (pc + 3) ls rest)) : W p l e R s m args below meth c H locs cells slots Q (F0 m pc ls (v :: .ref a :: rest)) := g_putF X hG in_X8 tyX8 tyX8_ok nmX8 rfl 4 (by decide) m_214 rfl rfl rfl hin2 q0 he hn hfit hl hdg kk
theorem gp_X8_28 (X : gX p m c cc nL s args "StorksLet$Town" D cT) (hG : gG D A H0 ws H locs) (hin2 : meth.name = "<init>") (q0 : Nat) {fs : List Value} (he : ws[q0]? = some (a, .inr (7, fs))) {v : Value} (hn : narrow (.array .int) v = v) (hfit : fits (.array .int) v = true) (hl : 5 < fs.length) (hdg : decode cc pc = .ok (.putfield 28, 3)) (kk : ∀ (H1 : Heap) (locs1 : List Loc), gG D A H0 (ws.set q0 (a, .inr (7, fs.set 5 v))) H1 locs1 → W p l e R s m args below meth c H1 locs1 cells slots Q (F0 m (pc + 3) ls rest)) : W p l e R s m args below meth c H locs cells slots Q (F0 m pc ls (v :: .ref a :: rest)) := g_putF X hG in_X8 tyX8 tyX8_ok nmX8 rfl 5 (by decide) m_215 rfl rfl rfl hin2 q0 he hn hfit hl hdg kk
theorem gp_X8_31 (X : gX p m c cc nL s args "StorksLet$Town" D cT) (hG : gG D A H0 ws H locs) (hin2 : meth.name = "<init>") (q0 : Nat) {fs : List Value} (he : ws[q0]? = some (a, .inr (7, fs))) {v : Value} (hn : narrow (.array .int) v = v) (hfit : fits (.array .int) v = true) (hl : 6 < fs.length) (hdg : decode cc pc = .ok (.putfield 31, 3)) (kk : ∀ (H1 : Heap) (locs1 : List Loc), gG D A H0 (ws.set q0 (a, .inr (7, fs.set 6 v))) H1 locs1 → W p l e R s m args below meth c H1 locs1 cells slots Q (F0 m (pc + 3) ls rest)) : W p l e R s m args below meth c H locs cells slots Q (F0 m pc ls (v :: .ref a :: rest)) := g_putF X hG in_X8 tyX8 tyX8_ok nmX8 rfl 6 (by decide) m_218 rfl rfl rfl hin2 q0 he hn hfit hl hdg kk
theorem gp_X8_34 (X : gX p m c cc nL s args "StorksLet$Town" D cT) (hG : gG D A H0 ws H locs) (hin2 : meth.name = "<init>") (q0 : Nat) {fs : List Value} (he : ws[q0]? = some (a, .inr (7, fs))) {v : Value} (hn : narrow (.array .int) v = v) (hfit : fits (.array .int) v = true) (hl : 7 < fs.length) (hdg : decode cc pc = .ok (.putfield 34, 3)) (kk : ∀ (H1 : Heap) (locs1 : List Loc), gG D A H0 (ws.set q0 (a, .inr (7, fs.set 7 v))) H1 locs1 → W p l e R s m args below meth c H1 locs1 cells slots Q (F0 m (pc + 3) ls rest)) : W p l e R s m args below meth c H locs cells slots Q (F0 m pc ls (v :: .ref a :: rest)) := g_putF X hG in_X8 tyX8 tyX8_ok nmX8 rfl 7 (by decide) m_220 rfl rfl rfl hin2 q0 he hn hfit hl hdg kk
theorem gp_X8_37 (X : gX p m c cc nL s args "StorksLet$Town" D cT) (hG : gG D A H0 ws H locs) (hin2 : meth.name = "<init>") (q0 : Nat) {fs : List Value} (he : ws[q0]? = some (a, .inr (7, fs))) {v : Value} (hn : narrow (.array .int) v = v) (hfit : fits (.array .int) v = true) (hl : 8 < fs.length) (hdg : decode cc pc = .ok (.putfield 37, 3)) (kk : ∀ (H1 : Heap) (locs1 : List Loc), gG D A H0 (ws.set q0 (a, .inr (7, fs.set 8 v))) H1 locs1 → W p l e R s m args below meth c H1 locs1 cells slots Q (F0 m (pc + 3) ls rest)) : W p l e R s m args below meth c H locs cells slots Q (F0 m pc ls (v :: .ref a :: rest)) := g_putF X hG in_X8 tyX8 tyX8_ok nmX8 rfl 8 (by decide) m_226 rfl rfl rfl hin2 q0 he hn hfit hl hdg kk
theorem gp_X8_40 (X : gX p m c cc nL s args "StorksLet$Town" D cT) (hG : gG D A H0 ws H locs) (hin2 : meth.name = "<init>") (q0 : Nat) {fs : List Value} (he : ws[q0]? = some (a, .inr (7, fs))) {v : Value} (hn : narrow (.array .int) v = v) (hfit : fits (.array .int) v = true) (hl : 9 < fs.length) (hdg : decode cc pc = .ok (.putfield 40, 3)) (kk : ∀ (H1 : Heap) (locs1 : List Loc), gG D A H0 (ws.set q0 (a, .inr (7, fs.set 9 v))) H1 locs1 → W p l e R s m args below meth c H1 locs1 cells slots Q (F0 m (pc + 3) ls rest)) : W p l e R s m args below meth c H locs cells slots Q (F0 m pc ls (v :: .ref a :: rest)) := g_putF X hG in_X8 tyX8 tyX8_ok nmX8 rfl 9 (by decide) m_228 rfl rfl rfl hin2 q0 he hn hfit hl hdg kk
theorem gp_X8_43 (X : gX p m c cc nL s args "StorksLet$Town" D cT) (hG : gG D A H0 ws H locs) (hin2 : meth.name = "<init>") (q0 : Nat) {fs : List Value} (he : ws[q0]? = some (a, .inr (7, fs))) {v : Value} (hn : narrow (.array .int) v = v) (hfit : fits (.array .int) v = true) (hl : 10 < fs.length) (hdg : decode cc pc = .ok (.putfield 43, 3)) (kk : ∀ (H1 : Heap) (locs1 : List Loc), gG D A H0 (ws.set q0 (a, .inr (7, fs.set 10 v))) H1 locs1 → W p l e R s m args below meth c H1 locs1 cells slots Q (F0 m (pc + 3) ls rest)) : W p l e R s m args below meth c H locs cells slots Q (F0 m pc ls (v :: .ref a :: rest)) := g_putF X hG in_X8 tyX8 tyX8_ok nmX8 rfl 10 (by decide) m_229 rfl rfl rfl hin2 q0 he hn hfit hl hdg kk
theorem gp_X8_46 (X : gX p m c cc nL s args "StorksLet$Town" D cT) (hG : gG D A H0 ws H locs) (hin2 : meth.name = "<init>") (q0 : Nat) {fs : List Value} (he : ws[q0]? = some (a, .inr (7, fs))) {v : Value} (hn : narrow (.array .int) v = v) (hfit : fits (.array .int) v = true) (hl : 11 < fs.length) (hdg : decode cc pc = .ok (.putfield 46, 3)) (kk : ∀ (H1 : Heap) (locs1 : List Loc), gG D A H0 (ws.set q0 (a, .inr (7, fs.set 11 v))) H1 locs1 → W p l e R s m args below meth c H1 locs1 cells slots Q (F0 m (pc + 3) ls rest)) : W p l e R s m args below meth c H locs cells slots Q (F0 m pc ls (v :: .ref a :: rest)) := g_putF X hG in_X8 tyX8 tyX8_ok nmX8 rfl 11 (by decide) m_231 rfl rfl rfl hin2 q0 he hn hfit hl hdg kk
theorem gp_X8_49 (X : gX p m c cc nL s args "StorksLet$Town" D cT) (hG : gG D A H0 ws H locs) (hin2 : meth.name = "<init>") (q0 : Nat) {fs : List Value} (he : ws[q0]? = some (a, .inr (7, fs))) {v : Value} (hn : narrow (.array .int) v = v) (hfit : fits (.array .int) v = true) (hl : 12 < fs.length) (hdg : decode cc pc = .ok (.putfield 49, 3)) (kk : ∀ (H1 : Heap) (locs1 : List Loc), gG D A H0 (ws.set q0 (a, .inr (7, fs.set 12 v))) H1 locs1 → W p l e R s m args below meth c H1 locs1 cells slots Q (F0 m (pc + 3) ls rest)) : W p l e R s m args below meth c H locs cells slots Q (F0 m pc ls (v :: .ref a :: rest)) := g_putF X hG in_X8 tyX8 tyX8_ok nmX8 rfl 12 (by decide) m_233 rfl rfl rfl hin2 q0 he hn hfit hl hdg kk
theorem gp_X8_52 (X : gX p m c cc nL s args "StorksLet$Town" D cT) (hG : gG D A H0 ws H locs) (hin2 : meth.name = "<init>") (q0 : Nat) {fs : List Value} (he : ws[q0]? = some (a, .inr (7, fs))) {v : Value} (hn : narrow (.array .int) v = v) (hfit : fits (.array .int) v = true) (hl : 13 < fs.length) (hdg : decode cc pc = .ok (.putfield 52, 3)) (kk : ∀ (H1 : Heap) (locs1 : List Loc), gG D A H0 (ws.set q0 (a, .inr (7, fs.set 13 v))) H1 locs1 → W p l e R s m args below meth c H1 locs1 cells slots Q (F0 m (pc + 3) ls rest)) : W p l e R s m args below meth c H locs cells slots Q (F0 m pc ls (v :: .ref a :: rest)) := g_putF X hG in_X8 tyX8 tyX8_ok nmX8 rfl 13 (by decide) m_235 rfl rfl rfl hin2 q0 he hn hfit hl hdg kk
theorem gp_X8_55 (X : gX p m c cc nL s args "StorksLet$Town" D cT) (hG : gG D A H0 ws H locs) (hin2 : meth.name = "<init>") (q0 : Nat) {fs : List Value} (he : ws[q0]? = some (a, .inr (7, fs))) {v : Value} (hn : narrow (.array .int) v = v) (hfit : fits (.array .int) v = true) (hl : 14 < fs.length) (hdg : decode cc pc = .ok (.putfield 55, 3)) (kk : ∀ (H1 : Heap) (locs1 : List Loc), gG D A H0 (ws.set q0 (a, .inr (7, fs.set 14 v))) H1 locs1 → W p l e R s m args below meth c H1 locs1 cells slots Q (F0 m (pc + 3) ls rest)) : W p l e R s m args below meth c H locs cells slots Q (F0 m pc ls (v :: .ref a :: rest)) := g_putF X hG in_X8 tyX8 tyX8_ok nmX8 rfl 14 (by decide) m_237 rfl rfl rfl hin2 q0 he hn hfit hl hdg kk
theorem gp_X8_58 (X : gX p m c cc nL s args "StorksLet$Town" D cT) (hG : gG D A H0 ws H locs) (hin2 : meth.name = "<init>") (q0 : Nat) {fs : List Value} (he : ws[q0]? = some (a, .inr (7, fs))) {v : Value} (hn : narrow (.array .int) v = v) (hfit : fits (.array .int) v = true) (hl : 15 < fs.length) (hdg : decode cc pc = .ok (.putfield 58, 3)) (kk : ∀ (H1 : Heap) (locs1 : List Loc), gG D A H0 (ws.set q0 (a, .inr (7, fs.set 15 v))) H1 locs1 → W p l e R s m args below meth c H1 locs1 cells slots Q (F0 m (pc + 3) ls rest)) : W p l e R s m args below meth c H locs cells slots Q (F0 m pc ls (v :: .ref a :: rest)) := g_putF X hG in_X8 tyX8 tyX8_ok nmX8 rfl 15 (by decide) m_238 rfl rfl rfl hin2 q0 he hn hfit hl hdg kk
theorem gn_X8_67 (X : gX p m c cc nL s args "StorksLet$Town" D cT) (hG : gG D A H0 ws H locs) (hA : ∀ q, H0.size ≤ q → A q) {c1 s1 : Nat} (hc1 : cells + 1 = c1) (hs1 : slots + 6 = s1) (hcR : c1 ≤ R.cells) (hsR : s1 ≤ R.slots) (hdg : decode cc pc = .ok (.new 67, 3)) (kk : ∀ (q : Nat) (H1 : Heap), gG D A H0 (ws ++ [(q, .inr (9, [.null, .null, .null, .null, .int 0, .int 0]))]) H1 locs → W p l e R s m args below meth c H1 locs c1 s1 Q (F0 m (pc + 3) ls (.ref q :: rest))) : W p l e R s m args below meth c H locs cells slots Q (F0 m pc ls rest) := g_new X hG hA in_X10 tyX10 tyX10_ok rfl m_158 m_159 m_70 (fs := [.null, .null, .null, .null, .int 0, .int 0]) (by rfl) hc1 hs1 hcR hsR hdg kk
theorem gw_X8_69 : gWN yX10_init cX10_init 1 0 := ⟨⟨m_161, m_70, m_162⟩, rfl, by decide +kernel⟩
theorem gp_X8_70 (X : gX p m c cc nL s args "StorksLet$Town" D cT) (hG : gG D A H0 ws H locs) (hin2 : meth.name = "<init>") (q0 : Nat) {fs : List Value} (he : ws[q0]? = some (a, .inr (7, fs))) {v : Value} (hn : narrow (.object "StorksLet$Worths") v = v) (hfit : fits (.object "StorksLet$Worths") v = true) (hl : 18 < fs.length) (hdg : decode cc pc = .ok (.putfield 70, 3)) (kk : ∀ (H1 : Heap) (locs1 : List Loc), gG D A H0 (ws.set q0 (a, .inr (7, fs.set 18 v))) H1 locs1 → W p l e R s m args below meth c H1 locs1 cells slots Q (F0 m (pc + 3) ls rest)) : W p l e R s m args below meth c H locs cells slots Q (F0 m pc ls (v :: .ref a :: rest)) := g_putF X hG in_X8 tyX8 tyX8_ok nmX8 rfl 18 (by decide) m_244 rfl rfl rfl hin2 q0 he hn hfit hl hdg kk
theorem gp_X3_11 (X : gX p m c cc nL s args "StorksLet$Rule" D cT) (hG : gG D A H0 ws H locs) (hin2 : meth.name = "<init>") (q0 : Nat) {fs : List Value} (he : ws[q0]? = some (a, .inr (2, fs))) {v : Value} (hn : narrow (.array .int) v = v) (hfit : fits (.array .int) v = true) (hl : 0 < fs.length) (hdg : decode cc pc = .ok (.putfield 11, 3)) (kk : ∀ (H1 : Heap) (locs1 : List Loc), gG D A H0 (ws.set q0 (a, .inr (2, fs.set 0 v))) H1 locs1 → W p l e R s m args below meth c H1 locs1 cells slots Q (F0 m (pc + 3) ls rest)) : W p l e R s m args below meth c H locs cells slots Q (F0 m pc ls (v :: .ref a :: rest)) := g_putF X hG in_X3 tyX3 tyX3_ok nmX3 rfl 0 (by decide) m_292 rfl rfl rfl hin2 q0 he hn hfit hl hdg kk
theorem gp_X3_15 (X : gX p m c cc nL s args "StorksLet$Rule" D cT) (hG : gG D A H0 ws H locs) (hin2 : meth.name = "<init>") (q0 : Nat) {fs : List Value} (he : ws[q0]? = some (a, .inr (2, fs))) {v : Value} (hn : narrow (.array .int) v = v) (hfit : fits (.array .int) v = true) (hl : 1 < fs.length) (hdg : decode cc pc = .ok (.putfield 15, 3)) (kk : ∀ (H1 : Heap) (locs1 : List Loc), gG D A H0 (ws.set q0 (a, .inr (2, fs.set 1 v))) H1 locs1 → W p l e R s m args below meth c H1 locs1 cells slots Q (F0 m (pc + 3) ls rest)) : W p l e R s m args below meth c H locs cells slots Q (F0 m pc ls (v :: .ref a :: rest)) := g_putF X hG in_X3 tyX3 tyX3_ok nmX3 rfl 1 (by decide) m_293 rfl rfl rfl hin2 q0 he hn hfit hl hdg kk
theorem gp_X3_18 (X : gX p m c cc nL s args "StorksLet$Rule" D cT) (hG : gG D A H0 ws H locs) (hin2 : meth.name = "<init>") (q0 : Nat) {fs : List Value} (he : ws[q0]? = some (a, .inr (2, fs))) {v : Value} (hn : narrow (.array .int) v = v) (hfit : fits (.array .int) v = true) (hl : 2 < fs.length) (hdg : decode cc pc = .ok (.putfield 18, 3)) (kk : ∀ (H1 : Heap) (locs1 : List Loc), gG D A H0 (ws.set q0 (a, .inr (2, fs.set 2 v))) H1 locs1 → W p l e R s m args below meth c H1 locs1 cells slots Q (F0 m (pc + 3) ls rest)) : W p l e R s m args below meth c H locs cells slots Q (F0 m pc ls (v :: .ref a :: rest)) := g_putF X hG in_X3 tyX3 tyX3_ok nmX3 rfl 2 (by decide) m_294 rfl rfl rfl hin2 q0 he hn hfit hl hdg kk
theorem gp_X9_11 (X : gX p m c cc nL s args "StorksLet$Works" D cT) (hG : gG D A H0 ws H locs) (hin2 : meth.name = "<init>") (q0 : Nat) {fs : List Value} (he : ws[q0]? = some (a, .inr (8, fs))) {v : Value} (hn : narrow (.array .char) v = v) (hfit : fits (.array .char) v = true) (hl : 0 < fs.length) (hdg : decode cc pc = .ok (.putfield 11, 3)) (kk : ∀ (H1 : Heap) (locs1 : List Loc), gG D A H0 (ws.set q0 (a, .inr (8, fs.set 0 v))) H1 locs1 → W p l e R s m args below meth c H1 locs1 cells slots Q (F0 m (pc + 3) ls rest)) : W p l e R s m args below meth c H locs cells slots Q (F0 m pc ls (v :: .ref a :: rest)) := g_putF X hG in_X9 tyX9 tyX9_ok nmX9 rfl 0 (by decide) m_334 rfl rfl rfl hin2 q0 he hn hfit hl hdg kk
theorem gp_X9_15 (X : gX p m c cc nL s args "StorksLet$Works" D cT) (hG : gG D A H0 ws H locs) (hin2 : meth.name = "<init>") (q0 : Nat) {fs : List Value} (he : ws[q0]? = some (a, .inr (8, fs))) {v : Value} (hn : narrow (.array .int) v = v) (hfit : fits (.array .int) v = true) (hl : 1 < fs.length) (hdg : decode cc pc = .ok (.putfield 15, 3)) (kk : ∀ (H1 : Heap) (locs1 : List Loc), gG D A H0 (ws.set q0 (a, .inr (8, fs.set 1 v))) H1 locs1 → W p l e R s m args below meth c H1 locs1 cells slots Q (F0 m (pc + 3) ls rest)) : W p l e R s m args below meth c H locs cells slots Q (F0 m pc ls (v :: .ref a :: rest)) := g_putF X hG in_X9 tyX9 tyX9_ok nmX9 rfl 1 (by decide) m_335 rfl rfl rfl hin2 q0 he hn hfit hl hdg kk
theorem gp_X9_19 (X : gX p m c cc nL s args "StorksLet$Works" D cT) (hG : gG D A H0 ws H locs) (hin2 : meth.name = "<init>") (q0 : Nat) {fs : List Value} (he : ws[q0]? = some (a, .inr (8, fs))) {v : Value} (hn : narrow (.array .int) v = v) (hfit : fits (.array .int) v = true) (hl : 2 < fs.length) (hdg : decode cc pc = .ok (.putfield 19, 3)) (kk : ∀ (H1 : Heap) (locs1 : List Loc), gG D A H0 (ws.set q0 (a, .inr (8, fs.set 2 v))) H1 locs1 → W p l e R s m args below meth c H1 locs1 cells slots Q (F0 m (pc + 3) ls rest)) : W p l e R s m args below meth c H locs cells slots Q (F0 m pc ls (v :: .ref a :: rest)) := g_putF X hG in_X9 tyX9 tyX9_ok nmX9 rfl 2 (by decide) m_336 rfl rfl rfl hin2 q0 he hn hfit hl hdg kk
theorem gp_X0_13 (X : gX p m c cc nL s args "StorksLet$History" D cT) (hG : gG D A H0 ws H locs) (hin2 : meth.name = "<init>") (q0 : Nat) {fs : List Value} (he : ws[q0]? = some (a, .inr (0, fs))) {v : Value} (hn : narrow (.array (.array .int)) v = v) (hfit : fits (.array (.array .int)) v = true) (hl : 0 < fs.length) (hdg : decode cc pc = .ok (.putfield 13, 3)) (kk : ∀ (H1 : Heap) (locs1 : List Loc), gG D A H0 (ws.set q0 (a, .inr (0, fs.set 0 v))) H1 locs1 → W p l e R s m args below meth c H1 locs1 cells slots Q (F0 m (pc + 3) ls rest)) : W p l e R s m args below meth c H locs cells slots Q (F0 m pc ls (v :: .ref a :: rest)) := g_putF X hG in_X0 tyX0 tyX0_ok nmX0 rfl 0 (by decide) m_356 rfl rfl rfl hin2 q0 he hn hfit hl hdg kk
theorem gp_X0_16 (X : gX p m c cc nL s args "StorksLet$History" D cT) (hG : gG D A H0 ws H locs) (q0 : Nat) {fs : List Value} (he : ws[q0]? = some (a, .inr (0, fs))) {v : Value} (hn : narrow .int v = v) (hfit : fits .int v = true) (hl : 1 < fs.length) (hdg : decode cc pc = .ok (.putfield 16, 3)) (kk : ∀ (H1 : Heap) (locs1 : List Loc), gG D A H0 (ws.set q0 (a, .inr (0, fs.set 1 v))) H1 locs1 → W p l e R s m args below meth c H1 locs1 cells slots Q (F0 m (pc + 3) ls rest)) : W p l e R s m args below meth c H locs cells slots Q (F0 m pc ls (v :: .ref a :: rest)) := g_put X hG in_X0 tyX0 tyX0_ok nmX0 rfl 1 (by decide) m_357 rfl rfl q0 he hn hfit hl hdg kk
theorem gp_X7_9 (X : gX p m c cc nL s args "StorksLet$Steps" D cT) (hG : gG D A H0 ws H locs) (hin2 : meth.name = "<init>") (q0 : Nat) {fs : List Value} (he : ws[q0]? = some (a, .inr (6, fs))) {v : Value} (hn : narrow (.array .int) v = v) (hfit : fits (.array .int) v = true) (hl : 0 < fs.length) (hdg : decode cc pc = .ok (.putfield 9, 3)) (kk : ∀ (H1 : Heap) (locs1 : List Loc), gG D A H0 (ws.set q0 (a, .inr (6, fs.set 0 v))) H1 locs1 → W p l e R s m args below meth c H1 locs1 cells slots Q (F0 m (pc + 3) ls rest)) : W p l e R s m args below meth c H locs cells slots Q (F0 m pc ls (v :: .ref a :: rest)) := g_putF X hG in_X7 tyX7 tyX7_ok nmX7 rfl 0 (by decide) m_374 rfl rfl rfl hin2 q0 he hn hfit hl hdg kk
theorem gp_X7_15 (X : gX p m c cc nL s args "StorksLet$Steps" D cT) (hG : gG D A H0 ws H locs) (hin2 : meth.name = "<init>") (q0 : Nat) {fs : List Value} (he : ws[q0]? = some (a, .inr (6, fs))) {v : Value} (hn : narrow (.array .int) v = v) (hfit : fits (.array .int) v = true) (hl : 1 < fs.length) (hdg : decode cc pc = .ok (.putfield 15, 3)) (kk : ∀ (H1 : Heap) (locs1 : List Loc), gG D A H0 (ws.set q0 (a, .inr (6, fs.set 1 v))) H1 locs1 → W p l e R s m args below meth c H1 locs1 cells slots Q (F0 m (pc + 3) ls rest)) : W p l e R s m args below meth c H locs cells slots Q (F0 m pc ls (v :: .ref a :: rest)) := g_putF X hG in_X7 tyX7 tyX7_ok nmX7 rfl 1 (by decide) m_376 rfl rfl rfl hin2 q0 he hn hfit hl hdg kk
theorem gp_X7_29 (X : gX p m c cc nL s args "StorksLet$Steps" D cT) (hG : gG D A H0 ws H locs) (hin2 : meth.name = "<init>") (q0 : Nat) {fs : List Value} (he : ws[q0]? = some (a, .inr (6, fs))) {v : Value} (hn : narrow (.array .int) v = v) (hfit : fits (.array .int) v = true) (hl : 5 < fs.length) (hdg : decode cc pc = .ok (.putfield 29, 3)) (kk : ∀ (H1 : Heap) (locs1 : List Loc), gG D A H0 (ws.set q0 (a, .inr (6, fs.set 5 v))) H1 locs1 → W p l e R s m args below meth c H1 locs1 cells slots Q (F0 m (pc + 3) ls rest)) : W p l e R s m args below meth c H locs cells slots Q (F0 m pc ls (v :: .ref a :: rest)) := g_putF X hG in_X7 tyX7 tyX7_ok nmX7 rfl 5 (by decide) m_380 rfl rfl rfl hin2 q0 he hn hfit hl hdg kk
theorem gp_X7_32 (X : gX p m c cc nL s args "StorksLet$Steps" D cT) (hG : gG D A H0 ws H locs) (hin2 : meth.name = "<init>") (q0 : Nat) {fs : List Value} (he : ws[q0]? = some (a, .inr (6, fs))) {v : Value} (hn : narrow (.array .int) v = v) (hfit : fits (.array .int) v = true) (hl : 6 < fs.length) (hdg : decode cc pc = .ok (.putfield 32, 3)) (kk : ∀ (H1 : Heap) (locs1 : List Loc), gG D A H0 (ws.set q0 (a, .inr (6, fs.set 6 v))) H1 locs1 → W p l e R s m args below meth c H1 locs1 cells slots Q (F0 m (pc + 3) ls rest)) : W p l e R s m args below meth c H locs cells slots Q (F0 m pc ls (v :: .ref a :: rest)) := g_putF X hG in_X7 tyX7 tyX7_ok nmX7 rfl 6 (by decide) m_381 rfl rfl rfl hin2 q0 he hn hfit hl hdg kk
theorem gp_X5_9 (X : gX p m c cc nL s args "StorksLet$Sightings" D cT) (hG : gG D A H0 ws H locs) (hin2 : meth.name = "<init>") (q0 : Nat) {fs : List Value} (he : ws[q0]? = some (a, .inr (4, fs))) {v : Value} (hn : narrow (.array .int) v = v) (hfit : fits (.array .int) v = true) (hl : 0 < fs.length) (hdg : decode cc pc = .ok (.putfield 9, 3)) (kk : ∀ (H1 : Heap) (locs1 : List Loc), gG D A H0 (ws.set q0 (a, .inr (4, fs.set 0 v))) H1 locs1 → W p l e R s m args below meth c H1 locs1 cells slots Q (F0 m (pc + 3) ls rest)) : W p l e R s m args below meth c H locs cells slots Q (F0 m pc ls (v :: .ref a :: rest)) := g_putF X hG in_X5 tyX5 tyX5_ok nmX5 rfl 0 (by decide) m_403 rfl rfl rfl hin2 q0 he hn hfit hl hdg kk
theorem gp_X5_13 (X : gX p m c cc nL s args "StorksLet$Sightings" D cT) (hG : gG D A H0 ws H locs) (hin2 : meth.name = "<init>") (q0 : Nat) {fs : List Value} (he : ws[q0]? = some (a, .inr (4, fs))) {v : Value} (hn : narrow (.array .int) v = v) (hfit : fits (.array .int) v = true) (hl : 1 < fs.length) (hdg : decode cc pc = .ok (.putfield 13, 3)) (kk : ∀ (H1 : Heap) (locs1 : List Loc), gG D A H0 (ws.set q0 (a, .inr (4, fs.set 1 v))) H1 locs1 → W p l e R s m args below meth c H1 locs1 cells slots Q (F0 m (pc + 3) ls rest)) : W p l e R s m args below meth c H locs cells slots Q (F0 m pc ls (v :: .ref a :: rest)) := g_putF X hG in_X5 tyX5 tyX5_ok nmX5 rfl 1 (by decide) m_404 rfl rfl rfl hin2 q0 he hn hfit hl hdg kk
theorem gp_X5_16 (X : gX p m c cc nL s args "StorksLet$Sightings" D cT) (hG : gG D A H0 ws H locs) (hin2 : meth.name = "<init>") (q0 : Nat) {fs : List Value} (he : ws[q0]? = some (a, .inr (4, fs))) {v : Value} (hn : narrow (.array .int) v = v) (hfit : fits (.array .int) v = true) (hl : 2 < fs.length) (hdg : decode cc pc = .ok (.putfield 16, 3)) (kk : ∀ (H1 : Heap) (locs1 : List Loc), gG D A H0 (ws.set q0 (a, .inr (4, fs.set 2 v))) H1 locs1 → W p l e R s m args below meth c H1 locs1 cells slots Q (F0 m (pc + 3) ls rest)) : W p l e R s m args below meth c H locs cells slots Q (F0 m pc ls (v :: .ref a :: rest)) := g_putF X hG in_X5 tyX5 tyX5_ok nmX5 rfl 2 (by decide) m_405 rfl rfl rfl hin2 q0 he hn hfit hl hdg kk
theorem gp_X5_19 (X : gX p m c cc nL s args "StorksLet$Sightings" D cT) (hG : gG D A H0 ws H locs) (q0 : Nat) {fs : List Value} (he : ws[q0]? = some (a, .inr (4, fs))) {v : Value} (hn : narrow .int v = v) (hfit : fits .int v = true) (hl : 3 < fs.length) (hdg : decode cc pc = .ok (.putfield 19, 3)) (kk : ∀ (H1 : Heap) (locs1 : List Loc), gG D A H0 (ws.set q0 (a, .inr (4, fs.set 3 v))) H1 locs1 → W p l e R s m args below meth c H1 locs1 cells slots Q (F0 m (pc + 3) ls rest)) : W p l e R s m args below meth c H locs cells slots Q (F0 m pc ls (v :: .ref a :: rest)) := g_put X hG in_X5 tyX5 tyX5_ok nmX5 rfl 3 (by decide) m_406 rfl rfl q0 he hn hfit hl hdg kk
theorem gn_X11_7 (X : gX p m c cc nL s args "StorksLet" D cT) (hG : gG D A H0 ws H locs) (hA : ∀ q, H0.size ≤ q → A q) {c1 s1 : Nat} (hc1 : cells + 1 = c1) (hs1 : slots + 4 = s1) (hcR : c1 ≤ R.cells) (hsR : s1 ≤ R.slots) (hdg : decode cc pc = .ok (.new 7, 3)) (kk : ∀ (q : Nat) (H1 : Heap), gG D A H0 (ws ++ [(q, .inr (5, [.null, .int 0, .int 0, .int 0]))]) H1 locs → W p l e R s m args below meth c H1 locs c1 s1 Q (F0 m (pc + 3) ls (.ref q :: rest))) : W p l e R s m args below meth c H locs cells slots Q (F0 m pc ls rest) := g_new X hG hA in_X6 tyX6 tyX6_ok rfl m_100 m_101 m_67 (fs := [.null, .int 0, .int 0, .int 0]) (by rfl) hc1 hs1 hcR hsR hdg kk
theorem gw_X11_9 : gWN yX6_init cX6_init 1 0 := ⟨⟨m_103, m_67, m_104⟩, rfl, by decide +kernel⟩
theorem gp_X11_10 (X : gX p m c cc nL s args "StorksLet" D cT) (hG : gG D A H0 ws H locs) (hin2 : meth.name = "<init>") (q0 : Nat) {fs : List Value} (he : ws[q0]? = some (a, .inr (10, fs))) {v : Value} (hn : narrow (.object "StorksLet$Signs") v = v) (hfit : fits (.object "StorksLet$Signs") v = true) (hl : 0 < fs.length) (hdg : decode cc pc = .ok (.putfield 10, 3)) (kk : ∀ (H1 : Heap) (locs1 : List Loc), gG D A H0 (ws.set q0 (a, .inr (10, fs.set 0 v))) H1 locs1 → W p l e R s m args below meth c H1 locs1 cells slots Q (F0 m (pc + 3) ls rest)) : W p l e R s m args below meth c H locs cells slots Q (F0 m pc ls (v :: .ref a :: rest)) := g_putF X hG in_X11 tyX11 tyX11_ok nmX11 rfl 0 (by decide) m_417 rfl rfl rfl hin2 q0 he hn hfit hl hdg kk
theorem gn_X11_16 (X : gX p m c cc nL s args "StorksLet" D cT) (hG : gG D A H0 ws H locs) (hA : ∀ q, H0.size ≤ q → A q) {c1 s1 : Nat} (hc1 : cells + 1 = c1) (hs1 : slots + 2 = s1) (hcR : c1 ≤ R.cells) (hsR : s1 ≤ R.slots) (hdg : decode cc pc = .ok (.new 16, 3)) (kk : ∀ (q : Nat) (H1 : Heap), gG D A H0 (ws ++ [(q, .inr (1, [.null, .int 0]))]) H1 locs → W p l e R s m args below meth c H1 locs c1 s1 Q (F0 m (pc + 3) ls (.ref q :: rest))) : W p l e R s m args below meth c H locs cells slots Q (F0 m pc ls rest) := g_new X hG hA in_X2 tyX2 tyX2_ok rfl m_134 m_135 m_68 (fs := [.null, .int 0]) (by rfl) hc1 hs1 hcR hsR hdg kk
theorem gw_X11_18 : gWN yX2_init cX2_init 1 0 := ⟨⟨m_137, m_68, m_138⟩, rfl, by decide +kernel⟩
theorem gp_X11_19 (X : gX p m c cc nL s args "StorksLet" D cT) (hG : gG D A H0 ws H locs) (hin2 : meth.name = "<init>") (q0 : Nat) {fs : List Value} (he : ws[q0]? = some (a, .inr (10, fs))) {v : Value} (hn : narrow (.object "StorksLet$Row") v = v) (hfit : fits (.object "StorksLet$Row") v = true) (hl : 1 < fs.length) (hdg : decode cc pc = .ok (.putfield 19, 3)) (kk : ∀ (H1 : Heap) (locs1 : List Loc), gG D A H0 (ws.set q0 (a, .inr (10, fs.set 1 v))) H1 locs1 → W p l e R s m args below meth c H1 locs1 cells slots Q (F0 m (pc + 3) ls rest)) : W p l e R s m args below meth c H locs cells slots Q (F0 m pc ls (v :: .ref a :: rest)) := g_putF X hG in_X11 tyX11 tyX11_ok nmX11 rfl 1 (by decide) m_418 rfl rfl rfl hin2 q0 he hn hfit hl hdg kk
theorem gn_X11_23 (X : gX p m c cc nL s args "StorksLet" D cT) (hG : gG D A H0 ws H locs) (hA : ∀ q, H0.size ≤ q → A q) {c1 s1 : Nat} (hc1 : cells + 1 = c1) (hs1 : slots + 19 = s1) (hcR : c1 ≤ R.cells) (hsR : s1 ≤ R.slots) (hdg : decode cc pc = .ok (.new 23, 3)) (kk : ∀ (q : Nat) (H1 : Heap), gG D A H0 (ws ++ [(q, .inr (7, [.int 0, .int 0, .int 0, .int 0, .null, .null, .null, .null, .null, .null, .null, .null, .null, .null, .null, .null, .null, .int 0, .null]))]) H1 locs → W p l e R s m args below meth c H1 locs c1 s1 Q (F0 m (pc + 3) ls (.ref q :: rest))) : W p l e R s m args below meth c H locs cells slots Q (F0 m pc ls rest) := g_new X hG hA in_X8 tyX8 tyX8_ok rfl m_152 m_153 m_69 (fs := [.int 0, .int 0, .int 0, .int 0, .null, .null, .null, .null, .null, .null, .null, .null, .null, .null, .null, .null, .null, .int 0, .null]) (by rfl) hc1 hs1 hcR hsR hdg kk
theorem gw_X11_25 : gWN yX8_init cX8_init 1 0 := ⟨⟨m_155, m_69, m_156⟩, rfl, by decide +kernel⟩
theorem gp_X11_26 (X : gX p m c cc nL s args "StorksLet" D cT) (hG : gG D A H0 ws H locs) (hin2 : meth.name = "<init>") (q0 : Nat) {fs : List Value} (he : ws[q0]? = some (a, .inr (10, fs))) {v : Value} (hn : narrow (.object "StorksLet$Town") v = v) (hfit : fits (.object "StorksLet$Town") v = true) (hl : 2 < fs.length) (hdg : decode cc pc = .ok (.putfield 26, 3)) (kk : ∀ (H1 : Heap) (locs1 : List Loc), gG D A H0 (ws.set q0 (a, .inr (10, fs.set 2 v))) H1 locs1 → W p l e R s m args below meth c H1 locs1 cells slots Q (F0 m (pc + 3) ls rest)) : W p l e R s m args below meth c H locs cells slots Q (F0 m pc ls (v :: .ref a :: rest)) := g_putF X hG in_X11 tyX11 tyX11_ok nmX11 rfl 2 (by decide) m_419 rfl rfl rfl hin2 q0 he hn hfit hl hdg kk
theorem gp_X11_30 (X : gX p m c cc nL s args "StorksLet" D cT) (hG : gG D A H0 ws H locs) (hin2 : meth.name = "<init>") (q0 : Nat) {fs : List Value} (he : ws[q0]? = some (a, .inr (10, fs))) {v : Value} (hn : narrow (.object "StorksLet$Town") v = v) (hfit : fits (.object "StorksLet$Town") v = true) (hl : 3 < fs.length) (hdg : decode cc pc = .ok (.putfield 30, 3)) (kk : ∀ (H1 : Heap) (locs1 : List Loc), gG D A H0 (ws.set q0 (a, .inr (10, fs.set 3 v))) H1 locs1 → W p l e R s m args below meth c H1 locs1 cells slots Q (F0 m (pc + 3) ls rest)) : W p l e R s m args below meth c H locs cells slots Q (F0 m pc ls (v :: .ref a :: rest)) := g_putF X hG in_X11 tyX11 tyX11_ok nmX11 rfl 3 (by decide) m_420 rfl rfl rfl hin2 q0 he hn hfit hl hdg kk
theorem gp_X11_33 (X : gX p m c cc nL s args "StorksLet" D cT) (hG : gG D A H0 ws H locs) (hin2 : meth.name = "<init>") (q0 : Nat) {fs : List Value} (he : ws[q0]? = some (a, .inr (10, fs))) {v : Value} (hn : narrow (.object "StorksLet$Town") v = v) (hfit : fits (.object "StorksLet$Town") v = true) (hl : 4 < fs.length) (hdg : decode cc pc = .ok (.putfield 33, 3)) (kk : ∀ (H1 : Heap) (locs1 : List Loc), gG D A H0 (ws.set q0 (a, .inr (10, fs.set 4 v))) H1 locs1 → W p l e R s m args below meth c H1 locs1 cells slots Q (F0 m (pc + 3) ls rest)) : W p l e R s m args below meth c H locs cells slots Q (F0 m pc ls (v :: .ref a :: rest)) := g_putF X hG in_X11 tyX11 tyX11_ok nmX11 rfl 4 (by decide) m_421 rfl rfl rfl hin2 q0 he hn hfit hl hdg kk
theorem gn_X11_36 (X : gX p m c cc nL s args "StorksLet" D cT) (hG : gG D A H0 ws H locs) (hA : ∀ q, H0.size ≤ q → A q) {c1 s1 : Nat} (hc1 : cells + 1 = c1) (hs1 : slots + 11 = s1) (hcR : c1 ≤ R.cells) (hsR : s1 ≤ R.slots) (hdg : decode cc pc = .ok (.new 36, 3)) (kk : ∀ (q : Nat) (H1 : Heap), gG D A H0 (ws ++ [(q, .inr (2, [.null, .null, .null, .int 0, .int 0, .int 0, .int 0, .int 0, .int 0, .int 0, .int 0]))]) H1 locs → W p l e R s m args below meth c H1 locs c1 s1 Q (F0 m (pc + 3) ls (.ref q :: rest))) : W p l e R s m args below meth c H locs cells slots Q (F0 m pc ls rest) := g_new X hG hA in_X3 tyX3 tyX3_ok rfl m_286 m_287 m_72 (fs := [.null, .null, .null, .int 0, .int 0, .int 0, .int 0, .int 0, .int 0, .int 0, .int 0]) (by rfl) hc1 hs1 hcR hsR hdg kk
theorem gw_X11_38 : gWN yX3_init cX3_init 1 0 := ⟨⟨m_289, m_72, m_290⟩, rfl, by decide +kernel⟩
theorem gp_X11_43 (X : gX p m c cc nL s args "StorksLet" D cT) (hG : gG D A H0 ws H locs) (hin2 : meth.name = "<init>") (q0 : Nat) {fs : List Value} (he : ws[q0]? = some (a, .inr (10, fs))) {v : Value} (hn : narrow (.array .int) v = v) (hfit : fits (.array .int) v = true) (hl : 6 < fs.length) (hdg : decode cc pc = .ok (.putfield 43, 3)) (kk : ∀ (H1 : Heap) (locs1 : List Loc), gG D A H0 (ws.set q0 (a, .inr (10, fs.set 6 v))) H1 locs1 → W p l e R s m args below meth c H1 locs1 cells slots Q (F0 m (pc + 3) ls rest)) : W p l e R s m args below meth c H locs cells slots Q (F0 m pc ls (v :: .ref a :: rest)) := g_putF X hG in_X11 tyX11 tyX11_ok nmX11 rfl 6 (by decide) m_423 rfl rfl rfl hin2 q0 he hn hfit hl hdg kk
theorem gp_X11_47 (X : gX p m c cc nL s args "StorksLet" D cT) (hG : gG D A H0 ws H locs) (hin2 : meth.name = "<init>") (q0 : Nat) {fs : List Value} (he : ws[q0]? = some (a, .inr (10, fs))) {v : Value} (hn : narrow (.array .int) v = v) (hfit : fits (.array .int) v = true) (hl : 7 < fs.length) (hdg : decode cc pc = .ok (.putfield 47, 3)) (kk : ∀ (H1 : Heap) (locs1 : List Loc), gG D A H0 (ws.set q0 (a, .inr (10, fs.set 7 v))) H1 locs1 → W p l e R s m args below meth c H1 locs1 cells slots Q (F0 m (pc + 3) ls rest)) : W p l e R s m args below meth c H locs cells slots Q (F0 m pc ls (v :: .ref a :: rest)) := g_putF X hG in_X11 tyX11 tyX11_ok nmX11 rfl 7 (by decide) m_424 rfl rfl rfl hin2 q0 he hn hfit hl hdg kk
theorem gn_X11_50 (X : gX p m c cc nL s args "StorksLet" D cT) (hG : gG D A H0 ws H locs) (hA : ∀ q, H0.size ≤ q → A q) {c1 s1 : Nat} (hc1 : cells + 1 = c1) (hs1 : slots + 4 = s1) (hcR : c1 ≤ R.cells) (hsR : s1 ≤ R.slots) (hdg : decode cc pc = .ok (.new 50, 3)) (kk : ∀ (q : Nat) (H1 : Heap), gG D A H0 (ws ++ [(q, .inr (8, [.null, .null, .null, .int 0]))]) H1 locs → W p l e R s m args below meth c H1 locs c1 s1 Q (F0 m (pc + 3) ls (.ref q :: rest))) : W p l e R s m args below meth c H locs cells slots Q (F0 m pc ls rest) := g_new X hG hA in_X9 tyX9 tyX9_ok rfl m_328 m_329 m_73 (fs := [.null, .null, .null, .int 0]) (by rfl) hc1 hs1 hcR hsR hdg kk
theorem gw_X11_52 : gWN yX9_init cX9_init 1 0 := ⟨⟨m_331, m_73, m_332⟩, rfl, by decide +kernel⟩
theorem gp_X11_53 (X : gX p m c cc nL s args "StorksLet" D cT) (hG : gG D A H0 ws H locs) (hin2 : meth.name = "<init>") (q0 : Nat) {fs : List Value} (he : ws[q0]? = some (a, .inr (10, fs))) {v : Value} (hn : narrow (.object "StorksLet$Works") v = v) (hfit : fits (.object "StorksLet$Works") v = true) (hl : 8 < fs.length) (hdg : decode cc pc = .ok (.putfield 53, 3)) (kk : ∀ (H1 : Heap) (locs1 : List Loc), gG D A H0 (ws.set q0 (a, .inr (10, fs.set 8 v))) H1 locs1 → W p l e R s m args below meth c H1 locs1 cells slots Q (F0 m (pc + 3) ls rest)) : W p l e R s m args below meth c H locs cells slots Q (F0 m pc ls (v :: .ref a :: rest)) := g_putF X hG in_X11 tyX11 tyX11_ok nmX11 rfl 8 (by decide) m_425 rfl rfl rfl hin2 q0 he hn hfit hl hdg kk
theorem gn_X11_57 (X : gX p m c cc nL s args "StorksLet" D cT) (hG : gG D A H0 ws H locs) (hA : ∀ q, H0.size ≤ q → A q) {c1 s1 : Nat} (hc1 : cells + 1 = c1) (hs1 : slots + 3 = s1) (hcR : c1 ≤ R.cells) (hsR : s1 ≤ R.slots) (hdg : decode cc pc = .ok (.new 57, 3)) (kk : ∀ (q : Nat) (H1 : Heap), gG D A H0 (ws ++ [(q, .inr (0, [.null, .int 0, .int 0]))]) H1 locs → W p l e R s m args below meth c H1 locs c1 s1 Q (F0 m (pc + 3) ls (.ref q :: rest))) : W p l e R s m args below meth c H locs cells slots Q (F0 m pc ls rest) := g_new X hG hA in_X0 tyX0 tyX0_ok rfl m_348 m_349 m_74 (fs := [.null, .int 0, .int 0]) (by rfl) hc1 hs1 hcR hsR hdg kk
theorem gw_X11_59 : gWN yX0_init cX0_init 1 0 := ⟨⟨m_351, m_74, m_352⟩, rfl, by decide +kernel⟩
theorem gp_X11_60 (X : gX p m c cc nL s args "StorksLet" D cT) (hG : gG D A H0 ws H locs) (hin2 : meth.name = "<init>") (q0 : Nat) {fs : List Value} (he : ws[q0]? = some (a, .inr (10, fs))) {v : Value} (hn : narrow (.object "StorksLet$History") v = v) (hfit : fits (.object "StorksLet$History") v = true) (hl : 9 < fs.length) (hdg : decode cc pc = .ok (.putfield 60, 3)) (kk : ∀ (H1 : Heap) (locs1 : List Loc), gG D A H0 (ws.set q0 (a, .inr (10, fs.set 9 v))) H1 locs1 → W p l e R s m args below meth c H1 locs1 cells slots Q (F0 m (pc + 3) ls rest)) : W p l e R s m args below meth c H locs cells slots Q (F0 m pc ls (v :: .ref a :: rest)) := g_putF X hG in_X11 tyX11 tyX11_ok nmX11 rfl 9 (by decide) m_426 rfl rfl rfl hin2 q0 he hn hfit hl hdg kk
theorem gp_X11_66 (X : gX p m c cc nL s args "StorksLet" D cT) (hG : gG D A H0 ws H locs) (hin2 : meth.name = "<init>") (q0 : Nat) {fs : List Value} (he : ws[q0]? = some (a, .inr (10, fs))) {v : Value} (hn : narrow (.array (.array .int)) v = v) (hfit : fits (.array (.array .int)) v = true) (hl : 10 < fs.length) (hdg : decode cc pc = .ok (.putfield 66, 3)) (kk : ∀ (H1 : Heap) (locs1 : List Loc), gG D A H0 (ws.set q0 (a, .inr (10, fs.set 10 v))) H1 locs1 → W p l e R s m args below meth c H1 locs1 cells slots Q (F0 m (pc + 3) ls rest)) : W p l e R s m args below meth c H locs cells slots Q (F0 m pc ls (v :: .ref a :: rest)) := g_putF X hG in_X11 tyX11 tyX11_ok nmX11 rfl 10 (by decide) m_427 rfl rfl rfl hin2 q0 he hn hfit hl hdg kk
theorem gp_X11_69 (X : gX p m c cc nL s args "StorksLet" D cT) (hG : gG D A H0 ws H locs) (hin2 : meth.name = "<init>") (q0 : Nat) {fs : List Value} (he : ws[q0]? = some (a, .inr (10, fs))) {v : Value} (hn : narrow (.array .int) v = v) (hfit : fits (.array .int) v = true) (hl : 11 < fs.length) (hdg : decode cc pc = .ok (.putfield 69, 3)) (kk : ∀ (H1 : Heap) (locs1 : List Loc), gG D A H0 (ws.set q0 (a, .inr (10, fs.set 11 v))) H1 locs1 → W p l e R s m args below meth c H1 locs1 cells slots Q (F0 m (pc + 3) ls rest)) : W p l e R s m args below meth c H locs cells slots Q (F0 m pc ls (v :: .ref a :: rest)) := g_putF X hG in_X11 tyX11 tyX11_ok nmX11 rfl 11 (by decide) m_428 rfl rfl rfl hin2 q0 he hn hfit hl hdg kk
theorem gn_X11_72 (X : gX p m c cc nL s args "StorksLet" D cT) (hG : gG D A H0 ws H locs) (hA : ∀ q, H0.size ≤ q → A q) {c1 s1 : Nat} (hc1 : cells + 1 = c1) (hs1 : slots + 7 = s1) (hcR : c1 ≤ R.cells) (hsR : s1 ≤ R.slots) (hdg : decode cc pc = .ok (.new 72, 3)) (kk : ∀ (q : Nat) (H1 : Heap), gG D A H0 (ws ++ [(q, .inr (6, [.null, .null, .int 0, .int 0, .int 0, .null, .null]))]) H1 locs → W p l e R s m args below meth c H1 locs c1 s1 Q (F0 m (pc + 3) ls (.ref q :: rest))) : W p l e R s m args below meth c H locs cells slots Q (F0 m pc ls rest) := g_new X hG hA in_X7 tyX7 tyX7_ok rfl m_368 m_369 m_75 (fs := [.null, .null, .int 0, .int 0, .int 0, .null, .null]) (by rfl) hc1 hs1 hcR hsR hdg kk
theorem gw_X11_74 : gWN yX7_init cX7_init 1 0 := ⟨⟨m_371, m_75, m_372⟩, rfl, by decide +kernel⟩
theorem gp_X11_75 (X : gX p m c cc nL s args "StorksLet" D cT) (hG : gG D A H0 ws H locs) (hin2 : meth.name = "<init>") (q0 : Nat) {fs : List Value} (he : ws[q0]? = some (a, .inr (10, fs))) {v : Value} (hn : narrow (.object "StorksLet$Steps") v = v) (hfit : fits (.object "StorksLet$Steps") v = true) (hl : 12 < fs.length) (hdg : decode cc pc = .ok (.putfield 75, 3)) (kk : ∀ (H1 : Heap) (locs1 : List Loc), gG D A H0 (ws.set q0 (a, .inr (10, fs.set 12 v))) H1 locs1 → W p l e R s m args below meth c H1 locs1 cells slots Q (F0 m (pc + 3) ls rest)) : W p l e R s m args below meth c H locs cells slots Q (F0 m pc ls (v :: .ref a :: rest)) := g_putF X hG in_X11 tyX11 tyX11_ok nmX11 rfl 12 (by decide) m_429 rfl rfl rfl hin2 q0 he hn hfit hl hdg kk
theorem gp_X11_79 (X : gX p m c cc nL s args "StorksLet" D cT) (hG : gG D A H0 ws H locs) (q0 : Nat) {fs : List Value} (he : ws[q0]? = some (a, .inr (10, fs))) {v : Value} (hn : narrow (.object "StorksLet$Search") v = v) (hfit : fits (.object "StorksLet$Search") v = true) (hl : 13 < fs.length) (hdg : decode cc pc = .ok (.putfield 79, 3)) (kk : ∀ (H1 : Heap) (locs1 : List Loc), gG D A H0 (ws.set q0 (a, .inr (10, fs.set 13 v))) H1 locs1 → W p l e R s m args below meth c H1 locs1 cells slots Q (F0 m (pc + 3) ls rest)) : W p l e R s m args below meth c H locs cells slots Q (F0 m pc ls (v :: .ref a :: rest)) := g_put X hG in_X11 tyX11 tyX11_ok nmX11 rfl 13 (by decide) m_430 rfl rfl q0 he hn hfit hl hdg kk
theorem gn_X11_83 (X : gX p m c cc nL s args "StorksLet" D cT) (hG : gG D A H0 ws H locs) (hA : ∀ q, H0.size ≤ q → A q) {c1 s1 : Nat} (hc1 : cells + 1 = c1) (hs1 : slots + 4 = s1) (hcR : c1 ≤ R.cells) (hsR : s1 ≤ R.slots) (hdg : decode cc pc = .ok (.new 83, 3)) (kk : ∀ (q : Nat) (H1 : Heap), gG D A H0 (ws ++ [(q, .inr (4, [.null, .null, .null, .int 0]))]) H1 locs → W p l e R s m args below meth c H1 locs c1 s1 Q (F0 m (pc + 3) ls (.ref q :: rest))) : W p l e R s m args below meth c H locs cells slots Q (F0 m pc ls rest) := g_new X hG hA in_X5 tyX5 tyX5_ok rfl m_397 m_398 m_76 (fs := [.null, .null, .null, .int 0]) (by rfl) hc1 hs1 hcR hsR hdg kk
theorem gw_X11_85 : gWN yX5_init cX5_init 1 0 := ⟨⟨m_400, m_76, m_401⟩, rfl, by decide +kernel⟩
theorem gp_X11_86 (X : gX p m c cc nL s args "StorksLet" D cT) (hG : gG D A H0 ws H locs) (hin2 : meth.name = "<init>") (q0 : Nat) {fs : List Value} (he : ws[q0]? = some (a, .inr (10, fs))) {v : Value} (hn : narrow (.object "StorksLet$Sightings") v = v) (hfit : fits (.object "StorksLet$Sightings") v = true) (hl : 14 < fs.length) (hdg : decode cc pc = .ok (.putfield 86, 3)) (kk : ∀ (H1 : Heap) (locs1 : List Loc), gG D A H0 (ws.set q0 (a, .inr (10, fs.set 14 v))) H1 locs1 → W p l e R s m args below meth c H1 locs1 cells slots Q (F0 m (pc + 3) ls rest)) : W p l e R s m args below meth c H locs cells slots Q (F0 m pc ls (v :: .ref a :: rest)) := g_putF X hG in_X11 tyX11 tyX11_ok nmX11 rfl 14 (by decide) m_431 rfl rfl rfl hin2 q0 he hn hfit hl hdg kk
theorem gp_X11_90 (X : gX p m c cc nL s args "StorksLet" D cT) (hG : gG D A H0 ws H locs) (hin2 : meth.name = "<init>") (q0 : Nat) {fs : List Value} (he : ws[q0]? = some (a, .inr (10, fs))) {v : Value} (hn : narrow (.array .int) v = v) (hfit : fits (.array .int) v = true) (hl : 15 < fs.length) (hdg : decode cc pc = .ok (.putfield 90, 3)) (kk : ∀ (H1 : Heap) (locs1 : List Loc), gG D A H0 (ws.set q0 (a, .inr (10, fs.set 15 v))) H1 locs1 → W p l e R s m args below meth c H1 locs1 cells slots Q (F0 m (pc + 3) ls rest)) : W p l e R s m args below meth c H locs cells slots Q (F0 m pc ls (v :: .ref a :: rest)) := g_putF X hG in_X11 tyX11 tyX11_ok nmX11 rfl 15 (by decide) m_432 rfl rfl rfl hin2 q0 he hn hfit hl hdg kk
theorem gp_X12_9 (X : gX p m c cc nL s args "StorksLetModel" D cT) (hG : gG D A H0 ws H locs) (hin2 : meth.name = "<init>") (q0 : Nat) {fs : List Value} (he : ws[q0]? = some (a, .inr (11, fs))) {v : Value} (hn : narrow (.array .int) v = v) (hfit : fits (.array .int) v = true) (hl : 0 < fs.length) (hdg : decode cc pc = .ok (.putfield 9, 3)) (kk : ∀ (H1 : Heap) (locs1 : List Loc), gG D A H0 (ws.set q0 (a, .inr (11, fs.set 0 v))) H1 locs1 → W p l e R s m args below meth c H1 locs1 cells slots Q (F0 m (pc + 3) ls rest)) : W p l e R s m args below meth c H locs cells slots Q (F0 m pc ls (v :: .ref a :: rest)) := g_putF X hG in_X12 tyX12 tyX12_ok nmX12 rfl 0 (by decide) m_1437 rfl rfl rfl hin2 q0 he hn hfit hl hdg kk
theorem gp_X12_13 (X : gX p m c cc nL s args "StorksLetModel" D cT) (hG : gG D A H0 ws H locs) (hin2 : meth.name = "<init>") (q0 : Nat) {fs : List Value} (he : ws[q0]? = some (a, .inr (11, fs))) {v : Value} (hn : narrow (.array .int) v = v) (hfit : fits (.array .int) v = true) (hl : 2 < fs.length) (hdg : decode cc pc = .ok (.putfield 13, 3)) (kk : ∀ (H1 : Heap) (locs1 : List Loc), gG D A H0 (ws.set q0 (a, .inr (11, fs.set 2 v))) H1 locs1 → W p l e R s m args below meth c H1 locs1 cells slots Q (F0 m (pc + 3) ls rest)) : W p l e R s m args below meth c H locs cells slots Q (F0 m pc ls (v :: .ref a :: rest)) := g_putF X hG in_X12 tyX12 tyX12_ok nmX12 rfl 2 (by decide) m_1439 rfl rfl rfl hin2 q0 he hn hfit hl hdg kk
theorem gp_X12_16 (X : gX p m c cc nL s args "StorksLetModel" D cT) (hG : gG D A H0 ws H locs) (hin2 : meth.name = "<init>") (q0 : Nat) {fs : List Value} (he : ws[q0]? = some (a, .inr (11, fs))) {v : Value} (hn : narrow (.array .int) v = v) (hfit : fits (.array .int) v = true) (hl : 3 < fs.length) (hdg : decode cc pc = .ok (.putfield 16, 3)) (kk : ∀ (H1 : Heap) (locs1 : List Loc), gG D A H0 (ws.set q0 (a, .inr (11, fs.set 3 v))) H1 locs1 → W p l e R s m args below meth c H1 locs1 cells slots Q (F0 m (pc + 3) ls rest)) : W p l e R s m args below meth c H locs cells slots Q (F0 m pc ls (v :: .ref a :: rest)) := g_putF X hG in_X12 tyX12 tyX12_ok nmX12 rfl 3 (by decide) m_1440 rfl rfl rfl hin2 q0 he hn hfit hl hdg kk
theorem gp_X12_19 (X : gX p m c cc nL s args "StorksLetModel" D cT) (hG : gG D A H0 ws H locs) (hin2 : meth.name = "<init>") (q0 : Nat) {fs : List Value} (he : ws[q0]? = some (a, .inr (11, fs))) {v : Value} (hn : narrow (.array .int) v = v) (hfit : fits (.array .int) v = true) (hl : 4 < fs.length) (hdg : decode cc pc = .ok (.putfield 19, 3)) (kk : ∀ (H1 : Heap) (locs1 : List Loc), gG D A H0 (ws.set q0 (a, .inr (11, fs.set 4 v))) H1 locs1 → W p l e R s m args below meth c H1 locs1 cells slots Q (F0 m (pc + 3) ls rest)) : W p l e R s m args below meth c H locs cells slots Q (F0 m pc ls (v :: .ref a :: rest)) := g_putF X hG in_X12 tyX12 tyX12_ok nmX12 rfl 4 (by decide) m_1441 rfl rfl rfl hin2 q0 he hn hfit hl hdg kk
theorem gp_X12_22 (X : gX p m c cc nL s args "StorksLetModel" D cT) (hG : gG D A H0 ws H locs) (hin2 : meth.name = "<init>") (q0 : Nat) {fs : List Value} (he : ws[q0]? = some (a, .inr (11, fs))) {v : Value} (hn : narrow (.array .int) v = v) (hfit : fits (.array .int) v = true) (hl : 5 < fs.length) (hdg : decode cc pc = .ok (.putfield 22, 3)) (kk : ∀ (H1 : Heap) (locs1 : List Loc), gG D A H0 (ws.set q0 (a, .inr (11, fs.set 5 v))) H1 locs1 → W p l e R s m args below meth c H1 locs1 cells slots Q (F0 m (pc + 3) ls rest)) : W p l e R s m args below meth c H locs cells slots Q (F0 m pc ls (v :: .ref a :: rest)) := g_putF X hG in_X12 tyX12 tyX12_ok nmX12 rfl 5 (by decide) m_1442 rfl rfl rfl hin2 q0 he hn hfit hl hdg kk
theorem gp_X12_25 (X : gX p m c cc nL s args "StorksLetModel" D cT) (hG : gG D A H0 ws H locs) (hin2 : meth.name = "<init>") (q0 : Nat) {fs : List Value} (he : ws[q0]? = some (a, .inr (11, fs))) {v : Value} (hn : narrow (.array .int) v = v) (hfit : fits (.array .int) v = true) (hl : 6 < fs.length) (hdg : decode cc pc = .ok (.putfield 25, 3)) (kk : ∀ (H1 : Heap) (locs1 : List Loc), gG D A H0 (ws.set q0 (a, .inr (11, fs.set 6 v))) H1 locs1 → W p l e R s m args below meth c H1 locs1 cells slots Q (F0 m (pc + 3) ls rest)) : W p l e R s m args below meth c H locs cells slots Q (F0 m pc ls (v :: .ref a :: rest)) := g_putF X hG in_X12 tyX12 tyX12_ok nmX12 rfl 6 (by decide) m_1443 rfl rfl rfl hin2 q0 he hn hfit hl hdg kk
theorem gp_X12_28 (X : gX p m c cc nL s args "StorksLetModel" D cT) (hG : gG D A H0 ws H locs) (hin2 : meth.name = "<init>") (q0 : Nat) {fs : List Value} (he : ws[q0]? = some (a, .inr (11, fs))) {v : Value} (hn : narrow (.array .int) v = v) (hfit : fits (.array .int) v = true) (hl : 8 < fs.length) (hdg : decode cc pc = .ok (.putfield 28, 3)) (kk : ∀ (H1 : Heap) (locs1 : List Loc), gG D A H0 (ws.set q0 (a, .inr (11, fs.set 8 v))) H1 locs1 → W p l e R s m args below meth c H1 locs1 cells slots Q (F0 m (pc + 3) ls rest)) : W p l e R s m args below meth c H locs cells slots Q (F0 m pc ls (v :: .ref a :: rest)) := g_putF X hG in_X12 tyX12 tyX12_ok nmX12 rfl 8 (by decide) m_1445 rfl rfl rfl hin2 q0 he hn hfit hl hdg kk
theorem gp_X12_31 (X : gX p m c cc nL s args "StorksLetModel" D cT) (hG : gG D A H0 ws H locs) (hin2 : meth.name = "<init>") (q0 : Nat) {fs : List Value} (he : ws[q0]? = some (a, .inr (11, fs))) {v : Value} (hn : narrow (.array .int) v = v) (hfit : fits (.array .int) v = true) (hl : 9 < fs.length) (hdg : decode cc pc = .ok (.putfield 31, 3)) (kk : ∀ (H1 : Heap) (locs1 : List Loc), gG D A H0 (ws.set q0 (a, .inr (11, fs.set 9 v))) H1 locs1 → W p l e R s m args below meth c H1 locs1 cells slots Q (F0 m (pc + 3) ls rest)) : W p l e R s m args below meth c H locs cells slots Q (F0 m pc ls (v :: .ref a :: rest)) := g_putF X hG in_X12 tyX12 tyX12_ok nmX12 rfl 9 (by decide) m_1446 rfl rfl rfl hin2 q0 he hn hfit hl hdg kk
theorem gp_X12_34 (X : gX p m c cc nL s args "StorksLetModel" D cT) (hG : gG D A H0 ws H locs) (hin2 : meth.name = "<init>") (q0 : Nat) {fs : List Value} (he : ws[q0]? = some (a, .inr (11, fs))) {v : Value} (hn : narrow (.array .int) v = v) (hfit : fits (.array .int) v = true) (hl : 11 < fs.length) (hdg : decode cc pc = .ok (.putfield 34, 3)) (kk : ∀ (H1 : Heap) (locs1 : List Loc), gG D A H0 (ws.set q0 (a, .inr (11, fs.set 11 v))) H1 locs1 → W p l e R s m args below meth c H1 locs1 cells slots Q (F0 m (pc + 3) ls rest)) : W p l e R s m args below meth c H locs cells slots Q (F0 m pc ls (v :: .ref a :: rest)) := g_putF X hG in_X12 tyX12 tyX12_ok nmX12 rfl 11 (by decide) m_1448 rfl rfl rfl hin2 q0 he hn hfit hl hdg kk
theorem gp_X12_37 (X : gX p m c cc nL s args "StorksLetModel" D cT) (hG : gG D A H0 ws H locs) (hin2 : meth.name = "<init>") (q0 : Nat) {fs : List Value} (he : ws[q0]? = some (a, .inr (11, fs))) {v : Value} (hn : narrow (.array .int) v = v) (hfit : fits (.array .int) v = true) (hl : 12 < fs.length) (hdg : decode cc pc = .ok (.putfield 37, 3)) (kk : ∀ (H1 : Heap) (locs1 : List Loc), gG D A H0 (ws.set q0 (a, .inr (11, fs.set 12 v))) H1 locs1 → W p l e R s m args below meth c H1 locs1 cells slots Q (F0 m (pc + 3) ls rest)) : W p l e R s m args below meth c H locs cells slots Q (F0 m pc ls (v :: .ref a :: rest)) := g_putF X hG in_X12 tyX12 tyX12_ok nmX12 rfl 12 (by decide) m_1449 rfl rfl rfl hin2 q0 he hn hfit hl hdg kk
theorem gp_X12_40 (X : gX p m c cc nL s args "StorksLetModel" D cT) (hG : gG D A H0 ws H locs) (hin2 : meth.name = "<init>") (q0 : Nat) {fs : List Value} (he : ws[q0]? = some (a, .inr (11, fs))) {v : Value} (hn : narrow (.array .int) v = v) (hfit : fits (.array .int) v = true) (hl : 13 < fs.length) (hdg : decode cc pc = .ok (.putfield 40, 3)) (kk : ∀ (H1 : Heap) (locs1 : List Loc), gG D A H0 (ws.set q0 (a, .inr (11, fs.set 13 v))) H1 locs1 → W p l e R s m args below meth c H1 locs1 cells slots Q (F0 m (pc + 3) ls rest)) : W p l e R s m args below meth c H locs cells slots Q (F0 m pc ls (v :: .ref a :: rest)) := g_putF X hG in_X12 tyX12 tyX12_ok nmX12 rfl 13 (by decide) m_1450 rfl rfl rfl hin2 q0 he hn hfit hl hdg kk
theorem gp_X12_47 (X : gX p m c cc nL s args "StorksLetModel" D cT) (hG : gG D A H0 ws H locs) (hin2 : meth.name = "<init>") (q0 : Nat) {fs : List Value} (he : ws[q0]? = some (a, .inr (11, fs))) {v : Value} (hn : narrow (.array .byte) v = v) (hfit : fits (.array .byte) v = true) (hl : 17 < fs.length) (hdg : decode cc pc = .ok (.putfield 47, 3)) (kk : ∀ (H1 : Heap) (locs1 : List Loc), gG D A H0 (ws.set q0 (a, .inr (11, fs.set 17 v))) H1 locs1 → W p l e R s m args below meth c H1 locs1 cells slots Q (F0 m (pc + 3) ls rest)) : W p l e R s m args below meth c H locs cells slots Q (F0 m pc ls (v :: .ref a :: rest)) := g_putF X hG in_X12 tyX12 tyX12_ok nmX12 rfl 17 (by decide) m_1454 rfl rfl rfl hin2 q0 he hn hfit hl hdg kk
theorem gp_X12_51 (X : gX p m c cc nL s args "StorksLetModel" D cT) (hG : gG D A H0 ws H locs) (hin2 : meth.name = "<init>") (q0 : Nat) {fs : List Value} (he : ws[q0]? = some (a, .inr (11, fs))) {v : Value} (hn : narrow (.array .int) v = v) (hfit : fits (.array .int) v = true) (hl : 19 < fs.length) (hdg : decode cc pc = .ok (.putfield 51, 3)) (kk : ∀ (H1 : Heap) (locs1 : List Loc), gG D A H0 (ws.set q0 (a, .inr (11, fs.set 19 v))) H1 locs1 → W p l e R s m args below meth c H1 locs1 cells slots Q (F0 m (pc + 3) ls rest)) : W p l e R s m args below meth c H locs cells slots Q (F0 m pc ls (v :: .ref a :: rest)) := g_putF X hG in_X12 tyX12 tyX12_ok nmX12 rfl 19 (by decide) m_1456 rfl rfl rfl hin2 q0 he hn hfit hl hdg kk
theorem gp_X12_54 (X : gX p m c cc nL s args "StorksLetModel" D cT) (hG : gG D A H0 ws H locs) (hin2 : meth.name = "<init>") (q0 : Nat) {fs : List Value} (he : ws[q0]? = some (a, .inr (11, fs))) {v : Value} (hn : narrow (.array .int) v = v) (hfit : fits (.array .int) v = true) (hl : 27 < fs.length) (hdg : decode cc pc = .ok (.putfield 54, 3)) (kk : ∀ (H1 : Heap) (locs1 : List Loc), gG D A H0 (ws.set q0 (a, .inr (11, fs.set 27 v))) H1 locs1 → W p l e R s m args below meth c H1 locs1 cells slots Q (F0 m (pc + 3) ls rest)) : W p l e R s m args below meth c H locs cells slots Q (F0 m pc ls (v :: .ref a :: rest)) := g_putF X hG in_X12 tyX12 tyX12_ok nmX12 rfl 27 (by decide) m_1464 rfl rfl rfl hin2 q0 he hn hfit hl hdg kk
theorem gp_X12_57 (X : gX p m c cc nL s args "StorksLetModel" D cT) (hG : gG D A H0 ws H locs) (hin2 : meth.name = "<init>") (q0 : Nat) {fs : List Value} (he : ws[q0]? = some (a, .inr (11, fs))) {v : Value} (hn : narrow (.array .int) v = v) (hfit : fits (.array .int) v = true) (hl : 28 < fs.length) (hdg : decode cc pc = .ok (.putfield 57, 3)) (kk : ∀ (H1 : Heap) (locs1 : List Loc), gG D A H0 (ws.set q0 (a, .inr (11, fs.set 28 v))) H1 locs1 → W p l e R s m args below meth c H1 locs1 cells slots Q (F0 m (pc + 3) ls rest)) : W p l e R s m args below meth c H locs cells slots Q (F0 m pc ls (v :: .ref a :: rest)) := g_putF X hG in_X12 tyX12 tyX12_ok nmX12 rfl 28 (by decide) m_1465 rfl rfl rfl hin2 q0 he hn hfit hl hdg kk
theorem gp_X12_60 (X : gX p m c cc nL s args "StorksLetModel" D cT) (hG : gG D A H0 ws H locs) (hin2 : meth.name = "<init>") (q0 : Nat) {fs : List Value} (he : ws[q0]? = some (a, .inr (11, fs))) {v : Value} (hn : narrow (.array .int) v = v) (hfit : fits (.array .int) v = true) (hl : 29 < fs.length) (hdg : decode cc pc = .ok (.putfield 60, 3)) (kk : ∀ (H1 : Heap) (locs1 : List Loc), gG D A H0 (ws.set q0 (a, .inr (11, fs.set 29 v))) H1 locs1 → W p l e R s m args below meth c H1 locs1 cells slots Q (F0 m (pc + 3) ls rest)) : W p l e R s m args below meth c H locs cells slots Q (F0 m pc ls (v :: .ref a :: rest)) := g_putF X hG in_X12 tyX12 tyX12_ok nmX12 rfl 29 (by decide) m_1466 rfl rfl rfl hin2 q0 he hn hfit hl hdg kk
theorem gp_X12_63 (X : gX p m c cc nL s args "StorksLetModel" D cT) (hG : gG D A H0 ws H locs) (hin2 : meth.name = "<init>") (q0 : Nat) {fs : List Value} (he : ws[q0]? = some (a, .inr (11, fs))) {v : Value} (hn : narrow (.array .byte) v = v) (hfit : fits (.array .byte) v = true) (hl : 30 < fs.length) (hdg : decode cc pc = .ok (.putfield 63, 3)) (kk : ∀ (H1 : Heap) (locs1 : List Loc), gG D A H0 (ws.set q0 (a, .inr (11, fs.set 30 v))) H1 locs1 → W p l e R s m args below meth c H1 locs1 cells slots Q (F0 m (pc + 3) ls rest)) : W p l e R s m args below meth c H locs cells slots Q (F0 m pc ls (v :: .ref a :: rest)) := g_putF X hG in_X12 tyX12 tyX12_ok nmX12 rfl 30 (by decide) m_1467 rfl rfl rfl hin2 q0 he hn hfit hl hdg kk
theorem gp_X12_66 (X : gX p m c cc nL s args "StorksLetModel" D cT) (hG : gG D A H0 ws H locs) (hin2 : meth.name = "<init>") (q0 : Nat) {fs : List Value} (he : ws[q0]? = some (a, .inr (11, fs))) {v : Value} (hn : narrow (.array .int) v = v) (hfit : fits (.array .int) v = true) (hl : 36 < fs.length) (hdg : decode cc pc = .ok (.putfield 66, 3)) (kk : ∀ (H1 : Heap) (locs1 : List Loc), gG D A H0 (ws.set q0 (a, .inr (11, fs.set 36 v))) H1 locs1 → W p l e R s m args below meth c H1 locs1 cells slots Q (F0 m (pc + 3) ls rest)) : W p l e R s m args below meth c H locs cells slots Q (F0 m pc ls (v :: .ref a :: rest)) := g_putF X hG in_X12 tyX12 tyX12_ok nmX12 rfl 36 (by decide) m_1473 rfl rfl rfl hin2 q0 he hn hfit hl hdg kk
theorem gp_X12_69 (X : gX p m c cc nL s args "StorksLetModel" D cT) (hG : gG D A H0 ws H locs) (q0 : Nat) {fs : List Value} (he : ws[q0]? = some (a, .inr (11, fs))) {v : Value} (hn : narrow .int v = v) (hfit : fits .int v = true) (hl : 38 < fs.length) (hdg : decode cc pc = .ok (.putfield 69, 3)) (kk : ∀ (H1 : Heap) (locs1 : List Loc), gG D A H0 (ws.set q0 (a, .inr (11, fs.set 38 v))) H1 locs1 → W p l e R s m args below meth c H1 locs1 cells slots Q (F0 m (pc + 3) ls rest)) : W p l e R s m args below meth c H locs cells slots Q (F0 m pc ls (v :: .ref a :: rest)) := g_put X hG in_X12 tyX12 tyX12_ok nmX12 rfl 38 (by decide) m_1475 rfl rfl q0 he hn hfit hl hdg kk
theorem gp_X12_72 (X : gX p m c cc nL s args "StorksLetModel" D cT) (hG : gG D A H0 ws H locs) (hin2 : meth.name = "<init>") (q0 : Nat) {fs : List Value} (he : ws[q0]? = some (a, .inr (11, fs))) {v : Value} (hn : narrow (.array .int) v = v) (hfit : fits (.array .int) v = true) (hl : 40 < fs.length) (hdg : decode cc pc = .ok (.putfield 72, 3)) (kk : ∀ (H1 : Heap) (locs1 : List Loc), gG D A H0 (ws.set q0 (a, .inr (11, fs.set 40 v))) H1 locs1 → W p l e R s m args below meth c H1 locs1 cells slots Q (F0 m (pc + 3) ls rest)) : W p l e R s m args below meth c H locs cells slots Q (F0 m pc ls (v :: .ref a :: rest)) := g_putF X hG in_X12 tyX12 tyX12_ok nmX12 rfl 40 (by decide) m_1477 rfl rfl rfl hin2 q0 he hn hfit hl hdg kk
theorem gp_X12_75 (X : gX p m c cc nL s args "StorksLetModel" D cT) (hG : gG D A H0 ws H locs) (hin2 : meth.name = "<init>") (q0 : Nat) {fs : List Value} (he : ws[q0]? = some (a, .inr (11, fs))) {v : Value} (hn : narrow (.array .int) v = v) (hfit : fits (.array .int) v = true) (hl : 42 < fs.length) (hdg : decode cc pc = .ok (.putfield 75, 3)) (kk : ∀ (H1 : Heap) (locs1 : List Loc), gG D A H0 (ws.set q0 (a, .inr (11, fs.set 42 v))) H1 locs1 → W p l e R s m args below meth c H1 locs1 cells slots Q (F0 m (pc + 3) ls rest)) : W p l e R s m args below meth c H locs cells slots Q (F0 m pc ls (v :: .ref a :: rest)) := g_putF X hG in_X12 tyX12 tyX12_ok nmX12 rfl 42 (by decide) m_1479 rfl rfl rfl hin2 q0 he hn hfit hl hdg kk
theorem gp_X12_78 (X : gX p m c cc nL s args "StorksLetModel" D cT) (hG : gG D A H0 ws H locs) (hin2 : meth.name = "<init>") (q0 : Nat) {fs : List Value} (he : ws[q0]? = some (a, .inr (11, fs))) {v : Value} (hn : narrow (.array .int) v = v) (hfit : fits (.array .int) v = true) (hl : 43 < fs.length) (hdg : decode cc pc = .ok (.putfield 78, 3)) (kk : ∀ (H1 : Heap) (locs1 : List Loc), gG D A H0 (ws.set q0 (a, .inr (11, fs.set 43 v))) H1 locs1 → W p l e R s m args below meth c H1 locs1 cells slots Q (F0 m (pc + 3) ls rest)) : W p l e R s m args below meth c H locs cells slots Q (F0 m pc ls (v :: .ref a :: rest)) := g_putF X hG in_X12 tyX12 tyX12_ok nmX12 rfl 43 (by decide) m_1480 rfl rfl rfl hin2 q0 he hn hfit hl hdg kk
theorem gp_X12_81 (X : gX p m c cc nL s args "StorksLetModel" D cT) (hG : gG D A H0 ws H locs) (hin2 : meth.name = "<init>") (q0 : Nat) {fs : List Value} (he : ws[q0]? = some (a, .inr (11, fs))) {v : Value} (hn : narrow (.array .int) v = v) (hfit : fits (.array .int) v = true) (hl : 45 < fs.length) (hdg : decode cc pc = .ok (.putfield 81, 3)) (kk : ∀ (H1 : Heap) (locs1 : List Loc), gG D A H0 (ws.set q0 (a, .inr (11, fs.set 45 v))) H1 locs1 → W p l e R s m args below meth c H1 locs1 cells slots Q (F0 m (pc + 3) ls rest)) : W p l e R s m args below meth c H locs cells slots Q (F0 m pc ls (v :: .ref a :: rest)) := g_putF X hG in_X12 tyX12 tyX12_ok nmX12 rfl 45 (by decide) m_1482 rfl rfl rfl hin2 q0 he hn hfit hl hdg kk
theorem gp_X12_84 (X : gX p m c cc nL s args "StorksLetModel" D cT) (hG : gG D A H0 ws H locs) (hin2 : meth.name = "<init>") (q0 : Nat) {fs : List Value} (he : ws[q0]? = some (a, .inr (11, fs))) {v : Value} (hn : narrow (.array .int) v = v) (hfit : fits (.array .int) v = true) (hl : 46 < fs.length) (hdg : decode cc pc = .ok (.putfield 84, 3)) (kk : ∀ (H1 : Heap) (locs1 : List Loc), gG D A H0 (ws.set q0 (a, .inr (11, fs.set 46 v))) H1 locs1 → W p l e R s m args below meth c H1 locs1 cells slots Q (F0 m (pc + 3) ls rest)) : W p l e R s m args below meth c H locs cells slots Q (F0 m pc ls (v :: .ref a :: rest)) := g_putF X hG in_X12 tyX12 tyX12_ok nmX12 rfl 46 (by decide) m_1483 rfl rfl rfl hin2 q0 he hn hfit hl hdg kk
theorem gp_X12_87 (X : gX p m c cc nL s args "StorksLetModel" D cT) (hG : gG D A H0 ws H locs) (hin2 : meth.name = "<init>") (q0 : Nat) {fs : List Value} (he : ws[q0]? = some (a, .inr (11, fs))) {v : Value} (hn : narrow (.array .int) v = v) (hfit : fits (.array .int) v = true) (hl : 47 < fs.length) (hdg : decode cc pc = .ok (.putfield 87, 3)) (kk : ∀ (H1 : Heap) (locs1 : List Loc), gG D A H0 (ws.set q0 (a, .inr (11, fs.set 47 v))) H1 locs1 → W p l e R s m args below meth c H1 locs1 cells slots Q (F0 m (pc + 3) ls rest)) : W p l e R s m args below meth c H locs cells slots Q (F0 m pc ls (v :: .ref a :: rest)) := g_putF X hG in_X12 tyX12 tyX12_ok nmX12 rfl 47 (by decide) m_1484 rfl rfl rfl hin2 q0 he hn hfit hl hdg kk
theorem gp_X12_90 (X : gX p m c cc nL s args "StorksLetModel" D cT) (hG : gG D A H0 ws H locs) (hin2 : meth.name = "<init>") (q0 : Nat) {fs : List Value} (he : ws[q0]? = some (a, .inr (11, fs))) {v : Value} (hn : narrow (.array .int) v = v) (hfit : fits (.array .int) v = true) (hl : 48 < fs.length) (hdg : decode cc pc = .ok (.putfield 90, 3)) (kk : ∀ (H1 : Heap) (locs1 : List Loc), gG D A H0 (ws.set q0 (a, .inr (11, fs.set 48 v))) H1 locs1 → W p l e R s m args below meth c H1 locs1 cells slots Q (F0 m (pc + 3) ls rest)) : W p l e R s m args below meth c H locs cells slots Q (F0 m pc ls (v :: .ref a :: rest)) := g_putF X hG in_X12 tyX12 tyX12_ok nmX12 rfl 48 (by decide) m_1485 rfl rfl rfl hin2 q0 he hn hfit hl hdg kk
theorem gp_X12_93 (X : gX p m c cc nL s args "StorksLetModel" D cT) (hG : gG D A H0 ws H locs) (hin2 : meth.name = "<init>") (q0 : Nat) {fs : List Value} (he : ws[q0]? = some (a, .inr (11, fs))) {v : Value} (hn : narrow (.array .int) v = v) (hfit : fits (.array .int) v = true) (hl : 52 < fs.length) (hdg : decode cc pc = .ok (.putfield 93, 3)) (kk : ∀ (H1 : Heap) (locs1 : List Loc), gG D A H0 (ws.set q0 (a, .inr (11, fs.set 52 v))) H1 locs1 → W p l e R s m args below meth c H1 locs1 cells slots Q (F0 m (pc + 3) ls rest)) : W p l e R s m args below meth c H locs cells slots Q (F0 m pc ls (v :: .ref a :: rest)) := g_putF X hG in_X12 tyX12 tyX12_ok nmX12 rfl 52 (by decide) m_1489 rfl rfl rfl hin2 q0 he hn hfit hl hdg kk
theorem gp_X12_96 (X : gX p m c cc nL s args "StorksLetModel" D cT) (hG : gG D A H0 ws H locs) (hin2 : meth.name = "<init>") (q0 : Nat) {fs : List Value} (he : ws[q0]? = some (a, .inr (11, fs))) {v : Value} (hn : narrow (.array .int) v = v) (hfit : fits (.array .int) v = true) (hl : 55 < fs.length) (hdg : decode cc pc = .ok (.putfield 96, 3)) (kk : ∀ (H1 : Heap) (locs1 : List Loc), gG D A H0 (ws.set q0 (a, .inr (11, fs.set 55 v))) H1 locs1 → W p l e R s m args below meth c H1 locs1 cells slots Q (F0 m (pc + 3) ls rest)) : W p l e R s m args below meth c H locs cells slots Q (F0 m pc ls (v :: .ref a :: rest)) := g_putF X hG in_X12 tyX12 tyX12_ok nmX12 rfl 55 (by decide) m_1492 rfl rfl rfl hin2 q0 he hn hfit hl hdg kk
theorem gp_X12_99 (X : gX p m c cc nL s args "StorksLetModel" D cT) (hG : gG D A H0 ws H locs) (hin2 : meth.name = "<init>") (q0 : Nat) {fs : List Value} (he : ws[q0]? = some (a, .inr (11, fs))) {v : Value} (hn : narrow (.array .int) v = v) (hfit : fits (.array .int) v = true) (hl : 56 < fs.length) (hdg : decode cc pc = .ok (.putfield 99, 3)) (kk : ∀ (H1 : Heap) (locs1 : List Loc), gG D A H0 (ws.set q0 (a, .inr (11, fs.set 56 v))) H1 locs1 → W p l e R s m args below meth c H1 locs1 cells slots Q (F0 m (pc + 3) ls rest)) : W p l e R s m args below meth c H locs cells slots Q (F0 m pc ls (v :: .ref a :: rest)) := g_putF X hG in_X12 tyX12 tyX12_ok nmX12 rfl 56 (by decide) m_1493 rfl rfl rfl hin2 q0 he hn hfit hl hdg kk
theorem gp_X12_102 (X : gX p m c cc nL s args "StorksLetModel" D cT) (hG : gG D A H0 ws H locs) (hin2 : meth.name = "<init>") (q0 : Nat) {fs : List Value} (he : ws[q0]? = some (a, .inr (11, fs))) {v : Value} (hn : narrow (.array .int) v = v) (hfit : fits (.array .int) v = true) (hl : 57 < fs.length) (hdg : decode cc pc = .ok (.putfield 102, 3)) (kk : ∀ (H1 : Heap) (locs1 : List Loc), gG D A H0 (ws.set q0 (a, .inr (11, fs.set 57 v))) H1 locs1 → W p l e R s m args below meth c H1 locs1 cells slots Q (F0 m (pc + 3) ls rest)) : W p l e R s m args below meth c H locs cells slots Q (F0 m pc ls (v :: .ref a :: rest)) := g_putF X hG in_X12 tyX12 tyX12_ok nmX12 rfl 57 (by decide) m_1494 rfl rfl rfl hin2 q0 he hn hfit hl hdg kk
theorem gp_X12_105 (X : gX p m c cc nL s args "StorksLetModel" D cT) (hG : gG D A H0 ws H locs) (hin2 : meth.name = "<init>") (q0 : Nat) {fs : List Value} (he : ws[q0]? = some (a, .inr (11, fs))) {v : Value} (hn : narrow (.array .int) v = v) (hfit : fits (.array .int) v = true) (hl : 58 < fs.length) (hdg : decode cc pc = .ok (.putfield 105, 3)) (kk : ∀ (H1 : Heap) (locs1 : List Loc), gG D A H0 (ws.set q0 (a, .inr (11, fs.set 58 v))) H1 locs1 → W p l e R s m args below meth c H1 locs1 cells slots Q (F0 m (pc + 3) ls rest)) : W p l e R s m args below meth c H locs cells slots Q (F0 m pc ls (v :: .ref a :: rest)) := g_putF X hG in_X12 tyX12 tyX12_ok nmX12 rfl 58 (by decide) m_1495 rfl rfl rfl hin2 q0 he hn hfit hl hdg kk
theorem gp_X12_108 (X : gX p m c cc nL s args "StorksLetModel" D cT) (hG : gG D A H0 ws H locs) (hin2 : meth.name = "<init>") (q0 : Nat) {fs : List Value} (he : ws[q0]? = some (a, .inr (11, fs))) {v : Value} (hn : narrow (.array .int) v = v) (hfit : fits (.array .int) v = true) (hl : 60 < fs.length) (hdg : decode cc pc = .ok (.putfield 108, 3)) (kk : ∀ (H1 : Heap) (locs1 : List Loc), gG D A H0 (ws.set q0 (a, .inr (11, fs.set 60 v))) H1 locs1 → W p l e R s m args below meth c H1 locs1 cells slots Q (F0 m (pc + 3) ls rest)) : W p l e R s m args below meth c H locs cells slots Q (F0 m pc ls (v :: .ref a :: rest)) := g_putF X hG in_X12 tyX12 tyX12_ok nmX12 rfl 60 (by decide) m_1497 rfl rfl rfl hin2 q0 he hn hfit hl hdg kk
theorem gp_X12_111 (X : gX p m c cc nL s args "StorksLetModel" D cT) (hG : gG D A H0 ws H locs) (hin2 : meth.name = "<init>") (q0 : Nat) {fs : List Value} (he : ws[q0]? = some (a, .inr (11, fs))) {v : Value} (hn : narrow (.array .int) v = v) (hfit : fits (.array .int) v = true) (hl : 62 < fs.length) (hdg : decode cc pc = .ok (.putfield 111, 3)) (kk : ∀ (H1 : Heap) (locs1 : List Loc), gG D A H0 (ws.set q0 (a, .inr (11, fs.set 62 v))) H1 locs1 → W p l e R s m args below meth c H1 locs1 cells slots Q (F0 m (pc + 3) ls rest)) : W p l e R s m args below meth c H locs cells slots Q (F0 m pc ls (v :: .ref a :: rest)) := g_putF X hG in_X12 tyX12 tyX12_ok nmX12 rfl 62 (by decide) m_1499 rfl rfl rfl hin2 q0 he hn hfit hl hdg kk
theorem gp_X12_114 (X : gX p m c cc nL s args "StorksLetModel" D cT) (hG : gG D A H0 ws H locs) (hin2 : meth.name = "<init>") (q0 : Nat) {fs : List Value} (he : ws[q0]? = some (a, .inr (11, fs))) {v : Value} (hn : narrow (.array .int) v = v) (hfit : fits (.array .int) v = true) (hl : 65 < fs.length) (hdg : decode cc pc = .ok (.putfield 114, 3)) (kk : ∀ (H1 : Heap) (locs1 : List Loc), gG D A H0 (ws.set q0 (a, .inr (11, fs.set 65 v))) H1 locs1 → W p l e R s m args below meth c H1 locs1 cells slots Q (F0 m (pc + 3) ls rest)) : W p l e R s m args below meth c H locs cells slots Q (F0 m pc ls (v :: .ref a :: rest)) := g_putF X hG in_X12 tyX12 tyX12_ok nmX12 rfl 65 (by decide) m_1502 rfl rfl rfl hin2 q0 he hn hfit hl hdg kk
theorem gp_X12_117 (X : gX p m c cc nL s args "StorksLetModel" D cT) (hG : gG D A H0 ws H locs) (hin2 : meth.name = "<init>") (q0 : Nat) {fs : List Value} (he : ws[q0]? = some (a, .inr (11, fs))) {v : Value} (hn : narrow (.array .boolean) v = v) (hfit : fits (.array .boolean) v = true) (hl : 66 < fs.length) (hdg : decode cc pc = .ok (.putfield 117, 3)) (kk : ∀ (H1 : Heap) (locs1 : List Loc), gG D A H0 (ws.set q0 (a, .inr (11, fs.set 66 v))) H1 locs1 → W p l e R s m args below meth c H1 locs1 cells slots Q (F0 m (pc + 3) ls rest)) : W p l e R s m args below meth c H locs cells slots Q (F0 m pc ls (v :: .ref a :: rest)) := g_putF X hG in_X12 tyX12 tyX12_ok nmX12 rfl 66 (by decide) m_1503 rfl rfl rfl hin2 q0 he hn hfit hl hdg kk
theorem gp_X12_121 (X : gX p m c cc nL s args "StorksLetModel" D cT) (hG : gG D A H0 ws H locs) (hin2 : meth.name = "<init>") (q0 : Nat) {fs : List Value} (he : ws[q0]? = some (a, .inr (11, fs))) {v : Value} (hn : narrow (.array .int) v = v) (hfit : fits (.array .int) v = true) (hl : 67 < fs.length) (hdg : decode cc pc = .ok (.putfield 121, 3)) (kk : ∀ (H1 : Heap) (locs1 : List Loc), gG D A H0 (ws.set q0 (a, .inr (11, fs.set 67 v))) H1 locs1 → W p l e R s m args below meth c H1 locs1 cells slots Q (F0 m (pc + 3) ls rest)) : W p l e R s m args below meth c H locs cells slots Q (F0 m pc ls (v :: .ref a :: rest)) := g_putF X hG in_X12 tyX12 tyX12_ok nmX12 rfl 67 (by decide) m_1504 rfl rfl rfl hin2 q0 he hn hfit hl hdg kk
end GSITES

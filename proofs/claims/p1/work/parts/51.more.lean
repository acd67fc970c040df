theorem m_88 : Cond.initialized "java/util/NoSuchElementException" ∈ gT := gT_in (i := 88) (by decide +kernel) (by decide +kernel)
theorem m_1314 : Cond.classLink "StorksLetLaw" 13 "java/util/NoSuchElementException" ∈ gT := gT_in (i := 1314) (by decide +kernel) (by decide +kernel)
theorem m_1315 : Cond.methodLink "StorksLetLaw" 7 yX11_roof ∈ gT := gT_in (i := 1315) (by decide +kernel) (by decide +kernel)
theorem m_1316 : Cond.instanceMethod yX11_roof ∈ gT := gT_in (i := 1316) (by decide +kernel) (by decide +kernel)
theorem m_1317 : Cond.selects "StorksLet" yX11_roof yX11_roof ∈ gT := gT_in (i := 1317) (by decide +kernel) (by decide +kernel)
theorem m_1318 : Cond.code yX11_roof cX11_roof 3 (some .int) ∈ gT := gT_in (i := 1318) (by decide +kernel) (by decide +kernel)
theorem m_1319 : Cond.classLink "StorksLet" 155 "java/util/NoSuchElementException" ∈ gT := gT_in (i := 1319) (by decide +kernel) (by decide +kernel)
theorem m_1389 : Cond.methodLink "StorksLetLaw" 15 yX11_bird ∈ gT := gT_in (i := 1389) (by decide +kernel) (by decide +kernel)
theorem m_1390 : Cond.instanceMethod yX11_bird ∈ gT := gT_in (i := 1390) (by decide +kernel) (by decide +kernel)
theorem m_1391 : Cond.selects "StorksLet" yX11_bird yX11_bird ∈ gT := gT_in (i := 1391) (by decide +kernel) (by decide +kernel)
theorem m_1392 : Cond.code yX11_bird cX11_bird 3 (some .int) ∈ gT := gT_in (i := 1392) (by decide +kernel) (by decide +kernel)
theorem m_1408 : Cond.methodLink "StorksLetLaw" 18 yX11_family ∈ gT := gT_in (i := 1408) (by decide +kernel) (by decide +kernel)
theorem m_1409 : Cond.instanceMethod yX11_family ∈ gT := gT_in (i := 1409) (by decide +kernel) (by decide +kernel)
theorem m_1410 : Cond.selects "StorksLet" yX11_family yX11_family ∈ gT := gT_in (i := 1410) (by decide +kernel) (by decide +kernel)
theorem m_1411 : Cond.code yX11_family cX11_family 3 (some .int) ∈ gT := gT_in (i := 1411) (by decide +kernel) (by decide +kernel)
theorem m_1418 : Cond.methodLink "StorksLetLaw" 21 yX11_worth ∈ gT := gT_in (i := 1418) (by decide +kernel) (by decide +kernel)
theorem m_1419 : Cond.instanceMethod yX11_worth ∈ gT := gT_in (i := 1419) (by decide +kernel) (by decide +kernel)
theorem m_1420 : Cond.selects "StorksLet" yX11_worth yX11_worth ∈ gT := gT_in (i := 1420) (by decide +kernel) (by decide +kernel)
theorem m_1421 : Cond.code yX11_worth cX11_worth 3 (some .int) ∈ gT := gT_in (i := 1421) (by decide +kernel) (by decide +kernel)
theorem m_1426 : Cond.methodLink "StorksLetLaw" 24 yX11_row ∈ gT := gT_in (i := 1426) (by decide +kernel) (by decide +kernel)
theorem m_1427 : Cond.instanceMethod yX11_row ∈ gT := gT_in (i := 1427) (by decide +kernel) (by decide +kernel)
theorem m_1428 : Cond.selects "StorksLet" yX11_row yX11_row ∈ gT := gT_in (i := 1428) (by decide +kernel) (by decide +kernel)
theorem m_1429 : Cond.code yX11_row cX11_row 2 (some .int) ∈ gT := gT_in (i := 1429) (by decide +kernel) (by decide +kernel)
theorem dL_bird_0 : decode cL_bird 0 = .ok (.aload_n 3, 1) := by decide +kernel
theorem dL_bird_1 : decode cL_bird 1 = .ok (.iconst 0, 1) := by decide +kernel
theorem dL_bird_2 : decode cL_bird 2 = .ok (.aload_n 0, 1) := by decide +kernel
theorem dL_bird_3 : decode cL_bird 3 = .ok (.iload_n 1, 1) := by decide +kernel
theorem dL_bird_4 : decode cL_bird 4 = .ok (.iload_n 2, 1) := by decide +kernel
theorem dL_bird_5 : decode cL_bird 5 = .ok (.invokevirtual 15, 3) := by decide +kernel
theorem dL_bird_8 : decode cL_bird 8 = .ok (.i2l, 1) := by decide +kernel
theorem dL_bird_9 : decode cL_bird 9 = .ok (.lastore, 1) := by decide +kernel
theorem dL_bird_10 : decode cL_bird 10 = .ok (.goto 7, 3) := by decide +kernel
theorem dL_bird_13 : decode cL_bird 13 = .ok (.astore 4, 2) := by decide +kernel
theorem dL_bird_15 : decode cL_bird 15 = .ok (.iconst 1, 1) := by decide +kernel
theorem dL_bird_16 : decode cL_bird 16 = .ok (.ireturn, 1) := by decide +kernel
theorem dL_bird_17 : decode cL_bird 17 = .ok (.iconst 0, 1) := by decide +kernel
theorem dL_bird_18 : decode cL_bird 18 = .ok (.ireturn, 1) := by decide +kernel
theorem dL_family_0 : decode cL_family 0 = .ok (.aload_n 3, 1) := by decide +kernel
theorem dL_family_1 : decode cL_family 1 = .ok (.iconst 0, 1) := by decide +kernel
theorem dL_family_2 : decode cL_family 2 = .ok (.aload_n 0, 1) := by decide +kernel
theorem dL_family_3 : decode cL_family 3 = .ok (.iload_n 1, 1) := by decide +kernel
theorem dL_family_4 : decode cL_family 4 = .ok (.iload_n 2, 1) := by decide +kernel
theorem dL_family_5 : decode cL_family 5 = .ok (.invokevirtual 18, 3) := by decide +kernel
theorem dL_family_8 : decode cL_family 8 = .ok (.i2l, 1) := by decide +kernel
theorem dL_family_9 : decode cL_family 9 = .ok (.lastore, 1) := by decide +kernel
theorem dL_family_10 : decode cL_family 10 = .ok (.goto 7, 3) := by decide +kernel
theorem dL_family_13 : decode cL_family 13 = .ok (.astore 4, 2) := by decide +kernel
theorem dL_family_15 : decode cL_family 15 = .ok (.iconst 1, 1) := by decide +kernel
theorem dL_family_16 : decode cL_family 16 = .ok (.ireturn, 1) := by decide +kernel
theorem dL_family_17 : decode cL_family 17 = .ok (.iconst 0, 1) := by decide +kernel
theorem dL_family_18 : decode cL_family 18 = .ok (.ireturn, 1) := by decide +kernel
theorem dL_roof_0 : decode cL_roof 0 = .ok (.aload_n 3, 1) := by decide +kernel
theorem dL_roof_1 : decode cL_roof 1 = .ok (.iconst 0, 1) := by decide +kernel
theorem dL_roof_2 : decode cL_roof 2 = .ok (.aload_n 0, 1) := by decide +kernel
theorem dL_roof_3 : decode cL_roof 3 = .ok (.iload_n 1, 1) := by decide +kernel
theorem dL_roof_4 : decode cL_roof 4 = .ok (.iload_n 2, 1) := by decide +kernel
theorem dL_roof_5 : decode cL_roof 5 = .ok (.invokevirtual 7, 3) := by decide +kernel
theorem dL_roof_8 : decode cL_roof 8 = .ok (.i2l, 1) := by decide +kernel
theorem dL_roof_9 : decode cL_roof 9 = .ok (.lastore, 1) := by decide +kernel
theorem dL_roof_10 : decode cL_roof 10 = .ok (.goto 7, 3) := by decide +kernel
theorem dL_roof_13 : decode cL_roof 13 = .ok (.astore 4, 2) := by decide +kernel
theorem dL_roof_15 : decode cL_roof 15 = .ok (.iconst 1, 1) := by decide +kernel
theorem dL_roof_16 : decode cL_roof 16 = .ok (.ireturn, 1) := by decide +kernel
theorem dL_roof_17 : decode cL_roof 17 = .ok (.iconst 0, 1) := by decide +kernel
theorem dL_roof_18 : decode cL_roof 18 = .ok (.ireturn, 1) := by decide +kernel
theorem dL_row_0 : decode cL_row 0 = .ok (.aload_n 2, 1) := by decide +kernel
theorem dL_row_1 : decode cL_row 1 = .ok (.iconst 0, 1) := by decide +kernel
theorem dL_row_2 : decode cL_row 2 = .ok (.aload_n 0, 1) := by decide +kernel
theorem dL_row_3 : decode cL_row 3 = .ok (.iload_n 1, 1) := by decide +kernel
theorem dL_row_4 : decode cL_row 4 = .ok (.invokevirtual 24, 3) := by decide +kernel
theorem dL_row_7 : decode cL_row 7 = .ok (.i2l, 1) := by decide +kernel
theorem dL_row_8 : decode cL_row 8 = .ok (.lastore, 1) := by decide +kernel
theorem dL_row_9 : decode cL_row 9 = .ok (.goto 6, 3) := by decide +kernel
theorem dL_row_12 : decode cL_row 12 = .ok (.astore_n 3, 1) := by decide +kernel
theorem dL_row_13 : decode cL_row 13 = .ok (.iconst 1, 1) := by decide +kernel
theorem dL_row_14 : decode cL_row 14 = .ok (.ireturn, 1) := by decide +kernel
theorem dL_row_15 : decode cL_row 15 = .ok (.iconst 0, 1) := by decide +kernel
theorem dL_row_16 : decode cL_row 16 = .ok (.ireturn, 1) := by decide +kernel
theorem dL_worth_0 : decode cL_worth 0 = .ok (.aload_n 3, 1) := by decide +kernel
theorem dL_worth_1 : decode cL_worth 1 = .ok (.iconst 0, 1) := by decide +kernel
theorem dL_worth_2 : decode cL_worth 2 = .ok (.aload_n 0, 1) := by decide +kernel
theorem dL_worth_3 : decode cL_worth 3 = .ok (.iload_n 1, 1) := by decide +kernel
theorem dL_worth_4 : decode cL_worth 4 = .ok (.iload_n 2, 1) := by decide +kernel
theorem dL_worth_5 : decode cL_worth 5 = .ok (.invokevirtual 21, 3) := by decide +kernel
theorem dL_worth_8 : decode cL_worth 8 = .ok (.i2l, 1) := by decide +kernel
theorem dL_worth_9 : decode cL_worth 9 = .ok (.lastore, 1) := by decide +kernel
theorem dL_worth_10 : decode cL_worth 10 = .ok (.goto 7, 3) := by decide +kernel
theorem dL_worth_13 : decode cL_worth 13 = .ok (.astore 4, 2) := by decide +kernel
theorem dL_worth_15 : decode cL_worth 15 = .ok (.iconst 1, 1) := by decide +kernel
theorem dL_worth_16 : decode cL_worth 16 = .ok (.ireturn, 1) := by decide +kernel
theorem dL_worth_17 : decode cL_worth 17 = .ok (.iconst 0, 1) := by decide +kernel
theorem dL_worth_18 : decode cL_worth 18 = .ok (.ireturn, 1) := by decide +kernel
theorem dX11_bird_0 : decode cX11_bird 0 = .ok (.aload_n 0, 1) := by decide +kernel
theorem dX11_bird_1 : decode cX11_bird 1 = .ok (.getfield 26, 3) := by decide +kernel
theorem dX11_bird_4 : decode cX11_bird 4 = .ok (.iload_n 1, 1) := by decide +kernel
theorem dX11_bird_5 : decode cX11_bird 5 = .ok (.invokevirtual 175, 3) := by decide +kernel
theorem dX11_bird_8 : decode cX11_bird 8 = .ok (.ifCond .ne 13, 3) := by decide +kernel
theorem dX11_bird_11 : decode cX11_bird 11 = .ok (.new 155, 3) := by decide +kernel
theorem dX11_bird_14 : decode cX11_bird 14 = .ok (.dup, 1) := by decide +kernel
theorem dX11_bird_15 : decode cX11_bird 15 = .ok (.ldc 178, 2) := by decide +kernel
theorem dX11_bird_17 : decode cX11_bird 17 = .ok (.invokespecial 159, 3) := by decide +kernel
theorem dX11_bird_20 : decode cX11_bird 20 = .ok (.athrow, 1) := by decide +kernel
theorem dX11_family_0 : decode cX11_family 0 = .ok (.aload_n 0, 1) := by decide +kernel
theorem dX11_family_1 : decode cX11_family 1 = .ok (.getfield 26, 3) := by decide +kernel
theorem dX11_family_4 : decode cX11_family 4 = .ok (.iload_n 1, 1) := by decide +kernel
theorem dX11_family_5 : decode cX11_family 5 = .ok (.invokevirtual 200, 3) := by decide +kernel
theorem dX11_family_8 : decode cX11_family 8 = .ok (.ifCond .ne 13, 3) := by decide +kernel
theorem dX11_family_11 : decode cX11_family 11 = .ok (.new 155, 3) := by decide +kernel
theorem dX11_family_14 : decode cX11_family 14 = .ok (.dup, 1) := by decide +kernel
theorem dX11_family_15 : decode cX11_family 15 = .ok (.ldc 203, 2) := by decide +kernel
theorem dX11_family_17 : decode cX11_family 17 = .ok (.invokespecial 159, 3) := by decide +kernel
theorem dX11_family_20 : decode cX11_family 20 = .ok (.athrow, 1) := by decide +kernel
theorem dX11_roof_0 : decode cX11_roof 0 = .ok (.aload_n 0, 1) := by decide +kernel
theorem dX11_roof_1 : decode cX11_roof 1 = .ok (.getfield 26, 3) := by decide +kernel
theorem dX11_roof_4 : decode cX11_roof 4 = .ok (.iload_n 1, 1) := by decide +kernel
theorem dX11_roof_5 : decode cX11_roof 5 = .ok (.invokevirtual 152, 3) := by decide +kernel
theorem dX11_roof_8 : decode cX11_roof 8 = .ok (.ifCond .ne 13, 3) := by decide +kernel
theorem dX11_roof_11 : decode cX11_roof 11 = .ok (.new 155, 3) := by decide +kernel
theorem dX11_roof_14 : decode cX11_roof 14 = .ok (.dup, 1) := by decide +kernel
theorem dX11_roof_15 : decode cX11_roof 15 = .ok (.ldc 157, 2) := by decide +kernel
theorem dX11_roof_17 : decode cX11_roof 17 = .ok (.invokespecial 159, 3) := by decide +kernel
theorem dX11_roof_20 : decode cX11_roof 20 = .ok (.athrow, 1) := by decide +kernel
theorem dX11_row_0 : decode cX11_row 0 = .ok (.iload_n 1, 1) := by decide +kernel
theorem dX11_row_1 : decode cX11_row 1 = .ok (.ifCond .lt 14, 3) := by decide +kernel
theorem dX11_row_4 : decode cX11_row 4 = .ok (.iload_n 1, 1) := by decide +kernel
theorem dX11_row_5 : decode cX11_row 5 = .ok (.aload_n 0, 1) := by decide +kernel
theorem dX11_row_6 : decode cX11_row 6 = .ok (.getfield 19, 3) := by decide +kernel
theorem dX11_row_9 : decode cX11_row 9 = .ok (.getfield 441, 3) := by decide +kernel
theorem dX11_row_12 : decode cX11_row 12 = .ok (.if_icmp .lt 14, 3) := by decide +kernel
theorem dX11_row_15 : decode cX11_row 15 = .ok (.new 155, 3) := by decide +kernel
theorem dX11_row_18 : decode cX11_row 18 = .ok (.dup, 1) := by decide +kernel
theorem dX11_row_19 : decode cX11_row 19 = .ok (.ldc_w 442, 3) := by decide +kernel
theorem dX11_row_22 : decode cX11_row 22 = .ok (.invokespecial 159, 3) := by decide +kernel
theorem dX11_row_25 : decode cX11_row 25 = .ok (.athrow, 1) := by decide +kernel
theorem dX11_worth_0 : decode cX11_worth 0 = .ok (.aload_n 0, 1) := by decide +kernel
theorem dX11_worth_1 : decode cX11_worth 1 = .ok (.getfield 26, 3) := by decide +kernel
theorem dX11_worth_4 : decode cX11_worth 4 = .ok (.iload_n 1, 1) := by decide +kernel
theorem dX11_worth_5 : decode cX11_worth 5 = .ok (.invokevirtual 152, 3) := by decide +kernel
theorem dX11_worth_8 : decode cX11_worth 8 = .ok (.ifCond .eq 14, 3) := by decide +kernel
theorem dX11_worth_22 : decode cX11_worth 22 = .ok (.new 155, 3) := by decide +kernel
theorem dX11_worth_25 : decode cX11_worth 25 = .ok (.dup, 1) := by decide +kernel
theorem dX11_worth_26 : decode cX11_worth 26 = .ok (.ldc 222, 2) := by decide +kernel
theorem dX11_worth_28 : decode cX11_worth 28 = .ok (.invokespecial 159, 3) := by decide +kernel
theorem dX11_worth_31 : decode cX11_worth 31 = .ok (.athrow, 1) := by decide +kernel
section GSITES
variable {p : Program} {l : Launch} {e : Env} {R : Room} {s : State} {m : MethodId} {args : Array Value} {below : List Frame} {meth : Method} {c : Code} {H H0 : Heap} {locs : List Loc} {cells slots : Nat} {Q : State → Prop}
variable {cc : ByteArray} {nL pc : Nat} {ls : Array Slot} {rest : List Value} {D : va_G} {A : Nat → Prop} {ws : va_W} {cT : Nat → ClassId} {a : Nat}

theorem gw_L_7 : gWV "StorksLetLaw" "StorksLet" 7 yX11_roof cX11_roof 3 2 (some .int) := ⟨⟨m_1315, m_1316, m_1317, m_66, m_1318⟩, rfl, by decide +kernel⟩
theorem gw_L_15 : gWV "StorksLetLaw" "StorksLet" 15 yX11_bird cX11_bird 3 2 (some .int) := ⟨⟨m_1389, m_1390, m_1391, m_66, m_1392⟩, rfl, by decide +kernel⟩
theorem gw_L_18 : gWV "StorksLetLaw" "StorksLet" 18 yX11_family cX11_family 3 2 (some .int) := ⟨⟨m_1408, m_1409, m_1410, m_66, m_1411⟩, rfl, by decide +kernel⟩
theorem gw_L_21 : gWV "StorksLetLaw" "StorksLet" 21 yX11_worth cX11_worth 3 2 (some .int) := ⟨⟨m_1418, m_1419, m_1420, m_66, m_1421⟩, rfl, by decide +kernel⟩
theorem gw_L_24 : gWV "StorksLetLaw" "StorksLet" 24 yX11_row cX11_row 2 1 (some .int) := ⟨⟨m_1426, m_1427, m_1428, m_66, m_1429⟩, rfl, by decide +kernel⟩
end GSITES

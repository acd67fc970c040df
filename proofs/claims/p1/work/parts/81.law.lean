set_option maxHeartbeats 4000000 in
set_option maxRecDepth 100000 in
theorem law_end {p : Program} {l : Launch} {e : Env} {s : State} {m : MethodId} {below : List Frame} {meth : Method} {c : Code} {b : Nat} {D : va_G} {cT : Nat → ClassId} {A : Nat → Prop} (X : gX p m c code 7 s #[Value.ref b] "StorksLetLaw" D cT) (hr : meth.sig.returnType = ret) (hlocks : meth.locks = false) (hA2 : ∀ q, A q → s.heap.size ≤ q) {H : Heap} {locs : List Loc} {ls : Array Slot} (hS : va_S A s.heap H locs) {cells slots : Nat} (hc : cells ≤ 600002) (hs : slots ≤ 7302232) : W p l e room_1 s m #[Value.ref b] below meth c H locs cells slots (lw_Z below #[Value.ref b] s) (F0 m 1773 ls []) := by
  refine lv_iconst (v := 1) X.x X.b dL_law_1773 (by decide +kernel) ?_
  refine va_forget (fun q hq => hA2 _ (hS.2.2 q hq)) ?_
  refine W.widen (k := 600002) (n := 7302232) hc hs ?_
  exact lw_ret X.x X.b hr hlocks dL_law_1774
set_option maxHeartbeats 4000000 in
set_option maxRecDepth 100000 in
theorem law_tail {p : Program} {l : Launch} {e : Env} {s : State} {m : MethodId} {below : List Frame} {meth : Method} {c : Code} {b : Nat} {xs : Nat → Int32} {D : va_G} {cT : Nat → ClassId} {A : Nat → Prop} {ho hm hx : Nat} (X : gX p m c code 7 s #[Value.ref b] "StorksLetLaw" D cT) (hr : meth.sig.returnType = ret) (hlocks : meth.locks = false) (hX : va_X b 5 xs s s.heap) (hbl : b < s.heap.size) (hbA : ¬ A b) (hA2 : ∀ q, A q → s.heap.size ≤ q) (H : Heap) (locs : List Loc) (ls : Array Slot) (hS : va_S A s.heap H locs) (hl : lv_has ls 7 [(4, .int 0), (3, .ref ho), (2, .ref hm), (1, .ref hx), (0, .ref b)]) : W p l e room_1 s m #[Value.ref b] below meth c H locs 138 21610 (lw_Z below #[Value.ref b] s) (F0 m 1767 ls []) := by
  refine lv_iinc (v := 5) (lv' := [(4, .int 5), (3, .ref ho), (2, .ref hm), (1, .ref hx), (0, .ref b)]) X.x X.b dL_law_1767 hl (k := 0) rfl (by decide +kernel) (Nat.le_of_ble_eq_true rfl) rfl (fun ls hl => ?_)
  refine lv_goto (tgt := 23) X.x X.b dL_law_1770 (by decide) ?_
  refine lv_iload X.x X.b dL_law_23 (lv_at hl 0 rfl) ?_
  refine lv_aload_n X.x X.b dL_law_25 rfl (lv_at hl 4 rfl) ?_
  refine va_slen X.x X.b hX hbl hbA hS dL_law_26 ?_
  refine lv_iconst (v := 5) X.x X.b dL_law_27 (by decide +kernel) ?_
  refine lv_isub X.x X.b dL_law_28 ?_
  refine g_top (v' := 0) (by decide +kernel) ?_
  refine b_icmp_gt_t (tgt := 1773) X.x X.b dL_law_29 (by decide) (by decide +kernel) ?_
  exact law_end X hr hlocks hA2 hS (Nat.le_of_ble_eq_true rfl) (Nat.le_of_ble_eq_true rfl)
set_option maxHeartbeats 40000000 in
set_option maxRecDepth 100000 in
theorem law_sw {p : Program} {l : Launch} {e : Env} {s : State} {m : MethodId} {below : List Frame} {meth : Method} {c : Code} {b : Nat} {xs : Nat → Int32} {D : va_G} {cT : Nat → ClassId} {A : Nat → Prop} {Q : State → Prop} (X : gX p m c code 7 s #[Value.ref b] "StorksLetLaw" D cT) (hX : va_X b 5 xs s s.heap) (hbl : b < s.heap.size) (hbA : ¬ A b) (hA : ∀ q, s.heap.size ≤ q → A q) (hfl : l.stackTraces = false) (hE : gEX A s) (hx hm z1 z3 z5 z22 z39 z56 z60 z61 z62 z66 z68 z69 z70 z75 z79 z2 z4 z6 z7 z8 z9 z10 z11 z12 z13 z14 z15 z16 z17 z80 z18 z81 z19 z20 z21 z23 z24 z25 z26 z27 z28 z29 z30 z31 z32 z33 z34 z35 z36 z37 z38 z40 z41 z42 z43 z44 z45 z46 z47 z48 z49 z50 z51 z52 z53 z54 z55 z57 z58 z59 z63 z64 z65 z67 z67_r0 z68_r0 z68_r1 z71 z72 z73 z74 z76 z77 z78 z82 z83 z84 y85 y86 y87 y88 y89 y90 y91 y92 y93 y94 y95 y96 y97 y98 y99 y100 y101 y102 y103 y104 y105 y106 y107 y108 y109 y110 y111 y112 y113 y114 y115 y116 y117 y118 y119 ho : Nat) (G_z67 : Nat → Option Nat) (hk_z67_0 : G_z67 0 = some z67_r0) (G_z68 : Nat → Option Nat) (hk_z68_0 : G_z68 0 = some z68_r0) (hk_z68_1 : G_z68 1 = some z68_r1) (hT : ∀ (H : Heap) (locs : List Loc) (ls : Array Slot), va_S A s.heap H locs → lv_has ls 7 [(4, .int 0), (3, .ref ho), (2, .ref hm), (1, .ref hx), (0, .ref b)] → W p l e room_1 s m #[Value.ref b] below meth c H locs 138 21610 Q (F0 m 1767 ls [])) {H : Heap} {locs : List Loc} {ls : Array Slot} (hG : gG D A s.heap ((hx, .inr (10, [.ref z1, .ref z3, .ref z5, .ref z22, .ref z39, .ref z56, .ref z60, .ref z61, .ref z62, .ref z66, .ref z68, .ref z69, .ref z70, .null, .ref z75, .ref z79])) :: (z1, .inr (5, [.ref z2, .int 0, .int 0, .int 0])) :: (z2, .inl (cT 1, 80, .inl (fun _ => 0))) :: (z3, .inr (1, [.ref z4, .int 0])) :: (z4, .inl (cT 0, 10, .inl (fun _ => 0))) :: (z5, .inr (7, [.int 0, .int 0, .int 0, .int 0, .ref z6, .ref z7, .ref z8, .ref z9, .ref z10, .ref z11, .ref z12, .ref z13, .ref z14, .ref z15, .ref z16, .ref z17, .ref z80, .int 0, .ref z18])) :: (z6, .inl (cT 0, 30, .inl (fun _ => 0))) :: (z7, .inl (cT 0, 6, .inl (fun _ => 0))) :: (z8, .inl (cT 0, 6, .inl (fun _ => 0))) :: (z9, .inl (cT 0, 6, .inl (fun _ => 0))) :: (z10, .inl (cT 0, 6, .inl (fun _ => 0))) :: (z11, .inl (cT 0, 6, .inl (fun _ => 0))) :: (z12, .inl (cT 0, 8, .inl (fun _ => 0))) :: (z13, .inl (cT 0, 8, .inl (fun _ => 0))) :: (z14, .inl (cT 0, 8, .inl (fun _ => 0))) :: (z15, .inl (cT 0, 8, .inl (fun _ => 0))) :: (z16, .inl (cT 0, 32, .inl (fun _ => 0))) :: (z17, .inl (cT 0, 4, .inl (fun _ => 0))) :: (z18, .inr (9, [.ref z81, .ref z19, .ref z20, .ref z21, .int 0, .int 0])) :: (z21, .inl (cT 0, 10, .inl (fun _ => 0))) :: (z22, .inr (7, [.int 0, .int 0, .int 0, .int 0, .ref z23, .ref z24, .ref z25, .ref z26, .ref z27, .ref z28, .ref z29, .ref z30, .ref z31, .ref z32, .ref z33, .ref z34, .null, .int 0, .ref z35])) :: (z23, .inl (cT 0, 30, .inl (fun _ => 0))) :: (z24, .inl (cT 0, 6, .inl (fun _ => 0))) :: (z25, .inl (cT 0, 6, .inl (fun _ => 0))) :: (z26, .inl (cT 0, 6, .inl (fun _ => 0))) :: (z27, .inl (cT 0, 6, .inl (fun _ => 0))) :: (z28, .inl (cT 0, 6, .inl (fun _ => 0))) :: (z29, .inl (cT 0, 8, .inl (fun _ => 0))) :: (z30, .inl (cT 0, 8, .inl (fun _ => 0))) :: (z31, .inl (cT 0, 8, .inl (fun _ => 0))) :: (z32, .inl (cT 0, 8, .inl (fun _ => 0))) :: (z33, .inl (cT 0, 32, .inl (fun _ => 0))) :: (z34, .inl (cT 0, 4, .inl (fun _ => 0))) :: (z35, .inr (9, [.null, .ref z36, .ref z37, .ref z38, .int 0, .int 0])) :: (z38, .inl (cT 0, 10, .inl (fun _ => 0))) :: (z39, .inr (7, [.int 0, .int 0, .int 0, .int 0, .ref z40, .ref z41, .ref z42, .ref z43, .ref z44, .ref z45, .ref z46, .ref z47, .ref z48, .ref z49, .ref z50, .ref z51, .null, .int 0, .ref z52])) :: (z40, .inl (cT 0, 30, .inl (fun _ => 0))) :: (z41, .inl (cT 0, 6, .inl (fun _ => 0))) :: (z42, .inl (cT 0, 6, .inl (fun _ => 0))) :: (z43, .inl (cT 0, 6, .inl (fun _ => 0))) :: (z44, .inl (cT 0, 6, .inl (fun _ => 0))) :: (z46, .inl (cT 0, 8, .inl (fun _ => 0))) :: (z47, .inl (cT 0, 8, .inl (fun _ => 0))) :: (z48, .inl (cT 0, 8, .inl (fun _ => 0))) :: (z49, .inl (cT 0, 8, .inl (fun _ => 0))) :: (z50, .inl (cT 0, 32, .inl (fun _ => 0))) :: (z52, .inr (9, [.null, .ref z53, .ref z54, .ref z55, .int 0, .int 0])) :: (z56, .inr (2, [.ref z57, .ref z58, .ref z59, .int 0, .int 0, .int 0, .int 0, .int 0, .int 1, .int 0, .int 0])) :: (z60, .inl (cT 0, 40, .inl (fun _ => 0))) :: (z61, .inl (cT 0, 1, .inl (fun _ => 0))) :: (z62, .inr (8, [.ref z63, .ref z64, .ref z65, .int 0])) :: (z66, .inr (0, [.ref z67, .int 0, .int 0])) :: (z67, .inl (cT 4, 13, .inr (.inr (.inr (.inr G_z67))))) :: (z67_r0, .inl (cT 0, 76, .inl (fun _ => 0))) :: (z68, .inl (cT 4, 2, .inr (.inr (.inr (.inr G_z68))))) :: (z68_r0, .inl (cT 0, 76, .inl (fun _ => 0))) :: (z68_r1, .inl (cT 0, 76, .inl (fun _ => 0))) :: (z69, .inl (cT 0, 2, .inl (fun _ => 0))) :: (z70, .inr (6, [.ref z71, .ref z72, .int 0, .int 0, .int 0, .ref z73, .ref z74])) :: (z71, .inl (cT 0, 6, .inl (fun _ => 0))) :: (z72, .inl (cT 0, 6, .inl (fun _ => 0))) :: (z75, .inr (4, [.ref z76, .ref z77, .ref z78, .int 0])) :: (z80, .inl (cT 0, 40, .inl (fun _ => 0))) :: (z81, .inr (2, [.ref z82, .ref z83, .ref z84, .int 0, .int 0, .int 0, .int 0, .int 0, .int 1, .int 0, .int 0])) :: (hm, .inr (11, (.ref y85 :: .int 0 :: .ref y86 :: .ref y87 :: .ref y88 :: .ref y89 :: .ref y90 :: .int 0 :: .ref y91 :: .ref y92 :: .int 0 :: .ref y93 :: .ref y94 :: .ref y95 :: .int 0 :: .int (-1) :: .int 0 :: .ref y96 :: .int 0 :: .ref y97 :: .int 0 :: .int 0 :: .null :: .int 0 :: .int 0 :: .int 0 :: .int 0 :: .ref y98 :: .ref y99 :: .ref y100 :: .ref y101 :: .int 0 :: .null :: .int 0 :: .int 0 :: .int 0 :: .ref y102 :: .int 0 :: .int (-1) :: .int 0 :: .ref y103 :: .int 0 :: .ref y104 :: .ref y105 :: .int 0 :: .ref y106 :: .ref y107 :: .ref y108 :: .ref y109 :: .int 0 :: .int 0 :: .int 0 :: .ref y110 :: .int 0 :: .int 0 :: .ref y111 :: .ref y112 :: .ref y113 :: .ref y114 :: .int 0 :: .ref y115 :: .int 0 :: .ref y116 :: .int 0 :: .int 0 :: .ref y117 :: .ref y118 :: .ref y119 :: []))) :: (y85, .inl (cT 0, 55, .inl (fun _ => 0))) :: (y87, .inl (cT 0, 6, .inl (fun _ => 0))) :: (y89, .inl (cT 0, 6, .inl (fun _ => 0))) :: (y93, .inl (cT 0, 8, .inl (fun _ => 0))) :: (y96, .inl (cT 2, 80, .inl (fun _ => 0))) :: (y97, .inl (cT 0, 16, .inl (fun _ => 0))) :: (y102, .inl (cT 0, 4, .inl (fun _ => 0))) :: (y103, .inl (cT 0, 912, .inl (fun _ => 0))) :: (y104, .inl (cT 0, 76, .inl (fun _ => 0))) :: (y106, .inl (cT 0, 55, .inl (fun _ => 0))) :: (y107, .inl (cT 0, 55, .inl (fun _ => 0))) :: (y108, .inl (cT 0, 4, .inl (fun _ => 0))) :: (y117, .inl (cT 0, 110, .inl (fun _ => 0))) :: (y118, .inl (cT 3, 2, .inl (fun _ => 0))) :: (y119, .inl (cT 0, 2, .inl (fun _ => 0))) :: []) H locs) (hl : lv_has ls 7 [(4, .int 0), (3, .ref ho), (2, .ref hm), (1, .ref hx), (0, .ref b)]) : W p l e room_1 s m #[Value.ref b] below meth c H locs 137 21604 Q (F0 m 39 ls [.int (xs 0 &&& 63)]) := by
  obtain ⟨j, hj, ej⟩ := pk_andE (xs 0) (m := 63) 6 (by decide +kernel)
  rw [ej]
  match j, hj with
  | 0, _ =>
    refine lv_tableIn (off := 205) (tgt := 244) X.x X.b dL_law_39 (by decide +kernel) (by decide +kernel) (by decide +kernel) (by decide) ?_
    exact w1_sign X hX hbl hbA hA hx hm z1 z3 z5 z22 z39 z56 z60 z61 z62 z66 z68 z69 z70 z75 z79 z2 y85 y86 y87 y88 y89 y90 y91 y92 y93 y94 y95 y96 y97 y98 y99 y100 y101 y102 y103 y104 y105 y106 y107 y108 y109 y110 y111 y112 y113 y114 y115 y116 y117 y118 y119 ho  hT (g_perm hG [0, 1, 2, 64, 69] rfl rfl) hl
  | 1, _ =>
    refine lv_tableIn (off := 230) (tgt := 269) X.x X.b dL_law_39 (by decide +kernel) (by decide +kernel) (by decide +kernel) (by decide) ?_
    rcases (show (xs 1).toInt ≤ -1 ∨ (xs 1).toInt = 0 ∨ 1 ≤ (xs 1).toInt by omega) with h_1 | h_1 | h_1
    · skip
      exact w2_end X hX hbl hbA hA hx hm z1 z3 z5 z22 z39 z56 z60 z61 z62 z66 z68 z69 z70 z75 z79 z2 y85 y86 y87 y88 y89 y90 y91 y92 y93 y94 y95 y96 y97 y98 y99 y100 y101 y102 y103 y104 y105 y106 y107 y108 y109 y110 y111 y112 y113 y114 y115 y116 y117 y118 y119 ho h_1 hT (g_perm hG [0, 1, 64] rfl rfl) hl
    · skip
      exact w3_end X hX hbl hbA hA hx hm z1 z3 z5 z22 z39 z56 z60 z61 z62 z66 z68 z69 z70 z75 z79 z2 y85 y86 y87 y88 y89 y90 y91 y92 y93 y94 y95 y96 y97 y98 y99 y100 y101 y102 y103 y104 y105 y106 y107 y108 y109 y110 y111 y112 y113 y114 y115 y116 y117 y118 y119 ho (Int32.toInt_inj.mp (h_1.trans (by decide +kernel))) hT (g_perm hG [0, 1, 64] rfl rfl) hl
    · skip
      exact w4_end X hX hbl hbA hA hx hm z1 z3 z5 z22 z39 z56 z60 z61 z62 z66 z68 z69 z70 z75 z79 z2 y85 y86 y87 y88 y89 y90 y91 y92 y93 y94 y95 y96 y97 y98 y99 y100 y101 y102 y103 y104 y105 y106 y107 y108 y109 y110 y111 y112 y113 y114 y115 y116 y117 y118 y119 ho h_1 hT (g_perm hG [0, 1, 64] rfl rfl) hl
  | 2, _ =>
    refine lv_tableIn (off := 255) (tgt := 294) X.x X.b dL_law_39 (by decide +kernel) (by decide +kernel) (by decide +kernel) (by decide) ?_
    exact w5_town X hX hbl hbA hA hx hm z1 z3 z5 z22 z39 z56 z60 z61 z62 z66 z68 z69 z70 z75 z79 z6 z7 z8 z9 z10 z11 z12 z13 z14 z15 z16 z17 z80 z18 z40 z41 z42 z43 z44 z45 z46 z47 z48 z49 z50 z51 z52 z81 z19 z20 z21 z53 z54 z55 z2 y85 y86 y87 y88 y89 y90 y91 y92 y93 y94 y95 y96 y97 y98 y99 y100 y101 y102 y103 y104 y105 y106 y107 y108 y109 y110 y111 y112 y113 y114 y115 y116 y117 y118 y119 ho  hT (g_perm hG [0, 5, 35, 36, 6, 37, 7, 38, 8, 39, 9, 40, 10, 41, 12, 42, 13, 43, 14, 44, 15, 45, 16, 18, 46, 1, 64] rfl rfl) hl
  | 3, _ =>
    refine lv_tableIn (off := 268) (tgt := 307) X.x X.b dL_law_39 (by decide +kernel) (by decide +kernel) (by decide +kernel) (by decide) ?_
    exact w6_rule X hX hbl hbA hA hx hm z1 z3 z5 z22 z39 z56 z60 z61 z62 z66 z68 z69 z70 z75 z79 z57 z58 z59 z2 z6 z7 z8 z9 z10 z11 z12 z13 z14 z15 z16 z17 z80 z18 z81 z19 z20 z21 y85 y86 y87 y88 y89 y90 y91 y92 y93 y94 y95 y96 y97 y98 y99 y100 y101 y102 y103 y104 y105 y106 y107 y108 y109 y110 y111 y112 y113 y114 y115 y116 y117 y118 y119 ho  hT (g_perm hG [0, 47, 1, 5, 18, 64] rfl rfl) hl
  | 4, _ =>
    refine lv_tableIn (off := 281) (tgt := 320) X.x X.b dL_law_39 (by decide +kernel) (by decide +kernel) (by decide +kernel) (by decide) ?_
    exact w7_frost X hX hbl hbA hA hx hm z1 z3 z5 z22 z39 z56 z60 z61 z62 z66 z68 z69 z70 z75 z79 z2 z6 z7 z8 z9 z10 z11 z12 z13 z14 z15 z16 z17 z80 z18 y85 y86 y87 y88 y89 y90 y91 y92 y93 y94 y95 y96 y97 y98 y99 y100 y101 y102 y103 y104 y105 y106 y107 y108 y109 y110 y111 y112 y113 y114 y115 y116 y117 y118 y119 ho  hT (g_perm hG [0, 1, 5, 48, 62, 64] rfl rfl) hl
  | 5, _ =>
    refine lv_tableIn (off := 294) (tgt := 333) X.x X.b dL_law_39 (by decide +kernel) (by decide +kernel) (by decide +kernel) (by decide) ?_
    exact w8_roof X hX hbl hbA hA hfl hE hx hm z1 z3 z5 z22 z39 z56 z60 z61 z62 z66 z68 z69 z70 z75 z79 z6 z7 z8 z9 z10 z11 z12 z13 z14 z15 z16 z17 z80 z18 y85 y86 y87 y88 y89 y90 y91 y92 y93 y94 y95 y96 y97 y98 y99 y100 y101 y102 y103 y104 y105 y106 y107 y108 y109 y110 y111 y112 y113 y114 y115 y116 y117 y118 y119 ho  hT (g_perm hG [0, 5, 64] rfl rfl) hl
  | 6, _ =>
    refine lv_tableIn (off := 362) (tgt := 401) X.x X.b dL_law_39 (by decide +kernel) (by decide +kernel) (by decide +kernel) (by decide) ?_
    exact w9_bird X hX hbl hbA hA hfl hE hx hm z1 z3 z5 z22 z39 z56 z60 z61 z62 z66 z68 z69 z70 z75 z79 z6 z7 z8 z9 z10 z11 z12 z13 z14 z15 z16 z17 z80 z18 y85 y86 y87 y88 y89 y90 y91 y92 y93 y94 y95 y96 y97 y98 y99 y100 y101 y102 y103 y104 y105 y106 y107 y108 y109 y110 y111 y112 y113 y114 y115 y116 y117 y118 y119 ho  hT (g_perm hG [0, 5, 64] rfl rfl) hl
  | 7, _ =>
    refine lv_tableIn (off := 430) (tgt := 469) X.x X.b dL_law_39 (by decide +kernel) (by decide +kernel) (by decide +kernel) (by decide) ?_
    exact w10_family X hX hbl hbA hA hfl hE hx hm z1 z3 z5 z22 z39 z56 z60 z61 z62 z66 z68 z69 z70 z75 z79 z6 z7 z8 z9 z10 z11 z12 z13 z14 z15 z16 z17 z80 z18 y85 y86 y87 y88 y89 y90 y91 y92 y93 y94 y95 y96 y97 y98 y99 y100 y101 y102 y103 y104 y105 y106 y107 y108 y109 y110 y111 y112 y113 y114 y115 y116 y117 y118 y119 ho  hT (g_perm hG [0, 5, 64] rfl rfl) hl
  | 8, _ =>
    refine lv_tableIn (off := 498) (tgt := 537) X.x X.b dL_law_39 (by decide +kernel) (by decide +kernel) (by decide +kernel) (by decide) ?_
    exact w11_worth X hX hbl hbA hA hfl hE hx hm z1 z3 z5 z22 z39 z56 z60 z61 z62 z66 z68 z69 z70 z75 z79 z6 z7 z8 z9 z10 z11 z12 z13 z14 z15 z16 z17 z80 z18 y85 y86 y87 y88 y89 y90 y91 y92 y93 y94 y95 y96 y97 y98 y99 y100 y101 y102 y103 y104 y105 y106 y107 y108 y109 y110 y111 y112 y113 y114 y115 y116 y117 y118 y119 ho  hT (g_perm hG [0, 5, 64] rfl rfl) hl
  | 9, _ =>
    refine lv_tableIn (off := 566) (tgt := 605) X.x X.b dL_law_39 (by decide +kernel) (by decide +kernel) (by decide +kernel) (by decide) ?_
    exact w12_build X hX hbl hbA hA hx hm z1 z3 z5 z22 z39 z56 z60 z61 z62 z66 z68 z69 z70 z75 z79 z6 z7 z8 z9 z10 z11 z12 z13 z14 z15 z16 z17 z80 z18 y85 y86 y87 y88 y89 y90 y91 y92 y93 y94 y95 y96 y97 y98 y99 y100 y101 y102 y103 y104 y105 y106 y107 y108 y109 y110 y111 y112 y113 y114 y115 y116 y117 y118 y119 ho  hT (g_perm hG [0, 5, 64] rfl rfl) hl
  | 10, _ =>
    refine lv_tableIn (off := 615) (tgt := 654) X.x X.b dL_law_39 (by decide +kernel) (by decide +kernel) (by decide +kernel) (by decide) ?_
    exact w13_ring X hX hbl hbA hA hx hm z1 z3 z5 z22 z39 z56 z60 z61 z62 z66 z68 z69 z70 z75 z79 z6 z7 z8 z9 z10 z11 z12 z13 z14 z15 z16 z17 z80 z18 y85 y86 y87 y88 y89 y90 y91 y92 y93 y94 y95 y96 y97 y98 y99 y100 y101 y102 y103 y104 y105 y106 y107 y108 y109 y110 y111 y112 y113 y114 y115 y116 y117 y118 y119 ho  hT (g_perm hG [0, 5, 64] rfl rfl) hl
  | 11, _ =>
    refine lv_tableIn (off := 664) (tgt := 703) X.x X.b dL_law_39 (by decide +kernel) (by decide +kernel) (by decide +kernel) (by decide) ?_
    exact w14_swear X hX hbl hbA hA hx hm z1 z3 z5 z22 z39 z56 z60 z61 z62 z66 z68 z69 z70 z75 z79 z6 z7 z8 z9 z10 z11 z12 z13 z14 z15 z16 z17 z80 z18 y85 y86 y87 y88 y89 y90 y91 y92 y93 y94 y95 y96 y97 y98 y99 y100 y101 y102 y103 y104 y105 y106 y107 y108 y109 y110 y111 y112 y113 y114 y115 y116 y117 y118 y119 ho  hT (g_perm hG [0, 5, 64] rfl rfl) hl
  | 12, _ =>
    refine lv_tableIn (off := 701) (tgt := 740) X.x X.b dL_law_39 (by decide +kernel) (by decide +kernel) (by decide +kernel) (by decide) ?_
    rcases (show (xs 1).toInt ≤ -1 ∨ 4 ≤ (xs 1).toInt ∨ (0 ≤ (xs 1).toInt ∧ (xs 1).toInt ≤ 2) ∨ (xs 1).toInt = 3 by omega) with h_1 | h_1 | h_1 | h_1
    · skip
      exact w15_sheet X hX hbl hbA hA hx hm z1 z3 z5 z22 z39 z56 z60 z61 z62 z66 z68 z69 z70 z75 z79 y85 y86 y87 y88 y89 y90 y91 y92 y93 y94 y95 y96 y97 y98 y99 y100 y101 y102 y103 y104 y105 y106 y107 y108 y109 y110 y111 y112 y113 y114 y115 y116 y117 y118 y119 ho h_1 hT (g_perm hG [0, 64] rfl rfl) hl
    · skip
      exact w16_sheet X hX hbl hbA hA hx hm z1 z3 z5 z22 z39 z56 z60 z61 z62 z66 z68 z69 z70 z75 z79 y85 y86 y87 y88 y89 y90 y91 y92 y93 y94 y95 y96 y97 y98 y99 y100 y101 y102 y103 y104 y105 y106 y107 y108 y109 y110 y111 y112 y113 y114 y115 y116 y117 y118 y119 ho h_1 hT (g_perm hG [0, 64] rfl rfl) hl
    · skip
      rcases (show (xs 2).toInt ≤ -1 ∨ (0 ≤ (xs 2).toInt ∧ (xs 2).toInt ≤ 6) ∨ 7 ≤ (xs 2).toInt by omega) with h_2 | h_2 | h_2
      · skip
        exact w17_sheet X hX hbl hbA hA hx hm z1 z3 z5 z22 z39 z56 z60 z61 z62 z66 z68 z69 z70 z75 z79 y85 y86 y87 y88 y89 y90 y91 y92 y93 y94 y95 y96 y97 y98 y99 y100 y101 y102 y103 y104 y105 y106 y107 y108 y109 y110 y111 y112 y113 y114 y115 y116 y117 y118 y119 ho h_1.1 h_1.2 h_2 hT (g_perm hG [0, 64] rfl rfl) hl
      · skip
        exact w18_sheet X hX hbl hbA hA hx hm z1 z3 z5 z22 z39 z56 z60 z61 z62 z66 z68 z69 z70 z75 z79 z6 z7 z8 z9 z10 z11 z12 z13 z14 z15 z16 z17 z80 z18 y85 y86 y87 y88 y89 y90 y91 y92 y93 y94 y95 y96 y97 y98 y99 y100 y101 y102 y103 y104 y105 y106 y107 y108 y109 y110 y111 y112 y113 y114 y115 y116 y117 y118 y119 ho h_1.1 h_1.2 h_2.1 h_2.2 hT (g_perm hG [0, 5, 64] rfl rfl) hl
      · skip
        exact w19_sheet X hX hbl hbA hA hx hm z1 z3 z5 z22 z39 z56 z60 z61 z62 z66 z68 z69 z70 z75 z79 y85 y86 y87 y88 y89 y90 y91 y92 y93 y94 y95 y96 y97 y98 y99 y100 y101 y102 y103 y104 y105 y106 y107 y108 y109 y110 y111 y112 y113 y114 y115 y116 y117 y118 y119 ho h_1.1 h_1.2 h_2 hT (g_perm hG [0, 64] rfl rfl) hl
    · skip
      rcases (show (xs 2).toInt ≤ 6 ∨ 7 ≤ (xs 2).toInt by omega) with h_2 | h_2
      · skip
        exact w20_sheet X hX hbl hbA hA hx hm z1 z3 z5 z22 z39 z56 z60 z61 z62 z66 z68 z69 z70 z75 z79 z6 z7 z8 z9 z10 z11 z12 z13 z14 z15 z16 z17 z80 z18 y85 y86 y87 y88 y89 y90 y91 y92 y93 y94 y95 y96 y97 y98 y99 y100 y101 y102 y103 y104 y105 y106 y107 y108 y109 y110 y111 y112 y113 y114 y115 y116 y117 y118 y119 ho (Int32.toInt_inj.mp (h_1.trans (by decide +kernel))) h_2 hT (g_perm hG [0, 5, 64] rfl rfl) hl
      · skip
        exact w21_sheet X hX hbl hbA hA hx hm z1 z3 z5 z22 z39 z56 z60 z61 z62 z66 z68 z69 z70 z75 z79 y85 y86 y87 y88 y89 y90 y91 y92 y93 y94 y95 y96 y97 y98 y99 y100 y101 y102 y103 y104 y105 y106 y107 y108 y109 y110 y111 y112 y113 y114 y115 y116 y117 y118 y119 ho (Int32.toInt_inj.mp (h_1.trans (by decide +kernel))) h_2 hT (g_perm hG [0, 64] rfl rfl) hl
  | 13, _ =>
    refine lv_tableIn (off := 762) (tgt := 801) X.x X.b dL_law_39 (by decide +kernel) (by decide +kernel) (by decide +kernel) (by decide) ?_
    exact w22_day X hX hbl hbA hA hx hm z1 z3 z5 z22 z39 z56 z60 z61 z62 z66 z68 z69 z70 z75 z79 z67 z67_r0 z6 z7 z8 z9 z10 z11 z12 z13 z14 z15 z16 z17 z80 z18 z81 z19 z20 z21 z4 y85 y86 y87 y88 y89 y90 y91 y92 y93 y94 y95 y96 y97 y98 y99 y100 y101 y102 y103 y104 y105 y106 y107 y108 y109 y110 y111 y112 y113 y114 y115 y116 y117 y118 y119 ho G_z67 hk_z67_0  hT (g_perm hG [0, 51, 52, 5, 53, 9, 14, 15, 16, 6, 12, 18, 19, 11, 3, 4, 64, 65, 73, 68, 67, 66, 72, 71, 70] rfl rfl) hl
  | 14, _ =>
    refine lv_tableIn (off := 775) (tgt := 814) X.x X.b dL_law_39 (by decide +kernel) (by decide +kernel) (by decide +kernel) (by decide) ?_
    rcases (show (xs 1).toInt ≤ -1 ∨ (xs 1).toInt = 0 ∨ (1 ≤ (xs 1).toInt ∧ (xs 1).toInt ≤ 60) ∨ 61 ≤ (xs 1).toInt by omega) with h_1 | h_1 | h_1 | h_1
    · skip
      exact w23_days X hX hbl hbA hA hx hm z1 z3 z5 z22 z39 z56 z60 z61 z62 z66 z68 z69 z70 z75 z79 y85 y86 y87 y88 y89 y90 y91 y92 y93 y94 y95 y96 y97 y98 y99 y100 y101 y102 y103 y104 y105 y106 y107 y108 y109 y110 y111 y112 y113 y114 y115 y116 y117 y118 y119 ho h_1 hT (g_perm hG [0, 64] rfl rfl) hl
    · skip
      exact w24_days X hX hbl hbA hA hx hm z1 z3 z5 z22 z39 z56 z60 z61 z62 z66 z68 z69 z70 z75 z79 z6 z7 z8 z9 z10 z11 z12 z13 z14 z15 z16 z17 z80 z18 z4 y85 y86 y87 y88 y89 y90 y91 y92 y93 y94 y95 y96 y97 y98 y99 y100 y101 y102 y103 y104 y105 y106 y107 y108 y109 y110 y111 y112 y113 y114 y115 y116 y117 y118 y119 ho (Int32.toInt_inj.mp (h_1.trans (by decide +kernel))) hT (g_perm hG [0, 5, 17, 3, 4, 64, 70] rfl rfl) hl
    · skip
      exact w25_days X hX hbl hbA hA hx hm z1 z3 z5 z22 z39 z56 z60 z61 z62 z66 z68 z69 z70 z75 z79 z67 z67_r0 z6 z7 z8 z9 z10 z11 z12 z13 z14 z15 z16 z17 z80 z18 z81 z19 z20 z21 z82 z83 z84 z4 y85 y86 y87 y88 y89 y90 y91 y92 y93 y94 y95 y96 y97 y98 y99 y100 y101 y102 y103 y104 y105 y106 y107 y108 y109 y110 y111 y112 y113 y114 y115 y116 y117 y118 y119 ho G_z67 hk_z67_0 h_1.1 h_1.2 hT (g_perm hG [0, 51, 52, 5, 53, 9, 14, 15, 16, 6, 12, 17, 18, 19, 11, 63, 3, 4, 64, 65, 73, 68, 67, 66, 72, 71, 70] rfl rfl) hl
    · skip
      exact w26_days X hX hbl hbA hA hx hm z1 z3 z5 z22 z39 z56 z60 z61 z62 z66 z68 z69 z70 z75 z79 y85 y86 y87 y88 y89 y90 y91 y92 y93 y94 y95 y96 y97 y98 y99 y100 y101 y102 y103 y104 y105 y106 y107 y108 y109 y110 y111 y112 y113 y114 y115 y116 y117 y118 y119 ho h_1 hT (g_perm hG [0, 64] rfl rfl) hl
  | 15, _ =>
    refine lv_tableIn (off := 800) (tgt := 839) X.x X.b dL_law_39 (by decide +kernel) (by decide +kernel) (by decide +kernel) (by decide) ?_
    exact w27_spring X hX hbl hbA hA hx hm z1 z3 z5 z22 z39 z56 z60 z61 z62 z66 z68 z69 z70 z75 z79 z63 z64 z65 z2 z67 z67_r0 z6 z7 z8 z9 z10 z11 z12 z13 z14 z15 z16 z17 z80 z18 z4 y85 y86 y87 y88 y89 y90 y91 y92 y93 y94 y95 y96 y97 y98 y99 y100 y101 y102 y103 y104 y105 y106 y107 y108 y109 y110 y111 y112 y113 y114 y115 y116 y117 y118 y119 ho G_z67 hk_z67_0  hT (g_perm hG [0, 50, 1, 51, 52, 5, 53, 9, 14, 15, 16, 6, 12, 3, 4, 64, 65, 73, 68, 67, 66, 70] rfl rfl) hl
  | 16, _ =>
    refine lv_tableIn (off := 813) (tgt := 852) X.x X.b dL_law_39 (by decide +kernel) (by decide +kernel) (by decide +kernel) (by decide) ?_
    exact w28_pay X hX hbl hbA hA hx hm z1 z3 z5 z22 z39 z56 z60 z61 z62 z66 z68 z69 z70 z75 z79 z6 z7 z8 z9 z10 z11 z12 z13 z14 z15 z16 z17 z80 z18 y85 y86 y87 y88 y89 y90 y91 y92 y93 y94 y95 y96 y97 y98 y99 y100 y101 y102 y103 y104 y105 y106 y107 y108 y109 y110 y111 y112 y113 y114 y115 y116 y117 y118 y119 ho  hT (g_perm hG [0, 5, 64] rfl rfl) hl
  | 17, _ =>
    refine lv_tableIn (off := 862) (tgt := 901) X.x X.b dL_law_39 (by decide +kernel) (by decide +kernel) (by decide +kernel) (by decide) ?_
    exact w29_owes X hX hbl hbA hA hx hm z1 z3 z5 z22 z39 z56 z60 z61 z62 z66 z68 z69 z70 z75 z79 z6 z7 z8 z9 z10 z11 z12 z13 z14 z15 z16 z17 z80 z18 y85 y86 y87 y88 y89 y90 y91 y92 y93 y94 y95 y96 y97 y98 y99 y100 y101 y102 y103 y104 y105 y106 y107 y108 y109 y110 y111 y112 y113 y114 y115 y116 y117 y118 y119 ho  hT (g_perm hG [0, 5, 64] rfl rfl) hl
  | 18, _ =>
    refine lv_tableIn (off := 899) (tgt := 938) X.x X.b dL_law_39 (by decide +kernel) (by decide +kernel) (by decide +kernel) (by decide) ?_
    rcases (show (xs 1).toInt ≤ -1 ∨ (0 ≤ (xs 1).toInt ∧ (xs 1).toInt ≤ 3) ∨ 4 ≤ (xs 1).toInt by omega) with h_1 | h_1 | h_1
    · skip
      exact w30_lord X hX hbl hbA hA hx hm z1 z3 z5 z22 z39 z56 z60 z61 z62 z66 z68 z69 z70 z75 z79 y85 y86 y87 y88 y89 y90 y91 y92 y93 y94 y95 y96 y97 y98 y99 y100 y101 y102 y103 y104 y105 y106 y107 y108 y109 y110 y111 y112 y113 y114 y115 y116 y117 y118 y119 ho h_1 hT (g_perm hG [0, 64] rfl rfl) hl
    · skip
      exact w31_lord X hX hbl hbA hA hx hm z1 z3 z5 z22 z39 z56 z60 z61 z62 z66 z68 z69 z70 z75 z79 z6 z7 z8 z9 z10 z11 z12 z13 z14 z15 z16 z17 z80 z18 z4 y85 y86 y87 y88 y89 y90 y91 y92 y93 y94 y95 y96 y97 y98 y99 y100 y101 y102 y103 y104 y105 y106 y107 y108 y109 y110 y111 y112 y113 y114 y115 y116 y117 y118 y119 ho h_1.1 h_1.2 hT (g_perm hG [0, 5, 3, 4, 64, 70] rfl rfl) hl
    · skip
      exact w32_lord X hX hbl hbA hA hx hm z1 z3 z5 z22 z39 z56 z60 z61 z62 z66 z68 z69 z70 z75 z79 y85 y86 y87 y88 y89 y90 y91 y92 y93 y94 y95 y96 y97 y98 y99 y100 y101 y102 y103 y104 y105 y106 y107 y108 y109 y110 y111 y112 y113 y114 y115 y116 y117 y118 y119 ho h_1 hT (g_perm hG [0, 64] rfl rfl) hl
  | 19, _ =>
    refine lv_tableIn (off := 924) (tgt := 963) X.x X.b dL_law_39 (by decide +kernel) (by decide +kernel) (by decide +kernel) (by decide) ?_
    exact w33_undo X hX hbl hbA hA hx hm z1 z3 z5 z22 z39 z56 z60 z61 z62 z66 z68 z69 z70 z75 z79 z67 y85 y86 y87 y88 y89 y90 y91 y92 y93 y94 y95 y96 y97 y98 y99 y100 y101 y102 y103 y104 y105 y106 y107 y108 y109 y110 y111 y112 y113 y114 y115 y116 y117 y118 y119 ho  hT (g_perm hG [0, 51, 64] rfl rfl) hl
  | 20, _ =>
    refine lv_tableIn (off := 937) (tgt := 976) X.x X.b dL_law_39 (by decide +kernel) (by decide +kernel) (by decide +kernel) (by decide) ?_
    exact w34_later X hX hbl hbA hA hx hm z1 z3 z5 z22 z39 z56 z60 z61 z62 z66 z68 z69 z70 z75 z79 z6 z7 z8 z9 z10 z11 z12 z13 z14 z15 z16 z17 z80 z18 y85 y86 y87 y88 y89 y90 y91 y92 y93 y94 y95 y96 y97 y98 y99 y100 y101 y102 y103 y104 y105 y106 y107 y108 y109 y110 y111 y112 y113 y114 y115 y116 y117 y118 y119 ho  hT (g_perm hG [0, 5, 64] rfl rfl) hl
  | 21, _ =>
    refine lv_tableIn (off := 974) (tgt := 1013) X.x X.b dL_law_39 (by decide +kernel) (by decide +kernel) (by decide +kernel) (by decide) ?_
    exact w35_calm X hX hbl hbA hA hx hm z1 z3 z5 z22 z39 z56 z60 z61 z62 z66 z68 z69 z70 z75 z79 z6 z7 z8 z9 z10 z11 z12 z13 z14 z15 z16 z17 z80 z18 z23 z24 z25 z26 z27 z28 z29 z30 z31 z32 z33 z34 z35 z81 z19 z20 z21 z36 z37 z38 z4 y85 y86 y87 y88 y89 y90 y91 y92 y93 y94 y95 y96 y97 y98 y99 y100 y101 y102 y103 y104 y105 y106 y107 y108 y109 y110 y111 y112 y113 y114 y115 y116 y117 y118 y119 ho  hT (g_perm hG [0, 5, 20, 21, 6, 22, 7, 23, 8, 24, 9, 25, 10, 27, 12, 28, 13, 29, 14, 30, 15, 31, 16, 18, 33, 34, 26, 3, 64, 65, 74, 75, 71] rfl rfl) hl
  | 22, _ =>
    refine lv_tableIn (off := 987) (tgt := 1026) X.x X.b dL_law_39 (by decide +kernel) (by decide +kernel) (by decide +kernel) (by decide) ?_
    exact w36_moves X hX hbl hbA hA hx hm z1 z3 z5 z22 z39 z56 z60 z61 z62 z66 z68 z69 z70 z75 z79 z6 z7 z8 z9 z10 z11 z12 z13 z14 z15 z16 z17 z80 z18 y85 y86 y87 y88 y89 y90 y91 y92 y93 y94 y95 y96 y97 y98 y99 y100 y101 y102 y103 y104 y105 y106 y107 y108 y109 y110 y111 y112 y113 y114 y115 y116 y117 y118 y119 ho  hT (g_perm hG [0, 5, 64] rfl rfl) hl
  | 23, _ =>
    refine lv_tableIn (off := 1024) (tgt := 1063) X.x X.b dL_law_39 (by decide +kernel) (by decide +kernel) (by decide +kernel) (by decide) ?_
    rcases (show (xs 1).toInt ≤ -1 ∨ 4 ≤ (xs 1).toInt ∨ (0 ≤ (xs 1).toInt ∧ (xs 1).toInt ≤ 3) by omega) with h_1 | h_1 | h_1
    · skip
      exact w37_income X hX hbl hbA hA hx hm z1 z3 z5 z22 z39 z56 z60 z61 z62 z66 z68 z69 z70 z75 z79 y85 y86 y87 y88 y89 y90 y91 y92 y93 y94 y95 y96 y97 y98 y99 y100 y101 y102 y103 y104 y105 y106 y107 y108 y109 y110 y111 y112 y113 y114 y115 y116 y117 y118 y119 ho h_1 hT (g_perm hG [0, 64] rfl rfl) hl
    · skip
      exact w38_income X hX hbl hbA hA hx hm z1 z3 z5 z22 z39 z56 z60 z61 z62 z66 z68 z69 z70 z75 z79 y85 y86 y87 y88 y89 y90 y91 y92 y93 y94 y95 y96 y97 y98 y99 y100 y101 y102 y103 y104 y105 y106 y107 y108 y109 y110 y111 y112 y113 y114 y115 y116 y117 y118 y119 ho h_1 hT (g_perm hG [0, 64] rfl rfl) hl
    · skip
      rcases (show (xs 2).toInt ≤ -1 ∨ (xs 2).toInt = 0 ∨ (1 ≤ (xs 2).toInt ∧ (xs 2).toInt ≤ 60) ∨ 61 ≤ (xs 2).toInt by omega) with h_2 | h_2 | h_2 | h_2
      · skip
        exact w39_income X hX hbl hbA hA hx hm z1 z3 z5 z22 z39 z56 z60 z61 z62 z66 z68 z69 z70 z75 z79 y85 y86 y87 y88 y89 y90 y91 y92 y93 y94 y95 y96 y97 y98 y99 y100 y101 y102 y103 y104 y105 y106 y107 y108 y109 y110 y111 y112 y113 y114 y115 y116 y117 y118 y119 ho h_1.1 h_1.2 h_2 hT (g_perm hG [0, 64] rfl rfl) hl
      · skip
        exact w40_income X hX hbl hbA hA hx hm z1 z3 z5 z22 z39 z56 z60 z61 z62 z66 z68 z69 z70 z75 z79 z6 z7 z8 z9 z10 z11 z12 z13 z14 z15 z16 z17 z80 z18 z23 z24 z25 z26 z27 z28 z29 z30 z31 z32 z33 z34 z35 z81 z19 z20 z21 z36 z37 z38 z4 y85 y86 y87 y88 y89 y90 y91 y92 y93 y94 y95 y96 y97 y98 y99 y100 y101 y102 y103 y104 y105 y106 y107 y108 y109 y110 y111 y112 y113 y114 y115 y116 y117 y118 y119 ho h_1.1 h_1.2 (Int32.toInt_inj.mp (h_2.trans (by decide +kernel))) hT (g_perm hG [0, 5, 20, 21, 6, 22, 7, 23, 8, 24, 9, 25, 10, 27, 12, 28, 13, 29, 14, 30, 15, 31, 16, 18, 33, 32, 3, 4, 64, 76, 65, 74, 70] rfl rfl) hl
      · skip
        exact w41_income X hX hbl hbA hA hx hm z1 z3 z5 z22 z39 z56 z60 z61 z62 z66 z68 z69 z70 z75 z79 z6 z7 z8 z9 z10 z11 z12 z13 z14 z15 z16 z17 z80 z18 z23 z24 z25 z26 z27 z28 z29 z30 z31 z32 z33 z34 z35 z81 z19 z20 z21 z36 z37 z38 z82 z83 z84 z4 y85 y86 y87 y88 y89 y90 y91 y92 y93 y94 y95 y96 y97 y98 y99 y100 y101 y102 y103 y104 y105 y106 y107 y108 y109 y110 y111 y112 y113 y114 y115 y116 y117 y118 y119 ho h_1.1 h_1.2 h_2.1 h_2.2 hT (g_perm hG [0, 5, 20, 21, 6, 22, 7, 23, 8, 24, 9, 25, 10, 27, 12, 28, 13, 29, 14, 30, 15, 31, 16, 18, 33, 32, 34, 26, 63, 3, 4, 64, 76, 65, 74, 71, 70] rfl rfl) hl
      · skip
        exact w42_income X hX hbl hbA hA hx hm z1 z3 z5 z22 z39 z56 z60 z61 z62 z66 z68 z69 z70 z75 z79 y85 y86 y87 y88 y89 y90 y91 y92 y93 y94 y95 y96 y97 y98 y99 y100 y101 y102 y103 y104 y105 y106 y107 y108 y109 y110 y111 y112 y113 y114 y115 y116 y117 y118 y119 ho h_1.1 h_1.2 h_2 hT (g_perm hG [0, 64] rfl rfl) hl
  | 24, _ =>
    refine lv_tableIn (off := 1061) (tgt := 1100) X.x X.b dL_law_39 (by decide +kernel) (by decide +kernel) (by decide +kernel) (by decide) ?_
    exact w43_homeless X hX hbl hbA hA hx hm z1 z3 z5 z22 z39 z56 z60 z61 z62 z66 z68 z69 z70 z75 z79 z6 z7 z8 z9 z10 z11 z12 z13 z14 z15 z16 z17 z80 z18 y85 y86 y87 y88 y89 y90 y91 y92 y93 y94 y95 y96 y97 y98 y99 y100 y101 y102 y103 y104 y105 y106 y107 y108 y109 y110 y111 y112 y113 y114 y115 y116 y117 y118 y119 ho  hT (g_perm hG [0, 5, 64] rfl rfl) hl
  | 25, _ =>
    refine lv_tableIn (off := 1086) (tgt := 1125) X.x X.b dL_law_39 (by decide +kernel) (by decide +kernel) (by decide +kernel) (by decide) ?_
    rcases (show (xs 1).toInt ≤ 0 ∨ (1 ≤ (xs 1).toInt ∧ (xs 1).toInt ≤ 60) ∨ 61 ≤ (xs 1).toInt by omega) with h_1 | h_1 | h_1
    · skip
      exact w44_bears X hX hbl hbA hA hx hm z1 z3 z5 z22 z39 z56 z60 z61 z62 z66 z68 z69 z70 z75 z79 y85 y86 y87 y88 y89 y90 y91 y92 y93 y94 y95 y96 y97 y98 y99 y100 y101 y102 y103 y104 y105 y106 y107 y108 y109 y110 y111 y112 y113 y114 y115 y116 y117 y118 y119 ho h_1 hT (g_perm hG [0, 64] rfl rfl) hl
    · skip
      exact w45_bears X hX hbl hbA hA hx hm z1 z3 z5 z22 z39 z56 z60 z61 z62 z66 z68 z69 z70 z75 z79 z6 z7 z8 z9 z10 z11 z12 z13 z14 z15 z16 z17 z80 z18 z23 z24 z25 z26 z27 z28 z29 z30 z31 z32 z33 z34 z35 z81 z19 z20 z21 z36 z37 z38 z82 z83 z84 y85 y86 y87 y88 y89 y90 y91 y92 y93 y94 y95 y96 y97 y98 y99 y100 y101 y102 y103 y104 y105 y106 y107 y108 y109 y110 y111 y112 y113 y114 y115 y116 y117 y118 y119 ho h_1.1 h_1.2 hT (g_perm hG [0, 5, 20, 21, 6, 22, 7, 23, 8, 24, 9, 25, 10, 27, 12, 28, 13, 29, 14, 30, 15, 31, 16, 18, 33, 49, 34, 26, 63, 64, 65, 74, 71] rfl rfl) hl
    · skip
      exact w46_bears X hX hbl hbA hA hx hm z1 z3 z5 z22 z39 z56 z60 z61 z62 z66 z68 z69 z70 z75 z79 y85 y86 y87 y88 y89 y90 y91 y92 y93 y94 y95 y96 y97 y98 y99 y100 y101 y102 y103 y104 y105 y106 y107 y108 y109 y110 y111 y112 y113 y114 y115 y116 y117 y118 y119 ho h_1 hT (g_perm hG [0, 64] rfl rfl) hl
  | 26, _ =>
    refine lv_tableIn (off := 1111) (tgt := 1150) X.x X.b dL_law_39 (by decide +kernel) (by decide +kernel) (by decide +kernel) (by decide) ?_
    exact w47_rests X hX hbl hbA hA hx hm z1 z3 z5 z22 z39 z56 z60 z61 z62 z66 z68 z69 z70 z75 z79 z6 z7 z8 z9 z10 z11 z12 z13 z14 z15 z16 z17 z80 z18 z81 z19 z20 z21 z4 y85 y86 y87 y88 y89 y90 y91 y92 y93 y94 y95 y96 y97 y98 y99 y100 y101 y102 y103 y104 y105 y106 y107 y108 y109 y110 y111 y112 y113 y114 y115 y116 y117 y118 y119 ho  hT (g_perm hG [0, 5, 18, 19, 3, 4, 64, 70] rfl rfl) hl
  | 27, _ =>
    refine lv_tableIn (off := 1124) (tgt := 1163) X.x X.b dL_law_39 (by decide +kernel) (by decide +kernel) (by decide +kernel) (by decide) ?_
    exact w48_ways X hX hbl hbA hA hx hm z1 z3 z5 z22 z39 z56 z60 z61 z62 z66 z68 z69 z70 z75 z79 z6 z7 z8 z9 z10 z11 z12 z13 z14 z15 z16 z17 z80 z18 z23 z24 z25 z26 z27 z28 z29 z30 z31 z32 z33 z34 z35 z81 z19 z20 z21 z36 z37 z38 z4 y85 y86 y87 y88 y89 y90 y91 y92 y93 y94 y95 y96 y97 y98 y99 y100 y101 y102 y103 y104 y105 y106 y107 y108 y109 y110 y111 y112 y113 y114 y115 y116 y117 y118 y119 ho  hT (g_perm hG [0, 5, 20, 21, 6, 22, 7, 23, 8, 24, 9, 25, 10, 27, 12, 28, 13, 29, 14, 30, 15, 31, 16, 18, 33, 34, 3, 64, 65, 74] rfl rfl) hl
  | 28, _ =>
    refine lv_tableIn (off := 1137) (tgt := 1176) X.x X.b dL_law_39 (by decide +kernel) (by decide +kernel) (by decide +kernel) (by decide) ?_
    exact w49_kindest X hX hbl hbA hA hx hm z1 z3 z5 z22 z39 z56 z60 z61 z62 z66 z68 z69 z70 z75 z79 z6 z7 z8 z9 z10 z11 z12 z13 z14 z15 z16 z17 z80 z18 z23 z24 z25 z26 z27 z28 z29 z30 z31 z32 z33 z34 z35 z81 z19 z20 z21 z36 z37 z38 z4 y85 y86 y87 y88 y89 y90 y91 y92 y93 y94 y95 y96 y97 y98 y99 y100 y101 y102 y103 y104 y105 y106 y107 y108 y109 y110 y111 y112 y113 y114 y115 y116 y117 y118 y119 ho  hT (g_perm hG [0, 5, 20, 21, 6, 22, 7, 23, 8, 24, 9, 25, 10, 27, 12, 28, 13, 29, 14, 30, 15, 31, 16, 18, 33, 34, 3, 64, 65, 74] rfl rfl) hl
  | 29, _ =>
    refine lv_tableIn (off := 1150) (tgt := 1189) X.x X.b dL_law_39 (by decide +kernel) (by decide +kernel) (by decide +kernel) (by decide) ?_
    rcases (show (xs 1).toInt ≤ -1 ∨ 4 ≤ (xs 1).toInt ∨ (0 ≤ (xs 1).toInt ∧ (xs 1).toInt ≤ 3) by omega) with h_1 | h_1 | h_1
    · skip
      exact w50_wheel X hX hbl hbA hA hx hm z1 z3 z5 z22 z39 z56 z60 z61 z62 z66 z68 z69 z70 z75 z79 y85 y86 y87 y88 y89 y90 y91 y92 y93 y94 y95 y96 y97 y98 y99 y100 y101 y102 y103 y104 y105 y106 y107 y108 y109 y110 y111 y112 y113 y114 y115 y116 y117 y118 y119 ho h_1 hT (g_perm hG [0, 64] rfl rfl) hl
    · skip
      exact w51_wheel X hX hbl hbA hA hx hm z1 z3 z5 z22 z39 z56 z60 z61 z62 z66 z68 z69 z70 z75 z79 y85 y86 y87 y88 y89 y90 y91 y92 y93 y94 y95 y96 y97 y98 y99 y100 y101 y102 y103 y104 y105 y106 y107 y108 y109 y110 y111 y112 y113 y114 y115 y116 y117 y118 y119 ho h_1 hT (g_perm hG [0, 64] rfl rfl) hl
    · skip
      rcases (show (xs 2).toInt ≤ -1 ∨ (xs 2).toInt = 0 ∨ (1 ≤ (xs 2).toInt ∧ (xs 2).toInt ≤ 60) ∨ 61 ≤ (xs 2).toInt by omega) with h_2 | h_2 | h_2 | h_2
      · skip
        exact w52_wheel X hX hbl hbA hA hx hm z1 z3 z5 z22 z39 z56 z60 z61 z62 z66 z68 z69 z70 z75 z79 y85 y86 y87 y88 y89 y90 y91 y92 y93 y94 y95 y96 y97 y98 y99 y100 y101 y102 y103 y104 y105 y106 y107 y108 y109 y110 y111 y112 y113 y114 y115 y116 y117 y118 y119 ho h_1.1 h_1.2 h_2 hT (g_perm hG [0, 64] rfl rfl) hl
      · skip
        exact w53_wheel X hX hbl hbA hA hx hm z1 z3 z5 z22 z39 z56 z60 z61 z62 z66 z68 z69 z70 z75 z79 z6 z7 z8 z9 z10 z11 z12 z13 z14 z15 z16 z17 z80 z18 y85 y86 y87 y88 y89 y90 y91 y92 y93 y94 y95 y96 y97 y98 y99 y100 y101 y102 y103 y104 y105 y106 y107 y108 y109 y110 y111 y112 y113 y114 y115 y116 y117 y118 y119 ho h_1.1 h_1.2 (Int32.toInt_inj.mp (h_2.trans (by decide +kernel))) hT (g_perm hG [0, 5, 64, 65, 74] rfl rfl) hl
      · skip
        exact w54_wheel X hX hbl hbA hA hx hm z1 z3 z5 z22 z39 z56 z60 z61 z62 z66 z68 z69 z70 z75 z79 z6 z7 z8 z9 z10 z11 z12 z13 z14 z15 z16 z17 z80 z18 y85 y86 y87 y88 y89 y90 y91 y92 y93 y94 y95 y96 y97 y98 y99 y100 y101 y102 y103 y104 y105 y106 y107 y108 y109 y110 y111 y112 y113 y114 y115 y116 y117 y118 y119 ho h_1.1 h_1.2 h_2.1 h_2.2 hT (g_perm hG [0, 5, 64, 65, 74, 71] rfl rfl) hl
      · skip
        exact w55_wheel X hX hbl hbA hA hx hm z1 z3 z5 z22 z39 z56 z60 z61 z62 z66 z68 z69 z70 z75 z79 y85 y86 y87 y88 y89 y90 y91 y92 y93 y94 y95 y96 y97 y98 y99 y100 y101 y102 y103 y104 y105 y106 y107 y108 y109 y110 y111 y112 y113 y114 y115 y116 y117 y118 y119 ho h_1.1 h_1.2 h_2 hT (g_perm hG [0, 64] rfl rfl) hl
  | 30, _ =>
    refine lv_tableIn (off := 1187) (tgt := 1226) X.x X.b dL_law_39 (by decide +kernel) (by decide +kernel) (by decide +kernel) (by decide) ?_
    rcases (show (xs 1).toInt ≤ 0 ∨ 21 ≤ (xs 1).toInt ∨ (1 ≤ (xs 1).toInt ∧ (xs 1).toInt ≤ 20) by omega) with h_1 | h_1 | h_1
    · skip
      exact w56_courts X hX hbl hbA hA hx hm z1 z3 z5 z22 z39 z56 z60 z61 z62 z66 z68 z69 z70 z75 z79 y85 y86 y87 y88 y89 y90 y91 y92 y93 y94 y95 y96 y97 y98 y99 y100 y101 y102 y103 y104 y105 y106 y107 y108 y109 y110 y111 y112 y113 y114 y115 y116 y117 y118 y119 ho h_1 hT (g_perm hG [0, 64] rfl rfl) hl
    · skip
      exact w57_courts X hX hbl hbA hA hx hm z1 z3 z5 z22 z39 z56 z60 z61 z62 z66 z68 z69 z70 z75 z79 y85 y86 y87 y88 y89 y90 y91 y92 y93 y94 y95 y96 y97 y98 y99 y100 y101 y102 y103 y104 y105 y106 y107 y108 y109 y110 y111 y112 y113 y114 y115 y116 y117 y118 y119 ho h_1 hT (g_perm hG [0, 64] rfl rfl) hl
    · skip
      rcases (show (xs 2).toInt ≤ -1 ∨ (xs 2).toInt = 0 ∨ (1 ≤ (xs 2).toInt ∧ (xs 2).toInt ≤ 12) ∨ 13 ≤ (xs 2).toInt by omega) with h_2 | h_2 | h_2 | h_2
      · skip
        exact w58_courts X hX hbl hbA hA hx hm z1 z3 z5 z22 z39 z56 z60 z61 z62 z66 z68 z69 z70 z75 z79 y85 y86 y87 y88 y89 y90 y91 y92 y93 y94 y95 y96 y97 y98 y99 y100 y101 y102 y103 y104 y105 y106 y107 y108 y109 y110 y111 y112 y113 y114 y115 y116 y117 y118 y119 ho h_1.1 h_1.2 h_2 hT (g_perm hG [0, 64] rfl rfl) hl
      · skip
        exact w59_courts X hX hbl hbA hA hx hm z1 z3 z5 z22 z39 z56 z60 z61 z62 z66 z68 z69 z70 z75 z79 z6 z7 z8 z9 z10 z11 z12 z13 z14 z15 z16 z17 z80 z18 z40 z41 z42 z43 z44 z45 z46 z47 z48 z49 z50 z51 z52 z81 z19 z20 z21 z53 z54 z55 z4 y85 y86 y87 y88 y89 y90 y91 y92 y93 y94 y95 y96 y97 y98 y99 y100 y101 y102 y103 y104 y105 y106 y107 y108 y109 y110 y111 y112 y113 y114 y115 y116 y117 y118 y119 ho h_1.1 h_1.2 (Int32.toInt_inj.mp (h_2.trans (by decide +kernel))) hT (g_perm hG [0, 5, 35, 36, 6, 37, 7, 38, 8, 39, 9, 40, 10, 41, 12, 42, 13, 43, 14, 44, 15, 45, 16, 18, 46, 3, 4, 64, 70] rfl rfl) hl
      · skip
        exact w60_courts X hX hbl hbA hA hx hm z1 z3 z5 z22 z39 z56 z60 z61 z62 z66 z68 z69 z70 z75 z79 z6 z7 z8 z9 z10 z11 z12 z13 z14 z15 z16 z17 z80 z18 z40 z41 z42 z43 z44 z45 z46 z47 z48 z49 z50 z51 z52 z81 z19 z20 z21 z53 z54 z55 z4 y85 y86 y87 y88 y89 y90 y91 y92 y93 y94 y95 y96 y97 y98 y99 y100 y101 y102 y103 y104 y105 y106 y107 y108 y109 y110 y111 y112 y113 y114 y115 y116 y117 y118 y119 ho h_1.1 h_1.2 h_2.1 h_2.2 hT (g_perm hG [0, 5, 35, 36, 6, 37, 7, 38, 8, 39, 9, 40, 10, 41, 12, 42, 13, 43, 14, 44, 15, 45, 16, 18, 46, 3, 4, 64, 65, 74, 71, 70] rfl rfl) hl
      · skip
        exact w61_courts X hX hbl hbA hA hx hm z1 z3 z5 z22 z39 z56 z60 z61 z62 z66 z68 z69 z70 z75 z79 y85 y86 y87 y88 y89 y90 y91 y92 y93 y94 y95 y96 y97 y98 y99 y100 y101 y102 y103 y104 y105 y106 y107 y108 y109 y110 y111 y112 y113 y114 y115 y116 y117 y118 y119 ho h_1.1 h_1.2 h_2 hT (g_perm hG [0, 64] rfl rfl) hl
  | 31, _ =>
    refine lv_tableIn (off := 1224) (tgt := 1263) X.x X.b dL_law_39 (by decide +kernel) (by decide +kernel) (by decide +kernel) (by decide) ?_
    exact w62_win X hX hbl hbA hA hx hm z1 z3 z5 z22 z39 z56 z60 z61 z62 z66 z68 z69 z70 z75 z79 z6 z7 z8 z9 z10 z11 z12 z13 z14 z15 z16 z17 z80 z18 y85 y86 y87 y88 y89 y90 y91 y92 y93 y94 y95 y96 y97 y98 y99 y100 y101 y102 y103 y104 y105 y106 y107 y108 y109 y110 y111 y112 y113 y114 y115 y116 y117 y118 y119 ho  hT (g_perm hG [0, 5, 64] rfl rfl) hl
  | 32, _ =>
    refine lv_tableIn (off := 1273) (tgt := 1312) X.x X.b dL_law_39 (by decide +kernel) (by decide +kernel) (by decide +kernel) (by decide) ?_
    exact w63_drive X hX hbl hbA hA hx hm z1 z3 z5 z22 z39 z56 z60 z61 z62 z66 z68 z69 z70 z75 z79 z6 z7 z8 z9 z10 z11 z12 z13 z14 z15 z16 z17 z80 z18 y85 y86 y87 y88 y89 y90 y91 y92 y93 y94 y95 y96 y97 y98 y99 y100 y101 y102 y103 y104 y105 y106 y107 y108 y109 y110 y111 y112 y113 y114 y115 y116 y117 y118 y119 ho  hT (g_perm hG [0, 5, 64] rfl rfl) hl
  | 33, _ =>
    refine lv_tableIn (off := 1310) (tgt := 1349) X.x X.b dL_law_39 (by decide +kernel) (by decide +kernel) (by decide +kernel) (by decide) ?_
    exact w64_choose X hX hbl hbA hA hx hm z1 z3 z5 z22 z39 z56 z60 z61 z62 z66 z68 z69 z70 z75 z79 z6 z7 z8 z9 z10 z11 z12 z13 z14 z15 z16 z17 z80 z18 y85 y86 y87 y88 y89 y90 y91 y92 y93 y94 y95 y96 y97 y98 y99 y100 y101 y102 y103 y104 y105 y106 y107 y108 y109 y110 y111 y112 y113 y114 y115 y116 y117 y118 y119 ho  hT (g_perm hG [0, 5, 64] rfl rfl) hl
  | 34, _ =>
    refine lv_tableIn (off := 1347) (tgt := 1386) X.x X.b dL_law_39 (by decide +kernel) (by decide +kernel) (by decide +kernel) (by decide) ?_
    exact w65_aim X hX hbl hbA hA hx hm z1 z3 z5 z22 z39 z56 z60 z61 z62 z66 z68 z69 z70 z75 z79 z2 z6 z7 z8 z9 z10 z11 z12 z13 z14 z15 z16 z17 z80 z18 z71 z72 z73 z74 y85 y86 y87 y88 y89 y90 y91 y92 y93 y94 y95 y96 y97 y98 y99 y100 y101 y102 y103 y104 y105 y106 y107 y108 y109 y110 y111 y112 y113 y114 y115 y116 y117 y118 y119 ho  hT (g_perm hG [0, 1, 5, 58, 59, 60, 64] rfl rfl) hl
  | 35, _ =>
    refine lv_tableIn (off := 1360) (tgt := 1399) X.x X.b dL_law_39 (by decide +kernel) (by decide +kernel) (by decide +kernel) (by decide) ?_
    exact w66_fewest X hX hbl hbA hA hx hm z1 z3 z5 z22 z39 z56 z60 z61 z62 z66 z68 z69 z70 z75 z79 z71 z72 z73 z74 y85 y86 y87 y88 y89 y90 y91 y92 y93 y94 y95 y96 y97 y98 y99 y100 y101 y102 y103 y104 y105 y106 y107 y108 y109 y110 y111 y112 y113 y114 y115 y116 y117 y118 y119 ho  hT (g_perm hG [0, 58, 64] rfl rfl) hl
  | 36, _ =>
    refine lv_tableIn (off := 1373) (tgt := 1412) X.x X.b dL_law_39 (by decide +kernel) (by decide +kernel) (by decide +kernel) (by decide) ?_
    exact w67_gently X hX hbl hbA hA hx hm z1 z3 z5 z22 z39 z56 z60 z61 z62 z66 z68 z69 z70 z75 z79 z71 z72 z73 z74 y85 y86 y87 y88 y89 y90 y91 y92 y93 y94 y95 y96 y97 y98 y99 y100 y101 y102 y103 y104 y105 y106 y107 y108 y109 y110 y111 y112 y113 y114 y115 y116 y117 y118 y119 ho  hT (g_perm hG [0, 58, 64] rfl rfl) hl
  | 37, _ =>
    refine lv_tableIn (off := 1386) (tgt := 1425) X.x X.b dL_law_39 (by decide +kernel) (by decide +kernel) (by decide +kernel) (by decide) ?_
    exact w68_seen X hX hbl hbA hA hx hm z1 z3 z5 z22 z39 z56 z60 z61 z62 z66 z68 z69 z70 z75 z79 z6 z7 z8 z9 z10 z11 z12 z13 z14 z15 z16 z17 z80 z18 y85 y86 y87 y88 y89 y90 y91 y92 y93 y94 y95 y96 y97 y98 y99 y100 y101 y102 y103 y104 y105 y106 y107 y108 y109 y110 y111 y112 y113 y114 y115 y116 y117 y118 y119 ho  hT (g_perm hG [0, 5, 64] rfl rfl) hl
  | 38, _ =>
    refine lv_tableIn (off := 1435) (tgt := 1474) X.x X.b dL_law_39 (by decide +kernel) (by decide +kernel) (by decide +kernel) (by decide) ?_
    exact w69_forget X hX hbl hbA hA hx hm z1 z3 z5 z22 z39 z56 z60 z61 z62 z66 z68 z69 z70 z75 z79 z76 z77 z78 y85 y86 y87 y88 y89 y90 y91 y92 y93 y94 y95 y96 y97 y98 y99 y100 y101 y102 y103 y104 y105 y106 y107 y108 y109 y110 y111 y112 y113 y114 y115 y116 y117 y118 y119 ho  hT (g_perm hG [0, 61, 64] rfl rfl) hl
  | 39, _ =>
    refine lv_tableIn (off := 1448) (tgt := 1487) X.x X.b dL_law_39 (by decide +kernel) (by decide +kernel) (by decide +kernel) (by decide) ?_
    exact w70_strengths X hX hbl hbA hA hx hm z1 z3 z5 z22 z39 z56 z60 z61 z62 z66 z68 z69 z70 z75 z79 z6 z7 z8 z9 z10 z11 z12 z13 z14 z15 z16 z17 z80 z18 y85 y86 y87 y88 y89 y90 y91 y92 y93 y94 y95 y96 y97 y98 y99 y100 y101 y102 y103 y104 y105 y106 y107 y108 y109 y110 y111 y112 y113 y114 y115 y116 y117 y118 y119 ho  hT (g_perm hG [0, 5, 64] rfl rfl) hl
  | 40, _ =>
    refine lv_tableIn (off := 1473) (tgt := 1512) X.x X.b dL_law_39 (by decide +kernel) (by decide +kernel) (by decide +kernel) (by decide) ?_
    exact w71_latest X hX hbl hbA hA hx hm z1 z3 z5 z22 z39 z56 z60 z61 z62 z66 z68 z69 z70 z75 z79 z6 z7 z8 z9 z10 z11 z12 z13 z14 z15 z16 z17 z80 z18 y85 y86 y87 y88 y89 y90 y91 y92 y93 y94 y95 y96 y97 y98 y99 y100 y101 y102 y103 y104 y105 y106 y107 y108 y109 y110 y111 y112 y113 y114 y115 y116 y117 y118 y119 ho  hT (g_perm hG [0, 5, 64] rfl rfl) hl
  | 41, _ =>
    refine lv_tableIn (off := 1498) (tgt := 1537) X.x X.b dL_law_39 (by decide +kernel) (by decide +kernel) (by decide +kernel) (by decide) ?_
    exact w72_absent X hX hbl hbA hA hx hm z1 z3 z5 z22 z39 z56 z60 z61 z62 z66 z68 z69 z70 z75 z79 z6 z7 z8 z9 z10 z11 z12 z13 z14 z15 z16 z17 z80 z18 z23 z24 z25 z26 z27 z28 z29 z30 z31 z32 z33 z34 z35 z81 z19 z20 z21 z36 z37 z38 z4 z76 z77 z78 y85 y86 y87 y88 y89 y90 y91 y92 y93 y94 y95 y96 y97 y98 y99 y100 y101 y102 y103 y104 y105 y106 y107 y108 y109 y110 y111 y112 y113 y114 y115 y116 y117 y118 y119 ho  hT (g_perm hG [0, 5, 20, 21, 6, 22, 7, 23, 8, 24, 9, 25, 10, 27, 12, 28, 13, 29, 14, 30, 15, 31, 16, 18, 33, 3, 61, 4, 64, 65, 74, 70] rfl rfl) hl
  | 42, _ =>
    refine lv_tableIn (off := 1511) (tgt := 1550) X.x X.b dL_law_39 (by decide +kernel) (by decide +kernel) (by decide +kernel) (by decide) ?_
    exact w73_chance X hX hbl hbA hA hx hm z1 z3 z5 z22 z39 z56 z60 z61 z62 z66 z68 z69 z70 z75 z79 z6 z7 z8 z9 z10 z11 z12 z13 z14 z15 z16 z17 z80 z18 y85 y86 y87 y88 y89 y90 y91 y92 y93 y94 y95 y96 y97 y98 y99 y100 y101 y102 y103 y104 y105 y106 y107 y108 y109 y110 y111 y112 y113 y114 y115 y116 y117 y118 y119 ho  hT (g_perm hG [0, 5, 64] rfl rfl) hl
  | 43, _ =>
    refine lv_tableIn (off := 1560) (tgt := 1599) X.x X.b dL_law_39 (by decide +kernel) (by decide +kernel) (by decide +kernel) (by decide) ?_
    rcases (show (xs 1).toInt ≤ -1 ∨ 31 ≤ (xs 1).toInt ∨ (0 ≤ (xs 1).toInt ∧ (xs 1).toInt ≤ 30) by omega) with h_1 | h_1 | h_1
    · skip
      exact w74_safest X hX hbl hbA hA hx hm z1 z3 z5 z22 z39 z56 z60 z61 z62 z66 z68 z69 z70 z75 z79 y85 y86 y87 y88 y89 y90 y91 y92 y93 y94 y95 y96 y97 y98 y99 y100 y101 y102 y103 y104 y105 y106 y107 y108 y109 y110 y111 y112 y113 y114 y115 y116 y117 y118 y119 ho h_1 hT (g_perm hG [0, 64] rfl rfl) hl
    · skip
      exact w75_safest X hX hbl hbA hA hx hm z1 z3 z5 z22 z39 z56 z60 z61 z62 z66 z68 z69 z70 z75 z79 y85 y86 y87 y88 y89 y90 y91 y92 y93 y94 y95 y96 y97 y98 y99 y100 y101 y102 y103 y104 y105 y106 y107 y108 y109 y110 y111 y112 y113 y114 y115 y116 y117 y118 y119 ho h_1 hT (g_perm hG [0, 64] rfl rfl) hl
    · skip
      rcases (show (xs 2).toInt ≤ -1 ∨ 11 ≤ (xs 2).toInt ∨ (0 ≤ (xs 2).toInt ∧ (xs 2).toInt ≤ 10) by omega) with h_2 | h_2 | h_2
      · skip
        exact w76_safest X hX hbl hbA hA hx hm z1 z3 z5 z22 z39 z56 z60 z61 z62 z66 z68 z69 z70 z75 z79 y85 y86 y87 y88 y89 y90 y91 y92 y93 y94 y95 y96 y97 y98 y99 y100 y101 y102 y103 y104 y105 y106 y107 y108 y109 y110 y111 y112 y113 y114 y115 y116 y117 y118 y119 ho h_1.1 h_1.2 h_2 hT (g_perm hG [0, 64] rfl rfl) hl
      · skip
        exact w77_safest X hX hbl hbA hA hx hm z1 z3 z5 z22 z39 z56 z60 z61 z62 z66 z68 z69 z70 z75 z79 y85 y86 y87 y88 y89 y90 y91 y92 y93 y94 y95 y96 y97 y98 y99 y100 y101 y102 y103 y104 y105 y106 y107 y108 y109 y110 y111 y112 y113 y114 y115 y116 y117 y118 y119 ho h_1.1 h_1.2 h_2 hT (g_perm hG [0, 64] rfl rfl) hl
      · skip
        exact w78_safest X hX hbl hbA hA hx hm z1 z3 z5 z22 z39 z56 z60 z61 z62 z66 z68 z69 z70 z75 z79 z6 z7 z8 z9 z10 z11 z12 z13 z14 z15 z16 z17 z80 z18 y85 y86 y87 y88 y89 y90 y91 y92 y93 y94 y95 y96 y97 y98 y99 y100 y101 y102 y103 y104 y105 y106 y107 y108 y109 y110 y111 y112 y113 y114 y115 y116 y117 y118 y119 ho h_1.1 h_1.2 h_2.1 h_2.2 hT (g_perm hG [0, 5, 64] rfl rfl) hl
  | 44, _ =>
    refine lv_tableIn (off := 1597) (tgt := 1636) X.x X.b dL_law_39 (by decide +kernel) (by decide +kernel) (by decide +kernel) (by decide) ?_
    rcases (show (xs 1).toInt ≤ -1 ∨ (xs 1).toInt = 0 ∨ (xs 1).toInt = 1 ∨ 2 ≤ (xs 1).toInt by omega) with h_1 | h_1 | h_1 | h_1
    · skip
      exact w79_keep X hX hbl hbA hA hx hm z1 z3 z5 z22 z39 z56 z60 z61 z62 z66 z68 z69 z70 z75 z79 y85 y86 y87 y88 y89 y90 y91 y92 y93 y94 y95 y96 y97 y98 y99 y100 y101 y102 y103 y104 y105 y106 y107 y108 y109 y110 y111 y112 y113 y114 y115 y116 y117 y118 y119 ho h_1 hT (g_perm hG [0, 64] rfl rfl) hl
    · skip
      exact w80_keep X hX hbl hbA hA hx hm z1 z3 z5 z22 z39 z56 z60 z61 z62 z66 z68 z69 z70 z75 z79 z68_r0 z68_r1 z6 z7 z8 z9 z10 z11 z12 z13 z14 z15 z16 z17 z80 z18 y85 y86 y87 y88 y89 y90 y91 y92 y93 y94 y95 y96 y97 y98 y99 y100 y101 y102 y103 y104 y105 y106 y107 y108 y109 y110 y111 y112 y113 y114 y115 y116 y117 y118 y119 ho G_z68 hk_z68_0 hk_z68_1 (Int32.toInt_inj.mp (h_1.trans (by decide +kernel))) hT (g_perm hG [0, 54, 5, 55, 9, 14, 15, 16, 6, 12, 57, 64, 78, 79, 65, 77] rfl rfl) hl
    · skip
      exact w81_keep X hX hbl hbA hA hx hm z1 z3 z5 z22 z39 z56 z60 z61 z62 z66 z68 z69 z70 z75 z79 z68_r0 z68_r1 z6 z7 z8 z9 z10 z11 z12 z13 z14 z15 z16 z17 z80 z18 y85 y86 y87 y88 y89 y90 y91 y92 y93 y94 y95 y96 y97 y98 y99 y100 y101 y102 y103 y104 y105 y106 y107 y108 y109 y110 y111 y112 y113 y114 y115 y116 y117 y118 y119 ho G_z68 hk_z68_0 hk_z68_1 (Int32.toInt_inj.mp (h_1.trans (by decide +kernel))) hT (g_perm hG [0, 54, 5, 56, 9, 14, 15, 16, 6, 12, 57, 64, 78, 79, 65, 77] rfl rfl) hl
    · skip
      exact w82_keep X hX hbl hbA hA hx hm z1 z3 z5 z22 z39 z56 z60 z61 z62 z66 z68 z69 z70 z75 z79 y85 y86 y87 y88 y89 y90 y91 y92 y93 y94 y95 y96 y97 y98 y99 y100 y101 y102 y103 y104 y105 y106 y107 y108 y109 y110 y111 y112 y113 y114 y115 y116 y117 y118 y119 ho h_1 hT (g_perm hG [0, 64] rfl rfl) hl
  | 45, _ =>
    refine lv_tableIn (off := 1622) (tgt := 1661) X.x X.b dL_law_39 (by decide +kernel) (by decide +kernel) (by decide +kernel) (by decide) ?_
    rcases (show (xs 1).toInt ≤ -1 ∨ (xs 1).toInt = 0 ∨ (xs 1).toInt = 1 ∨ 2 ≤ (xs 1).toInt by omega) with h_1 | h_1 | h_1 | h_1
    · skip
      exact w83_again X hX hbl hbA hA hx hm z1 z3 z5 z22 z39 z56 z60 z61 z62 z66 z68 z69 z70 z75 z79 y85 y86 y87 y88 y89 y90 y91 y92 y93 y94 y95 y96 y97 y98 y99 y100 y101 y102 y103 y104 y105 y106 y107 y108 y109 y110 y111 y112 y113 y114 y115 y116 y117 y118 y119 ho h_1 hT (g_perm hG [0, 64] rfl rfl) hl
    · skip
      exact w84_again X hX hbl hbA hA hx hm z1 z3 z5 z22 z39 z56 z60 z61 z62 z66 z68 z69 z70 z75 z79 z6 z7 z8 z9 z10 z11 z12 z13 z14 z15 z16 z17 z80 z18 y85 y86 y87 y88 y89 y90 y91 y92 y93 y94 y95 y96 y97 y98 y99 y100 y101 y102 y103 y104 y105 y106 y107 y108 y109 y110 y111 y112 y113 y114 y115 y116 y117 y118 y119 ho (Int32.toInt_inj.mp (h_1.trans (by decide +kernel))) hT (g_perm hG [0, 57, 5, 64, 78] rfl rfl) hl
    · skip
      exact w85_again X hX hbl hbA hA hx hm z1 z3 z5 z22 z39 z56 z60 z61 z62 z66 z68 z69 z70 z75 z79 z6 z7 z8 z9 z10 z11 z12 z13 z14 z15 z16 z17 z80 z18 y85 y86 y87 y88 y89 y90 y91 y92 y93 y94 y95 y96 y97 y98 y99 y100 y101 y102 y103 y104 y105 y106 y107 y108 y109 y110 y111 y112 y113 y114 y115 y116 y117 y118 y119 ho (Int32.toInt_inj.mp (h_1.trans (by decide +kernel))) hT (g_perm hG [0, 57, 5, 64, 78] rfl rfl) hl
    · skip
      exact w86_again X hX hbl hbA hA hx hm z1 z3 z5 z22 z39 z56 z60 z61 z62 z66 z68 z69 z70 z75 z79 y85 y86 y87 y88 y89 y90 y91 y92 y93 y94 y95 y96 y97 y98 y99 y100 y101 y102 y103 y104 y105 y106 y107 y108 y109 y110 y111 y112 y113 y114 y115 y116 y117 y118 y119 ho h_1 hT (g_perm hG [0, 64] rfl rfl) hl
  | 46, _ =>
    refine lv_tableIn (off := 1647) (tgt := 1686) X.x X.b dL_law_39 (by decide +kernel) (by decide +kernel) (by decide +kernel) (by decide) ?_
    rcases (show (xs 1).toInt ≤ -1 ∨ (xs 1).toInt = 0 ∨ (xs 1).toInt = 1 ∨ (xs 1).toInt = 2 ∨ (xs 1).toInt = 3 ∨ (xs 1).toInt = 4 ∨ (xs 1).toInt = 5 ∨ (xs 1).toInt = 6 ∨ (xs 1).toInt = 7 ∨ (xs 1).toInt = 8 ∨ (xs 1).toInt = 9 ∨ (xs 1).toInt = 10 ∨ (xs 1).toInt = 11 ∨ 12 ≤ (xs 1).toInt by omega) with h_1 | h_1 | h_1 | h_1 | h_1 | h_1 | h_1 | h_1 | h_1 | h_1 | h_1 | h_1 | h_1 | h_1
    · skip
      exact w87_count X hX hbl hbA hA hx hm z1 z3 z5 z22 z39 z56 z60 z61 z62 z66 z68 z69 z70 z75 z79 y85 y86 y87 y88 y89 y90 y91 y92 y93 y94 y95 y96 y97 y98 y99 y100 y101 y102 y103 y104 y105 y106 y107 y108 y109 y110 y111 y112 y113 y114 y115 y116 y117 y118 y119 ho h_1 hT (g_perm hG [0, 64] rfl rfl) hl
    · skip
      exact w88_count X hX hbl hbA hA hx hm z1 z3 z5 z22 z39 z56 z60 z61 z62 z66 z68 z69 z70 z75 z79 z6 z7 z8 z9 z10 z11 z12 z13 z14 z15 z16 z17 z80 z18 y85 y86 y87 y88 y89 y90 y91 y92 y93 y94 y95 y96 y97 y98 y99 y100 y101 y102 y103 y104 y105 y106 y107 y108 y109 y110 y111 y112 y113 y114 y115 y116 y117 y118 y119 ho (Int32.toInt_inj.mp (h_1.trans (by decide +kernel))) hT (g_perm hG [0, 5, 64] rfl rfl) hl
    · skip
      exact w89_count X hX hbl hbA hA hx hm z1 z3 z5 z22 z39 z56 z60 z61 z62 z66 z68 z69 z70 z75 z79 z6 z7 z8 z9 z10 z11 z12 z13 z14 z15 z16 z17 z80 z18 y85 y86 y87 y88 y89 y90 y91 y92 y93 y94 y95 y96 y97 y98 y99 y100 y101 y102 y103 y104 y105 y106 y107 y108 y109 y110 y111 y112 y113 y114 y115 y116 y117 y118 y119 ho (Int32.toInt_inj.mp (h_1.trans (by decide +kernel))) hT (g_perm hG [0, 5, 64] rfl rfl) hl
    · skip
      exact w90_count X hX hbl hbA hA hx hm z1 z3 z5 z22 z39 z56 z60 z61 z62 z66 z68 z69 z70 z75 z79 z6 z7 z8 z9 z10 z11 z12 z13 z14 z15 z16 z17 z80 z18 y85 y86 y87 y88 y89 y90 y91 y92 y93 y94 y95 y96 y97 y98 y99 y100 y101 y102 y103 y104 y105 y106 y107 y108 y109 y110 y111 y112 y113 y114 y115 y116 y117 y118 y119 ho (Int32.toInt_inj.mp (h_1.trans (by decide +kernel))) hT (g_perm hG [0, 5, 64] rfl rfl) hl
    · skip
      exact w91_count X hX hbl hbA hA hx hm z1 z3 z5 z22 z39 z56 z60 z61 z62 z66 z68 z69 z70 z75 z79 z6 z7 z8 z9 z10 z11 z12 z13 z14 z15 z16 z17 z80 z18 y85 y86 y87 y88 y89 y90 y91 y92 y93 y94 y95 y96 y97 y98 y99 y100 y101 y102 y103 y104 y105 y106 y107 y108 y109 y110 y111 y112 y113 y114 y115 y116 y117 y118 y119 ho (Int32.toInt_inj.mp (h_1.trans (by decide +kernel))) hT (g_perm hG [0, 5, 64, 65] rfl rfl) hl
    · skip
      exact w92_count X hX hbl hbA hA hx hm z1 z3 z5 z22 z39 z56 z60 z61 z62 z66 z68 z69 z70 z75 z79 z6 z7 z8 z9 z10 z11 z12 z13 z14 z15 z16 z17 z80 z18 y85 y86 y87 y88 y89 y90 y91 y92 y93 y94 y95 y96 y97 y98 y99 y100 y101 y102 y103 y104 y105 y106 y107 y108 y109 y110 y111 y112 y113 y114 y115 y116 y117 y118 y119 ho (Int32.toInt_inj.mp (h_1.trans (by decide +kernel))) hT (g_perm hG [0, 5, 64] rfl rfl) hl
    · skip
      exact w93_count X hX hbl hbA hA hx hm z1 z3 z5 z22 z39 z56 z60 z61 z62 z66 z68 z69 z70 z75 z79 z6 z7 z8 z9 z10 z11 z12 z13 z14 z15 z16 z17 z80 z18 y85 y86 y87 y88 y89 y90 y91 y92 y93 y94 y95 y96 y97 y98 y99 y100 y101 y102 y103 y104 y105 y106 y107 y108 y109 y110 y111 y112 y113 y114 y115 y116 y117 y118 y119 ho (Int32.toInt_inj.mp (h_1.trans (by decide +kernel))) hT (g_perm hG [0, 5, 64] rfl rfl) hl
    · skip
      exact w94_count X hX hbl hbA hA hx hm z1 z3 z5 z22 z39 z56 z60 z61 z62 z66 z68 z69 z70 z75 z79 z6 z7 z8 z9 z10 z11 z12 z13 z14 z15 z16 z17 z80 z18 y85 y86 y87 y88 y89 y90 y91 y92 y93 y94 y95 y96 y97 y98 y99 y100 y101 y102 y103 y104 y105 y106 y107 y108 y109 y110 y111 y112 y113 y114 y115 y116 y117 y118 y119 ho (Int32.toInt_inj.mp (h_1.trans (by decide +kernel))) hT (g_perm hG [0, 5, 64] rfl rfl) hl
    · skip
      exact w95_count X hX hbl hbA hA hx hm z1 z3 z5 z22 z39 z56 z60 z61 z62 z66 z68 z69 z70 z75 z79 z6 z7 z8 z9 z10 z11 z12 z13 z14 z15 z16 z17 z80 z18 y85 y86 y87 y88 y89 y90 y91 y92 y93 y94 y95 y96 y97 y98 y99 y100 y101 y102 y103 y104 y105 y106 y107 y108 y109 y110 y111 y112 y113 y114 y115 y116 y117 y118 y119 ho (Int32.toInt_inj.mp (h_1.trans (by decide +kernel))) hT (g_perm hG [0, 5, 64] rfl rfl) hl
    · skip
      exact w96_count X hX hbl hbA hA hx hm z1 z3 z5 z22 z39 z56 z60 z61 z62 z66 z68 z69 z70 z75 z79 z67 y85 y86 y87 y88 y89 y90 y91 y92 y93 y94 y95 y96 y97 y98 y99 y100 y101 y102 y103 y104 y105 y106 y107 y108 y109 y110 y111 y112 y113 y114 y115 y116 y117 y118 y119 ho (Int32.toInt_inj.mp (h_1.trans (by decide +kernel))) hT (g_perm hG [0, 51, 64] rfl rfl) hl
    · skip
      exact w97_count X hX hbl hbA hA hx hm z1 z3 z5 z22 z39 z56 z60 z61 z62 z66 z68 z69 z70 z75 z79 z76 z77 z78 y85 y86 y87 y88 y89 y90 y91 y92 y93 y94 y95 y96 y97 y98 y99 y100 y101 y102 y103 y104 y105 y106 y107 y108 y109 y110 y111 y112 y113 y114 y115 y116 y117 y118 y119 ho (Int32.toInt_inj.mp (h_1.trans (by decide +kernel))) hT (g_perm hG [0, 61, 64] rfl rfl) hl
    · skip
      exact w98_count X hX hbl hbA hA hx hm z1 z3 z5 z22 z39 z56 z60 z61 z62 z66 z68 z69 z70 z75 z79 z4 y85 y86 y87 y88 y89 y90 y91 y92 y93 y94 y95 y96 y97 y98 y99 y100 y101 y102 y103 y104 y105 y106 y107 y108 y109 y110 y111 y112 y113 y114 y115 y116 y117 y118 y119 ho (Int32.toInt_inj.mp (h_1.trans (by decide +kernel))) hT (g_perm hG [0, 3, 64] rfl rfl) hl
    · skip
      exact w99_count X hX hbl hbA hA hx hm z1 z3 z5 z22 z39 z56 z60 z61 z62 z66 z68 z69 z70 z75 z79 z2 y85 y86 y87 y88 y89 y90 y91 y92 y93 y94 y95 y96 y97 y98 y99 y100 y101 y102 y103 y104 y105 y106 y107 y108 y109 y110 y111 y112 y113 y114 y115 y116 y117 y118 y119 ho (Int32.toInt_inj.mp (h_1.trans (by decide +kernel))) hT (g_perm hG [0, 1, 64] rfl rfl) hl
    · skip
      exact w100_count X hX hbl hbA hA hx hm z1 z3 z5 z22 z39 z56 z60 z61 z62 z66 z68 z69 z70 z75 z79 y85 y86 y87 y88 y89 y90 y91 y92 y93 y94 y95 y96 y97 y98 y99 y100 y101 y102 y103 y104 y105 y106 y107 y108 y109 y110 y111 y112 y113 y114 y115 y116 y117 y118 y119 ho h_1 hT (g_perm hG [0, 64] rfl rfl) hl
  | 47, _ =>
    refine lv_tableIn (off := 1672) (tgt := 1711) X.x X.b dL_law_39 (by decide +kernel) (by decide +kernel) (by decide +kernel) (by decide) ?_
    exact w101_row X hX hbl hbA hA hfl hE hx hm z1 z3 z5 z22 z39 z56 z60 z61 z62 z66 z68 z69 z70 z75 z79 z4 y85 y86 y87 y88 y89 y90 y91 y92 y93 y94 y95 y96 y97 y98 y99 y100 y101 y102 y103 y104 y105 y106 y107 y108 y109 y110 y111 y112 y113 y114 y115 y116 y117 y118 y119 ho  hT (g_perm hG [0, 3, 64] rfl rfl) hl
  | n + 48, hj =>
    refine lv_tableOut (tgt := 1767) X.x X.b dL_law_39 (Or.inr (by rw [nI_toInt (by omega)]; omega)) (by decide) ?_
    refine W.widen (k := 138) (n := 21610) (Nat.le_of_ble_eq_true rfl) (Nat.le_of_ble_eq_true rfl) ?_
    exact hT _ _ _ hG.2.2 hl

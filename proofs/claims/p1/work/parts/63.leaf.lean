set_option maxHeartbeats 4000000 in
set_option maxRecDepth 100000 in
theorem w1_sign {p : Program} {l : Launch} {e : Env} {s : State} {m : MethodId} {below : List Frame} {meth : Method} {c : Code} {b : Nat} {xs : Nat → Int32} {D : va_G} {cT : Nat → ClassId} {A : Nat → Prop} {Q : State → Prop} (X : gX p m c code 7 s #[Value.ref b] "StorksLetLaw" D cT) (hX : va_X b 5 xs s s.heap) (hbl : b < s.heap.size) (hbA : ¬ A b) (hA : ∀ q, s.heap.size ≤ q → A q) (hx hm z1 z3 z5 z22 z39 z56 z60 z61 z62 z66 z68 z69 z70 z75 z79 z2 y85 y86 y87 y88 y89 y90 y91 y92 y93 y94 y95 y96 y97 y98 y99 y100 y101 y102 y103 y104 y105 y106 y107 y108 y109 y110 y111 y112 y113 y114 y115 y116 y117 y118 y119 ho : Nat) (hT : ∀ (H : Heap) (locs : List Loc) (ls : Array Slot), va_S A s.heap H locs → lv_has ls 7 [(4, .int 0), (3, .ref ho), (2, .ref hm), (1, .ref hx), (0, .ref b)] → W p l e room_1 s m #[Value.ref b] below meth c H locs 138 21610 Q (F0 m 1767 ls [])) {H : Heap} {locs : List Loc} {ls : Array Slot} (hG : gG D A s.heap [(hx, .inr (10, [.ref z1, .ref z3, .ref z5, .ref z22, .ref z39, .ref z56, .ref z60, .ref z61, .ref z62, .ref z66, .ref z68, .ref z69, .ref z70, .null, .ref z75, .ref z79])), (z1, .inr (5, [.ref z2, .int 0, .int 0, .int 0])), (z2, .inl (cT 1, 80, .inl (fun _ => 0))), (hm, .inr (11, (.ref y85 :: .int 0 :: .ref y86 :: .ref y87 :: .ref y88 :: .ref y89 :: .ref y90 :: .int 0 :: .ref y91 :: .ref y92 :: .int 0 :: .ref y93 :: .ref y94 :: .ref y95 :: .int 0 :: .int (-1) :: .int 0 :: .ref y96 :: .int 0 :: .ref y97 :: .int 0 :: .int 0 :: .null :: .int 0 :: .int 0 :: .int 0 :: .int 0 :: .ref y98 :: .ref y99 :: .ref y100 :: .ref y101 :: .int 0 :: .null :: .int 0 :: .int 0 :: .int 0 :: .ref y102 :: .int 0 :: .int (-1) :: .int 0 :: .ref y103 :: .int 0 :: .ref y104 :: .ref y105 :: .int 0 :: .ref y106 :: .ref y107 :: .ref y108 :: .ref y109 :: .int 0 :: .int 0 :: .int 0 :: .ref y110 :: .int 0 :: .int 0 :: .ref y111 :: .ref y112 :: .ref y113 :: .ref y114 :: .int 0 :: .ref y115 :: .int 0 :: .ref y116 :: .int 0 :: .int 0 :: .ref y117 :: .ref y118 :: .ref y119 :: []))), (y96, .inl (cT 2, 80, .inl (fun _ => 0)))] H locs) (hl : lv_has ls 7 [(4, .int 0), (3, .ref ho), (2, .ref hm), (1, .ref hx), (0, .ref b)]) : W p l e room_1 s m #[Value.ref b] below meth c H locs 137 21604 Q (F0 m 244 ls []) := by
  refine lv_aload_n X.x X.b dL_law_244 rfl (lv_at hl 3 rfl) ?_
  refine lv_aload_n X.x X.b dL_law_245 rfl (lv_at hl 4 rfl) ?_
  refine lv_iload X.x X.b dL_law_246 (lv_at hl 0 rfl) ?_
  refine lv_iconst (v := 1) X.x X.b dL_law_248 (by decide +kernel) ?_
  refine lv_iadd X.x X.b dL_law_249 ?_
  refine g_top (v' := 1) (by decide +kernel) ?_
  refine va_sld X.x X.b hX hbl hbA hG.2.2 (i := 1) (g_in (by decide +kernel)) dL_law_250 ?_
  refine g_top (v' := xs 1) rfl ?_
  refine g_ki (g_rV (As := [.int (xs 1)]) (rest := []) X hl hG (k2_sign l D cT hx z1 z2 z3 z5 z22 z39 z56 z60 z61 z62 z66 z68 z69 z70 z75 z79 (xs 1) (fun _ => 0)) gw_L_32 g_E01 g_E02 [0, 1, 2] rfl rfl 0 rfl rfl rfl rfl rfl (Nat.le_of_ble_eq_true rfl) ⟨(Nat.le_of_ble_eq_true rfl), (Nat.le_of_ble_eq_true rfl)⟩ ⟨(Nat.le_of_ble_eq_true rfl), (Nat.le_of_ble_eq_true rfl)⟩ dL_law_251) hG hA [0, 1, 2] [3, 4] rfl rfl rfl rfl (c1 := 137) (s1 := 21604) rfl rfl (fun r_1 u_1 H locs (hu : r_1 = 4) (hG : gG D A s.heap [(hm, .inr (11, (.ref y85 :: .int 0 :: .ref y86 :: .ref y87 :: .ref y88 :: .ref y89 :: .ref y90 :: .int 0 :: .ref y91 :: .ref y92 :: .int 0 :: .ref y93 :: .ref y94 :: .ref y95 :: .int 0 :: .int (-1) :: .int 0 :: .ref y96 :: .int 0 :: .ref y97 :: .int 0 :: .int 0 :: .null :: .int 0 :: .int 0 :: .int 0 :: .int 0 :: .ref y98 :: .ref y99 :: .ref y100 :: .ref y101 :: .int 0 :: .null :: .int 0 :: .int 0 :: .int 0 :: .ref y102 :: .int 0 :: .int (-1) :: .int 0 :: .ref y103 :: .int 0 :: .ref y104 :: .ref y105 :: .int 0 :: .ref y106 :: .ref y107 :: .ref y108 :: .ref y109 :: .int 0 :: .int 0 :: .int 0 :: .ref y110 :: .int 0 :: .int 0 :: .ref y111 :: .ref y112 :: .ref y113 :: .ref y114 :: .int 0 :: .ref y115 :: .int 0 :: .ref y116 :: .int 0 :: .int 0 :: .ref y117 :: .ref y118 :: .ref y119 :: []))), (y96, .inl (cT 2, 80, .inl (fun _ => 0))), (hx, .inr (10, [.ref z1, .ref z3, .ref z5, .ref z22, .ref z39, .ref z56, .ref z60, .ref z61, .ref z62, .ref z66, .ref z68, .ref z69, .ref z70, .null, .ref z75, .ref z79])), (z1, .inr (5, [.ref z2, .int 4, .int 0, .int 0])), (z2, .inl (cT 1, 80, .inl (u_1.2.1 0)))] H locs) => ?_)
  have hu := hu.symm
  subst hu
  refine lv_aload_n X.x X.b dL_law_254 rfl (lv_at hl 2 rfl) ?_
  refine lv_aload_n X.x X.b dL_law_255 rfl (lv_at hl 4 rfl) ?_
  refine lv_iload X.x X.b dL_law_256 (lv_at hl 0 rfl) ?_
  refine lv_iconst (v := 1) X.x X.b dL_law_258 (by decide +kernel) ?_
  refine lv_iadd X.x X.b dL_law_259 ?_
  refine g_top (v' := 1) (by decide +kernel) ?_
  refine va_sld X.x X.b hX hbl hbA hG.2.2 (i := 1) (g_in (by decide +kernel)) dL_law_260 ?_
  refine g_top (v' := xs 1) rfl ?_
  refine g_ki (g_rV (As := [.int (xs 1)]) (rest := [.int 4]) X hl hG (k3_sign l D cT hm y96 y85 y86 y87 y88 y89 y90 y91 y92 y93 y94 y95 y97 y98 y99 y100 y101 y102 y103 y104 y105 y106 y107 y108 y109 y110 y111 y112 y113 y114 y115 y116 y117 y118 y119 (xs 1) (fun _ => 0)) gw_L_35 g_E01 g_E02 [0, 1] rfl rfl 0 rfl rfl rfl rfl rfl (Nat.le_of_ble_eq_true rfl) ⟨(Nat.le_of_ble_eq_true rfl), (Nat.le_of_ble_eq_true rfl)⟩ ⟨(Nat.le_of_ble_eq_true rfl), (Nat.le_of_ble_eq_true rfl)⟩ dL_law_261) hG hA [0, 1] [2, 3, 4] rfl rfl rfl rfl (c1 := 137) (s1 := 21604) rfl rfl (fun r_2 u_2 H locs (hu : r_2 = 4) (hG : gG D A s.heap [(hx, .inr (10, [.ref z1, .ref z3, .ref z5, .ref z22, .ref z39, .ref z56, .ref z60, .ref z61, .ref z62, .ref z66, .ref z68, .ref z69, .ref z70, .null, .ref z75, .ref z79])), (z1, .inr (5, [.ref z2, .int 4, .int 0, .int 0])), (z2, .inl (cT 1, 80, .inl (u_1.2.1 0))), (hm, .inr (11, (.ref y85 :: .int 0 :: .ref y86 :: .ref y87 :: .ref y88 :: .ref y89 :: .ref y90 :: .int 0 :: .ref y91 :: .ref y92 :: .int 0 :: .ref y93 :: .ref y94 :: .ref y95 :: .int 0 :: .int (-1) :: .int 0 :: .ref y96 :: .int 4 :: .ref y97 :: .int 0 :: .int 0 :: .null :: .int 0 :: .int 0 :: .int 0 :: .int 0 :: .ref y98 :: .ref y99 :: .ref y100 :: .ref y101 :: .int 0 :: .null :: .int 0 :: .int 0 :: .int 0 :: .ref y102 :: .int 0 :: .int (-1) :: .int 0 :: .ref y103 :: .int 0 :: .ref y104 :: .ref y105 :: .int 0 :: .ref y106 :: .ref y107 :: .ref y108 :: .ref y109 :: .int 0 :: .int 0 :: .int 0 :: .ref y110 :: .int 0 :: .int 0 :: .ref y111 :: .ref y112 :: .ref y113 :: .ref y114 :: .int 0 :: .ref y115 :: .int 0 :: .ref y116 :: .int 0 :: .int 0 :: .ref y117 :: .ref y118 :: .ref y119 :: []))), (y96, .inl (cT 2, 80, .inl (u_2.2.1 0)))] H locs) => ?_)
  have hu := hu.symm
  subst hu
  refine b_icmp_eq_t (tgt := 1767) X.x X.b dL_law_264 (by decide) (by decide +kernel) ?_
  refine W.widen (k := 138) (n := 21610) (Nat.le_of_ble_eq_true rfl) (Nat.le_of_ble_eq_true rfl) ?_
  exact hT _ _ _ hG.2.2 (lv_sub hl [0, 1, 2, 3, 4] rfl)
set_option maxHeartbeats 4000000 in
set_option maxRecDepth 100000 in
theorem w2_end {p : Program} {l : Launch} {e : Env} {s : State} {m : MethodId} {below : List Frame} {meth : Method} {c : Code} {b : Nat} {xs : Nat → Int32} {D : va_G} {cT : Nat → ClassId} {A : Nat → Prop} {Q : State → Prop} (X : gX p m c code 7 s #[Value.ref b] "StorksLetLaw" D cT) (hX : va_X b 5 xs s s.heap) (hbl : b < s.heap.size) (hbA : ¬ A b) (hA : ∀ q, s.heap.size ≤ q → A q) (hx hm z1 z3 z5 z22 z39 z56 z60 z61 z62 z66 z68 z69 z70 z75 z79 z2 y85 y86 y87 y88 y89 y90 y91 y92 y93 y94 y95 y96 y97 y98 y99 y100 y101 y102 y103 y104 y105 y106 y107 y108 y109 y110 y111 y112 y113 y114 y115 y116 y117 y118 y119 ho : Nat) (u_1 : (xs 1).toInt ≤ -1) (hT : ∀ (H : Heap) (locs : List Loc) (ls : Array Slot), va_S A s.heap H locs → lv_has ls 7 [(4, .int 0), (3, .ref ho), (2, .ref hm), (1, .ref hx), (0, .ref b)] → W p l e room_1 s m #[Value.ref b] below meth c H locs 138 21610 Q (F0 m 1767 ls [])) {H : Heap} {locs : List Loc} {ls : Array Slot} (hG : gG D A s.heap [(hx, .inr (10, [.ref z1, .ref z3, .ref z5, .ref z22, .ref z39, .ref z56, .ref z60, .ref z61, .ref z62, .ref z66, .ref z68, .ref z69, .ref z70, .null, .ref z75, .ref z79])), (z1, .inr (5, [.ref z2, .int 0, .int 0, .int 0])), (hm, .inr (11, (.ref y85 :: .int 0 :: .ref y86 :: .ref y87 :: .ref y88 :: .ref y89 :: .ref y90 :: .int 0 :: .ref y91 :: .ref y92 :: .int 0 :: .ref y93 :: .ref y94 :: .ref y95 :: .int 0 :: .int (-1) :: .int 0 :: .ref y96 :: .int 0 :: .ref y97 :: .int 0 :: .int 0 :: .null :: .int 0 :: .int 0 :: .int 0 :: .int 0 :: .ref y98 :: .ref y99 :: .ref y100 :: .ref y101 :: .int 0 :: .null :: .int 0 :: .int 0 :: .int 0 :: .ref y102 :: .int 0 :: .int (-1) :: .int 0 :: .ref y103 :: .int 0 :: .ref y104 :: .ref y105 :: .int 0 :: .ref y106 :: .ref y107 :: .ref y108 :: .ref y109 :: .int 0 :: .int 0 :: .int 0 :: .ref y110 :: .int 0 :: .int 0 :: .ref y111 :: .ref y112 :: .ref y113 :: .ref y114 :: .int 0 :: .ref y115 :: .int 0 :: .ref y116 :: .int 0 :: .int 0 :: .ref y117 :: .ref y118 :: .ref y119 :: [])))] H locs) (hl : lv_has ls 7 [(4, .int 0), (3, .ref ho), (2, .ref hm), (1, .ref hx), (0, .ref b)]) : W p l e room_1 s m #[Value.ref b] below meth c H locs 137 21604 Q (F0 m 269 ls []) := by
  refine lv_aload_n X.x X.b dL_law_269 rfl (lv_at hl 3 rfl) ?_
  refine lv_aload_n X.x X.b dL_law_270 rfl (lv_at hl 4 rfl) ?_
  refine lv_iload X.x X.b dL_law_271 (lv_at hl 0 rfl) ?_
  refine lv_iconst (v := 1) X.x X.b dL_law_273 (by decide +kernel) ?_
  refine lv_iadd X.x X.b dL_law_274 ?_
  refine g_top (v' := 1) (by decide +kernel) ?_
  refine va_sld X.x X.b hX hbl hbA hG.2.2 (i := 1) (g_in (by decide +kernel)) dL_law_275 ?_
  refine g_top (v' := xs 1) rfl ?_
  refine g_ki (g_rV (As := [.int (xs 1)]) (rest := []) X hl hG (k5_end l D cT hx z1 z3 z5 z22 z39 z56 z60 z61 z62 z66 z68 z69 z70 z75 z79 z2 (xs 1) (by omega)) gw_L_36 g_E01 g_E02 [0, 1] rfl rfl 0 rfl rfl rfl rfl rfl (Nat.le_of_ble_eq_true rfl) ⟨(Nat.le_of_ble_eq_true rfl), (Nat.le_of_ble_eq_true rfl)⟩ ⟨(Nat.le_of_ble_eq_true rfl), (Nat.le_of_ble_eq_true rfl)⟩ dL_law_276) hG hA [0, 1] [2] rfl rfl rfl rfl (c1 := 137) (s1 := 21604) rfl rfl (fun r_1 u_1 H locs (hu : r_1 = 0) (hG : gG D A s.heap [(hm, .inr (11, (.ref y85 :: .int 0 :: .ref y86 :: .ref y87 :: .ref y88 :: .ref y89 :: .ref y90 :: .int 0 :: .ref y91 :: .ref y92 :: .int 0 :: .ref y93 :: .ref y94 :: .ref y95 :: .int 0 :: .int (-1) :: .int 0 :: .ref y96 :: .int 0 :: .ref y97 :: .int 0 :: .int 0 :: .null :: .int 0 :: .int 0 :: .int 0 :: .int 0 :: .ref y98 :: .ref y99 :: .ref y100 :: .ref y101 :: .int 0 :: .null :: .int 0 :: .int 0 :: .int 0 :: .ref y102 :: .int 0 :: .int (-1) :: .int 0 :: .ref y103 :: .int 0 :: .ref y104 :: .ref y105 :: .int 0 :: .ref y106 :: .ref y107 :: .ref y108 :: .ref y109 :: .int 0 :: .int 0 :: .int 0 :: .ref y110 :: .int 0 :: .int 0 :: .ref y111 :: .ref y112 :: .ref y113 :: .ref y114 :: .int 0 :: .ref y115 :: .int 0 :: .ref y116 :: .int 0 :: .int 0 :: .ref y117 :: .ref y118 :: .ref y119 :: []))), (hx, .inr (10, [.ref z1, .ref z3, .ref z5, .ref z22, .ref z39, .ref z56, .ref z60, .ref z61, .ref z62, .ref z66, .ref z68, .ref z69, .ref z70, .null, .ref z75, .ref z79])), (z1, .inr (5, [.ref z2, .int 0, .int 0, .int 0]))] H locs) => ?_)
  have hu := hu.symm
  subst hu
  refine lv_aload_n X.x X.b dL_law_279 rfl (lv_at hl 2 rfl) ?_
  refine lv_aload_n X.x X.b dL_law_280 rfl (lv_at hl 4 rfl) ?_
  refine lv_iload X.x X.b dL_law_281 (lv_at hl 0 rfl) ?_
  refine lv_iconst (v := 1) X.x X.b dL_law_283 (by decide +kernel) ?_
  refine lv_iadd X.x X.b dL_law_284 ?_
  refine g_top (v' := 1) (by decide +kernel) ?_
  refine va_sld X.x X.b hX hbl hbA hG.2.2 (i := 1) (g_in (by decide +kernel)) dL_law_285 ?_
  refine g_top (v' := xs 1) rfl ?_
  refine g_ki (g_rV (As := [.int (xs 1)]) (rest := [.int 0]) X hl hG (k7_end l D cT hm y85 y86 y87 y88 y89 y90 y91 y92 y93 y94 y95 y96 y97 y98 y99 y100 y101 y102 y103 y104 y105 y106 y107 y108 y109 y110 y111 y112 y113 y114 y115 y116 y117 y118 y119 (xs 1) (by omega)) gw_L_40 g_E01 g_E02 [0] rfl rfl 0 rfl rfl rfl rfl rfl (Nat.le_of_ble_eq_true rfl) ⟨(Nat.le_of_ble_eq_true rfl), (Nat.le_of_ble_eq_true rfl)⟩ ⟨(Nat.le_of_ble_eq_true rfl), (Nat.le_of_ble_eq_true rfl)⟩ dL_law_286) hG hA [0] [1, 2] rfl rfl rfl rfl (c1 := 137) (s1 := 21604) rfl rfl (fun r_2 u_2 H locs (hu : r_2 = 0) (hG : gG D A s.heap [(hx, .inr (10, [.ref z1, .ref z3, .ref z5, .ref z22, .ref z39, .ref z56, .ref z60, .ref z61, .ref z62, .ref z66, .ref z68, .ref z69, .ref z70, .null, .ref z75, .ref z79])), (z1, .inr (5, [.ref z2, .int 0, .int 0, .int 0])), (hm, .inr (11, (.ref y85 :: .int 0 :: .ref y86 :: .ref y87 :: .ref y88 :: .ref y89 :: .ref y90 :: .int 0 :: .ref y91 :: .ref y92 :: .int 0 :: .ref y93 :: .ref y94 :: .ref y95 :: .int 0 :: .int (-1) :: .int 0 :: .ref y96 :: .int 0 :: .ref y97 :: .int 0 :: .int 0 :: .null :: .int 0 :: .int 0 :: .int 0 :: .int 0 :: .ref y98 :: .ref y99 :: .ref y100 :: .ref y101 :: .int 0 :: .null :: .int 0 :: .int 0 :: .int 0 :: .ref y102 :: .int 0 :: .int (-1) :: .int 0 :: .ref y103 :: .int 0 :: .ref y104 :: .ref y105 :: .int 0 :: .ref y106 :: .ref y107 :: .ref y108 :: .ref y109 :: .int 0 :: .int 0 :: .int 0 :: .ref y110 :: .int 0 :: .int 0 :: .ref y111 :: .ref y112 :: .ref y113 :: .ref y114 :: .int 0 :: .ref y115 :: .int 0 :: .ref y116 :: .int 0 :: .int 0 :: .ref y117 :: .ref y118 :: .ref y119 :: [])))] H locs) => ?_)
  have hu := hu.symm
  subst hu
  refine b_icmp_eq_t (tgt := 1767) X.x X.b dL_law_289 (by decide) (by decide +kernel) ?_
  refine W.widen (k := 138) (n := 21610) (Nat.le_of_ble_eq_true rfl) (Nat.le_of_ble_eq_true rfl) ?_
  exact hT _ _ _ hG.2.2 (lv_sub hl [0, 1, 2, 3, 4] rfl)
set_option maxHeartbeats 4000000 in
set_option maxRecDepth 100000 in
theorem w3_end {p : Program} {l : Launch} {e : Env} {s : State} {m : MethodId} {below : List Frame} {meth : Method} {c : Code} {b : Nat} {xs : Nat → Int32} {D : va_G} {cT : Nat → ClassId} {A : Nat → Prop} {Q : State → Prop} (X : gX p m c code 7 s #[Value.ref b] "StorksLetLaw" D cT) (hX : va_X b 5 xs s s.heap) (hbl : b < s.heap.size) (hbA : ¬ A b) (hA : ∀ q, s.heap.size ≤ q → A q) (hx hm z1 z3 z5 z22 z39 z56 z60 z61 z62 z66 z68 z69 z70 z75 z79 z2 y85 y86 y87 y88 y89 y90 y91 y92 y93 y94 y95 y96 y97 y98 y99 y100 y101 y102 y103 y104 y105 y106 y107 y108 y109 y110 y111 y112 y113 y114 y115 y116 y117 y118 y119 ho : Nat) (e_1 : xs 1 = 0) (hT : ∀ (H : Heap) (locs : List Loc) (ls : Array Slot), va_S A s.heap H locs → lv_has ls 7 [(4, .int 0), (3, .ref ho), (2, .ref hm), (1, .ref hx), (0, .ref b)] → W p l e room_1 s m #[Value.ref b] below meth c H locs 138 21610 Q (F0 m 1767 ls [])) {H : Heap} {locs : List Loc} {ls : Array Slot} (hG : gG D A s.heap [(hx, .inr (10, [.ref z1, .ref z3, .ref z5, .ref z22, .ref z39, .ref z56, .ref z60, .ref z61, .ref z62, .ref z66, .ref z68, .ref z69, .ref z70, .null, .ref z75, .ref z79])), (z1, .inr (5, [.ref z2, .int 0, .int 0, .int 0])), (hm, .inr (11, (.ref y85 :: .int 0 :: .ref y86 :: .ref y87 :: .ref y88 :: .ref y89 :: .ref y90 :: .int 0 :: .ref y91 :: .ref y92 :: .int 0 :: .ref y93 :: .ref y94 :: .ref y95 :: .int 0 :: .int (-1) :: .int 0 :: .ref y96 :: .int 0 :: .ref y97 :: .int 0 :: .int 0 :: .null :: .int 0 :: .int 0 :: .int 0 :: .int 0 :: .ref y98 :: .ref y99 :: .ref y100 :: .ref y101 :: .int 0 :: .null :: .int 0 :: .int 0 :: .int 0 :: .ref y102 :: .int 0 :: .int (-1) :: .int 0 :: .ref y103 :: .int 0 :: .ref y104 :: .ref y105 :: .int 0 :: .ref y106 :: .ref y107 :: .ref y108 :: .ref y109 :: .int 0 :: .int 0 :: .int 0 :: .ref y110 :: .int 0 :: .int 0 :: .ref y111 :: .ref y112 :: .ref y113 :: .ref y114 :: .int 0 :: .ref y115 :: .int 0 :: .ref y116 :: .int 0 :: .int 0 :: .ref y117 :: .ref y118 :: .ref y119 :: [])))] H locs) (hl : lv_has ls 7 [(4, .int 0), (3, .ref ho), (2, .ref hm), (1, .ref hx), (0, .ref b)]) : W p l e room_1 s m #[Value.ref b] below meth c H locs 137 21604 Q (F0 m 269 ls []) := by
  refine lv_aload_n X.x X.b dL_law_269 rfl (lv_at hl 3 rfl) ?_
  refine lv_aload_n X.x X.b dL_law_270 rfl (lv_at hl 4 rfl) ?_
  refine lv_iload X.x X.b dL_law_271 (lv_at hl 0 rfl) ?_
  refine lv_iconst (v := 1) X.x X.b dL_law_273 (by decide +kernel) ?_
  refine lv_iadd X.x X.b dL_law_274 ?_
  refine g_top (v' := 1) (by decide +kernel) ?_
  refine va_sld X.x X.b hX hbl hbA hG.2.2 (i := 1) (g_in (by decide +kernel)) dL_law_275 ?_
  refine g_top (v' := 0) e_1 ?_
  refine g_ki (g_rV (As := [.int 0]) (rest := []) X hl hG (k9_end l D cT hx z1 z3 z5 z22 z39 z56 z60 z61 z62 z66 z68 z69 z70 z75 z79 z2) gw_L_36 g_E01 g_E02 [0, 1] rfl rfl 0 rfl rfl rfl rfl rfl (Nat.le_of_ble_eq_true rfl) ⟨(Nat.le_of_ble_eq_true rfl), (Nat.le_of_ble_eq_true rfl)⟩ ⟨(Nat.le_of_ble_eq_true rfl), (Nat.le_of_ble_eq_true rfl)⟩ dL_law_276) hG hA [0, 1] [2] rfl rfl rfl rfl (c1 := 137) (s1 := 21604) rfl rfl (fun r_1 u_1 H locs (hu : r_1 = 1) (hG : gG D A s.heap [(hm, .inr (11, (.ref y85 :: .int 0 :: .ref y86 :: .ref y87 :: .ref y88 :: .ref y89 :: .ref y90 :: .int 0 :: .ref y91 :: .ref y92 :: .int 0 :: .ref y93 :: .ref y94 :: .ref y95 :: .int 0 :: .int (-1) :: .int 0 :: .ref y96 :: .int 0 :: .ref y97 :: .int 0 :: .int 0 :: .null :: .int 0 :: .int 0 :: .int 0 :: .int 0 :: .ref y98 :: .ref y99 :: .ref y100 :: .ref y101 :: .int 0 :: .null :: .int 0 :: .int 0 :: .int 0 :: .ref y102 :: .int 0 :: .int (-1) :: .int 0 :: .ref y103 :: .int 0 :: .ref y104 :: .ref y105 :: .int 0 :: .ref y106 :: .ref y107 :: .ref y108 :: .ref y109 :: .int 0 :: .int 0 :: .int 0 :: .ref y110 :: .int 0 :: .int 0 :: .ref y111 :: .ref y112 :: .ref y113 :: .ref y114 :: .int 0 :: .ref y115 :: .int 0 :: .ref y116 :: .int 0 :: .int 0 :: .ref y117 :: .ref y118 :: .ref y119 :: []))), (hx, .inr (10, [.ref z1, .ref z3, .ref z5, .ref z22, .ref z39, .ref z56, .ref z60, .ref z61, .ref z62, .ref z66, .ref z68, .ref z69, .ref z70, .null, .ref z75, .ref z79])), (z1, .inr (5, [.ref z2, .int 0, .int 0, .int 0]))] H locs) => ?_)
  have hu := hu.symm
  subst hu
  refine lv_aload_n X.x X.b dL_law_279 rfl (lv_at hl 2 rfl) ?_
  refine lv_aload_n X.x X.b dL_law_280 rfl (lv_at hl 4 rfl) ?_
  refine lv_iload X.x X.b dL_law_281 (lv_at hl 0 rfl) ?_
  refine lv_iconst (v := 1) X.x X.b dL_law_283 (by decide +kernel) ?_
  refine lv_iadd X.x X.b dL_law_284 ?_
  refine g_top (v' := 1) (by decide +kernel) ?_
  refine va_sld X.x X.b hX hbl hbA hG.2.2 (i := 1) (g_in (by decide +kernel)) dL_law_285 ?_
  refine g_top (v' := 0) e_1 ?_
  refine g_ki (g_rV (As := [.int 0]) (rest := [.int 1]) X hl hG (k11_end l D cT hm y85 y86 y87 y88 y89 y90 y91 y92 y93 y94 y95 y96 y97 y98 y99 y100 y101 y102 y103 y104 y105 y106 y107 y108 y109 y110 y111 y112 y113 y114 y115 y116 y117 y118 y119) gw_L_40 g_E01 g_E02 [0] rfl rfl 0 rfl rfl rfl rfl rfl (Nat.le_of_ble_eq_true rfl) ⟨(Nat.le_of_ble_eq_true rfl), (Nat.le_of_ble_eq_true rfl)⟩ ⟨(Nat.le_of_ble_eq_true rfl), (Nat.le_of_ble_eq_true rfl)⟩ dL_law_286) hG hA [0] [1, 2] rfl rfl rfl rfl (c1 := 137) (s1 := 21604) rfl rfl (fun r_2 u_2 H locs (hu : r_2 = 1) (hG : gG D A s.heap [(hx, .inr (10, [.ref z1, .ref z3, .ref z5, .ref z22, .ref z39, .ref z56, .ref z60, .ref z61, .ref z62, .ref z66, .ref z68, .ref z69, .ref z70, .null, .ref z75, .ref z79])), (z1, .inr (5, [.ref z2, .int 0, .int 0, .int 0])), (hm, .inr (11, (.ref y85 :: .int 0 :: .ref y86 :: .ref y87 :: .ref y88 :: .ref y89 :: .ref y90 :: .int 0 :: .ref y91 :: .ref y92 :: .int 0 :: .ref y93 :: .ref y94 :: .ref y95 :: .int 0 :: .int (-1) :: .int 0 :: .ref y96 :: .int 0 :: .ref y97 :: .int 0 :: .int 0 :: .null :: .int 0 :: .int 0 :: .int 0 :: .int 0 :: .ref y98 :: .ref y99 :: .ref y100 :: .ref y101 :: .int 0 :: .null :: .int 0 :: .int 0 :: .int 0 :: .ref y102 :: .int 0 :: .int (-1) :: .int 0 :: .ref y103 :: .int 0 :: .ref y104 :: .ref y105 :: .int 0 :: .ref y106 :: .ref y107 :: .ref y108 :: .ref y109 :: .int 0 :: .int 0 :: .int 0 :: .ref y110 :: .int 0 :: .int 0 :: .ref y111 :: .ref y112 :: .ref y113 :: .ref y114 :: .int 0 :: .ref y115 :: .int 0 :: .ref y116 :: .int 0 :: .int 0 :: .ref y117 :: .ref y118 :: .ref y119 :: [])))] H locs) => ?_)
  have hu := hu.symm
  subst hu
  refine b_icmp_eq_t (tgt := 1767) X.x X.b dL_law_289 (by decide) (by decide +kernel) ?_
  refine W.widen (k := 138) (n := 21610) (Nat.le_of_ble_eq_true rfl) (Nat.le_of_ble_eq_true rfl) ?_
  exact hT _ _ _ hG.2.2 (lv_sub hl [0, 1, 2, 3, 4] rfl)
set_option maxHeartbeats 4000000 in
set_option maxRecDepth 100000 in
theorem w4_end {p : Program} {l : Launch} {e : Env} {s : State} {m : MethodId} {below : List Frame} {meth : Method} {c : Code} {b : Nat} {xs : Nat → Int32} {D : va_G} {cT : Nat → ClassId} {A : Nat → Prop} {Q : State → Prop} (X : gX p m c code 7 s #[Value.ref b] "StorksLetLaw" D cT) (hX : va_X b 5 xs s s.heap) (hbl : b < s.heap.size) (hbA : ¬ A b) (hA : ∀ q, s.heap.size ≤ q → A q) (hx hm z1 z3 z5 z22 z39 z56 z60 z61 z62 z66 z68 z69 z70 z75 z79 z2 y85 y86 y87 y88 y89 y90 y91 y92 y93 y94 y95 y96 y97 y98 y99 y100 y101 y102 y103 y104 y105 y106 y107 y108 y109 y110 y111 y112 y113 y114 y115 y116 y117 y118 y119 ho : Nat) (l_1 : 1 ≤ (xs 1).toInt) (hT : ∀ (H : Heap) (locs : List Loc) (ls : Array Slot), va_S A s.heap H locs → lv_has ls 7 [(4, .int 0), (3, .ref ho), (2, .ref hm), (1, .ref hx), (0, .ref b)] → W p l e room_1 s m #[Value.ref b] below meth c H locs 138 21610 Q (F0 m 1767 ls [])) {H : Heap} {locs : List Loc} {ls : Array Slot} (hG : gG D A s.heap [(hx, .inr (10, [.ref z1, .ref z3, .ref z5, .ref z22, .ref z39, .ref z56, .ref z60, .ref z61, .ref z62, .ref z66, .ref z68, .ref z69, .ref z70, .null, .ref z75, .ref z79])), (z1, .inr (5, [.ref z2, .int 0, .int 0, .int 0])), (hm, .inr (11, (.ref y85 :: .int 0 :: .ref y86 :: .ref y87 :: .ref y88 :: .ref y89 :: .ref y90 :: .int 0 :: .ref y91 :: .ref y92 :: .int 0 :: .ref y93 :: .ref y94 :: .ref y95 :: .int 0 :: .int (-1) :: .int 0 :: .ref y96 :: .int 0 :: .ref y97 :: .int 0 :: .int 0 :: .null :: .int 0 :: .int 0 :: .int 0 :: .int 0 :: .ref y98 :: .ref y99 :: .ref y100 :: .ref y101 :: .int 0 :: .null :: .int 0 :: .int 0 :: .int 0 :: .ref y102 :: .int 0 :: .int (-1) :: .int 0 :: .ref y103 :: .int 0 :: .ref y104 :: .ref y105 :: .int 0 :: .ref y106 :: .ref y107 :: .ref y108 :: .ref y109 :: .int 0 :: .int 0 :: .int 0 :: .ref y110 :: .int 0 :: .int 0 :: .ref y111 :: .ref y112 :: .ref y113 :: .ref y114 :: .int 0 :: .ref y115 :: .int 0 :: .ref y116 :: .int 0 :: .int 0 :: .ref y117 :: .ref y118 :: .ref y119 :: [])))] H locs) (hl : lv_has ls 7 [(4, .int 0), (3, .ref ho), (2, .ref hm), (1, .ref hx), (0, .ref b)]) : W p l e room_1 s m #[Value.ref b] below meth c H locs 137 21604 Q (F0 m 269 ls []) := by
  refine lv_aload_n X.x X.b dL_law_269 rfl (lv_at hl 3 rfl) ?_
  refine lv_aload_n X.x X.b dL_law_270 rfl (lv_at hl 4 rfl) ?_
  refine lv_iload X.x X.b dL_law_271 (lv_at hl 0 rfl) ?_
  refine lv_iconst (v := 1) X.x X.b dL_law_273 (by decide +kernel) ?_
  refine lv_iadd X.x X.b dL_law_274 ?_
  refine g_top (v' := 1) (by decide +kernel) ?_
  refine va_sld X.x X.b hX hbl hbA hG.2.2 (i := 1) (g_in (by decide +kernel)) dL_law_275 ?_
  refine g_top (v' := xs 1) rfl ?_
  refine g_ki (g_rV (As := [.int (xs 1)]) (rest := []) X hl hG (k13_end l D cT hx z1 z3 z5 z22 z39 z56 z60 z61 z62 z66 z68 z69 z70 z75 z79 z2 (xs 1) (by omega)) gw_L_36 g_E01 g_E02 [0, 1] rfl rfl 0 rfl rfl rfl rfl rfl (Nat.le_of_ble_eq_true rfl) ⟨(Nat.le_of_ble_eq_true rfl), (Nat.le_of_ble_eq_true rfl)⟩ ⟨(Nat.le_of_ble_eq_true rfl), (Nat.le_of_ble_eq_true rfl)⟩ dL_law_276) hG hA [0, 1] [2] rfl rfl rfl rfl (c1 := 137) (s1 := 21604) rfl rfl (fun r_1 u_1 H locs (hu : r_1 = 0) (hG : gG D A s.heap [(hm, .inr (11, (.ref y85 :: .int 0 :: .ref y86 :: .ref y87 :: .ref y88 :: .ref y89 :: .ref y90 :: .int 0 :: .ref y91 :: .ref y92 :: .int 0 :: .ref y93 :: .ref y94 :: .ref y95 :: .int 0 :: .int (-1) :: .int 0 :: .ref y96 :: .int 0 :: .ref y97 :: .int 0 :: .int 0 :: .null :: .int 0 :: .int 0 :: .int 0 :: .int 0 :: .ref y98 :: .ref y99 :: .ref y100 :: .ref y101 :: .int 0 :: .null :: .int 0 :: .int 0 :: .int 0 :: .ref y102 :: .int 0 :: .int (-1) :: .int 0 :: .ref y103 :: .int 0 :: .ref y104 :: .ref y105 :: .int 0 :: .ref y106 :: .ref y107 :: .ref y108 :: .ref y109 :: .int 0 :: .int 0 :: .int 0 :: .ref y110 :: .int 0 :: .int 0 :: .ref y111 :: .ref y112 :: .ref y113 :: .ref y114 :: .int 0 :: .ref y115 :: .int 0 :: .ref y116 :: .int 0 :: .int 0 :: .ref y117 :: .ref y118 :: .ref y119 :: []))), (hx, .inr (10, [.ref z1, .ref z3, .ref z5, .ref z22, .ref z39, .ref z56, .ref z60, .ref z61, .ref z62, .ref z66, .ref z68, .ref z69, .ref z70, .null, .ref z75, .ref z79])), (z1, .inr (5, [.ref z2, .int 0, .int 0, .int 0]))] H locs) => ?_)
  have hu := hu.symm
  subst hu
  refine lv_aload_n X.x X.b dL_law_279 rfl (lv_at hl 2 rfl) ?_
  refine lv_aload_n X.x X.b dL_law_280 rfl (lv_at hl 4 rfl) ?_
  refine lv_iload X.x X.b dL_law_281 (lv_at hl 0 rfl) ?_
  refine lv_iconst (v := 1) X.x X.b dL_law_283 (by decide +kernel) ?_
  refine lv_iadd X.x X.b dL_law_284 ?_
  refine g_top (v' := 1) (by decide +kernel) ?_
  refine va_sld X.x X.b hX hbl hbA hG.2.2 (i := 1) (g_in (by decide +kernel)) dL_law_285 ?_
  refine g_top (v' := xs 1) rfl ?_
  refine g_ki (g_rV (As := [.int (xs 1)]) (rest := [.int 0]) X hl hG (k15_end l D cT hm y85 y86 y87 y88 y89 y90 y91 y92 y93 y94 y95 y96 y97 y98 y99 y100 y101 y102 y103 y104 y105 y106 y107 y108 y109 y110 y111 y112 y113 y114 y115 y116 y117 y118 y119 (xs 1) (by omega)) gw_L_40 g_E01 g_E02 [0] rfl rfl 0 rfl rfl rfl rfl rfl (Nat.le_of_ble_eq_true rfl) ⟨(Nat.le_of_ble_eq_true rfl), (Nat.le_of_ble_eq_true rfl)⟩ ⟨(Nat.le_of_ble_eq_true rfl), (Nat.le_of_ble_eq_true rfl)⟩ dL_law_286) hG hA [0] [1, 2] rfl rfl rfl rfl (c1 := 137) (s1 := 21604) rfl rfl (fun r_2 u_2 H locs (hu : r_2 = 0) (hG : gG D A s.heap [(hx, .inr (10, [.ref z1, .ref z3, .ref z5, .ref z22, .ref z39, .ref z56, .ref z60, .ref z61, .ref z62, .ref z66, .ref z68, .ref z69, .ref z70, .null, .ref z75, .ref z79])), (z1, .inr (5, [.ref z2, .int 0, .int 0, .int 0])), (hm, .inr (11, (.ref y85 :: .int 0 :: .ref y86 :: .ref y87 :: .ref y88 :: .ref y89 :: .ref y90 :: .int 0 :: .ref y91 :: .ref y92 :: .int 0 :: .ref y93 :: .ref y94 :: .ref y95 :: .int 0 :: .int (-1) :: .int 0 :: .ref y96 :: .int 0 :: .ref y97 :: .int 0 :: .int 0 :: .null :: .int 0 :: .int 0 :: .int 0 :: .int 0 :: .ref y98 :: .ref y99 :: .ref y100 :: .ref y101 :: .int 0 :: .null :: .int 0 :: .int 0 :: .int 0 :: .ref y102 :: .int 0 :: .int (-1) :: .int 0 :: .ref y103 :: .int 0 :: .ref y104 :: .ref y105 :: .int 0 :: .ref y106 :: .ref y107 :: .ref y108 :: .ref y109 :: .int 0 :: .int 0 :: .int 0 :: .ref y110 :: .int 0 :: .int 0 :: .ref y111 :: .ref y112 :: .ref y113 :: .ref y114 :: .int 0 :: .ref y115 :: .int 0 :: .ref y116 :: .int 0 :: .int 0 :: .ref y117 :: .ref y118 :: .ref y119 :: [])))] H locs) => ?_)
  have hu := hu.symm
  subst hu
  refine b_icmp_eq_t (tgt := 1767) X.x X.b dL_law_289 (by decide) (by decide +kernel) ?_
  refine W.widen (k := 138) (n := 21610) (Nat.le_of_ble_eq_true rfl) (Nat.le_of_ble_eq_true rfl) ?_
  exact hT _ _ _ hG.2.2 (lv_sub hl [0, 1, 2, 3, 4] rfl)
set_option maxHeartbeats 4000000 in
set_option maxRecDepth 100000 in
theorem w5_town {p : Program} {l : Launch} {e : Env} {s : State} {m : MethodId} {below : List Frame} {meth : Method} {c : Code} {b : Nat} {xs : Nat → Int32} {D : va_G} {cT : Nat → ClassId} {A : Nat → Prop} {Q : State → Prop} (X : gX p m c code 7 s #[Value.ref b] "StorksLetLaw" D cT) (hX : va_X b 5 xs s s.heap) (hbl : b < s.heap.size) (hbA : ¬ A b) (hA : ∀ q, s.heap.size ≤ q → A q) (hx hm z1 z3 z5 z22 z39 z56 z60 z61 z62 z66 z68 z69 z70 z75 z79 z6 z7 z8 z9 z10 z11 z12 z13 z14 z15 z16 z17 z80 z18 z40 z41 z42 z43 z44 z45 z46 z47 z48 z49 z50 z51 z52 z81 z19 z20 z21 z53 z54 z55 z2 y85 y86 y87 y88 y89 y90 y91 y92 y93 y94 y95 y96 y97 y98 y99 y100 y101 y102 y103 y104 y105 y106 y107 y108 y109 y110 y111 y112 y113 y114 y115 y116 y117 y118 y119 ho : Nat) (hT : ∀ (H : Heap) (locs : List Loc) (ls : Array Slot), va_S A s.heap H locs → lv_has ls 7 [(4, .int 0), (3, .ref ho), (2, .ref hm), (1, .ref hx), (0, .ref b)] → W p l e room_1 s m #[Value.ref b] below meth c H locs 138 21610 Q (F0 m 1767 ls [])) {H : Heap} {locs : List Loc} {ls : Array Slot} (hG : gG D A s.heap [(hx, .inr (10, [.ref z1, .ref z3, .ref z5, .ref z22, .ref z39, .ref z56, .ref z60, .ref z61, .ref z62, .ref z66, .ref z68, .ref z69, .ref z70, .null, .ref z75, .ref z79])), (z5, .inr (7, [.int 0, .int 0, .int 0, .int 0, .ref z6, .ref z7, .ref z8, .ref z9, .ref z10, .ref z11, .ref z12, .ref z13, .ref z14, .ref z15, .ref z16, .ref z17, .ref z80, .int 0, .ref z18])), (z39, .inr (7, [.int 0, .int 0, .int 0, .int 0, .ref z40, .ref z41, .ref z42, .ref z43, .ref z44, .ref z45, .ref z46, .ref z47, .ref z48, .ref z49, .ref z50, .ref z51, .null, .int 0, .ref z52])), (z40, .inl (cT 0, 30, .inl (fun _ => 0))), (z6, .inl (cT 0, 30, .inl (fun _ => 0))), (z41, .inl (cT 0, 6, .inl (fun _ => 0))), (z7, .inl (cT 0, 6, .inl (fun _ => 0))), (z42, .inl (cT 0, 6, .inl (fun _ => 0))), (z8, .inl (cT 0, 6, .inl (fun _ => 0))), (z43, .inl (cT 0, 6, .inl (fun _ => 0))), (z9, .inl (cT 0, 6, .inl (fun _ => 0))), (z44, .inl (cT 0, 6, .inl (fun _ => 0))), (z10, .inl (cT 0, 6, .inl (fun _ => 0))), (z46, .inl (cT 0, 8, .inl (fun _ => 0))), (z12, .inl (cT 0, 8, .inl (fun _ => 0))), (z47, .inl (cT 0, 8, .inl (fun _ => 0))), (z13, .inl (cT 0, 8, .inl (fun _ => 0))), (z48, .inl (cT 0, 8, .inl (fun _ => 0))), (z14, .inl (cT 0, 8, .inl (fun _ => 0))), (z49, .inl (cT 0, 8, .inl (fun _ => 0))), (z15, .inl (cT 0, 8, .inl (fun _ => 0))), (z50, .inl (cT 0, 32, .inl (fun _ => 0))), (z16, .inl (cT 0, 32, .inl (fun _ => 0))), (z18, .inr (9, [.ref z81, .ref z19, .ref z20, .ref z21, .int 0, .int 0])), (z52, .inr (9, [.null, .ref z53, .ref z54, .ref z55, .int 0, .int 0])), (z1, .inr (5, [.ref z2, .int 0, .int 0, .int 0])), (hm, .inr (11, (.ref y85 :: .int 0 :: .ref y86 :: .ref y87 :: .ref y88 :: .ref y89 :: .ref y90 :: .int 0 :: .ref y91 :: .ref y92 :: .int 0 :: .ref y93 :: .ref y94 :: .ref y95 :: .int 0 :: .int (-1) :: .int 0 :: .ref y96 :: .int 0 :: .ref y97 :: .int 0 :: .int 0 :: .null :: .int 0 :: .int 0 :: .int 0 :: .int 0 :: .ref y98 :: .ref y99 :: .ref y100 :: .ref y101 :: .int 0 :: .null :: .int 0 :: .int 0 :: .int 0 :: .ref y102 :: .int 0 :: .int (-1) :: .int 0 :: .ref y103 :: .int 0 :: .ref y104 :: .ref y105 :: .int 0 :: .ref y106 :: .ref y107 :: .ref y108 :: .ref y109 :: .int 0 :: .int 0 :: .int 0 :: .ref y110 :: .int 0 :: .int 0 :: .ref y111 :: .ref y112 :: .ref y113 :: .ref y114 :: .int 0 :: .ref y115 :: .int 0 :: .ref y116 :: .int 0 :: .int 0 :: .ref y117 :: .ref y118 :: .ref y119 :: [])))] H locs) (hl : lv_has ls 7 [(4, .int 0), (3, .ref ho), (2, .ref hm), (1, .ref hx), (0, .ref b)]) : W p l e room_1 s m #[Value.ref b] below meth c H locs 137 21604 Q (F0 m 294 ls []) := by
  refine lv_aload_n X.x X.b dL_law_294 rfl (lv_at hl 3 rfl) ?_
  refine g_ki (g_rV (As := []) (rest := []) X hl hG (k21_town l D cT hx z5 z39 z40 z6 z41 z7 z42 z8 z43 z9 z44 z10 z46 z12 z47 z13 z48 z14 z49 z15 z50 z16 z18 z52 z1 z3 z22 z56 z60 z61 z62 z66 z68 z69 z70 z75 z79 z11 z17 z80 z45 z51 z81 z19 z20 z21 z53 z54 z55 z2 (fun _ => 0) (fun _ => 0) (fun _ => 0) (fun _ => 0) (fun _ => 0) (fun _ => 0) (fun _ => 0) (fun _ => 0) (fun _ => 0) (fun _ => 0) (fun _ => 0) (fun _ => 0) (fun _ => 0) (fun _ => 0) (fun _ => 0) (fun _ => 0) (fun _ => 0) (fun _ => 0) (fun _ => 0) (fun _ => 0)) gw_L_41 g_E01 g_E02 [0, 1, 2, 3, 4, 5, 6, 7, 8, 9, 10, 11, 12, 13, 14, 15, 16, 17, 18, 19, 20, 21, 22, 23, 24, 25] rfl rfl 0 rfl rfl rfl rfl rfl (Nat.le_of_ble_eq_true rfl) ⟨(Nat.le_of_ble_eq_true rfl), (Nat.le_of_ble_eq_true rfl)⟩ ⟨(Nat.le_of_ble_eq_true rfl), (Nat.le_of_ble_eq_true rfl)⟩ dL_law_295) hG hA [0, 1, 2, 3, 4, 5, 6, 7, 8, 9, 10, 11, 12, 13, 14, 15, 16, 17, 18, 19, 20, 21, 22, 23, 24, 25] [26] rfl rfl rfl rfl (c1 := 137) (s1 := 21604) rfl rfl (fun r_1 u_1 H locs (hu : r_1 = 0) (hG : gG D A s.heap [(hm, .inr (11, (.ref y85 :: .int 0 :: .ref y86 :: .ref y87 :: .ref y88 :: .ref y89 :: .ref y90 :: .int 0 :: .ref y91 :: .ref y92 :: .int 0 :: .ref y93 :: .ref y94 :: .ref y95 :: .int 0 :: .int (-1) :: .int 0 :: .ref y96 :: .int 0 :: .ref y97 :: .int 0 :: .int 0 :: .null :: .int 0 :: .int 0 :: .int 0 :: .int 0 :: .ref y98 :: .ref y99 :: .ref y100 :: .ref y101 :: .int 0 :: .null :: .int 0 :: .int 0 :: .int 0 :: .ref y102 :: .int 0 :: .int (-1) :: .int 0 :: .ref y103 :: .int 0 :: .ref y104 :: .ref y105 :: .int 0 :: .ref y106 :: .ref y107 :: .ref y108 :: .ref y109 :: .int 0 :: .int 0 :: .int 0 :: .ref y110 :: .int 0 :: .int 0 :: .ref y111 :: .ref y112 :: .ref y113 :: .ref y114 :: .int 0 :: .ref y115 :: .int 0 :: .ref y116 :: .int 0 :: .int 0 :: .ref y117 :: .ref y118 :: .ref y119 :: []))), (hx, .inr (10, [.ref z1, .ref z3, .ref z5, .ref z22, .ref z39, .ref z56, .ref z60, .ref z61, .ref z62, .ref z66, .ref z68, .ref z69, .ref z70, .null, .ref z75, .ref z79])), (z5, .inr (7, [.int 0, .int 0, .int 0, .int 0, .ref z6, .ref z7, .ref z8, .ref z9, .ref z10, .ref z11, .ref z12, .ref z13, .ref z14, .ref z15, .ref z16, .ref z17, .ref z80, .int 0, .ref z18])), (z39, .inr (7, [.int 0, .int 0, .int 0, .int 0, .ref z40, .ref z41, .ref z42, .ref z43, .ref z44, .ref z45, .ref z46, .ref z47, .ref z48, .ref z49, .ref z50, .ref z51, .ref z80, .int 0, .ref z52])), (z40, .inl (cT 0, 30, .inl (u_1.2.1 0))), (z6, .inl (cT 0, 30, .inl (fun _ => 0))), (z41, .inl (cT 0, 6, .inl (u_1.2.1 1))), (z7, .inl (cT 0, 6, .inl (fun _ => 0))), (z42, .inl (cT 0, 6, .inl (u_1.2.1 2))), (z8, .inl (cT 0, 6, .inl (fun _ => 0))), (z43, .inl (cT 0, 6, .inl (u_1.2.1 3))), (z9, .inl (cT 0, 6, .inl (fun _ => 0))), (z44, .inl (cT 0, 6, .inl (u_1.2.1 4))), (z10, .inl (cT 0, 6, .inl (fun _ => 0))), (z46, .inl (cT 0, 8, .inl (u_1.2.1 5))), (z12, .inl (cT 0, 8, .inl (fun _ => 0))), (z47, .inl (cT 0, 8, .inl (u_1.2.1 6))), (z13, .inl (cT 0, 8, .inl (fun _ => 0))), (z48, .inl (cT 0, 8, .inl (u_1.2.1 7))), (z14, .inl (cT 0, 8, .inl (fun _ => 0))), (z49, .inl (cT 0, 8, .inl (u_1.2.1 8))), (z15, .inl (cT 0, 8, .inl (fun _ => 0))), (z50, .inl (cT 0, 32, .inl (u_1.2.1 9))), (z16, .inl (cT 0, 32, .inl (fun _ => 0))), (z18, .inr (9, [.ref z81, .ref z19, .ref z20, .ref z21, .int 0, .int 0])), (z52, .inr (9, [.ref z81, .ref z53, .ref z54, .ref z55, .int 0, .int 0])), (z1, .inr (5, [.ref z2, .int 0, .int 0, .int 0]))] H locs) => ?_)
  have hu := hu.symm
  subst hu
  refine lv_aload_n X.x X.b dL_law_298 rfl (lv_at hl 2 rfl) ?_
  refine g_ki (g_rV (As := []) (rest := [.int 0]) X hl hG (k23_town l D cT hm y85 y86 y87 y88 y89 y90 y91 y92 y93 y94 y95 y96 y97 y98 y99 y100 y101 y102 y103 y104 y105 y106 y107 y108 y109 y110 y111 y112 y113 y114 y115 y116 y117 y118 y119) gw_L_45 g_E01 g_E02 [0] rfl rfl 0 rfl rfl rfl rfl rfl (Nat.le_of_ble_eq_true rfl) ⟨(Nat.le_of_ble_eq_true rfl), (Nat.le_of_ble_eq_true rfl)⟩ ⟨(Nat.le_of_ble_eq_true rfl), (Nat.le_of_ble_eq_true rfl)⟩ dL_law_299) hG hA [0] [1, 2, 3, 4, 5, 6, 7, 8, 9, 10, 11, 12, 13, 14, 15, 16, 17, 18, 19, 20, 21, 22, 23, 24, 25, 26] rfl rfl rfl rfl (c1 := 137) (s1 := 21604) rfl rfl (fun r_2 u_2 H locs (hu : r_2 = 0) (hG : gG D A s.heap [(hx, .inr (10, [.ref z1, .ref z3, .ref z5, .ref z22, .ref z39, .ref z56, .ref z60, .ref z61, .ref z62, .ref z66, .ref z68, .ref z69, .ref z70, .null, .ref z75, .ref z79])), (z5, .inr (7, [.int 0, .int 0, .int 0, .int 0, .ref z6, .ref z7, .ref z8, .ref z9, .ref z10, .ref z11, .ref z12, .ref z13, .ref z14, .ref z15, .ref z16, .ref z17, .ref z80, .int 0, .ref z18])), (z39, .inr (7, [.int 0, .int 0, .int 0, .int 0, .ref z40, .ref z41, .ref z42, .ref z43, .ref z44, .ref z45, .ref z46, .ref z47, .ref z48, .ref z49, .ref z50, .ref z51, .ref z80, .int 0, .ref z52])), (z40, .inl (cT 0, 30, .inl (u_1.2.1 0))), (z6, .inl (cT 0, 30, .inl (fun _ => 0))), (z41, .inl (cT 0, 6, .inl (u_1.2.1 1))), (z7, .inl (cT 0, 6, .inl (fun _ => 0))), (z42, .inl (cT 0, 6, .inl (u_1.2.1 2))), (z8, .inl (cT 0, 6, .inl (fun _ => 0))), (z43, .inl (cT 0, 6, .inl (u_1.2.1 3))), (z9, .inl (cT 0, 6, .inl (fun _ => 0))), (z44, .inl (cT 0, 6, .inl (u_1.2.1 4))), (z10, .inl (cT 0, 6, .inl (fun _ => 0))), (z46, .inl (cT 0, 8, .inl (u_1.2.1 5))), (z12, .inl (cT 0, 8, .inl (fun _ => 0))), (z47, .inl (cT 0, 8, .inl (u_1.2.1 6))), (z13, .inl (cT 0, 8, .inl (fun _ => 0))), (z48, .inl (cT 0, 8, .inl (u_1.2.1 7))), (z14, .inl (cT 0, 8, .inl (fun _ => 0))), (z49, .inl (cT 0, 8, .inl (u_1.2.1 8))), (z15, .inl (cT 0, 8, .inl (fun _ => 0))), (z50, .inl (cT 0, 32, .inl (u_1.2.1 9))), (z16, .inl (cT 0, 32, .inl (fun _ => 0))), (z18, .inr (9, [.ref z81, .ref z19, .ref z20, .ref z21, .int 0, .int 0])), (z52, .inr (9, [.ref z81, .ref z53, .ref z54, .ref z55, .int 0, .int 0])), (z1, .inr (5, [.ref z2, .int 0, .int 0, .int 0])), (hm, .inr (11, (.ref y85 :: .int 0 :: .ref y86 :: .ref y87 :: .ref y88 :: .ref y89 :: .ref y90 :: .int 0 :: .ref y91 :: .ref y92 :: .int 0 :: .ref y93 :: .ref y94 :: .ref y95 :: .int 0 :: .int (-1) :: .int 0 :: .ref y96 :: .int 0 :: .ref y97 :: .int 0 :: .int 0 :: .ref y96 :: .int 0 :: .int 76 :: .int 0 :: .int (-1) :: .ref y98 :: .ref y99 :: .ref y100 :: .ref y101 :: .int 0 :: .null :: .int 0 :: .int 0 :: .int 0 :: .ref y102 :: .int 0 :: .int (-1) :: .int 0 :: .ref y103 :: .int 0 :: .ref y104 :: .ref y105 :: .int 0 :: .ref y106 :: .ref y107 :: .ref y108 :: .ref y109 :: .int 0 :: .int 0 :: .int 0 :: .ref y110 :: .int 0 :: .int 0 :: .ref y111 :: .ref y112 :: .ref y113 :: .ref y114 :: .int 0 :: .ref y115 :: .int 0 :: .ref y116 :: .int 0 :: .int 0 :: .ref y117 :: .ref y118 :: .ref y119 :: [])))] H locs) => ?_)
  have hu := hu.symm
  subst hu
  refine b_icmp_eq_t (tgt := 1767) X.x X.b dL_law_302 (by decide) (by decide +kernel) ?_
  refine W.widen (k := 138) (n := 21610) (Nat.le_of_ble_eq_true rfl) (Nat.le_of_ble_eq_true rfl) ?_
  exact hT _ _ _ hG.2.2 (lv_sub hl [0, 1, 2, 3, 4] rfl)
set_option maxHeartbeats 4000000 in
set_option maxRecDepth 100000 in
theorem w6_rule {p : Program} {l : Launch} {e : Env} {s : State} {m : MethodId} {below : List Frame} {meth : Method} {c : Code} {b : Nat} {xs : Nat → Int32} {D : va_G} {cT : Nat → ClassId} {A : Nat → Prop} {Q : State → Prop} (X : gX p m c code 7 s #[Value.ref b] "StorksLetLaw" D cT) (hX : va_X b 5 xs s s.heap) (hbl : b < s.heap.size) (hbA : ¬ A b) (hA : ∀ q, s.heap.size ≤ q → A q) (hx hm z1 z3 z5 z22 z39 z56 z60 z61 z62 z66 z68 z69 z70 z75 z79 z57 z58 z59 z2 z6 z7 z8 z9 z10 z11 z12 z13 z14 z15 z16 z17 z80 z18 z81 z19 z20 z21 y85 y86 y87 y88 y89 y90 y91 y92 y93 y94 y95 y96 y97 y98 y99 y100 y101 y102 y103 y104 y105 y106 y107 y108 y109 y110 y111 y112 y113 y114 y115 y116 y117 y118 y119 ho : Nat) (hT : ∀ (H : Heap) (locs : List Loc) (ls : Array Slot), va_S A s.heap H locs → lv_has ls 7 [(4, .int 0), (3, .ref ho), (2, .ref hm), (1, .ref hx), (0, .ref b)] → W p l e room_1 s m #[Value.ref b] below meth c H locs 138 21610 Q (F0 m 1767 ls [])) {H : Heap} {locs : List Loc} {ls : Array Slot} (hG : gG D A s.heap [(hx, .inr (10, [.ref z1, .ref z3, .ref z5, .ref z22, .ref z39, .ref z56, .ref z60, .ref z61, .ref z62, .ref z66, .ref z68, .ref z69, .ref z70, .null, .ref z75, .ref z79])), (z56, .inr (2, [.ref z57, .ref z58, .ref z59, .int 0, .int 0, .int 0, .int 0, .int 0, .int 1, .int 0, .int 0])), (z1, .inr (5, [.ref z2, .int 0, .int 0, .int 0])), (z5, .inr (7, [.int 0, .int 0, .int 0, .int 0, .ref z6, .ref z7, .ref z8, .ref z9, .ref z10, .ref z11, .ref z12, .ref z13, .ref z14, .ref z15, .ref z16, .ref z17, .ref z80, .int 0, .ref z18])), (z18, .inr (9, [.ref z81, .ref z19, .ref z20, .ref z21, .int 0, .int 0])), (hm, .inr (11, (.ref y85 :: .int 0 :: .ref y86 :: .ref y87 :: .ref y88 :: .ref y89 :: .ref y90 :: .int 0 :: .ref y91 :: .ref y92 :: .int 0 :: .ref y93 :: .ref y94 :: .ref y95 :: .int 0 :: .int (-1) :: .int 0 :: .ref y96 :: .int 0 :: .ref y97 :: .int 0 :: .int 0 :: .null :: .int 0 :: .int 0 :: .int 0 :: .int 0 :: .ref y98 :: .ref y99 :: .ref y100 :: .ref y101 :: .int 0 :: .null :: .int 0 :: .int 0 :: .int 0 :: .ref y102 :: .int 0 :: .int (-1) :: .int 0 :: .ref y103 :: .int 0 :: .ref y104 :: .ref y105 :: .int 0 :: .ref y106 :: .ref y107 :: .ref y108 :: .ref y109 :: .int 0 :: .int 0 :: .int 0 :: .ref y110 :: .int 0 :: .int 0 :: .ref y111 :: .ref y112 :: .ref y113 :: .ref y114 :: .int 0 :: .ref y115 :: .int 0 :: .ref y116 :: .int 0 :: .int 0 :: .ref y117 :: .ref y118 :: .ref y119 :: [])))] H locs) (hl : lv_has ls 7 [(4, .int 0), (3, .ref ho), (2, .ref hm), (1, .ref hx), (0, .ref b)]) : W p l e room_1 s m #[Value.ref b] below meth c H locs 137 21604 Q (F0 m 307 ls []) := by
  refine lv_aload_n X.x X.b dL_law_307 rfl (lv_at hl 3 rfl) ?_
  refine g_ki (g_rV (As := []) (rest := []) X hl hG (k28_rule l D cT hx z56 z1 z5 z18 z3 z22 z39 z60 z61 z62 z66 z68 z69 z70 z75 z79 z57 z58 z59 z2 z6 z7 z8 z9 z10 z11 z12 z13 z14 z15 z16 z17 z80 z81 z19 z20 z21) gw_L_46 g_E01 g_E02 [0, 1, 2, 3, 4] rfl rfl 0 rfl rfl rfl rfl rfl (Nat.le_of_ble_eq_true rfl) ⟨(Nat.le_of_ble_eq_true rfl), (Nat.le_of_ble_eq_true rfl)⟩ ⟨(Nat.le_of_ble_eq_true rfl), (Nat.le_of_ble_eq_true rfl)⟩ dL_law_308) hG hA [0, 1, 2, 3, 4] [5] rfl rfl rfl rfl (c1 := 137) (s1 := 21604) rfl rfl (fun r_1 u_1 H locs (hu : r_1 = 0) (hG : gG D A s.heap [(hm, .inr (11, (.ref y85 :: .int 0 :: .ref y86 :: .ref y87 :: .ref y88 :: .ref y89 :: .ref y90 :: .int 0 :: .ref y91 :: .ref y92 :: .int 0 :: .ref y93 :: .ref y94 :: .ref y95 :: .int 0 :: .int (-1) :: .int 0 :: .ref y96 :: .int 0 :: .ref y97 :: .int 0 :: .int 0 :: .null :: .int 0 :: .int 0 :: .int 0 :: .int 0 :: .ref y98 :: .ref y99 :: .ref y100 :: .ref y101 :: .int 0 :: .null :: .int 0 :: .int 0 :: .int 0 :: .ref y102 :: .int 0 :: .int (-1) :: .int 0 :: .ref y103 :: .int 0 :: .ref y104 :: .ref y105 :: .int 0 :: .ref y106 :: .ref y107 :: .ref y108 :: .ref y109 :: .int 0 :: .int 0 :: .int 0 :: .ref y110 :: .int 0 :: .int 0 :: .ref y111 :: .ref y112 :: .ref y113 :: .ref y114 :: .int 0 :: .ref y115 :: .int 0 :: .ref y116 :: .int 0 :: .int 0 :: .ref y117 :: .ref y118 :: .ref y119 :: []))), (hx, .inr (10, [.ref z1, .ref z3, .ref z5, .ref z22, .ref z39, .ref z81, .ref z60, .ref z61, .ref z62, .ref z66, .ref z68, .ref z69, .ref z70, .null, .ref z75, .ref z79])), (z56, .inr (2, [.ref z57, .ref z58, .ref z59, .int 0, .int 0, .int 0, .int 0, .int 0, .int 1, .int 0, .int 0])), (z1, .inr (5, [.ref z2, .int 0, .int 0, .int 0])), (z5, .inr (7, [.int 0, .int 0, .int 0, .int 0, .ref z6, .ref z7, .ref z8, .ref z9, .ref z10, .ref z11, .ref z12, .ref z13, .ref z14, .ref z15, .ref z16, .ref z17, .ref z80, .int 0, .ref z18])), (z18, .inr (9, [.ref z56, .ref z19, .ref z20, .ref z21, .int 0, .int 0]))] H locs) => ?_)
  have hu := hu.symm
  subst hu
  refine lv_aload_n X.x X.b dL_law_311 rfl (lv_at hl 2 rfl) ?_
  refine g_ki (g_rV (As := []) (rest := [.int 0]) X hl hG (k30_rule l D cT hm y85 y86 y87 y88 y89 y90 y91 y92 y93 y94 y95 y96 y97 y98 y99 y100 y101 y102 y103 y104 y105 y106 y107 y108 y109 y110 y111 y112 y113 y114 y115 y116 y117 y118 y119) gw_L_49 g_E01 g_E02 [0] rfl rfl 0 rfl rfl rfl rfl rfl (Nat.le_of_ble_eq_true rfl) ⟨(Nat.le_of_ble_eq_true rfl), (Nat.le_of_ble_eq_true rfl)⟩ ⟨(Nat.le_of_ble_eq_true rfl), (Nat.le_of_ble_eq_true rfl)⟩ dL_law_312) hG hA [0] [1, 2, 3, 4, 5] rfl rfl rfl rfl (c1 := 137) (s1 := 21604) rfl rfl (fun r_2 u_2 H locs (hu : r_2 = 0) (hG : gG D A s.heap [(hx, .inr (10, [.ref z1, .ref z3, .ref z5, .ref z22, .ref z39, .ref z81, .ref z60, .ref z61, .ref z62, .ref z66, .ref z68, .ref z69, .ref z70, .null, .ref z75, .ref z79])), (z56, .inr (2, [.ref z57, .ref z58, .ref z59, .int 0, .int 0, .int 0, .int 0, .int 0, .int 1, .int 0, .int 0])), (z1, .inr (5, [.ref z2, .int 0, .int 0, .int 0])), (z5, .inr (7, [.int 0, .int 0, .int 0, .int 0, .ref z6, .ref z7, .ref z8, .ref z9, .ref z10, .ref z11, .ref z12, .ref z13, .ref z14, .ref z15, .ref z16, .ref z17, .ref z80, .int 0, .ref z18])), (z18, .inr (9, [.ref z56, .ref z19, .ref z20, .ref z21, .int 0, .int 0])), (hm, .inr (11, (.ref y85 :: .int 0 :: .ref y86 :: .ref y87 :: .ref y88 :: .ref y89 :: .ref y90 :: .int 0 :: .ref y91 :: .ref y92 :: .int 0 :: .ref y93 :: .ref y94 :: .ref y95 :: .int 0 :: .int (-1) :: .int 0 :: .ref y96 :: .int 0 :: .ref y97 :: .int 0 :: .int 0 :: .ref y96 :: .int 0 :: .int 40 :: .int 0 :: .int (-1) :: .ref y98 :: .ref y99 :: .ref y100 :: .ref y101 :: .int 0 :: .null :: .int 0 :: .int 0 :: .int 0 :: .ref y102 :: .int 0 :: .int (-1) :: .int 0 :: .ref y103 :: .int 0 :: .ref y104 :: .ref y105 :: .int 0 :: .ref y106 :: .ref y107 :: .ref y108 :: .ref y109 :: .int 0 :: .int 0 :: .int 0 :: .ref y110 :: .int 0 :: .int 0 :: .ref y111 :: .ref y112 :: .ref y113 :: .ref y114 :: .int 0 :: .ref y115 :: .int 0 :: .ref y116 :: .int 0 :: .int 0 :: .ref y117 :: .ref y118 :: .ref y119 :: [])))] H locs) => ?_)
  have hu := hu.symm
  subst hu
  refine b_icmp_eq_t (tgt := 1767) X.x X.b dL_law_315 (by decide) (by decide +kernel) ?_
  refine W.widen (k := 138) (n := 21610) (Nat.le_of_ble_eq_true rfl) (Nat.le_of_ble_eq_true rfl) ?_
  exact hT _ _ _ hG.2.2 (lv_sub hl [0, 1, 2, 3, 4] rfl)
set_option maxHeartbeats 4000000 in
set_option maxRecDepth 100000 in
theorem w7_frost {p : Program} {l : Launch} {e : Env} {s : State} {m : MethodId} {below : List Frame} {meth : Method} {c : Code} {b : Nat} {xs : Nat → Int32} {D : va_G} {cT : Nat → ClassId} {A : Nat → Prop} {Q : State → Prop} (X : gX p m c code 7 s #[Value.ref b] "StorksLetLaw" D cT) (hX : va_X b 5 xs s s.heap) (hbl : b < s.heap.size) (hbA : ¬ A b) (hA : ∀ q, s.heap.size ≤ q → A q) (hx hm z1 z3 z5 z22 z39 z56 z60 z61 z62 z66 z68 z69 z70 z75 z79 z2 z6 z7 z8 z9 z10 z11 z12 z13 z14 z15 z16 z17 z80 z18 y85 y86 y87 y88 y89 y90 y91 y92 y93 y94 y95 y96 y97 y98 y99 y100 y101 y102 y103 y104 y105 y106 y107 y108 y109 y110 y111 y112 y113 y114 y115 y116 y117 y118 y119 ho : Nat) (hT : ∀ (H : Heap) (locs : List Loc) (ls : Array Slot), va_S A s.heap H locs → lv_has ls 7 [(4, .int 0), (3, .ref ho), (2, .ref hm), (1, .ref hx), (0, .ref b)] → W p l e room_1 s m #[Value.ref b] below meth c H locs 138 21610 Q (F0 m 1767 ls [])) {H : Heap} {locs : List Loc} {ls : Array Slot} (hG : gG D A s.heap [(hx, .inr (10, [.ref z1, .ref z3, .ref z5, .ref z22, .ref z39, .ref z56, .ref z60, .ref z61, .ref z62, .ref z66, .ref z68, .ref z69, .ref z70, .null, .ref z75, .ref z79])), (z1, .inr (5, [.ref z2, .int 0, .int 0, .int 0])), (z5, .inr (7, [.int 0, .int 0, .int 0, .int 0, .ref z6, .ref z7, .ref z8, .ref z9, .ref z10, .ref z11, .ref z12, .ref z13, .ref z14, .ref z15, .ref z16, .ref z17, .ref z80, .int 0, .ref z18])), (z60, .inl (cT 0, 40, .inl (fun _ => 0))), (z80, .inl (cT 0, 40, .inl (fun _ => 0))), (hm, .inr (11, (.ref y85 :: .int 0 :: .ref y86 :: .ref y87 :: .ref y88 :: .ref y89 :: .ref y90 :: .int 0 :: .ref y91 :: .ref y92 :: .int 0 :: .ref y93 :: .ref y94 :: .ref y95 :: .int 0 :: .int (-1) :: .int 0 :: .ref y96 :: .int 0 :: .ref y97 :: .int 0 :: .int 0 :: .null :: .int 0 :: .int 0 :: .int 0 :: .int 0 :: .ref y98 :: .ref y99 :: .ref y100 :: .ref y101 :: .int 0 :: .null :: .int 0 :: .int 0 :: .int 0 :: .ref y102 :: .int 0 :: .int (-1) :: .int 0 :: .ref y103 :: .int 0 :: .ref y104 :: .ref y105 :: .int 0 :: .ref y106 :: .ref y107 :: .ref y108 :: .ref y109 :: .int 0 :: .int 0 :: .int 0 :: .ref y110 :: .int 0 :: .int 0 :: .ref y111 :: .ref y112 :: .ref y113 :: .ref y114 :: .int 0 :: .ref y115 :: .int 0 :: .ref y116 :: .int 0 :: .int 0 :: .ref y117 :: .ref y118 :: .ref y119 :: [])))] H locs) (hl : lv_has ls 7 [(4, .int 0), (3, .ref ho), (2, .ref hm), (1, .ref hx), (0, .ref b)]) : W p l e room_1 s m #[Value.ref b] below meth c H locs 137 21604 Q (F0 m 320 ls []) := by
  refine lv_aload_n X.x X.b dL_law_320 rfl (lv_at hl 3 rfl) ?_
  refine g_ki (g_rV (As := []) (rest := []) X hl hG (k33_frost l D cT hx z1 z5 z60 z80 z3 z22 z39 z56 z61 z62 z66 z68 z69 z70 z75 z79 z2 z6 z7 z8 z9 z10 z11 z12 z13 z14 z15 z16 z17 z18 (fun _ => 0) (fun _ => 0)) gw_L_50 g_E01 g_E02 [0, 1, 2, 3, 4] rfl rfl 0 rfl rfl rfl rfl rfl (Nat.le_of_ble_eq_true rfl) ⟨(Nat.le_of_ble_eq_true rfl), (Nat.le_of_ble_eq_true rfl)⟩ ⟨(Nat.le_of_ble_eq_true rfl), (Nat.le_of_ble_eq_true rfl)⟩ dL_law_321) hG hA [0, 1, 2, 3, 4] [5] rfl rfl rfl rfl (c1 := 137) (s1 := 21604) rfl rfl (fun r_1 u_1 H locs (hu : r_1 = 0) (hG : gG D A s.heap [(hm, .inr (11, (.ref y85 :: .int 0 :: .ref y86 :: .ref y87 :: .ref y88 :: .ref y89 :: .ref y90 :: .int 0 :: .ref y91 :: .ref y92 :: .int 0 :: .ref y93 :: .ref y94 :: .ref y95 :: .int 0 :: .int (-1) :: .int 0 :: .ref y96 :: .int 0 :: .ref y97 :: .int 0 :: .int 0 :: .null :: .int 0 :: .int 0 :: .int 0 :: .int 0 :: .ref y98 :: .ref y99 :: .ref y100 :: .ref y101 :: .int 0 :: .null :: .int 0 :: .int 0 :: .int 0 :: .ref y102 :: .int 0 :: .int (-1) :: .int 0 :: .ref y103 :: .int 0 :: .ref y104 :: .ref y105 :: .int 0 :: .ref y106 :: .ref y107 :: .ref y108 :: .ref y109 :: .int 0 :: .int 0 :: .int 0 :: .ref y110 :: .int 0 :: .int 0 :: .ref y111 :: .ref y112 :: .ref y113 :: .ref y114 :: .int 0 :: .ref y115 :: .int 0 :: .ref y116 :: .int 0 :: .int 0 :: .ref y117 :: .ref y118 :: .ref y119 :: []))), (hx, .inr (10, [.ref z1, .ref z3, .ref z5, .ref z22, .ref z39, .ref z56, .ref z60, .ref z61, .ref z62, .ref z66, .ref z68, .ref z69, .ref z70, .null, .ref z75, .ref z79])), (z1, .inr (5, [.ref z2, .int 0, .int 0, .int 0])), (z5, .inr (7, [.int 0, .int 0, .int 0, .int 0, .ref z6, .ref z7, .ref z8, .ref z9, .ref z10, .ref z11, .ref z12, .ref z13, .ref z14, .ref z15, .ref z16, .ref z17, .ref z80, .int 0, .ref z18])), (z60, .inl (cT 0, 40, .inl (fun _ => 0))), (z80, .inl (cT 0, 40, .inl (u_1.2.1 0)))] H locs) => ?_)
  have hu := hu.symm
  subst hu
  refine lv_aload_n X.x X.b dL_law_324 rfl (lv_at hl 2 rfl) ?_
  refine g_ki (g_rV (As := []) (rest := [.int 0]) X hl hG (k34_frost l D cT hm y85 y86 y87 y88 y89 y90 y91 y92 y93 y94 y95 y96 y97 y98 y99 y100 y101 y102 y103 y104 y105 y106 y107 y108 y109 y110 y111 y112 y113 y114 y115 y116 y117 y118 y119) gw_L_53 g_E01 g_E02 [0] rfl rfl 0 rfl rfl rfl rfl rfl (Nat.le_of_ble_eq_true rfl) ⟨(Nat.le_of_ble_eq_true rfl), (Nat.le_of_ble_eq_true rfl)⟩ ⟨(Nat.le_of_ble_eq_true rfl), (Nat.le_of_ble_eq_true rfl)⟩ dL_law_325) hG hA [0] [1, 2, 3, 4, 5] rfl rfl rfl rfl (c1 := 137) (s1 := 21604) rfl rfl (fun r_2 u_2 H locs (hu : r_2 = 0) (hG : gG D A s.heap [(hx, .inr (10, [.ref z1, .ref z3, .ref z5, .ref z22, .ref z39, .ref z56, .ref z60, .ref z61, .ref z62, .ref z66, .ref z68, .ref z69, .ref z70, .null, .ref z75, .ref z79])), (z1, .inr (5, [.ref z2, .int 0, .int 0, .int 0])), (z5, .inr (7, [.int 0, .int 0, .int 0, .int 0, .ref z6, .ref z7, .ref z8, .ref z9, .ref z10, .ref z11, .ref z12, .ref z13, .ref z14, .ref z15, .ref z16, .ref z17, .ref z80, .int 0, .ref z18])), (z60, .inl (cT 0, 40, .inl (fun _ => 0))), (z80, .inl (cT 0, 40, .inl (u_1.2.1 0))), (hm, .inr (11, (.ref y85 :: .int 0 :: .ref y86 :: .ref y87 :: .ref y88 :: .ref y89 :: .ref y90 :: .int 0 :: .ref y91 :: .ref y92 :: .int 0 :: .ref y93 :: .ref y94 :: .ref y95 :: .int 0 :: .int (-1) :: .int 0 :: .ref y96 :: .int 0 :: .ref y97 :: .int 0 :: .int 0 :: .null :: .int 0 :: .int 0 :: .int 0 :: .int 0 :: .ref y98 :: .ref y99 :: .ref y100 :: .ref y101 :: .int 0 :: .null :: .int 0 :: .int 0 :: .int 0 :: .ref y102 :: .int 0 :: .int (-1) :: .int 0 :: .ref y103 :: .int 0 :: .ref y104 :: .ref y105 :: .int 0 :: .ref y106 :: .ref y107 :: .ref y108 :: .ref y109 :: .int 0 :: .int 0 :: .int 0 :: .ref y110 :: .int 0 :: .int 0 :: .ref y111 :: .ref y112 :: .ref y113 :: .ref y114 :: .int 0 :: .ref y115 :: .int 0 :: .ref y116 :: .int 0 :: .int 0 :: .ref y117 :: .ref y118 :: .ref y119 :: [])))] H locs) => ?_)
  have hu := hu.symm
  subst hu
  refine b_icmp_eq_t (tgt := 1767) X.x X.b dL_law_328 (by decide) (by decide +kernel) ?_
  refine W.widen (k := 138) (n := 21610) (Nat.le_of_ble_eq_true rfl) (Nat.le_of_ble_eq_true rfl) ?_
  exact hT _ _ _ hG.2.2 (lv_sub hl [0, 1, 2, 3, 4] rfl)
set_option maxHeartbeats 4000000 in
set_option maxRecDepth 100000 in
theorem w8_roof {p : Program} {l : Launch} {e : Env} {s : State} {m : MethodId} {below : List Frame} {meth : Method} {c : Code} {b : Nat} {xs : Nat → Int32} {D : va_G} {cT : Nat → ClassId} {A : Nat → Prop} {Q : State → Prop} (X : gX p m c code 7 s #[Value.ref b] "StorksLetLaw" D cT) (hX : va_X b 5 xs s s.heap) (hbl : b < s.heap.size) (hbA : ¬ A b) (hA : ∀ q, s.heap.size ≤ q → A q) (hfl : l.stackTraces = false) (hE : gEX A s) (hx hm z1 z3 z5 z22 z39 z56 z60 z61 z62 z66 z68 z69 z70 z75 z79 z6 z7 z8 z9 z10 z11 z12 z13 z14 z15 z16 z17 z80 z18 y85 y86 y87 y88 y89 y90 y91 y92 y93 y94 y95 y96 y97 y98 y99 y100 y101 y102 y103 y104 y105 y106 y107 y108 y109 y110 y111 y112 y113 y114 y115 y116 y117 y118 y119 ho : Nat) (hT : ∀ (H : Heap) (locs : List Loc) (ls : Array Slot), va_S A s.heap H locs → lv_has ls 7 [(4, .int 0), (3, .ref ho), (2, .ref hm), (1, .ref hx), (0, .ref b)] → W p l e room_1 s m #[Value.ref b] below meth c H locs 138 21610 Q (F0 m 1767 ls [])) {H : Heap} {locs : List Loc} {ls : Array Slot} (hG : gG D A s.heap [(hx, .inr (10, [.ref z1, .ref z3, .ref z5, .ref z22, .ref z39, .ref z56, .ref z60, .ref z61, .ref z62, .ref z66, .ref z68, .ref z69, .ref z70, .null, .ref z75, .ref z79])), (z5, .inr (7, [.int 0, .int 0, .int 0, .int 0, .ref z6, .ref z7, .ref z8, .ref z9, .ref z10, .ref z11, .ref z12, .ref z13, .ref z14, .ref z15, .ref z16, .ref z17, .ref z80, .int 0, .ref z18])), (hm, .inr (11, (.ref y85 :: .int 0 :: .ref y86 :: .ref y87 :: .ref y88 :: .ref y89 :: .ref y90 :: .int 0 :: .ref y91 :: .ref y92 :: .int 0 :: .ref y93 :: .ref y94 :: .ref y95 :: .int 0 :: .int (-1) :: .int 0 :: .ref y96 :: .int 0 :: .ref y97 :: .int 0 :: .int 0 :: .null :: .int 0 :: .int 0 :: .int 0 :: .int 0 :: .ref y98 :: .ref y99 :: .ref y100 :: .ref y101 :: .int 0 :: .null :: .int 0 :: .int 0 :: .int 0 :: .ref y102 :: .int 0 :: .int (-1) :: .int 0 :: .ref y103 :: .int 0 :: .ref y104 :: .ref y105 :: .int 0 :: .ref y106 :: .ref y107 :: .ref y108 :: .ref y109 :: .int 0 :: .int 0 :: .int 0 :: .ref y110 :: .int 0 :: .int 0 :: .ref y111 :: .ref y112 :: .ref y113 :: .ref y114 :: .int 0 :: .ref y115 :: .int 0 :: .ref y116 :: .int 0 :: .int 0 :: .ref y117 :: .ref y118 :: .ref y119 :: [])))] H locs) (hl : lv_has ls 7 [(4, .int 0), (3, .ref ho), (2, .ref hm), (1, .ref hx), (0, .ref b)]) : W p l e room_1 s m #[Value.ref b] below meth c H locs 137 21604 Q (F0 m 333 ls []) := by
  refine lv_aload_n X.x X.b dL_law_333 rfl (lv_at hl 3 rfl) ?_
  refine lv_aload_n X.x X.b dL_law_334 rfl (lv_at hl 4 rfl) ?_
  refine lv_iload X.x X.b dL_law_335 (lv_at hl 0 rfl) ?_
  refine lv_iconst (v := 1) X.x X.b dL_law_337 (by decide +kernel) ?_
  refine lv_iadd X.x X.b dL_law_338 ?_
  refine g_top (v' := 1) (by decide +kernel) ?_
  refine va_sld X.x X.b hX hbl hbA hG.2.2 (i := 1) (g_in (by decide +kernel)) dL_law_339 ?_
  refine g_top (v' := xs 1) rfl ?_
  refine lv_aload_n X.x X.b dL_law_340 rfl (lv_at hl 4 rfl) ?_
  refine lv_iload X.x X.b dL_law_341 (lv_at hl 0 rfl) ?_
  refine lv_iconst (v := 2) X.x X.b dL_law_343 (by decide +kernel) ?_
  refine lv_iadd X.x X.b dL_law_344 ?_
  refine g_top (v' := 2) (by decide +kernel) ?_
  refine va_sld X.x X.b hX hbl hbA hG.2.2 (i := 2) (g_in (by decide +kernel)) dL_law_345 ?_
  refine g_top (v' := xs 2) rfl ?_
  refine lv_aload_n X.x X.b dL_law_346 rfl (lv_at hl 1 rfl) ?_
  refine g_ki (g_rSW (n := 4) (As := [.ref hx, .int (xs 1), .int (xs 2), .ref ho]) (rest := []) X hl hG hA hE (tL_roof l hfl D cT hx z5 z1 z3 z22 z39 z56 z60 z61 z62 z66 z68 z69 z70 z75 z79 z6 z7 z8 z9 z10 z11 z12 z13 z14 z15 z16 z17 z80 z18 ho (xs 1) (xs 2)) m_1311 m_1312 m_65 m_1313 (by decide +kernel) [0, 1] rfl rfl rfl rfl (Nat.le_of_ble_eq_true rfl) ⟨(Nat.le_of_ble_eq_true rfl), (Nat.le_of_ble_eq_true rfl)⟩ ⟨(Nat.le_of_ble_eq_true rfl), (Nat.le_of_ble_eq_true rfl)⟩ dL_law_347) hG hA [0, 1] [2] rfl rfl rfl rfl (c1 := 138) (s1 := 21610) rfl rfl (fun r_h u_h H locs (hu : r_h = 1) (hG : gG D A s.heap [(hm, .inr (11, (.ref y85 :: .int 0 :: .ref y86 :: .ref y87 :: .ref y88 :: .ref y89 :: .ref y90 :: .int 0 :: .ref y91 :: .ref y92 :: .int 0 :: .ref y93 :: .ref y94 :: .ref y95 :: .int 0 :: .int (-1) :: .int 0 :: .ref y96 :: .int 0 :: .ref y97 :: .int 0 :: .int 0 :: .null :: .int 0 :: .int 0 :: .int 0 :: .int 0 :: .ref y98 :: .ref y99 :: .ref y100 :: .ref y101 :: .int 0 :: .null :: .int 0 :: .int 0 :: .int 0 :: .ref y102 :: .int 0 :: .int (-1) :: .int 0 :: .ref y103 :: .int 0 :: .ref y104 :: .ref y105 :: .int 0 :: .ref y106 :: .ref y107 :: .ref y108 :: .ref y109 :: .int 0 :: .int 0 :: .int 0 :: .ref y110 :: .int 0 :: .int 0 :: .ref y111 :: .ref y112 :: .ref y113 :: .ref y114 :: .int 0 :: .ref y115 :: .int 0 :: .ref y116 :: .int 0 :: .int 0 :: .ref y117 :: .ref y118 :: .ref y119 :: [])))] H locs) => ?_)
  have hu := hu.symm
  subst hu
  refine lv_istore (lv' := [(5, .int 1), (4, .int 0), (3, .ref ho), (2, .ref hm), (1, .ref hx), (0, .ref b)]) X.x X.b dL_law_350 hl (Nat.le_of_ble_eq_true rfl) rfl (fun ls hl => ?_)
  refine lv_aload_n X.x X.b dL_law_352 rfl (lv_at hl 3 rfl) ?_
  refine lv_aload_n X.x X.b dL_law_353 rfl (lv_at hl 5 rfl) ?_
  refine lv_iload X.x X.b dL_law_354 (lv_at hl 1 rfl) ?_
  refine lv_iconst (v := 1) X.x X.b dL_law_356 (by decide +kernel) ?_
  refine lv_iadd X.x X.b dL_law_357 ?_
  refine g_top (v' := 1) (by decide +kernel) ?_
  refine va_sld X.x X.b hX hbl hbA hG.2.2 (i := 1) (g_in (by decide +kernel)) dL_law_358 ?_
  refine g_top (v' := xs 1) rfl ?_
  refine lv_aload_n X.x X.b dL_law_359 rfl (lv_at hl 5 rfl) ?_
  refine lv_iload X.x X.b dL_law_360 (lv_at hl 1 rfl) ?_
  refine lv_iconst (v := 2) X.x X.b dL_law_362 (by decide +kernel) ?_
  refine lv_iadd X.x X.b dL_law_363 ?_
  refine g_top (v' := 2) (by decide +kernel) ?_
  refine va_sld X.x X.b hX hbl hbA hG.2.2 (i := 2) (g_in (by decide +kernel)) dL_law_364 ?_
  refine g_top (v' := xs 2) rfl ?_
  refine g_ki (g_rV (As := [.int (xs 1), .int (xs 2)]) (rest := []) X hl hG (k421_roof l D cT hm y85 y86 y87 y88 y89 y90 y91 y92 y93 y94 y95 y96 y97 y98 y99 y100 y101 y102 y103 y104 y105 y106 y107 y108 y109 y110 y111 y112 y113 y114 y115 y116 y117 y118 y119 (xs 1) (xs 2)) gw_L_59 g_E01 g_E02 [0] rfl rfl 0 rfl rfl rfl rfl rfl (Nat.le_of_ble_eq_true rfl) ⟨(Nat.le_of_ble_eq_true rfl), (Nat.le_of_ble_eq_true rfl)⟩ ⟨(Nat.le_of_ble_eq_true rfl), (Nat.le_of_ble_eq_true rfl)⟩ dL_law_365) hG hA [0] [] rfl rfl rfl rfl (c1 := 138) (s1 := 21610) rfl rfl (fun r_1 u_1 H locs (hu : r_1 = 0) (hG : gG D A s.heap [(hm, .inr (11, (.ref y85 :: .int 0 :: .ref y86 :: .ref y87 :: .ref y88 :: .ref y89 :: .ref y90 :: .int 0 :: .ref y91 :: .ref y92 :: .int 0 :: .ref y93 :: .ref y94 :: .ref y95 :: .int 0 :: .int (-1) :: .int 0 :: .ref y96 :: .int 0 :: .ref y97 :: .int 0 :: .int 1 :: .null :: .int 0 :: .int 0 :: .int 0 :: .int 0 :: .ref y98 :: .ref y99 :: .ref y100 :: .ref y101 :: .int 0 :: .null :: .int 0 :: .int 0 :: .int 0 :: .ref y102 :: .int 0 :: .int (-1) :: .int 0 :: .ref y103 :: .int 0 :: .ref y104 :: .ref y105 :: .int 0 :: .ref y106 :: .ref y107 :: .ref y108 :: .ref y109 :: .int 0 :: .int 0 :: .int 0 :: .ref y110 :: .int 0 :: .int 0 :: .ref y111 :: .ref y112 :: .ref y113 :: .ref y114 :: .int 0 :: .ref y115 :: .int 0 :: .ref y116 :: .int 0 :: .int 0 :: .ref y117 :: .ref y118 :: .ref y119 :: [])))] H locs) => ?_)
  have hu := hu.symm
  subst hu
  refine lv_istore (lv' := [(6, .int 0), (5, .int 1), (4, .int 0), (3, .ref ho), (2, .ref hm), (1, .ref hx), (0, .ref b)]) X.x X.b dL_law_368 hl (Nat.le_of_ble_eq_true rfl) rfl (fun ls hl => ?_)
  refine lv_aload_n X.x X.b dL_law_370 rfl (lv_at hl 4 rfl) ?_
  refine g_ki (g_rV (As := []) (rest := []) X hl hG (k422_thrown l D cT hm y85 y86 y87 y88 y89 y90 y91 y92 y93 y94 y95 y96 y97 y98 y99 y100 y101 y102 y103 y104 y105 y106 y107 y108 y109 y110 y111 y112 y113 y114 y115 y116 y117 y118 y119) gw_L_60 g_E01 g_E02 [0] rfl rfl 0 rfl rfl rfl rfl rfl (Nat.le_of_ble_eq_true rfl) ⟨(Nat.le_of_ble_eq_true rfl), (Nat.le_of_ble_eq_true rfl)⟩ ⟨(Nat.le_of_ble_eq_true rfl), (Nat.le_of_ble_eq_true rfl)⟩ dL_law_371) hG hA [0] [] rfl rfl rfl rfl (c1 := 138) (s1 := 21610) rfl rfl (fun r_2 u_2 H locs (hu : r_2 = 1) (hG : gG D A s.heap [(hm, .inr (11, (.ref y85 :: .int 0 :: .ref y86 :: .ref y87 :: .ref y88 :: .ref y89 :: .ref y90 :: .int 0 :: .ref y91 :: .ref y92 :: .int 0 :: .ref y93 :: .ref y94 :: .ref y95 :: .int 0 :: .int (-1) :: .int 0 :: .ref y96 :: .int 0 :: .ref y97 :: .int 0 :: .int 1 :: .null :: .int 0 :: .int 0 :: .int 0 :: .int 0 :: .ref y98 :: .ref y99 :: .ref y100 :: .ref y101 :: .int 0 :: .null :: .int 0 :: .int 0 :: .int 0 :: .ref y102 :: .int 0 :: .int (-1) :: .int 0 :: .ref y103 :: .int 0 :: .ref y104 :: .ref y105 :: .int 0 :: .ref y106 :: .ref y107 :: .ref y108 :: .ref y109 :: .int 0 :: .int 0 :: .int 0 :: .ref y110 :: .int 0 :: .int 0 :: .ref y111 :: .ref y112 :: .ref y113 :: .ref y114 :: .int 0 :: .ref y115 :: .int 0 :: .ref y116 :: .int 0 :: .int 0 :: .ref y117 :: .ref y118 :: .ref y119 :: [])))] H locs) => ?_)
  have hu := hu.symm
  subst hu
  refine lv_iload X.x X.b dL_law_374 (lv_at hl 1 rfl) ?_
  refine b_icmp_eq_t (tgt := 381) X.x X.b dL_law_376 (by decide) (by decide +kernel) ?_
  refine lv_iload X.x X.b dL_law_381 (lv_at hl 1 rfl) ?_
  refine b_if_ne_t (tgt := 398) X.x X.b dL_law_383 (by decide) (by decide +kernel) ?_
  refine lv_goto (tgt := 1767) X.x X.b dL_law_398 (by decide) ?_
  refine W.widen (k := 138) (n := 21610) (Nat.le_of_ble_eq_true rfl) (Nat.le_of_ble_eq_true rfl) ?_
  exact hT _ _ _ hG.2.2 (lv_sub hl [2, 3, 4, 5, 6] rfl)
set_option maxHeartbeats 4000000 in
set_option maxRecDepth 100000 in
theorem w9_bird {p : Program} {l : Launch} {e : Env} {s : State} {m : MethodId} {below : List Frame} {meth : Method} {c : Code} {b : Nat} {xs : Nat → Int32} {D : va_G} {cT : Nat → ClassId} {A : Nat → Prop} {Q : State → Prop} (X : gX p m c code 7 s #[Value.ref b] "StorksLetLaw" D cT) (hX : va_X b 5 xs s s.heap) (hbl : b < s.heap.size) (hbA : ¬ A b) (hA : ∀ q, s.heap.size ≤ q → A q) (hfl : l.stackTraces = false) (hE : gEX A s) (hx hm z1 z3 z5 z22 z39 z56 z60 z61 z62 z66 z68 z69 z70 z75 z79 z6 z7 z8 z9 z10 z11 z12 z13 z14 z15 z16 z17 z80 z18 y85 y86 y87 y88 y89 y90 y91 y92 y93 y94 y95 y96 y97 y98 y99 y100 y101 y102 y103 y104 y105 y106 y107 y108 y109 y110 y111 y112 y113 y114 y115 y116 y117 y118 y119 ho : Nat) (hT : ∀ (H : Heap) (locs : List Loc) (ls : Array Slot), va_S A s.heap H locs → lv_has ls 7 [(4, .int 0), (3, .ref ho), (2, .ref hm), (1, .ref hx), (0, .ref b)] → W p l e room_1 s m #[Value.ref b] below meth c H locs 138 21610 Q (F0 m 1767 ls [])) {H : Heap} {locs : List Loc} {ls : Array Slot} (hG : gG D A s.heap [(hx, .inr (10, [.ref z1, .ref z3, .ref z5, .ref z22, .ref z39, .ref z56, .ref z60, .ref z61, .ref z62, .ref z66, .ref z68, .ref z69, .ref z70, .null, .ref z75, .ref z79])), (z5, .inr (7, [.int 0, .int 0, .int 0, .int 0, .ref z6, .ref z7, .ref z8, .ref z9, .ref z10, .ref z11, .ref z12, .ref z13, .ref z14, .ref z15, .ref z16, .ref z17, .ref z80, .int 0, .ref z18])), (hm, .inr (11, (.ref y85 :: .int 0 :: .ref y86 :: .ref y87 :: .ref y88 :: .ref y89 :: .ref y90 :: .int 0 :: .ref y91 :: .ref y92 :: .int 0 :: .ref y93 :: .ref y94 :: .ref y95 :: .int 0 :: .int (-1) :: .int 0 :: .ref y96 :: .int 0 :: .ref y97 :: .int 0 :: .int 0 :: .null :: .int 0 :: .int 0 :: .int 0 :: .int 0 :: .ref y98 :: .ref y99 :: .ref y100 :: .ref y101 :: .int 0 :: .null :: .int 0 :: .int 0 :: .int 0 :: .ref y102 :: .int 0 :: .int (-1) :: .int 0 :: .ref y103 :: .int 0 :: .ref y104 :: .ref y105 :: .int 0 :: .ref y106 :: .ref y107 :: .ref y108 :: .ref y109 :: .int 0 :: .int 0 :: .int 0 :: .ref y110 :: .int 0 :: .int 0 :: .ref y111 :: .ref y112 :: .ref y113 :: .ref y114 :: .int 0 :: .ref y115 :: .int 0 :: .ref y116 :: .int 0 :: .int 0 :: .ref y117 :: .ref y118 :: .ref y119 :: [])))] H locs) (hl : lv_has ls 7 [(4, .int 0), (3, .ref ho), (2, .ref hm), (1, .ref hx), (0, .ref b)]) : W p l e room_1 s m #[Value.ref b] below meth c H locs 137 21604 Q (F0 m 401 ls []) := by
  refine lv_aload_n X.x X.b dL_law_401 rfl (lv_at hl 3 rfl) ?_
  refine lv_aload_n X.x X.b dL_law_402 rfl (lv_at hl 4 rfl) ?_
  refine lv_iload X.x X.b dL_law_403 (lv_at hl 0 rfl) ?_
  refine lv_iconst (v := 1) X.x X.b dL_law_405 (by decide +kernel) ?_
  refine lv_iadd X.x X.b dL_law_406 ?_
  refine g_top (v' := 1) (by decide +kernel) ?_
  refine va_sld X.x X.b hX hbl hbA hG.2.2 (i := 1) (g_in (by decide +kernel)) dL_law_407 ?_
  refine g_top (v' := xs 1) rfl ?_
  refine lv_aload_n X.x X.b dL_law_408 rfl (lv_at hl 4 rfl) ?_
  refine lv_iload X.x X.b dL_law_409 (lv_at hl 0 rfl) ?_
  refine lv_iconst (v := 2) X.x X.b dL_law_411 (by decide +kernel) ?_
  refine lv_iadd X.x X.b dL_law_412 ?_
  refine g_top (v' := 2) (by decide +kernel) ?_
  refine va_sld X.x X.b hX hbl hbA hG.2.2 (i := 2) (g_in (by decide +kernel)) dL_law_413 ?_
  refine g_top (v' := xs 2) rfl ?_
  refine lv_aload_n X.x X.b dL_law_414 rfl (lv_at hl 1 rfl) ?_
  refine g_ki (g_rSW (n := 4) (As := [.ref hx, .int (xs 1), .int (xs 2), .ref ho]) (rest := []) X hl hG hA hE (tL_bird l hfl D cT hx z5 z1 z3 z22 z39 z56 z60 z61 z62 z66 z68 z69 z70 z75 z79 z6 z7 z8 z9 z10 z11 z12 z13 z14 z15 z16 z17 z80 z18 ho (xs 1) (xs 2)) m_1386 m_1387 m_65 m_1388 (by decide +kernel) [0, 1] rfl rfl rfl rfl (Nat.le_of_ble_eq_true rfl) ⟨(Nat.le_of_ble_eq_true rfl), (Nat.le_of_ble_eq_true rfl)⟩ ⟨(Nat.le_of_ble_eq_true rfl), (Nat.le_of_ble_eq_true rfl)⟩ dL_law_415) hG hA [0, 1] [2] rfl rfl rfl rfl (c1 := 138) (s1 := 21610) rfl rfl (fun r_h u_h H locs (hu : r_h = 1) (hG : gG D A s.heap [(hm, .inr (11, (.ref y85 :: .int 0 :: .ref y86 :: .ref y87 :: .ref y88 :: .ref y89 :: .ref y90 :: .int 0 :: .ref y91 :: .ref y92 :: .int 0 :: .ref y93 :: .ref y94 :: .ref y95 :: .int 0 :: .int (-1) :: .int 0 :: .ref y96 :: .int 0 :: .ref y97 :: .int 0 :: .int 0 :: .null :: .int 0 :: .int 0 :: .int 0 :: .int 0 :: .ref y98 :: .ref y99 :: .ref y100 :: .ref y101 :: .int 0 :: .null :: .int 0 :: .int 0 :: .int 0 :: .ref y102 :: .int 0 :: .int (-1) :: .int 0 :: .ref y103 :: .int 0 :: .ref y104 :: .ref y105 :: .int 0 :: .ref y106 :: .ref y107 :: .ref y108 :: .ref y109 :: .int 0 :: .int 0 :: .int 0 :: .ref y110 :: .int 0 :: .int 0 :: .ref y111 :: .ref y112 :: .ref y113 :: .ref y114 :: .int 0 :: .ref y115 :: .int 0 :: .ref y116 :: .int 0 :: .int 0 :: .ref y117 :: .ref y118 :: .ref y119 :: [])))] H locs) => ?_)
  have hu := hu.symm
  subst hu
  refine lv_istore (lv' := [(5, .int 1), (4, .int 0), (3, .ref ho), (2, .ref hm), (1, .ref hx), (0, .ref b)]) X.x X.b dL_law_418 hl (Nat.le_of_ble_eq_true rfl) rfl (fun ls hl => ?_)
  refine lv_aload_n X.x X.b dL_law_420 rfl (lv_at hl 3 rfl) ?_
  refine lv_aload_n X.x X.b dL_law_421 rfl (lv_at hl 5 rfl) ?_
  refine lv_iload X.x X.b dL_law_422 (lv_at hl 1 rfl) ?_
  refine lv_iconst (v := 1) X.x X.b dL_law_424 (by decide +kernel) ?_
  refine lv_iadd X.x X.b dL_law_425 ?_
  refine g_top (v' := 1) (by decide +kernel) ?_
  refine va_sld X.x X.b hX hbl hbA hG.2.2 (i := 1) (g_in (by decide +kernel)) dL_law_426 ?_
  refine g_top (v' := xs 1) rfl ?_
  refine lv_aload_n X.x X.b dL_law_427 rfl (lv_at hl 5 rfl) ?_
  refine lv_iload X.x X.b dL_law_428 (lv_at hl 1 rfl) ?_
  refine lv_iconst (v := 2) X.x X.b dL_law_430 (by decide +kernel) ?_
  refine lv_iadd X.x X.b dL_law_431 ?_
  refine g_top (v' := 2) (by decide +kernel) ?_
  refine va_sld X.x X.b hX hbl hbA hG.2.2 (i := 2) (g_in (by decide +kernel)) dL_law_432 ?_
  refine g_top (v' := xs 2) rfl ?_
  refine g_ki (g_rV (As := [.int (xs 1), .int (xs 2)]) (rest := []) X hl hG (k423_bird l D cT hm y85 y86 y87 y88 y89 y90 y91 y92 y93 y94 y95 y96 y97 y98 y99 y100 y101 y102 y103 y104 y105 y106 y107 y108 y109 y110 y111 y112 y113 y114 y115 y116 y117 y118 y119 (xs 1) (xs 2)) gw_L_65 g_E01 g_E02 [0] rfl rfl 0 rfl rfl rfl rfl rfl (Nat.le_of_ble_eq_true rfl) ⟨(Nat.le_of_ble_eq_true rfl), (Nat.le_of_ble_eq_true rfl)⟩ ⟨(Nat.le_of_ble_eq_true rfl), (Nat.le_of_ble_eq_true rfl)⟩ dL_law_433) hG hA [0] [] rfl rfl rfl rfl (c1 := 138) (s1 := 21610) rfl rfl (fun r_1 u_1 H locs (hu : r_1 = 0) (hG : gG D A s.heap [(hm, .inr (11, (.ref y85 :: .int 0 :: .ref y86 :: .ref y87 :: .ref y88 :: .ref y89 :: .ref y90 :: .int 0 :: .ref y91 :: .ref y92 :: .int 0 :: .ref y93 :: .ref y94 :: .ref y95 :: .int 0 :: .int (-1) :: .int 0 :: .ref y96 :: .int 0 :: .ref y97 :: .int 0 :: .int 1 :: .null :: .int 0 :: .int 0 :: .int 0 :: .int 0 :: .ref y98 :: .ref y99 :: .ref y100 :: .ref y101 :: .int 0 :: .null :: .int 0 :: .int 0 :: .int 0 :: .ref y102 :: .int 0 :: .int (-1) :: .int 0 :: .ref y103 :: .int 0 :: .ref y104 :: .ref y105 :: .int 0 :: .ref y106 :: .ref y107 :: .ref y108 :: .ref y109 :: .int 0 :: .int 0 :: .int 0 :: .ref y110 :: .int 0 :: .int 0 :: .ref y111 :: .ref y112 :: .ref y113 :: .ref y114 :: .int 0 :: .ref y115 :: .int 0 :: .ref y116 :: .int 0 :: .int 0 :: .ref y117 :: .ref y118 :: .ref y119 :: [])))] H locs) => ?_)
  have hu := hu.symm
  subst hu
  refine lv_istore (lv' := [(6, .int 0), (5, .int 1), (4, .int 0), (3, .ref ho), (2, .ref hm), (1, .ref hx), (0, .ref b)]) X.x X.b dL_law_436 hl (Nat.le_of_ble_eq_true rfl) rfl (fun ls hl => ?_)
  refine lv_aload_n X.x X.b dL_law_438 rfl (lv_at hl 4 rfl) ?_
  refine g_ki (g_rV (As := []) (rest := []) X hl hG (k422_thrown l D cT hm y85 y86 y87 y88 y89 y90 y91 y92 y93 y94 y95 y96 y97 y98 y99 y100 y101 y102 y103 y104 y105 y106 y107 y108 y109 y110 y111 y112 y113 y114 y115 y116 y117 y118 y119) gw_L_60 g_E01 g_E02 [0] rfl rfl 0 rfl rfl rfl rfl rfl (Nat.le_of_ble_eq_true rfl) ⟨(Nat.le_of_ble_eq_true rfl), (Nat.le_of_ble_eq_true rfl)⟩ ⟨(Nat.le_of_ble_eq_true rfl), (Nat.le_of_ble_eq_true rfl)⟩ dL_law_439) hG hA [0] [] rfl rfl rfl rfl (c1 := 138) (s1 := 21610) rfl rfl (fun r_2 u_2 H locs (hu : r_2 = 1) (hG : gG D A s.heap [(hm, .inr (11, (.ref y85 :: .int 0 :: .ref y86 :: .ref y87 :: .ref y88 :: .ref y89 :: .ref y90 :: .int 0 :: .ref y91 :: .ref y92 :: .int 0 :: .ref y93 :: .ref y94 :: .ref y95 :: .int 0 :: .int (-1) :: .int 0 :: .ref y96 :: .int 0 :: .ref y97 :: .int 0 :: .int 1 :: .null :: .int 0 :: .int 0 :: .int 0 :: .int 0 :: .ref y98 :: .ref y99 :: .ref y100 :: .ref y101 :: .int 0 :: .null :: .int 0 :: .int 0 :: .int 0 :: .ref y102 :: .int 0 :: .int (-1) :: .int 0 :: .ref y103 :: .int 0 :: .ref y104 :: .ref y105 :: .int 0 :: .ref y106 :: .ref y107 :: .ref y108 :: .ref y109 :: .int 0 :: .int 0 :: .int 0 :: .ref y110 :: .int 0 :: .int 0 :: .ref y111 :: .ref y112 :: .ref y113 :: .ref y114 :: .int 0 :: .ref y115 :: .int 0 :: .ref y116 :: .int 0 :: .int 0 :: .ref y117 :: .ref y118 :: .ref y119 :: [])))] H locs) => ?_)
  have hu := hu.symm
  subst hu
  refine lv_iload X.x X.b dL_law_442 (lv_at hl 1 rfl) ?_
  refine b_icmp_eq_t (tgt := 449) X.x X.b dL_law_444 (by decide) (by decide +kernel) ?_
  refine lv_iload X.x X.b dL_law_449 (lv_at hl 1 rfl) ?_
  refine b_if_ne_t (tgt := 466) X.x X.b dL_law_451 (by decide) (by decide +kernel) ?_
  refine lv_goto (tgt := 1767) X.x X.b dL_law_466 (by decide) ?_
  refine W.widen (k := 138) (n := 21610) (Nat.le_of_ble_eq_true rfl) (Nat.le_of_ble_eq_true rfl) ?_
  exact hT _ _ _ hG.2.2 (lv_sub hl [2, 3, 4, 5, 6] rfl)
set_option maxHeartbeats 4000000 in
set_option maxRecDepth 100000 in
theorem w10_family {p : Program} {l : Launch} {e : Env} {s : State} {m : MethodId} {below : List Frame} {meth : Method} {c : Code} {b : Nat} {xs : Nat → Int32} {D : va_G} {cT : Nat → ClassId} {A : Nat → Prop} {Q : State → Prop} (X : gX p m c code 7 s #[Value.ref b] "StorksLetLaw" D cT) (hX : va_X b 5 xs s s.heap) (hbl : b < s.heap.size) (hbA : ¬ A b) (hA : ∀ q, s.heap.size ≤ q → A q) (hfl : l.stackTraces = false) (hE : gEX A s) (hx hm z1 z3 z5 z22 z39 z56 z60 z61 z62 z66 z68 z69 z70 z75 z79 z6 z7 z8 z9 z10 z11 z12 z13 z14 z15 z16 z17 z80 z18 y85 y86 y87 y88 y89 y90 y91 y92 y93 y94 y95 y96 y97 y98 y99 y100 y101 y102 y103 y104 y105 y106 y107 y108 y109 y110 y111 y112 y113 y114 y115 y116 y117 y118 y119 ho : Nat) (hT : ∀ (H : Heap) (locs : List Loc) (ls : Array Slot), va_S A s.heap H locs → lv_has ls 7 [(4, .int 0), (3, .ref ho), (2, .ref hm), (1, .ref hx), (0, .ref b)] → W p l e room_1 s m #[Value.ref b] below meth c H locs 138 21610 Q (F0 m 1767 ls [])) {H : Heap} {locs : List Loc} {ls : Array Slot} (hG : gG D A s.heap [(hx, .inr (10, [.ref z1, .ref z3, .ref z5, .ref z22, .ref z39, .ref z56, .ref z60, .ref z61, .ref z62, .ref z66, .ref z68, .ref z69, .ref z70, .null, .ref z75, .ref z79])), (z5, .inr (7, [.int 0, .int 0, .int 0, .int 0, .ref z6, .ref z7, .ref z8, .ref z9, .ref z10, .ref z11, .ref z12, .ref z13, .ref z14, .ref z15, .ref z16, .ref z17, .ref z80, .int 0, .ref z18])), (hm, .inr (11, (.ref y85 :: .int 0 :: .ref y86 :: .ref y87 :: .ref y88 :: .ref y89 :: .ref y90 :: .int 0 :: .ref y91 :: .ref y92 :: .int 0 :: .ref y93 :: .ref y94 :: .ref y95 :: .int 0 :: .int (-1) :: .int 0 :: .ref y96 :: .int 0 :: .ref y97 :: .int 0 :: .int 0 :: .null :: .int 0 :: .int 0 :: .int 0 :: .int 0 :: .ref y98 :: .ref y99 :: .ref y100 :: .ref y101 :: .int 0 :: .null :: .int 0 :: .int 0 :: .int 0 :: .ref y102 :: .int 0 :: .int (-1) :: .int 0 :: .ref y103 :: .int 0 :: .ref y104 :: .ref y105 :: .int 0 :: .ref y106 :: .ref y107 :: .ref y108 :: .ref y109 :: .int 0 :: .int 0 :: .int 0 :: .ref y110 :: .int 0 :: .int 0 :: .ref y111 :: .ref y112 :: .ref y113 :: .ref y114 :: .int 0 :: .ref y115 :: .int 0 :: .ref y116 :: .int 0 :: .int 0 :: .ref y117 :: .ref y118 :: .ref y119 :: [])))] H locs) (hl : lv_has ls 7 [(4, .int 0), (3, .ref ho), (2, .ref hm), (1, .ref hx), (0, .ref b)]) : W p l e room_1 s m #[Value.ref b] below meth c H locs 137 21604 Q (F0 m 469 ls []) := by
  refine lv_aload_n X.x X.b dL_law_469 rfl (lv_at hl 3 rfl) ?_
  refine lv_aload_n X.x X.b dL_law_470 rfl (lv_at hl 4 rfl) ?_
  refine lv_iload X.x X.b dL_law_471 (lv_at hl 0 rfl) ?_
  refine lv_iconst (v := 1) X.x X.b dL_law_473 (by decide +kernel) ?_
  refine lv_iadd X.x X.b dL_law_474 ?_
  refine g_top (v' := 1) (by decide +kernel) ?_
  refine va_sld X.x X.b hX hbl hbA hG.2.2 (i := 1) (g_in (by decide +kernel)) dL_law_475 ?_
  refine g_top (v' := xs 1) rfl ?_
  refine lv_aload_n X.x X.b dL_law_476 rfl (lv_at hl 4 rfl) ?_
  refine lv_iload X.x X.b dL_law_477 (lv_at hl 0 rfl) ?_
  refine lv_iconst (v := 2) X.x X.b dL_law_479 (by decide +kernel) ?_
  refine lv_iadd X.x X.b dL_law_480 ?_
  refine g_top (v' := 2) (by decide +kernel) ?_
  refine va_sld X.x X.b hX hbl hbA hG.2.2 (i := 2) (g_in (by decide +kernel)) dL_law_481 ?_
  refine g_top (v' := xs 2) rfl ?_
  refine lv_aload_n X.x X.b dL_law_482 rfl (lv_at hl 1 rfl) ?_
  refine g_ki (g_rSW (n := 4) (As := [.ref hx, .int (xs 1), .int (xs 2), .ref ho]) (rest := []) X hl hG hA hE (tL_family l hfl D cT hx z5 z1 z3 z22 z39 z56 z60 z61 z62 z66 z68 z69 z70 z75 z79 z6 z7 z8 z9 z10 z11 z12 z13 z14 z15 z16 z17 z80 z18 ho (xs 1) (xs 2)) m_1405 m_1406 m_65 m_1407 (by decide +kernel) [0, 1] rfl rfl rfl rfl (Nat.le_of_ble_eq_true rfl) ⟨(Nat.le_of_ble_eq_true rfl), (Nat.le_of_ble_eq_true rfl)⟩ ⟨(Nat.le_of_ble_eq_true rfl), (Nat.le_of_ble_eq_true rfl)⟩ dL_law_483) hG hA [0, 1] [2] rfl rfl rfl rfl (c1 := 138) (s1 := 21610) rfl rfl (fun r_h u_h H locs (hu : r_h = 1) (hG : gG D A s.heap [(hm, .inr (11, (.ref y85 :: .int 0 :: .ref y86 :: .ref y87 :: .ref y88 :: .ref y89 :: .ref y90 :: .int 0 :: .ref y91 :: .ref y92 :: .int 0 :: .ref y93 :: .ref y94 :: .ref y95 :: .int 0 :: .int (-1) :: .int 0 :: .ref y96 :: .int 0 :: .ref y97 :: .int 0 :: .int 0 :: .null :: .int 0 :: .int 0 :: .int 0 :: .int 0 :: .ref y98 :: .ref y99 :: .ref y100 :: .ref y101 :: .int 0 :: .null :: .int 0 :: .int 0 :: .int 0 :: .ref y102 :: .int 0 :: .int (-1) :: .int 0 :: .ref y103 :: .int 0 :: .ref y104 :: .ref y105 :: .int 0 :: .ref y106 :: .ref y107 :: .ref y108 :: .ref y109 :: .int 0 :: .int 0 :: .int 0 :: .ref y110 :: .int 0 :: .int 0 :: .ref y111 :: .ref y112 :: .ref y113 :: .ref y114 :: .int 0 :: .ref y115 :: .int 0 :: .ref y116 :: .int 0 :: .int 0 :: .ref y117 :: .ref y118 :: .ref y119 :: [])))] H locs) => ?_)
  have hu := hu.symm
  subst hu
  refine lv_istore (lv' := [(5, .int 1), (4, .int 0), (3, .ref ho), (2, .ref hm), (1, .ref hx), (0, .ref b)]) X.x X.b dL_law_486 hl (Nat.le_of_ble_eq_true rfl) rfl (fun ls hl => ?_)
  refine lv_aload_n X.x X.b dL_law_488 rfl (lv_at hl 3 rfl) ?_
  refine lv_aload_n X.x X.b dL_law_489 rfl (lv_at hl 5 rfl) ?_
  refine lv_iload X.x X.b dL_law_490 (lv_at hl 1 rfl) ?_
  refine lv_iconst (v := 1) X.x X.b dL_law_492 (by decide +kernel) ?_
  refine lv_iadd X.x X.b dL_law_493 ?_
  refine g_top (v' := 1) (by decide +kernel) ?_
  refine va_sld X.x X.b hX hbl hbA hG.2.2 (i := 1) (g_in (by decide +kernel)) dL_law_494 ?_
  refine g_top (v' := xs 1) rfl ?_
  refine lv_aload_n X.x X.b dL_law_495 rfl (lv_at hl 5 rfl) ?_
  refine lv_iload X.x X.b dL_law_496 (lv_at hl 1 rfl) ?_
  refine lv_iconst (v := 2) X.x X.b dL_law_498 (by decide +kernel) ?_
  refine lv_iadd X.x X.b dL_law_499 ?_
  refine g_top (v' := 2) (by decide +kernel) ?_
  refine va_sld X.x X.b hX hbl hbA hG.2.2 (i := 2) (g_in (by decide +kernel)) dL_law_500 ?_
  refine g_top (v' := xs 2) rfl ?_
  refine g_ki (g_rV (As := [.int (xs 1), .int (xs 2)]) (rest := []) X hl hG (k424_family l D cT hm y85 y86 y87 y88 y89 y90 y91 y92 y93 y94 y95 y96 y97 y98 y99 y100 y101 y102 y103 y104 y105 y106 y107 y108 y109 y110 y111 y112 y113 y114 y115 y116 y117 y118 y119 (xs 1) (xs 2)) gw_L_68 g_E01 g_E02 [0] rfl rfl 0 rfl rfl rfl rfl rfl (Nat.le_of_ble_eq_true rfl) ⟨(Nat.le_of_ble_eq_true rfl), (Nat.le_of_ble_eq_true rfl)⟩ ⟨(Nat.le_of_ble_eq_true rfl), (Nat.le_of_ble_eq_true rfl)⟩ dL_law_501) hG hA [0] [] rfl rfl rfl rfl (c1 := 138) (s1 := 21610) rfl rfl (fun r_1 u_1 H locs (hu : r_1 = 0) (hG : gG D A s.heap [(hm, .inr (11, (.ref y85 :: .int 0 :: .ref y86 :: .ref y87 :: .ref y88 :: .ref y89 :: .ref y90 :: .int 0 :: .ref y91 :: .ref y92 :: .int 0 :: .ref y93 :: .ref y94 :: .ref y95 :: .int 0 :: .int (-1) :: .int 0 :: .ref y96 :: .int 0 :: .ref y97 :: .int 0 :: .int 1 :: .null :: .int 0 :: .int 0 :: .int 0 :: .int 0 :: .ref y98 :: .ref y99 :: .ref y100 :: .ref y101 :: .int 0 :: .null :: .int 0 :: .int 0 :: .int 0 :: .ref y102 :: .int 0 :: .int (-1) :: .int 0 :: .ref y103 :: .int 0 :: .ref y104 :: .ref y105 :: .int 0 :: .ref y106 :: .ref y107 :: .ref y108 :: .ref y109 :: .int 0 :: .int 0 :: .int 0 :: .ref y110 :: .int 0 :: .int 0 :: .ref y111 :: .ref y112 :: .ref y113 :: .ref y114 :: .int 0 :: .ref y115 :: .int 0 :: .ref y116 :: .int 0 :: .int 0 :: .ref y117 :: .ref y118 :: .ref y119 :: [])))] H locs) => ?_)
  have hu := hu.symm
  subst hu
  refine lv_istore (lv' := [(6, .int 0), (5, .int 1), (4, .int 0), (3, .ref ho), (2, .ref hm), (1, .ref hx), (0, .ref b)]) X.x X.b dL_law_504 hl (Nat.le_of_ble_eq_true rfl) rfl (fun ls hl => ?_)
  refine lv_aload_n X.x X.b dL_law_506 rfl (lv_at hl 4 rfl) ?_
  refine g_ki (g_rV (As := []) (rest := []) X hl hG (k422_thrown l D cT hm y85 y86 y87 y88 y89 y90 y91 y92 y93 y94 y95 y96 y97 y98 y99 y100 y101 y102 y103 y104 y105 y106 y107 y108 y109 y110 y111 y112 y113 y114 y115 y116 y117 y118 y119) gw_L_60 g_E01 g_E02 [0] rfl rfl 0 rfl rfl rfl rfl rfl (Nat.le_of_ble_eq_true rfl) ⟨(Nat.le_of_ble_eq_true rfl), (Nat.le_of_ble_eq_true rfl)⟩ ⟨(Nat.le_of_ble_eq_true rfl), (Nat.le_of_ble_eq_true rfl)⟩ dL_law_507) hG hA [0] [] rfl rfl rfl rfl (c1 := 138) (s1 := 21610) rfl rfl (fun r_2 u_2 H locs (hu : r_2 = 1) (hG : gG D A s.heap [(hm, .inr (11, (.ref y85 :: .int 0 :: .ref y86 :: .ref y87 :: .ref y88 :: .ref y89 :: .ref y90 :: .int 0 :: .ref y91 :: .ref y92 :: .int 0 :: .ref y93 :: .ref y94 :: .ref y95 :: .int 0 :: .int (-1) :: .int 0 :: .ref y96 :: .int 0 :: .ref y97 :: .int 0 :: .int 1 :: .null :: .int 0 :: .int 0 :: .int 0 :: .int 0 :: .ref y98 :: .ref y99 :: .ref y100 :: .ref y101 :: .int 0 :: .null :: .int 0 :: .int 0 :: .int 0 :: .ref y102 :: .int 0 :: .int (-1) :: .int 0 :: .ref y103 :: .int 0 :: .ref y104 :: .ref y105 :: .int 0 :: .ref y106 :: .ref y107 :: .ref y108 :: .ref y109 :: .int 0 :: .int 0 :: .int 0 :: .ref y110 :: .int 0 :: .int 0 :: .ref y111 :: .ref y112 :: .ref y113 :: .ref y114 :: .int 0 :: .ref y115 :: .int 0 :: .ref y116 :: .int 0 :: .int 0 :: .ref y117 :: .ref y118 :: .ref y119 :: [])))] H locs) => ?_)
  have hu := hu.symm
  subst hu
  refine lv_iload X.x X.b dL_law_510 (lv_at hl 1 rfl) ?_
  refine b_icmp_eq_t (tgt := 517) X.x X.b dL_law_512 (by decide) (by decide +kernel) ?_
  refine lv_iload X.x X.b dL_law_517 (lv_at hl 1 rfl) ?_
  refine b_if_ne_t (tgt := 534) X.x X.b dL_law_519 (by decide) (by decide +kernel) ?_
  refine lv_goto (tgt := 1767) X.x X.b dL_law_534 (by decide) ?_
  refine W.widen (k := 138) (n := 21610) (Nat.le_of_ble_eq_true rfl) (Nat.le_of_ble_eq_true rfl) ?_
  exact hT _ _ _ hG.2.2 (lv_sub hl [2, 3, 4, 5, 6] rfl)
set_option maxHeartbeats 4000000 in
set_option maxRecDepth 100000 in
theorem w11_worth {p : Program} {l : Launch} {e : Env} {s : State} {m : MethodId} {below : List Frame} {meth : Method} {c : Code} {b : Nat} {xs : Nat → Int32} {D : va_G} {cT : Nat → ClassId} {A : Nat → Prop} {Q : State → Prop} (X : gX p m c code 7 s #[Value.ref b] "StorksLetLaw" D cT) (hX : va_X b 5 xs s s.heap) (hbl : b < s.heap.size) (hbA : ¬ A b) (hA : ∀ q, s.heap.size ≤ q → A q) (hfl : l.stackTraces = false) (hE : gEX A s) (hx hm z1 z3 z5 z22 z39 z56 z60 z61 z62 z66 z68 z69 z70 z75 z79 z6 z7 z8 z9 z10 z11 z12 z13 z14 z15 z16 z17 z80 z18 y85 y86 y87 y88 y89 y90 y91 y92 y93 y94 y95 y96 y97 y98 y99 y100 y101 y102 y103 y104 y105 y106 y107 y108 y109 y110 y111 y112 y113 y114 y115 y116 y117 y118 y119 ho : Nat) (hT : ∀ (H : Heap) (locs : List Loc) (ls : Array Slot), va_S A s.heap H locs → lv_has ls 7 [(4, .int 0), (3, .ref ho), (2, .ref hm), (1, .ref hx), (0, .ref b)] → W p l e room_1 s m #[Value.ref b] below meth c H locs 138 21610 Q (F0 m 1767 ls [])) {H : Heap} {locs : List Loc} {ls : Array Slot} (hG : gG D A s.heap [(hx, .inr (10, [.ref z1, .ref z3, .ref z5, .ref z22, .ref z39, .ref z56, .ref z60, .ref z61, .ref z62, .ref z66, .ref z68, .ref z69, .ref z70, .null, .ref z75, .ref z79])), (z5, .inr (7, [.int 0, .int 0, .int 0, .int 0, .ref z6, .ref z7, .ref z8, .ref z9, .ref z10, .ref z11, .ref z12, .ref z13, .ref z14, .ref z15, .ref z16, .ref z17, .ref z80, .int 0, .ref z18])), (hm, .inr (11, (.ref y85 :: .int 0 :: .ref y86 :: .ref y87 :: .ref y88 :: .ref y89 :: .ref y90 :: .int 0 :: .ref y91 :: .ref y92 :: .int 0 :: .ref y93 :: .ref y94 :: .ref y95 :: .int 0 :: .int (-1) :: .int 0 :: .ref y96 :: .int 0 :: .ref y97 :: .int 0 :: .int 0 :: .null :: .int 0 :: .int 0 :: .int 0 :: .int 0 :: .ref y98 :: .ref y99 :: .ref y100 :: .ref y101 :: .int 0 :: .null :: .int 0 :: .int 0 :: .int 0 :: .ref y102 :: .int 0 :: .int (-1) :: .int 0 :: .ref y103 :: .int 0 :: .ref y104 :: .ref y105 :: .int 0 :: .ref y106 :: .ref y107 :: .ref y108 :: .ref y109 :: .int 0 :: .int 0 :: .int 0 :: .ref y110 :: .int 0 :: .int 0 :: .ref y111 :: .ref y112 :: .ref y113 :: .ref y114 :: .int 0 :: .ref y115 :: .int 0 :: .ref y116 :: .int 0 :: .int 0 :: .ref y117 :: .ref y118 :: .ref y119 :: [])))] H locs) (hl : lv_has ls 7 [(4, .int 0), (3, .ref ho), (2, .ref hm), (1, .ref hx), (0, .ref b)]) : W p l e room_1 s m #[Value.ref b] below meth c H locs 137 21604 Q (F0 m 537 ls []) := by
  refine lv_aload_n X.x X.b dL_law_537 rfl (lv_at hl 3 rfl) ?_
  refine lv_aload_n X.x X.b dL_law_538 rfl (lv_at hl 4 rfl) ?_
  refine lv_iload X.x X.b dL_law_539 (lv_at hl 0 rfl) ?_
  refine lv_iconst (v := 1) X.x X.b dL_law_541 (by decide +kernel) ?_
  refine lv_iadd X.x X.b dL_law_542 ?_
  refine g_top (v' := 1) (by decide +kernel) ?_
  refine va_sld X.x X.b hX hbl hbA hG.2.2 (i := 1) (g_in (by decide +kernel)) dL_law_543 ?_
  refine g_top (v' := xs 1) rfl ?_
  refine lv_aload_n X.x X.b dL_law_544 rfl (lv_at hl 4 rfl) ?_
  refine lv_iload X.x X.b dL_law_545 (lv_at hl 0 rfl) ?_
  refine lv_iconst (v := 2) X.x X.b dL_law_547 (by decide +kernel) ?_
  refine lv_iadd X.x X.b dL_law_548 ?_
  refine g_top (v' := 2) (by decide +kernel) ?_
  refine va_sld X.x X.b hX hbl hbA hG.2.2 (i := 2) (g_in (by decide +kernel)) dL_law_549 ?_
  refine g_top (v' := xs 2) rfl ?_
  refine lv_aload_n X.x X.b dL_law_550 rfl (lv_at hl 1 rfl) ?_
  refine g_ki (g_rSW (n := 4) (As := [.ref hx, .int (xs 1), .int (xs 2), .ref ho]) (rest := []) X hl hG hA hE (tL_worth l hfl D cT hx z5 z1 z3 z22 z39 z56 z60 z61 z62 z66 z68 z69 z70 z75 z79 z6 z7 z8 z9 z10 z11 z12 z13 z14 z15 z16 z17 z80 z18 ho (xs 1) (xs 2)) m_1415 m_1416 m_65 m_1417 (by decide +kernel) [0, 1] rfl rfl rfl rfl (Nat.le_of_ble_eq_true rfl) ⟨(Nat.le_of_ble_eq_true rfl), (Nat.le_of_ble_eq_true rfl)⟩ ⟨(Nat.le_of_ble_eq_true rfl), (Nat.le_of_ble_eq_true rfl)⟩ dL_law_551) hG hA [0, 1] [2] rfl rfl rfl rfl (c1 := 138) (s1 := 21610) rfl rfl (fun r_h u_h H locs (hu : r_h = 1) (hG : gG D A s.heap [(hm, .inr (11, (.ref y85 :: .int 0 :: .ref y86 :: .ref y87 :: .ref y88 :: .ref y89 :: .ref y90 :: .int 0 :: .ref y91 :: .ref y92 :: .int 0 :: .ref y93 :: .ref y94 :: .ref y95 :: .int 0 :: .int (-1) :: .int 0 :: .ref y96 :: .int 0 :: .ref y97 :: .int 0 :: .int 0 :: .null :: .int 0 :: .int 0 :: .int 0 :: .int 0 :: .ref y98 :: .ref y99 :: .ref y100 :: .ref y101 :: .int 0 :: .null :: .int 0 :: .int 0 :: .int 0 :: .ref y102 :: .int 0 :: .int (-1) :: .int 0 :: .ref y103 :: .int 0 :: .ref y104 :: .ref y105 :: .int 0 :: .ref y106 :: .ref y107 :: .ref y108 :: .ref y109 :: .int 0 :: .int 0 :: .int 0 :: .ref y110 :: .int 0 :: .int 0 :: .ref y111 :: .ref y112 :: .ref y113 :: .ref y114 :: .int 0 :: .ref y115 :: .int 0 :: .ref y116 :: .int 0 :: .int 0 :: .ref y117 :: .ref y118 :: .ref y119 :: [])))] H locs) => ?_)
  have hu := hu.symm
  subst hu
  refine lv_istore (lv' := [(5, .int 1), (4, .int 0), (3, .ref ho), (2, .ref hm), (1, .ref hx), (0, .ref b)]) X.x X.b dL_law_554 hl (Nat.le_of_ble_eq_true rfl) rfl (fun ls hl => ?_)
  refine lv_aload_n X.x X.b dL_law_556 rfl (lv_at hl 3 rfl) ?_
  refine lv_aload_n X.x X.b dL_law_557 rfl (lv_at hl 5 rfl) ?_
  refine lv_iload X.x X.b dL_law_558 (lv_at hl 1 rfl) ?_
  refine lv_iconst (v := 1) X.x X.b dL_law_560 (by decide +kernel) ?_
  refine lv_iadd X.x X.b dL_law_561 ?_
  refine g_top (v' := 1) (by decide +kernel) ?_
  refine va_sld X.x X.b hX hbl hbA hG.2.2 (i := 1) (g_in (by decide +kernel)) dL_law_562 ?_
  refine g_top (v' := xs 1) rfl ?_
  refine lv_aload_n X.x X.b dL_law_563 rfl (lv_at hl 5 rfl) ?_
  refine lv_iload X.x X.b dL_law_564 (lv_at hl 1 rfl) ?_
  refine lv_iconst (v := 2) X.x X.b dL_law_566 (by decide +kernel) ?_
  refine lv_iadd X.x X.b dL_law_567 ?_
  refine g_top (v' := 2) (by decide +kernel) ?_
  refine va_sld X.x X.b hX hbl hbA hG.2.2 (i := 2) (g_in (by decide +kernel)) dL_law_568 ?_
  refine g_top (v' := xs 2) rfl ?_
  refine g_ki (g_rV (As := [.int (xs 1), .int (xs 2)]) (rest := []) X hl hG (k425_worth l D cT hm y85 y86 y87 y88 y89 y90 y91 y92 y93 y94 y95 y96 y97 y98 y99 y100 y101 y102 y103 y104 y105 y106 y107 y108 y109 y110 y111 y112 y113 y114 y115 y116 y117 y118 y119 (xs 1) (xs 2)) gw_L_71 g_E01 g_E02 [0] rfl rfl 0 rfl rfl rfl rfl rfl (Nat.le_of_ble_eq_true rfl) ⟨(Nat.le_of_ble_eq_true rfl), (Nat.le_of_ble_eq_true rfl)⟩ ⟨(Nat.le_of_ble_eq_true rfl), (Nat.le_of_ble_eq_true rfl)⟩ dL_law_569) hG hA [0] [] rfl rfl rfl rfl (c1 := 138) (s1 := 21610) rfl rfl (fun r_1 u_1 H locs (hu : r_1 = 0) (hG : gG D A s.heap [(hm, .inr (11, (.ref y85 :: .int 0 :: .ref y86 :: .ref y87 :: .ref y88 :: .ref y89 :: .ref y90 :: .int 0 :: .ref y91 :: .ref y92 :: .int 0 :: .ref y93 :: .ref y94 :: .ref y95 :: .int 0 :: .int (-1) :: .int 0 :: .ref y96 :: .int 0 :: .ref y97 :: .int 0 :: .int 1 :: .null :: .int 0 :: .int 0 :: .int 0 :: .int 0 :: .ref y98 :: .ref y99 :: .ref y100 :: .ref y101 :: .int 0 :: .null :: .int 0 :: .int 0 :: .int 0 :: .ref y102 :: .int 0 :: .int (-1) :: .int 0 :: .ref y103 :: .int 0 :: .ref y104 :: .ref y105 :: .int 0 :: .ref y106 :: .ref y107 :: .ref y108 :: .ref y109 :: .int 0 :: .int 0 :: .int 0 :: .ref y110 :: .int 0 :: .int 0 :: .ref y111 :: .ref y112 :: .ref y113 :: .ref y114 :: .int 0 :: .ref y115 :: .int 0 :: .ref y116 :: .int 0 :: .int 0 :: .ref y117 :: .ref y118 :: .ref y119 :: [])))] H locs) => ?_)
  have hu := hu.symm
  subst hu
  refine lv_istore (lv' := [(6, .int 0), (5, .int 1), (4, .int 0), (3, .ref ho), (2, .ref hm), (1, .ref hx), (0, .ref b)]) X.x X.b dL_law_572 hl (Nat.le_of_ble_eq_true rfl) rfl (fun ls hl => ?_)
  refine lv_aload_n X.x X.b dL_law_574 rfl (lv_at hl 4 rfl) ?_
  refine g_ki (g_rV (As := []) (rest := []) X hl hG (k422_thrown l D cT hm y85 y86 y87 y88 y89 y90 y91 y92 y93 y94 y95 y96 y97 y98 y99 y100 y101 y102 y103 y104 y105 y106 y107 y108 y109 y110 y111 y112 y113 y114 y115 y116 y117 y118 y119) gw_L_60 g_E01 g_E02 [0] rfl rfl 0 rfl rfl rfl rfl rfl (Nat.le_of_ble_eq_true rfl) ⟨(Nat.le_of_ble_eq_true rfl), (Nat.le_of_ble_eq_true rfl)⟩ ⟨(Nat.le_of_ble_eq_true rfl), (Nat.le_of_ble_eq_true rfl)⟩ dL_law_575) hG hA [0] [] rfl rfl rfl rfl (c1 := 138) (s1 := 21610) rfl rfl (fun r_2 u_2 H locs (hu : r_2 = 1) (hG : gG D A s.heap [(hm, .inr (11, (.ref y85 :: .int 0 :: .ref y86 :: .ref y87 :: .ref y88 :: .ref y89 :: .ref y90 :: .int 0 :: .ref y91 :: .ref y92 :: .int 0 :: .ref y93 :: .ref y94 :: .ref y95 :: .int 0 :: .int (-1) :: .int 0 :: .ref y96 :: .int 0 :: .ref y97 :: .int 0 :: .int 1 :: .null :: .int 0 :: .int 0 :: .int 0 :: .int 0 :: .ref y98 :: .ref y99 :: .ref y100 :: .ref y101 :: .int 0 :: .null :: .int 0 :: .int 0 :: .int 0 :: .ref y102 :: .int 0 :: .int (-1) :: .int 0 :: .ref y103 :: .int 0 :: .ref y104 :: .ref y105 :: .int 0 :: .ref y106 :: .ref y107 :: .ref y108 :: .ref y109 :: .int 0 :: .int 0 :: .int 0 :: .ref y110 :: .int 0 :: .int 0 :: .ref y111 :: .ref y112 :: .ref y113 :: .ref y114 :: .int 0 :: .ref y115 :: .int 0 :: .ref y116 :: .int 0 :: .int 0 :: .ref y117 :: .ref y118 :: .ref y119 :: [])))] H locs) => ?_)
  have hu := hu.symm
  subst hu
  refine lv_iload X.x X.b dL_law_578 (lv_at hl 1 rfl) ?_
  refine b_icmp_eq_t (tgt := 585) X.x X.b dL_law_580 (by decide) (by decide +kernel) ?_
  refine lv_iload X.x X.b dL_law_585 (lv_at hl 1 rfl) ?_
  refine b_if_ne_t (tgt := 602) X.x X.b dL_law_587 (by decide) (by decide +kernel) ?_
  refine lv_goto (tgt := 1767) X.x X.b dL_law_602 (by decide) ?_
  refine W.widen (k := 138) (n := 21610) (Nat.le_of_ble_eq_true rfl) (Nat.le_of_ble_eq_true rfl) ?_
  exact hT _ _ _ hG.2.2 (lv_sub hl [2, 3, 4, 5, 6] rfl)
set_option maxHeartbeats 4000000 in
set_option maxRecDepth 100000 in
theorem w12_build {p : Program} {l : Launch} {e : Env} {s : State} {m : MethodId} {below : List Frame} {meth : Method} {c : Code} {b : Nat} {xs : Nat → Int32} {D : va_G} {cT : Nat → ClassId} {A : Nat → Prop} {Q : State → Prop} (X : gX p m c code 7 s #[Value.ref b] "StorksLetLaw" D cT) (hX : va_X b 5 xs s s.heap) (hbl : b < s.heap.size) (hbA : ¬ A b) (hA : ∀ q, s.heap.size ≤ q → A q) (hx hm z1 z3 z5 z22 z39 z56 z60 z61 z62 z66 z68 z69 z70 z75 z79 z6 z7 z8 z9 z10 z11 z12 z13 z14 z15 z16 z17 z80 z18 y85 y86 y87 y88 y89 y90 y91 y92 y93 y94 y95 y96 y97 y98 y99 y100 y101 y102 y103 y104 y105 y106 y107 y108 y109 y110 y111 y112 y113 y114 y115 y116 y117 y118 y119 ho : Nat) (hT : ∀ (H : Heap) (locs : List Loc) (ls : Array Slot), va_S A s.heap H locs → lv_has ls 7 [(4, .int 0), (3, .ref ho), (2, .ref hm), (1, .ref hx), (0, .ref b)] → W p l e room_1 s m #[Value.ref b] below meth c H locs 138 21610 Q (F0 m 1767 ls [])) {H : Heap} {locs : List Loc} {ls : Array Slot} (hG : gG D A s.heap [(hx, .inr (10, [.ref z1, .ref z3, .ref z5, .ref z22, .ref z39, .ref z56, .ref z60, .ref z61, .ref z62, .ref z66, .ref z68, .ref z69, .ref z70, .null, .ref z75, .ref z79])), (z5, .inr (7, [.int 0, .int 0, .int 0, .int 0, .ref z6, .ref z7, .ref z8, .ref z9, .ref z10, .ref z11, .ref z12, .ref z13, .ref z14, .ref z15, .ref z16, .ref z17, .ref z80, .int 0, .ref z18])), (hm, .inr (11, (.ref y85 :: .int 0 :: .ref y86 :: .ref y87 :: .ref y88 :: .ref y89 :: .ref y90 :: .int 0 :: .ref y91 :: .ref y92 :: .int 0 :: .ref y93 :: .ref y94 :: .ref y95 :: .int 0 :: .int (-1) :: .int 0 :: .ref y96 :: .int 0 :: .ref y97 :: .int 0 :: .int 0 :: .null :: .int 0 :: .int 0 :: .int 0 :: .int 0 :: .ref y98 :: .ref y99 :: .ref y100 :: .ref y101 :: .int 0 :: .null :: .int 0 :: .int 0 :: .int 0 :: .ref y102 :: .int 0 :: .int (-1) :: .int 0 :: .ref y103 :: .int 0 :: .ref y104 :: .ref y105 :: .int 0 :: .ref y106 :: .ref y107 :: .ref y108 :: .ref y109 :: .int 0 :: .int 0 :: .int 0 :: .ref y110 :: .int 0 :: .int 0 :: .ref y111 :: .ref y112 :: .ref y113 :: .ref y114 :: .int 0 :: .ref y115 :: .int 0 :: .ref y116 :: .int 0 :: .int 0 :: .ref y117 :: .ref y118 :: .ref y119 :: [])))] H locs) (hl : lv_has ls 7 [(4, .int 0), (3, .ref ho), (2, .ref hm), (1, .ref hx), (0, .ref b)]) : W p l e room_1 s m #[Value.ref b] below meth c H locs 137 21604 Q (F0 m 605 ls []) := by
  refine lv_aload_n X.x X.b dL_law_605 rfl (lv_at hl 3 rfl) ?_
  refine lv_aload_n X.x X.b dL_law_606 rfl (lv_at hl 4 rfl) ?_
  refine lv_iload X.x X.b dL_law_607 (lv_at hl 0 rfl) ?_
  refine lv_iconst (v := 1) X.x X.b dL_law_609 (by decide +kernel) ?_
  refine lv_iadd X.x X.b dL_law_610 ?_
  refine g_top (v' := 1) (by decide +kernel) ?_
  refine va_sld X.x X.b hX hbl hbA hG.2.2 (i := 1) (g_in (by decide +kernel)) dL_law_611 ?_
  refine g_top (v' := xs 1) rfl ?_
  refine lv_aload_n X.x X.b dL_law_612 rfl (lv_at hl 4 rfl) ?_
  refine lv_iload X.x X.b dL_law_613 (lv_at hl 0 rfl) ?_
  refine lv_iconst (v := 2) X.x X.b dL_law_615 (by decide +kernel) ?_
  refine lv_iadd X.x X.b dL_law_616 ?_
  refine g_top (v' := 2) (by decide +kernel) ?_
  refine va_sld X.x X.b hX hbl hbA hG.2.2 (i := 2) (g_in (by decide +kernel)) dL_law_617 ?_
  refine g_top (v' := xs 2) rfl ?_
  refine lv_aload_n X.x X.b dL_law_618 rfl (lv_at hl 4 rfl) ?_
  refine lv_iload X.x X.b dL_law_619 (lv_at hl 0 rfl) ?_
  refine lv_iconst (v := 3) X.x X.b dL_law_621 (by decide +kernel) ?_
  refine lv_iadd X.x X.b dL_law_622 ?_
  refine g_top (v' := 3) (by decide +kernel) ?_
  refine va_sld X.x X.b hX hbl hbA hG.2.2 (i := 3) (g_in (by decide +kernel)) dL_law_623 ?_
  refine g_top (v' := xs 3) rfl ?_
  refine g_ki (g_rV (As := [.int (xs 1), .int (xs 2), .int (xs 3)]) (rest := []) X hl hG (k130_build l D cT hx z5 z1 z3 z22 z39 z56 z60 z61 z62 z66 z68 z69 z70 z75 z79 z6 z7 z8 z9 z10 z11 z12 z13 z14 z15 z16 z17 z80 z18 (xs 1) (xs 2) (xs 3)) gw_L_72 g_E01 g_E02 [0, 1] rfl rfl 0 rfl rfl rfl rfl rfl (Nat.le_of_ble_eq_true rfl) ⟨(Nat.le_of_ble_eq_true rfl), (Nat.le_of_ble_eq_true rfl)⟩ ⟨(Nat.le_of_ble_eq_true rfl), (Nat.le_of_ble_eq_true rfl)⟩ dL_law_624) hG hA [0, 1] [2] rfl rfl rfl rfl (c1 := 137) (s1 := 21604) rfl rfl (fun r_1 u_1 H locs (hu : r_1 = (-1)) (hG : gG D A s.heap [(hm, .inr (11, (.ref y85 :: .int 0 :: .ref y86 :: .ref y87 :: .ref y88 :: .ref y89 :: .ref y90 :: .int 0 :: .ref y91 :: .ref y92 :: .int 0 :: .ref y93 :: .ref y94 :: .ref y95 :: .int 0 :: .int (-1) :: .int 0 :: .ref y96 :: .int 0 :: .ref y97 :: .int 0 :: .int 0 :: .null :: .int 0 :: .int 0 :: .int 0 :: .int 0 :: .ref y98 :: .ref y99 :: .ref y100 :: .ref y101 :: .int 0 :: .null :: .int 0 :: .int 0 :: .int 0 :: .ref y102 :: .int 0 :: .int (-1) :: .int 0 :: .ref y103 :: .int 0 :: .ref y104 :: .ref y105 :: .int 0 :: .ref y106 :: .ref y107 :: .ref y108 :: .ref y109 :: .int 0 :: .int 0 :: .int 0 :: .ref y110 :: .int 0 :: .int 0 :: .ref y111 :: .ref y112 :: .ref y113 :: .ref y114 :: .int 0 :: .ref y115 :: .int 0 :: .ref y116 :: .int 0 :: .int 0 :: .ref y117 :: .ref y118 :: .ref y119 :: []))), (hx, .inr (10, [.ref z1, .ref z3, .ref z5, .ref z22, .ref z39, .ref z56, .ref z60, .ref z61, .ref z62, .ref z66, .ref z68, .ref z69, .ref z70, .null, .ref z75, .ref z79])), (z5, .inr (7, [.int 0, .int 0, .int 0, .int 0, .ref z6, .ref z7, .ref z8, .ref z9, .ref z10, .ref z11, .ref z12, .ref z13, .ref z14, .ref z15, .ref z16, .ref z17, .ref z80, .int 0, .ref z18]))] H locs) => ?_)
  have hu := hu.symm
  subst hu
  refine lv_aload_n X.x X.b dL_law_627 rfl (lv_at hl 2 rfl) ?_
  refine lv_aload_n X.x X.b dL_law_628 rfl (lv_at hl 4 rfl) ?_
  refine lv_iload X.x X.b dL_law_629 (lv_at hl 0 rfl) ?_
  refine lv_iconst (v := 1) X.x X.b dL_law_631 (by decide +kernel) ?_
  refine lv_iadd X.x X.b dL_law_632 ?_
  refine g_top (v' := 1) (by decide +kernel) ?_
  refine va_sld X.x X.b hX hbl hbA hG.2.2 (i := 1) (g_in (by decide +kernel)) dL_law_633 ?_
  refine g_top (v' := xs 1) rfl ?_
  refine lv_aload_n X.x X.b dL_law_634 rfl (lv_at hl 4 rfl) ?_
  refine lv_iload X.x X.b dL_law_635 (lv_at hl 0 rfl) ?_
  refine lv_iconst (v := 2) X.x X.b dL_law_637 (by decide +kernel) ?_
  refine lv_iadd X.x X.b dL_law_638 ?_
  refine g_top (v' := 2) (by decide +kernel) ?_
  refine va_sld X.x X.b hX hbl hbA hG.2.2 (i := 2) (g_in (by decide +kernel)) dL_law_639 ?_
  refine g_top (v' := xs 2) rfl ?_
  refine lv_aload_n X.x X.b dL_law_640 rfl (lv_at hl 4 rfl) ?_
  refine lv_iload X.x X.b dL_law_641 (lv_at hl 0 rfl) ?_
  refine lv_iconst (v := 3) X.x X.b dL_law_643 (by decide +kernel) ?_
  refine lv_iadd X.x X.b dL_law_644 ?_
  refine g_top (v' := 3) (by decide +kernel) ?_
  refine va_sld X.x X.b hX hbl hbA hG.2.2 (i := 3) (g_in (by decide +kernel)) dL_law_645 ?_
  refine g_top (v' := xs 3) rfl ?_
  refine g_ki (g_rV (As := [.int (xs 1), .int (xs 2), .int (xs 3)]) (rest := [.int (-1)]) X hl hG (k133_build l D cT hm y85 y86 y87 y88 y89 y90 y91 y92 y93 y94 y95 y96 y97 y98 y99 y100 y101 y102 y103 y104 y105 y106 y107 y108 y109 y110 y111 y112 y113 y114 y115 y116 y117 y118 y119 (xs 1) (xs 2) (xs 3)) gw_L_76 g_E01 g_E02 [0] rfl rfl 0 rfl rfl rfl rfl rfl (Nat.le_of_ble_eq_true rfl) ⟨(Nat.le_of_ble_eq_true rfl), (Nat.le_of_ble_eq_true rfl)⟩ ⟨(Nat.le_of_ble_eq_true rfl), (Nat.le_of_ble_eq_true rfl)⟩ dL_law_646) hG hA [0] [1, 2] rfl rfl rfl rfl (c1 := 137) (s1 := 21604) rfl rfl (fun r_2 u_2 H locs (hu : r_2 = (-1)) (hG : gG D A s.heap [(hx, .inr (10, [.ref z1, .ref z3, .ref z5, .ref z22, .ref z39, .ref z56, .ref z60, .ref z61, .ref z62, .ref z66, .ref z68, .ref z69, .ref z70, .null, .ref z75, .ref z79])), (z5, .inr (7, [.int 0, .int 0, .int 0, .int 0, .ref z6, .ref z7, .ref z8, .ref z9, .ref z10, .ref z11, .ref z12, .ref z13, .ref z14, .ref z15, .ref z16, .ref z17, .ref z80, .int 0, .ref z18])), (hm, .inr (11, (.ref y85 :: .int 0 :: .ref y86 :: .ref y87 :: .ref y88 :: .ref y89 :: .ref y90 :: .int 0 :: .ref y91 :: .ref y92 :: .int 0 :: .ref y93 :: .ref y94 :: .ref y95 :: .int 0 :: .int (-1) :: .int 0 :: .ref y96 :: .int 0 :: .ref y97 :: .int 0 :: .int 0 :: .null :: .int 0 :: .int 0 :: .int 0 :: .int 0 :: .ref y98 :: .ref y99 :: .ref y100 :: .ref y101 :: .int 0 :: .null :: .int 0 :: .int 0 :: .int 0 :: .ref y102 :: .int 0 :: .int (-1) :: .int 0 :: .ref y103 :: .int 0 :: .ref y104 :: .ref y105 :: .int 0 :: .ref y106 :: .ref y107 :: .ref y108 :: .ref y109 :: .int 0 :: .int 0 :: .int 0 :: .ref y110 :: .int 0 :: .int 0 :: .ref y111 :: .ref y112 :: .ref y113 :: .ref y114 :: .int 0 :: .ref y115 :: .int 0 :: .ref y116 :: .int 0 :: .int 0 :: .ref y117 :: .ref y118 :: .ref y119 :: [])))] H locs) => ?_)
  have hu := hu.symm
  subst hu
  refine b_icmp_eq_t (tgt := 1767) X.x X.b dL_law_649 (by decide) (by decide +kernel) ?_
  refine W.widen (k := 138) (n := 21610) (Nat.le_of_ble_eq_true rfl) (Nat.le_of_ble_eq_true rfl) ?_
  exact hT _ _ _ hG.2.2 (lv_sub hl [0, 1, 2, 3, 4] rfl)
set_option maxHeartbeats 4000000 in
set_option maxRecDepth 100000 in
theorem w13_ring {p : Program} {l : Launch} {e : Env} {s : State} {m : MethodId} {below : List Frame} {meth : Method} {c : Code} {b : Nat} {xs : Nat → Int32} {D : va_G} {cT : Nat → ClassId} {A : Nat → Prop} {Q : State → Prop} (X : gX p m c code 7 s #[Value.ref b] "StorksLetLaw" D cT) (hX : va_X b 5 xs s s.heap) (hbl : b < s.heap.size) (hbA : ¬ A b) (hA : ∀ q, s.heap.size ≤ q → A q) (hx hm z1 z3 z5 z22 z39 z56 z60 z61 z62 z66 z68 z69 z70 z75 z79 z6 z7 z8 z9 z10 z11 z12 z13 z14 z15 z16 z17 z80 z18 y85 y86 y87 y88 y89 y90 y91 y92 y93 y94 y95 y96 y97 y98 y99 y100 y101 y102 y103 y104 y105 y106 y107 y108 y109 y110 y111 y112 y113 y114 y115 y116 y117 y118 y119 ho : Nat) (hT : ∀ (H : Heap) (locs : List Loc) (ls : Array Slot), va_S A s.heap H locs → lv_has ls 7 [(4, .int 0), (3, .ref ho), (2, .ref hm), (1, .ref hx), (0, .ref b)] → W p l e room_1 s m #[Value.ref b] below meth c H locs 138 21610 Q (F0 m 1767 ls [])) {H : Heap} {locs : List Loc} {ls : Array Slot} (hG : gG D A s.heap [(hx, .inr (10, [.ref z1, .ref z3, .ref z5, .ref z22, .ref z39, .ref z56, .ref z60, .ref z61, .ref z62, .ref z66, .ref z68, .ref z69, .ref z70, .null, .ref z75, .ref z79])), (z5, .inr (7, [.int 0, .int 0, .int 0, .int 0, .ref z6, .ref z7, .ref z8, .ref z9, .ref z10, .ref z11, .ref z12, .ref z13, .ref z14, .ref z15, .ref z16, .ref z17, .ref z80, .int 0, .ref z18])), (hm, .inr (11, (.ref y85 :: .int 0 :: .ref y86 :: .ref y87 :: .ref y88 :: .ref y89 :: .ref y90 :: .int 0 :: .ref y91 :: .ref y92 :: .int 0 :: .ref y93 :: .ref y94 :: .ref y95 :: .int 0 :: .int (-1) :: .int 0 :: .ref y96 :: .int 0 :: .ref y97 :: .int 0 :: .int 0 :: .null :: .int 0 :: .int 0 :: .int 0 :: .int 0 :: .ref y98 :: .ref y99 :: .ref y100 :: .ref y101 :: .int 0 :: .null :: .int 0 :: .int 0 :: .int 0 :: .ref y102 :: .int 0 :: .int (-1) :: .int 0 :: .ref y103 :: .int 0 :: .ref y104 :: .ref y105 :: .int 0 :: .ref y106 :: .ref y107 :: .ref y108 :: .ref y109 :: .int 0 :: .int 0 :: .int 0 :: .ref y110 :: .int 0 :: .int 0 :: .ref y111 :: .ref y112 :: .ref y113 :: .ref y114 :: .int 0 :: .ref y115 :: .int 0 :: .ref y116 :: .int 0 :: .int 0 :: .ref y117 :: .ref y118 :: .ref y119 :: [])))] H locs) (hl : lv_has ls 7 [(4, .int 0), (3, .ref ho), (2, .ref hm), (1, .ref hx), (0, .ref b)]) : W p l e room_1 s m #[Value.ref b] below meth c H locs 137 21604 Q (F0 m 654 ls []) := by
  refine lv_aload_n X.x X.b dL_law_654 rfl (lv_at hl 3 rfl) ?_
  refine lv_aload_n X.x X.b dL_law_655 rfl (lv_at hl 4 rfl) ?_
  refine lv_iload X.x X.b dL_law_656 (lv_at hl 0 rfl) ?_
  refine lv_iconst (v := 1) X.x X.b dL_law_658 (by decide +kernel) ?_
  refine lv_iadd X.x X.b dL_law_659 ?_
  refine g_top (v' := 1) (by decide +kernel) ?_
  refine va_sld X.x X.b hX hbl hbA hG.2.2 (i := 1) (g_in (by decide +kernel)) dL_law_660 ?_
  refine g_top (v' := xs 1) rfl ?_
  refine lv_aload_n X.x X.b dL_law_661 rfl (lv_at hl 4 rfl) ?_
  refine lv_iload X.x X.b dL_law_662 (lv_at hl 0 rfl) ?_
  refine lv_iconst (v := 2) X.x X.b dL_law_664 (by decide +kernel) ?_
  refine lv_iadd X.x X.b dL_law_665 ?_
  refine g_top (v' := 2) (by decide +kernel) ?_
  refine va_sld X.x X.b hX hbl hbA hG.2.2 (i := 2) (g_in (by decide +kernel)) dL_law_666 ?_
  refine g_top (v' := xs 2) rfl ?_
  refine lv_aload_n X.x X.b dL_law_667 rfl (lv_at hl 4 rfl) ?_
  refine lv_iload X.x X.b dL_law_668 (lv_at hl 0 rfl) ?_
  refine lv_iconst (v := 3) X.x X.b dL_law_670 (by decide +kernel) ?_
  refine lv_iadd X.x X.b dL_law_671 ?_
  refine g_top (v' := 3) (by decide +kernel) ?_
  refine va_sld X.x X.b hX hbl hbA hG.2.2 (i := 3) (g_in (by decide +kernel)) dL_law_672 ?_
  refine g_top (v' := xs 3) rfl ?_
  refine g_ki (g_rV (As := [.int (xs 1), .int (xs 2), .int (xs 3)]) (rest := []) X hl hG (k135_ring l D cT hx z5 z1 z3 z22 z39 z56 z60 z61 z62 z66 z68 z69 z70 z75 z79 z6 z7 z8 z9 z10 z11 z12 z13 z14 z15 z16 z17 z80 z18 (xs 1) (xs 2) (xs 3)) gw_L_77 g_E01 g_E02 [0, 1] rfl rfl 0 rfl rfl rfl rfl rfl (Nat.le_of_ble_eq_true rfl) ⟨(Nat.le_of_ble_eq_true rfl), (Nat.le_of_ble_eq_true rfl)⟩ ⟨(Nat.le_of_ble_eq_true rfl), (Nat.le_of_ble_eq_true rfl)⟩ dL_law_673) hG hA [0, 1] [2] rfl rfl rfl rfl (c1 := 137) (s1 := 21604) rfl rfl (fun r_1 u_1 H locs (hu : r_1 = (-1)) (hG : gG D A s.heap [(hm, .inr (11, (.ref y85 :: .int 0 :: .ref y86 :: .ref y87 :: .ref y88 :: .ref y89 :: .ref y90 :: .int 0 :: .ref y91 :: .ref y92 :: .int 0 :: .ref y93 :: .ref y94 :: .ref y95 :: .int 0 :: .int (-1) :: .int 0 :: .ref y96 :: .int 0 :: .ref y97 :: .int 0 :: .int 0 :: .null :: .int 0 :: .int 0 :: .int 0 :: .int 0 :: .ref y98 :: .ref y99 :: .ref y100 :: .ref y101 :: .int 0 :: .null :: .int 0 :: .int 0 :: .int 0 :: .ref y102 :: .int 0 :: .int (-1) :: .int 0 :: .ref y103 :: .int 0 :: .ref y104 :: .ref y105 :: .int 0 :: .ref y106 :: .ref y107 :: .ref y108 :: .ref y109 :: .int 0 :: .int 0 :: .int 0 :: .ref y110 :: .int 0 :: .int 0 :: .ref y111 :: .ref y112 :: .ref y113 :: .ref y114 :: .int 0 :: .ref y115 :: .int 0 :: .ref y116 :: .int 0 :: .int 0 :: .ref y117 :: .ref y118 :: .ref y119 :: []))), (hx, .inr (10, [.ref z1, .ref z3, .ref z5, .ref z22, .ref z39, .ref z56, .ref z60, .ref z61, .ref z62, .ref z66, .ref z68, .ref z69, .ref z70, .null, .ref z75, .ref z79])), (z5, .inr (7, [.int 0, .int 0, .int 0, .int 0, .ref z6, .ref z7, .ref z8, .ref z9, .ref z10, .ref z11, .ref z12, .ref z13, .ref z14, .ref z15, .ref z16, .ref z17, .ref z80, .int 0, .ref z18]))] H locs) => ?_)
  have hu := hu.symm
  subst hu
  refine lv_aload_n X.x X.b dL_law_676 rfl (lv_at hl 2 rfl) ?_
  refine lv_aload_n X.x X.b dL_law_677 rfl (lv_at hl 4 rfl) ?_
  refine lv_iload X.x X.b dL_law_678 (lv_at hl 0 rfl) ?_
  refine lv_iconst (v := 1) X.x X.b dL_law_680 (by decide +kernel) ?_
  refine lv_iadd X.x X.b dL_law_681 ?_
  refine g_top (v' := 1) (by decide +kernel) ?_
  refine va_sld X.x X.b hX hbl hbA hG.2.2 (i := 1) (g_in (by decide +kernel)) dL_law_682 ?_
  refine g_top (v' := xs 1) rfl ?_
  refine lv_aload_n X.x X.b dL_law_683 rfl (lv_at hl 4 rfl) ?_
  refine lv_iload X.x X.b dL_law_684 (lv_at hl 0 rfl) ?_
  refine lv_iconst (v := 2) X.x X.b dL_law_686 (by decide +kernel) ?_
  refine lv_iadd X.x X.b dL_law_687 ?_
  refine g_top (v' := 2) (by decide +kernel) ?_
  refine va_sld X.x X.b hX hbl hbA hG.2.2 (i := 2) (g_in (by decide +kernel)) dL_law_688 ?_
  refine g_top (v' := xs 2) rfl ?_
  refine lv_aload_n X.x X.b dL_law_689 rfl (lv_at hl 4 rfl) ?_
  refine lv_iload X.x X.b dL_law_690 (lv_at hl 0 rfl) ?_
  refine lv_iconst (v := 3) X.x X.b dL_law_692 (by decide +kernel) ?_
  refine lv_iadd X.x X.b dL_law_693 ?_
  refine g_top (v' := 3) (by decide +kernel) ?_
  refine va_sld X.x X.b hX hbl hbA hG.2.2 (i := 3) (g_in (by decide +kernel)) dL_law_694 ?_
  refine g_top (v' := xs 3) rfl ?_
  refine g_ki (g_rV (As := [.int (xs 1), .int (xs 2), .int (xs 3)]) (rest := [.int (-1)]) X hl hG (k137_ring l D cT hm y85 y86 y87 y88 y89 y90 y91 y92 y93 y94 y95 y96 y97 y98 y99 y100 y101 y102 y103 y104 y105 y106 y107 y108 y109 y110 y111 y112 y113 y114 y115 y116 y117 y118 y119 (xs 1) (xs 2) (xs 3)) gw_L_80 g_E01 g_E02 [0] rfl rfl 0 rfl rfl rfl rfl rfl (Nat.le_of_ble_eq_true rfl) ⟨(Nat.le_of_ble_eq_true rfl), (Nat.le_of_ble_eq_true rfl)⟩ ⟨(Nat.le_of_ble_eq_true rfl), (Nat.le_of_ble_eq_true rfl)⟩ dL_law_695) hG hA [0] [1, 2] rfl rfl rfl rfl (c1 := 137) (s1 := 21604) rfl rfl (fun r_2 u_2 H locs (hu : r_2 = (-1)) (hG : gG D A s.heap [(hx, .inr (10, [.ref z1, .ref z3, .ref z5, .ref z22, .ref z39, .ref z56, .ref z60, .ref z61, .ref z62, .ref z66, .ref z68, .ref z69, .ref z70, .null, .ref z75, .ref z79])), (z5, .inr (7, [.int 0, .int 0, .int 0, .int 0, .ref z6, .ref z7, .ref z8, .ref z9, .ref z10, .ref z11, .ref z12, .ref z13, .ref z14, .ref z15, .ref z16, .ref z17, .ref z80, .int 0, .ref z18])), (hm, .inr (11, (.ref y85 :: .int 0 :: .ref y86 :: .ref y87 :: .ref y88 :: .ref y89 :: .ref y90 :: .int 0 :: .ref y91 :: .ref y92 :: .int 0 :: .ref y93 :: .ref y94 :: .ref y95 :: .int 0 :: .int (-1) :: .int 0 :: .ref y96 :: .int 0 :: .ref y97 :: .int 0 :: .int 0 :: .null :: .int 0 :: .int 0 :: .int 0 :: .int 0 :: .ref y98 :: .ref y99 :: .ref y100 :: .ref y101 :: .int 0 :: .null :: .int 0 :: .int 0 :: .int 0 :: .ref y102 :: .int 0 :: .int (-1) :: .int 0 :: .ref y103 :: .int 0 :: .ref y104 :: .ref y105 :: .int 0 :: .ref y106 :: .ref y107 :: .ref y108 :: .ref y109 :: .int 0 :: .int 0 :: .int 0 :: .ref y110 :: .int 0 :: .int 0 :: .ref y111 :: .ref y112 :: .ref y113 :: .ref y114 :: .int 0 :: .ref y115 :: .int 0 :: .ref y116 :: .int 0 :: .int 0 :: .ref y117 :: .ref y118 :: .ref y119 :: [])))] H locs) => ?_)
  have hu := hu.symm
  subst hu
  refine b_icmp_eq_t (tgt := 1767) X.x X.b dL_law_698 (by decide) (by decide +kernel) ?_
  refine W.widen (k := 138) (n := 21610) (Nat.le_of_ble_eq_true rfl) (Nat.le_of_ble_eq_true rfl) ?_
  exact hT _ _ _ hG.2.2 (lv_sub hl [0, 1, 2, 3, 4] rfl)
set_option maxHeartbeats 4000000 in
set_option maxRecDepth 100000 in
theorem w14_swear {p : Program} {l : Launch} {e : Env} {s : State} {m : MethodId} {below : List Frame} {meth : Method} {c : Code} {b : Nat} {xs : Nat → Int32} {D : va_G} {cT : Nat → ClassId} {A : Nat → Prop} {Q : State → Prop} (X : gX p m c code 7 s #[Value.ref b] "StorksLetLaw" D cT) (hX : va_X b 5 xs s s.heap) (hbl : b < s.heap.size) (hbA : ¬ A b) (hA : ∀ q, s.heap.size ≤ q → A q) (hx hm z1 z3 z5 z22 z39 z56 z60 z61 z62 z66 z68 z69 z70 z75 z79 z6 z7 z8 z9 z10 z11 z12 z13 z14 z15 z16 z17 z80 z18 y85 y86 y87 y88 y89 y90 y91 y92 y93 y94 y95 y96 y97 y98 y99 y100 y101 y102 y103 y104 y105 y106 y107 y108 y109 y110 y111 y112 y113 y114 y115 y116 y117 y118 y119 ho : Nat) (hT : ∀ (H : Heap) (locs : List Loc) (ls : Array Slot), va_S A s.heap H locs → lv_has ls 7 [(4, .int 0), (3, .ref ho), (2, .ref hm), (1, .ref hx), (0, .ref b)] → W p l e room_1 s m #[Value.ref b] below meth c H locs 138 21610 Q (F0 m 1767 ls [])) {H : Heap} {locs : List Loc} {ls : Array Slot} (hG : gG D A s.heap [(hx, .inr (10, [.ref z1, .ref z3, .ref z5, .ref z22, .ref z39, .ref z56, .ref z60, .ref z61, .ref z62, .ref z66, .ref z68, .ref z69, .ref z70, .null, .ref z75, .ref z79])), (z5, .inr (7, [.int 0, .int 0, .int 0, .int 0, .ref z6, .ref z7, .ref z8, .ref z9, .ref z10, .ref z11, .ref z12, .ref z13, .ref z14, .ref z15, .ref z16, .ref z17, .ref z80, .int 0, .ref z18])), (hm, .inr (11, (.ref y85 :: .int 0 :: .ref y86 :: .ref y87 :: .ref y88 :: .ref y89 :: .ref y90 :: .int 0 :: .ref y91 :: .ref y92 :: .int 0 :: .ref y93 :: .ref y94 :: .ref y95 :: .int 0 :: .int (-1) :: .int 0 :: .ref y96 :: .int 0 :: .ref y97 :: .int 0 :: .int 0 :: .null :: .int 0 :: .int 0 :: .int 0 :: .int 0 :: .ref y98 :: .ref y99 :: .ref y100 :: .ref y101 :: .int 0 :: .null :: .int 0 :: .int 0 :: .int 0 :: .ref y102 :: .int 0 :: .int (-1) :: .int 0 :: .ref y103 :: .int 0 :: .ref y104 :: .ref y105 :: .int 0 :: .ref y106 :: .ref y107 :: .ref y108 :: .ref y109 :: .int 0 :: .int 0 :: .int 0 :: .ref y110 :: .int 0 :: .int 0 :: .ref y111 :: .ref y112 :: .ref y113 :: .ref y114 :: .int 0 :: .ref y115 :: .int 0 :: .ref y116 :: .int 0 :: .int 0 :: .ref y117 :: .ref y118 :: .ref y119 :: [])))] H locs) (hl : lv_has ls 7 [(4, .int 0), (3, .ref ho), (2, .ref hm), (1, .ref hx), (0, .ref b)]) : W p l e room_1 s m #[Value.ref b] below meth c H locs 137 21604 Q (F0 m 703 ls []) := by
  refine lv_aload_n X.x X.b dL_law_703 rfl (lv_at hl 3 rfl) ?_
  refine lv_aload_n X.x X.b dL_law_704 rfl (lv_at hl 4 rfl) ?_
  refine lv_iload X.x X.b dL_law_705 (lv_at hl 0 rfl) ?_
  refine lv_iconst (v := 1) X.x X.b dL_law_707 (by decide +kernel) ?_
  refine lv_iadd X.x X.b dL_law_708 ?_
  refine g_top (v' := 1) (by decide +kernel) ?_
  refine va_sld X.x X.b hX hbl hbA hG.2.2 (i := 1) (g_in (by decide +kernel)) dL_law_709 ?_
  refine g_top (v' := xs 1) rfl ?_
  refine lv_aload_n X.x X.b dL_law_710 rfl (lv_at hl 4 rfl) ?_
  refine lv_iload X.x X.b dL_law_711 (lv_at hl 0 rfl) ?_
  refine lv_iconst (v := 2) X.x X.b dL_law_713 (by decide +kernel) ?_
  refine lv_iadd X.x X.b dL_law_714 ?_
  refine g_top (v' := 2) (by decide +kernel) ?_
  refine va_sld X.x X.b hX hbl hbA hG.2.2 (i := 2) (g_in (by decide +kernel)) dL_law_715 ?_
  refine g_top (v' := xs 2) rfl ?_
  refine g_ki (g_rV (As := [.int (xs 1), .int (xs 2)]) (rest := []) X hl hG (k139_swear l D cT hx z5 z1 z3 z22 z39 z56 z60 z61 z62 z66 z68 z69 z70 z75 z79 z6 z7 z8 z9 z10 z11 z12 z13 z14 z15 z16 z17 z80 z18 (xs 1) (xs 2)) gw_L_81 g_E01 g_E02 [0, 1] rfl rfl 0 rfl rfl rfl rfl rfl (Nat.le_of_ble_eq_true rfl) ⟨(Nat.le_of_ble_eq_true rfl), (Nat.le_of_ble_eq_true rfl)⟩ ⟨(Nat.le_of_ble_eq_true rfl), (Nat.le_of_ble_eq_true rfl)⟩ dL_law_716) hG hA [0, 1] [2] rfl rfl rfl rfl (c1 := 137) (s1 := 21604) rfl rfl (fun r_1 u_1 H locs (hu : r_1 = (-1)) (hG : gG D A s.heap [(hm, .inr (11, (.ref y85 :: .int 0 :: .ref y86 :: .ref y87 :: .ref y88 :: .ref y89 :: .ref y90 :: .int 0 :: .ref y91 :: .ref y92 :: .int 0 :: .ref y93 :: .ref y94 :: .ref y95 :: .int 0 :: .int (-1) :: .int 0 :: .ref y96 :: .int 0 :: .ref y97 :: .int 0 :: .int 0 :: .null :: .int 0 :: .int 0 :: .int 0 :: .int 0 :: .ref y98 :: .ref y99 :: .ref y100 :: .ref y101 :: .int 0 :: .null :: .int 0 :: .int 0 :: .int 0 :: .ref y102 :: .int 0 :: .int (-1) :: .int 0 :: .ref y103 :: .int 0 :: .ref y104 :: .ref y105 :: .int 0 :: .ref y106 :: .ref y107 :: .ref y108 :: .ref y109 :: .int 0 :: .int 0 :: .int 0 :: .ref y110 :: .int 0 :: .int 0 :: .ref y111 :: .ref y112 :: .ref y113 :: .ref y114 :: .int 0 :: .ref y115 :: .int 0 :: .ref y116 :: .int 0 :: .int 0 :: .ref y117 :: .ref y118 :: .ref y119 :: []))), (hx, .inr (10, [.ref z1, .ref z3, .ref z5, .ref z22, .ref z39, .ref z56, .ref z60, .ref z61, .ref z62, .ref z66, .ref z68, .ref z69, .ref z70, .null, .ref z75, .ref z79])), (z5, .inr (7, [.int 0, .int 0, .int 0, .int 0, .ref z6, .ref z7, .ref z8, .ref z9, .ref z10, .ref z11, .ref z12, .ref z13, .ref z14, .ref z15, .ref z16, .ref z17, .ref z80, .int 0, .ref z18]))] H locs) => ?_)
  have hu := hu.symm
  subst hu
  refine lv_aload_n X.x X.b dL_law_719 rfl (lv_at hl 2 rfl) ?_
  refine lv_aload_n X.x X.b dL_law_720 rfl (lv_at hl 4 rfl) ?_
  refine lv_iload X.x X.b dL_law_721 (lv_at hl 0 rfl) ?_
  refine lv_iconst (v := 1) X.x X.b dL_law_723 (by decide +kernel) ?_
  refine lv_iadd X.x X.b dL_law_724 ?_
  refine g_top (v' := 1) (by decide +kernel) ?_
  refine va_sld X.x X.b hX hbl hbA hG.2.2 (i := 1) (g_in (by decide +kernel)) dL_law_725 ?_
  refine g_top (v' := xs 1) rfl ?_
  refine lv_aload_n X.x X.b dL_law_726 rfl (lv_at hl 4 rfl) ?_
  refine lv_iload X.x X.b dL_law_727 (lv_at hl 0 rfl) ?_
  refine lv_iconst (v := 2) X.x X.b dL_law_729 (by decide +kernel) ?_
  refine lv_iadd X.x X.b dL_law_730 ?_
  refine g_top (v' := 2) (by decide +kernel) ?_
  refine va_sld X.x X.b hX hbl hbA hG.2.2 (i := 2) (g_in (by decide +kernel)) dL_law_731 ?_
  refine g_top (v' := xs 2) rfl ?_
  refine g_ki (g_rV (As := [.int (xs 1), .int (xs 2)]) (rest := [.int (-1)]) X hl hG (k141_swear l D cT hm y85 y86 y87 y88 y89 y90 y91 y92 y93 y94 y95 y96 y97 y98 y99 y100 y101 y102 y103 y104 y105 y106 y107 y108 y109 y110 y111 y112 y113 y114 y115 y116 y117 y118 y119 (xs 1) (xs 2)) gw_L_84 g_E01 g_E02 [0] rfl rfl 0 rfl rfl rfl rfl rfl (Nat.le_of_ble_eq_true rfl) ⟨(Nat.le_of_ble_eq_true rfl), (Nat.le_of_ble_eq_true rfl)⟩ ⟨(Nat.le_of_ble_eq_true rfl), (Nat.le_of_ble_eq_true rfl)⟩ dL_law_732) hG hA [0] [1, 2] rfl rfl rfl rfl (c1 := 137) (s1 := 21604) rfl rfl (fun r_2 u_2 H locs (hu : r_2 = (-1)) (hG : gG D A s.heap [(hx, .inr (10, [.ref z1, .ref z3, .ref z5, .ref z22, .ref z39, .ref z56, .ref z60, .ref z61, .ref z62, .ref z66, .ref z68, .ref z69, .ref z70, .null, .ref z75, .ref z79])), (z5, .inr (7, [.int 0, .int 0, .int 0, .int 0, .ref z6, .ref z7, .ref z8, .ref z9, .ref z10, .ref z11, .ref z12, .ref z13, .ref z14, .ref z15, .ref z16, .ref z17, .ref z80, .int 0, .ref z18])), (hm, .inr (11, (.ref y85 :: .int 0 :: .ref y86 :: .ref y87 :: .ref y88 :: .ref y89 :: .ref y90 :: .int 0 :: .ref y91 :: .ref y92 :: .int 0 :: .ref y93 :: .ref y94 :: .ref y95 :: .int 0 :: .int (-1) :: .int 0 :: .ref y96 :: .int 0 :: .ref y97 :: .int 0 :: .int 0 :: .null :: .int 0 :: .int 0 :: .int 0 :: .int 0 :: .ref y98 :: .ref y99 :: .ref y100 :: .ref y101 :: .int 0 :: .null :: .int 0 :: .int 0 :: .int 0 :: .ref y102 :: .int 0 :: .int (-1) :: .int 0 :: .ref y103 :: .int 0 :: .ref y104 :: .ref y105 :: .int 0 :: .ref y106 :: .ref y107 :: .ref y108 :: .ref y109 :: .int 0 :: .int 0 :: .int 0 :: .ref y110 :: .int 0 :: .int 0 :: .ref y111 :: .ref y112 :: .ref y113 :: .ref y114 :: .int 0 :: .ref y115 :: .int 0 :: .ref y116 :: .int 0 :: .int 0 :: .ref y117 :: .ref y118 :: .ref y119 :: [])))] H locs) => ?_)
  have hu := hu.symm
  subst hu
  refine b_icmp_eq_t (tgt := 1767) X.x X.b dL_law_735 (by decide) (by decide +kernel) ?_
  refine W.widen (k := 138) (n := 21610) (Nat.le_of_ble_eq_true rfl) (Nat.le_of_ble_eq_true rfl) ?_
  exact hT _ _ _ hG.2.2 (lv_sub hl [0, 1, 2, 3, 4] rfl)
set_option maxHeartbeats 4000000 in
set_option maxRecDepth 100000 in
theorem w15_sheet {p : Program} {l : Launch} {e : Env} {s : State} {m : MethodId} {below : List Frame} {meth : Method} {c : Code} {b : Nat} {xs : Nat → Int32} {D : va_G} {cT : Nat → ClassId} {A : Nat → Prop} {Q : State → Prop} (X : gX p m c code 7 s #[Value.ref b] "StorksLetLaw" D cT) (hX : va_X b 5 xs s s.heap) (hbl : b < s.heap.size) (hbA : ¬ A b) (hA : ∀ q, s.heap.size ≤ q → A q) (hx hm z1 z3 z5 z22 z39 z56 z60 z61 z62 z66 z68 z69 z70 z75 z79 y85 y86 y87 y88 y89 y90 y91 y92 y93 y94 y95 y96 y97 y98 y99 y100 y101 y102 y103 y104 y105 y106 y107 y108 y109 y110 y111 y112 y113 y114 y115 y116 y117 y118 y119 ho : Nat) (u_1 : (xs 1).toInt ≤ -1) (hT : ∀ (H : Heap) (locs : List Loc) (ls : Array Slot), va_S A s.heap H locs → lv_has ls 7 [(4, .int 0), (3, .ref ho), (2, .ref hm), (1, .ref hx), (0, .ref b)] → W p l e room_1 s m #[Value.ref b] below meth c H locs 138 21610 Q (F0 m 1767 ls [])) {H : Heap} {locs : List Loc} {ls : Array Slot} (hG : gG D A s.heap [(hx, .inr (10, [.ref z1, .ref z3, .ref z5, .ref z22, .ref z39, .ref z56, .ref z60, .ref z61, .ref z62, .ref z66, .ref z68, .ref z69, .ref z70, .null, .ref z75, .ref z79])), (hm, .inr (11, (.ref y85 :: .int 0 :: .ref y86 :: .ref y87 :: .ref y88 :: .ref y89 :: .ref y90 :: .int 0 :: .ref y91 :: .ref y92 :: .int 0 :: .ref y93 :: .ref y94 :: .ref y95 :: .int 0 :: .int (-1) :: .int 0 :: .ref y96 :: .int 0 :: .ref y97 :: .int 0 :: .int 0 :: .null :: .int 0 :: .int 0 :: .int 0 :: .int 0 :: .ref y98 :: .ref y99 :: .ref y100 :: .ref y101 :: .int 0 :: .null :: .int 0 :: .int 0 :: .int 0 :: .ref y102 :: .int 0 :: .int (-1) :: .int 0 :: .ref y103 :: .int 0 :: .ref y104 :: .ref y105 :: .int 0 :: .ref y106 :: .ref y107 :: .ref y108 :: .ref y109 :: .int 0 :: .int 0 :: .int 0 :: .ref y110 :: .int 0 :: .int 0 :: .ref y111 :: .ref y112 :: .ref y113 :: .ref y114 :: .int 0 :: .ref y115 :: .int 0 :: .ref y116 :: .int 0 :: .int 0 :: .ref y117 :: .ref y118 :: .ref y119 :: [])))] H locs) (hl : lv_has ls 7 [(4, .int 0), (3, .ref ho), (2, .ref hm), (1, .ref hx), (0, .ref b)]) : W p l e room_1 s m #[Value.ref b] below meth c H locs 137 21604 Q (F0 m 740 ls []) := by
  refine lv_aload_n X.x X.b dL_law_740 rfl (lv_at hl 3 rfl) ?_
  refine lv_aload_n X.x X.b dL_law_741 rfl (lv_at hl 4 rfl) ?_
  refine lv_iload X.x X.b dL_law_742 (lv_at hl 0 rfl) ?_
  refine lv_iconst (v := 1) X.x X.b dL_law_744 (by decide +kernel) ?_
  refine lv_iadd X.x X.b dL_law_745 ?_
  refine g_top (v' := 1) (by decide +kernel) ?_
  refine va_sld X.x X.b hX hbl hbA hG.2.2 (i := 1) (g_in (by decide +kernel)) dL_law_746 ?_
  refine g_top (v' := xs 1) rfl ?_
  refine lv_aload_n X.x X.b dL_law_747 rfl (lv_at hl 4 rfl) ?_
  refine lv_iload X.x X.b dL_law_748 (lv_at hl 0 rfl) ?_
  refine lv_iconst (v := 2) X.x X.b dL_law_750 (by decide +kernel) ?_
  refine lv_iadd X.x X.b dL_law_751 ?_
  refine g_top (v' := 2) (by decide +kernel) ?_
  refine va_sld X.x X.b hX hbl hbA hG.2.2 (i := 2) (g_in (by decide +kernel)) dL_law_752 ?_
  refine g_top (v' := xs 2) rfl ?_
  refine lv_aload_n X.x X.b dL_law_753 rfl (lv_at hl 4 rfl) ?_
  refine lv_iload X.x X.b dL_law_754 (lv_at hl 0 rfl) ?_
  refine lv_iconst (v := 3) X.x X.b dL_law_756 (by decide +kernel) ?_
  refine lv_iadd X.x X.b dL_law_757 ?_
  refine g_top (v' := 3) (by decide +kernel) ?_
  refine va_sld X.x X.b hX hbl hbA hG.2.2 (i := 3) (g_in (by decide +kernel)) dL_law_758 ?_
  refine g_top (v' := xs 3) rfl ?_
  refine lv_aload_n X.x X.b dL_law_759 rfl (lv_at hl 4 rfl) ?_
  refine lv_iload X.x X.b dL_law_760 (lv_at hl 0 rfl) ?_
  refine lv_iconst (v := 4) X.x X.b dL_law_762 (by decide +kernel) ?_
  refine lv_iadd X.x X.b dL_law_763 ?_
  refine g_top (v' := 4) (by decide +kernel) ?_
  refine va_sld X.x X.b hX hbl hbA hG.2.2 (i := 4) (g_in (by decide +kernel)) dL_law_764 ?_
  refine g_top (v' := xs 4) rfl ?_
  refine g_ki (g_rV (As := [.int (xs 1), .int (xs 2), .int (xs 3), .int (xs 4)]) (rest := []) X hl hG (k142_sheet l D cT hx z1 z3 z5 z22 z39 z56 z60 z61 z62 z66 z68 z69 z70 z75 z79 (xs 1) (xs 2) (xs 3) (xs 4) (by omega)) gw_L_85 g_E01 g_E02 [0] rfl rfl 0 rfl rfl rfl rfl rfl (Nat.le_of_ble_eq_true rfl) ⟨(Nat.le_of_ble_eq_true rfl), (Nat.le_of_ble_eq_true rfl)⟩ ⟨(Nat.le_of_ble_eq_true rfl), (Nat.le_of_ble_eq_true rfl)⟩ dL_law_765) hG hA [0] [1] rfl rfl rfl rfl (c1 := 137) (s1 := 21604) rfl rfl (fun r_1 u_1 H locs (hu : r_1 = (-1)) (hG : gG D A s.heap [(hm, .inr (11, (.ref y85 :: .int 0 :: .ref y86 :: .ref y87 :: .ref y88 :: .ref y89 :: .ref y90 :: .int 0 :: .ref y91 :: .ref y92 :: .int 0 :: .ref y93 :: .ref y94 :: .ref y95 :: .int 0 :: .int (-1) :: .int 0 :: .ref y96 :: .int 0 :: .ref y97 :: .int 0 :: .int 0 :: .null :: .int 0 :: .int 0 :: .int 0 :: .int 0 :: .ref y98 :: .ref y99 :: .ref y100 :: .ref y101 :: .int 0 :: .null :: .int 0 :: .int 0 :: .int 0 :: .ref y102 :: .int 0 :: .int (-1) :: .int 0 :: .ref y103 :: .int 0 :: .ref y104 :: .ref y105 :: .int 0 :: .ref y106 :: .ref y107 :: .ref y108 :: .ref y109 :: .int 0 :: .int 0 :: .int 0 :: .ref y110 :: .int 0 :: .int 0 :: .ref y111 :: .ref y112 :: .ref y113 :: .ref y114 :: .int 0 :: .ref y115 :: .int 0 :: .ref y116 :: .int 0 :: .int 0 :: .ref y117 :: .ref y118 :: .ref y119 :: []))), (hx, .inr (10, [.ref z1, .ref z3, .ref z5, .ref z22, .ref z39, .ref z56, .ref z60, .ref z61, .ref z62, .ref z66, .ref z68, .ref z69, .ref z70, .null, .ref z75, .ref z79]))] H locs) => ?_)
  have hu := hu.symm
  subst hu
  refine lv_aload_n X.x X.b dL_law_768 rfl (lv_at hl 2 rfl) ?_
  refine lv_aload_n X.x X.b dL_law_769 rfl (lv_at hl 4 rfl) ?_
  refine lv_iload X.x X.b dL_law_770 (lv_at hl 0 rfl) ?_
  refine lv_iconst (v := 1) X.x X.b dL_law_772 (by decide +kernel) ?_
  refine lv_iadd X.x X.b dL_law_773 ?_
  refine g_top (v' := 1) (by decide +kernel) ?_
  refine va_sld X.x X.b hX hbl hbA hG.2.2 (i := 1) (g_in (by decide +kernel)) dL_law_774 ?_
  refine g_top (v' := xs 1) rfl ?_
  refine lv_aload_n X.x X.b dL_law_775 rfl (lv_at hl 4 rfl) ?_
  refine lv_iload X.x X.b dL_law_776 (lv_at hl 0 rfl) ?_
  refine lv_iconst (v := 2) X.x X.b dL_law_778 (by decide +kernel) ?_
  refine lv_iadd X.x X.b dL_law_779 ?_
  refine g_top (v' := 2) (by decide +kernel) ?_
  refine va_sld X.x X.b hX hbl hbA hG.2.2 (i := 2) (g_in (by decide +kernel)) dL_law_780 ?_
  refine g_top (v' := xs 2) rfl ?_
  refine lv_aload_n X.x X.b dL_law_781 rfl (lv_at hl 4 rfl) ?_
  refine lv_iload X.x X.b dL_law_782 (lv_at hl 0 rfl) ?_
  refine lv_iconst (v := 3) X.x X.b dL_law_784 (by decide +kernel) ?_
  refine lv_iadd X.x X.b dL_law_785 ?_
  refine g_top (v' := 3) (by decide +kernel) ?_
  refine va_sld X.x X.b hX hbl hbA hG.2.2 (i := 3) (g_in (by decide +kernel)) dL_law_786 ?_
  refine g_top (v' := xs 3) rfl ?_
  refine lv_aload_n X.x X.b dL_law_787 rfl (lv_at hl 4 rfl) ?_
  refine lv_iload X.x X.b dL_law_788 (lv_at hl 0 rfl) ?_
  refine lv_iconst (v := 4) X.x X.b dL_law_790 (by decide +kernel) ?_
  refine lv_iadd X.x X.b dL_law_791 ?_
  refine g_top (v' := 4) (by decide +kernel) ?_
  refine va_sld X.x X.b hX hbl hbA hG.2.2 (i := 4) (g_in (by decide +kernel)) dL_law_792 ?_
  refine g_top (v' := xs 4) rfl ?_
  refine g_ki (g_rV (As := [.int (xs 1), .int (xs 2), .int (xs 3), .int (xs 4)]) (rest := [.int (-1)]) X hl hG (k144_sheet l D cT hm y85 y86 y87 y88 y89 y90 y91 y92 y93 y94 y95 y96 y97 y98 y99 y100 y101 y102 y103 y104 y105 y106 y107 y108 y109 y110 y111 y112 y113 y114 y115 y116 y117 y118 y119 (xs 1) (xs 2) (xs 3) (xs 4) (by omega)) gw_L_89 g_E01 g_E02 [0] rfl rfl 0 rfl rfl rfl rfl rfl (Nat.le_of_ble_eq_true rfl) ⟨(Nat.le_of_ble_eq_true rfl), (Nat.le_of_ble_eq_true rfl)⟩ ⟨(Nat.le_of_ble_eq_true rfl), (Nat.le_of_ble_eq_true rfl)⟩ dL_law_793) hG hA [0] [1] rfl rfl rfl rfl (c1 := 137) (s1 := 21604) rfl rfl (fun r_2 u_2 H locs (hu : r_2 = (-1)) (hG : gG D A s.heap [(hx, .inr (10, [.ref z1, .ref z3, .ref z5, .ref z22, .ref z39, .ref z56, .ref z60, .ref z61, .ref z62, .ref z66, .ref z68, .ref z69, .ref z70, .null, .ref z75, .ref z79])), (hm, .inr (11, (.ref y85 :: .int 0 :: .ref y86 :: .ref y87 :: .ref y88 :: .ref y89 :: .ref y90 :: .int 0 :: .ref y91 :: .ref y92 :: .int 0 :: .ref y93 :: .ref y94 :: .ref y95 :: .int 0 :: .int (-1) :: .int 0 :: .ref y96 :: .int 0 :: .ref y97 :: .int 0 :: .int 0 :: .null :: .int 0 :: .int 0 :: .int 0 :: .int 0 :: .ref y98 :: .ref y99 :: .ref y100 :: .ref y101 :: .int 0 :: .null :: .int 0 :: .int 0 :: .int 0 :: .ref y102 :: .int 0 :: .int (-1) :: .int 0 :: .ref y103 :: .int 0 :: .ref y104 :: .ref y105 :: .int 0 :: .ref y106 :: .ref y107 :: .ref y108 :: .ref y109 :: .int 0 :: .int 0 :: .int 0 :: .ref y110 :: .int 0 :: .int 0 :: .ref y111 :: .ref y112 :: .ref y113 :: .ref y114 :: .int 0 :: .ref y115 :: .int 0 :: .ref y116 :: .int 0 :: .int 0 :: .ref y117 :: .ref y118 :: .ref y119 :: [])))] H locs) => ?_)
  have hu := hu.symm
  subst hu
  refine b_icmp_eq_t (tgt := 1767) X.x X.b dL_law_796 (by decide) (by decide +kernel) ?_
  refine W.widen (k := 138) (n := 21610) (Nat.le_of_ble_eq_true rfl) (Nat.le_of_ble_eq_true rfl) ?_
  exact hT _ _ _ hG.2.2 (lv_sub hl [0, 1, 2, 3, 4] rfl)
set_option maxHeartbeats 4000000 in
set_option maxRecDepth 100000 in
theorem w16_sheet {p : Program} {l : Launch} {e : Env} {s : State} {m : MethodId} {below : List Frame} {meth : Method} {c : Code} {b : Nat} {xs : Nat → Int32} {D : va_G} {cT : Nat → ClassId} {A : Nat → Prop} {Q : State → Prop} (X : gX p m c code 7 s #[Value.ref b] "StorksLetLaw" D cT) (hX : va_X b 5 xs s s.heap) (hbl : b < s.heap.size) (hbA : ¬ A b) (hA : ∀ q, s.heap.size ≤ q → A q) (hx hm z1 z3 z5 z22 z39 z56 z60 z61 z62 z66 z68 z69 z70 z75 z79 y85 y86 y87 y88 y89 y90 y91 y92 y93 y94 y95 y96 y97 y98 y99 y100 y101 y102 y103 y104 y105 y106 y107 y108 y109 y110 y111 y112 y113 y114 y115 y116 y117 y118 y119 ho : Nat) (l_1 : 4 ≤ (xs 1).toInt) (hT : ∀ (H : Heap) (locs : List Loc) (ls : Array Slot), va_S A s.heap H locs → lv_has ls 7 [(4, .int 0), (3, .ref ho), (2, .ref hm), (1, .ref hx), (0, .ref b)] → W p l e room_1 s m #[Value.ref b] below meth c H locs 138 21610 Q (F0 m 1767 ls [])) {H : Heap} {locs : List Loc} {ls : Array Slot} (hG : gG D A s.heap [(hx, .inr (10, [.ref z1, .ref z3, .ref z5, .ref z22, .ref z39, .ref z56, .ref z60, .ref z61, .ref z62, .ref z66, .ref z68, .ref z69, .ref z70, .null, .ref z75, .ref z79])), (hm, .inr (11, (.ref y85 :: .int 0 :: .ref y86 :: .ref y87 :: .ref y88 :: .ref y89 :: .ref y90 :: .int 0 :: .ref y91 :: .ref y92 :: .int 0 :: .ref y93 :: .ref y94 :: .ref y95 :: .int 0 :: .int (-1) :: .int 0 :: .ref y96 :: .int 0 :: .ref y97 :: .int 0 :: .int 0 :: .null :: .int 0 :: .int 0 :: .int 0 :: .int 0 :: .ref y98 :: .ref y99 :: .ref y100 :: .ref y101 :: .int 0 :: .null :: .int 0 :: .int 0 :: .int 0 :: .ref y102 :: .int 0 :: .int (-1) :: .int 0 :: .ref y103 :: .int 0 :: .ref y104 :: .ref y105 :: .int 0 :: .ref y106 :: .ref y107 :: .ref y108 :: .ref y109 :: .int 0 :: .int 0 :: .int 0 :: .ref y110 :: .int 0 :: .int 0 :: .ref y111 :: .ref y112 :: .ref y113 :: .ref y114 :: .int 0 :: .ref y115 :: .int 0 :: .ref y116 :: .int 0 :: .int 0 :: .ref y117 :: .ref y118 :: .ref y119 :: [])))] H locs) (hl : lv_has ls 7 [(4, .int 0), (3, .ref ho), (2, .ref hm), (1, .ref hx), (0, .ref b)]) : W p l e room_1 s m #[Value.ref b] below meth c H locs 137 21604 Q (F0 m 740 ls []) := by
  refine lv_aload_n X.x X.b dL_law_740 rfl (lv_at hl 3 rfl) ?_
  refine lv_aload_n X.x X.b dL_law_741 rfl (lv_at hl 4 rfl) ?_
  refine lv_iload X.x X.b dL_law_742 (lv_at hl 0 rfl) ?_
  refine lv_iconst (v := 1) X.x X.b dL_law_744 (by decide +kernel) ?_
  refine lv_iadd X.x X.b dL_law_745 ?_
  refine g_top (v' := 1) (by decide +kernel) ?_
  refine va_sld X.x X.b hX hbl hbA hG.2.2 (i := 1) (g_in (by decide +kernel)) dL_law_746 ?_
  refine g_top (v' := xs 1) rfl ?_
  refine lv_aload_n X.x X.b dL_law_747 rfl (lv_at hl 4 rfl) ?_
  refine lv_iload X.x X.b dL_law_748 (lv_at hl 0 rfl) ?_
  refine lv_iconst (v := 2) X.x X.b dL_law_750 (by decide +kernel) ?_
  refine lv_iadd X.x X.b dL_law_751 ?_
  refine g_top (v' := 2) (by decide +kernel) ?_
  refine va_sld X.x X.b hX hbl hbA hG.2.2 (i := 2) (g_in (by decide +kernel)) dL_law_752 ?_
  refine g_top (v' := xs 2) rfl ?_
  refine lv_aload_n X.x X.b dL_law_753 rfl (lv_at hl 4 rfl) ?_
  refine lv_iload X.x X.b dL_law_754 (lv_at hl 0 rfl) ?_
  refine lv_iconst (v := 3) X.x X.b dL_law_756 (by decide +kernel) ?_
  refine lv_iadd X.x X.b dL_law_757 ?_
  refine g_top (v' := 3) (by decide +kernel) ?_
  refine va_sld X.x X.b hX hbl hbA hG.2.2 (i := 3) (g_in (by decide +kernel)) dL_law_758 ?_
  refine g_top (v' := xs 3) rfl ?_
  refine lv_aload_n X.x X.b dL_law_759 rfl (lv_at hl 4 rfl) ?_
  refine lv_iload X.x X.b dL_law_760 (lv_at hl 0 rfl) ?_
  refine lv_iconst (v := 4) X.x X.b dL_law_762 (by decide +kernel) ?_
  refine lv_iadd X.x X.b dL_law_763 ?_
  refine g_top (v' := 4) (by decide +kernel) ?_
  refine va_sld X.x X.b hX hbl hbA hG.2.2 (i := 4) (g_in (by decide +kernel)) dL_law_764 ?_
  refine g_top (v' := xs 4) rfl ?_
  refine g_ki (g_rV (As := [.int (xs 1), .int (xs 2), .int (xs 3), .int (xs 4)]) (rest := []) X hl hG (k145_sheet l D cT hx z1 z3 z5 z22 z39 z56 z60 z61 z62 z66 z68 z69 z70 z75 z79 (xs 1) (xs 2) (xs 3) (xs 4) (by omega)) gw_L_85 g_E01 g_E02 [0] rfl rfl 0 rfl rfl rfl rfl rfl (Nat.le_of_ble_eq_true rfl) ⟨(Nat.le_of_ble_eq_true rfl), (Nat.le_of_ble_eq_true rfl)⟩ ⟨(Nat.le_of_ble_eq_true rfl), (Nat.le_of_ble_eq_true rfl)⟩ dL_law_765) hG hA [0] [1] rfl rfl rfl rfl (c1 := 137) (s1 := 21604) rfl rfl (fun r_1 u_1 H locs (hu : r_1 = (-1)) (hG : gG D A s.heap [(hm, .inr (11, (.ref y85 :: .int 0 :: .ref y86 :: .ref y87 :: .ref y88 :: .ref y89 :: .ref y90 :: .int 0 :: .ref y91 :: .ref y92 :: .int 0 :: .ref y93 :: .ref y94 :: .ref y95 :: .int 0 :: .int (-1) :: .int 0 :: .ref y96 :: .int 0 :: .ref y97 :: .int 0 :: .int 0 :: .null :: .int 0 :: .int 0 :: .int 0 :: .int 0 :: .ref y98 :: .ref y99 :: .ref y100 :: .ref y101 :: .int 0 :: .null :: .int 0 :: .int 0 :: .int 0 :: .ref y102 :: .int 0 :: .int (-1) :: .int 0 :: .ref y103 :: .int 0 :: .ref y104 :: .ref y105 :: .int 0 :: .ref y106 :: .ref y107 :: .ref y108 :: .ref y109 :: .int 0 :: .int 0 :: .int 0 :: .ref y110 :: .int 0 :: .int 0 :: .ref y111 :: .ref y112 :: .ref y113 :: .ref y114 :: .int 0 :: .ref y115 :: .int 0 :: .ref y116 :: .int 0 :: .int 0 :: .ref y117 :: .ref y118 :: .ref y119 :: []))), (hx, .inr (10, [.ref z1, .ref z3, .ref z5, .ref z22, .ref z39, .ref z56, .ref z60, .ref z61, .ref z62, .ref z66, .ref z68, .ref z69, .ref z70, .null, .ref z75, .ref z79]))] H locs) => ?_)
  have hu := hu.symm
  subst hu
  refine lv_aload_n X.x X.b dL_law_768 rfl (lv_at hl 2 rfl) ?_
  refine lv_aload_n X.x X.b dL_law_769 rfl (lv_at hl 4 rfl) ?_
  refine lv_iload X.x X.b dL_law_770 (lv_at hl 0 rfl) ?_
  refine lv_iconst (v := 1) X.x X.b dL_law_772 (by decide +kernel) ?_
  refine lv_iadd X.x X.b dL_law_773 ?_
  refine g_top (v' := 1) (by decide +kernel) ?_
  refine va_sld X.x X.b hX hbl hbA hG.2.2 (i := 1) (g_in (by decide +kernel)) dL_law_774 ?_
  refine g_top (v' := xs 1) rfl ?_
  refine lv_aload_n X.x X.b dL_law_775 rfl (lv_at hl 4 rfl) ?_
  refine lv_iload X.x X.b dL_law_776 (lv_at hl 0 rfl) ?_
  refine lv_iconst (v := 2) X.x X.b dL_law_778 (by decide +kernel) ?_
  refine lv_iadd X.x X.b dL_law_779 ?_
  refine g_top (v' := 2) (by decide +kernel) ?_
  refine va_sld X.x X.b hX hbl hbA hG.2.2 (i := 2) (g_in (by decide +kernel)) dL_law_780 ?_
  refine g_top (v' := xs 2) rfl ?_
  refine lv_aload_n X.x X.b dL_law_781 rfl (lv_at hl 4 rfl) ?_
  refine lv_iload X.x X.b dL_law_782 (lv_at hl 0 rfl) ?_
  refine lv_iconst (v := 3) X.x X.b dL_law_784 (by decide +kernel) ?_
  refine lv_iadd X.x X.b dL_law_785 ?_
  refine g_top (v' := 3) (by decide +kernel) ?_
  refine va_sld X.x X.b hX hbl hbA hG.2.2 (i := 3) (g_in (by decide +kernel)) dL_law_786 ?_
  refine g_top (v' := xs 3) rfl ?_
  refine lv_aload_n X.x X.b dL_law_787 rfl (lv_at hl 4 rfl) ?_
  refine lv_iload X.x X.b dL_law_788 (lv_at hl 0 rfl) ?_
  refine lv_iconst (v := 4) X.x X.b dL_law_790 (by decide +kernel) ?_
  refine lv_iadd X.x X.b dL_law_791 ?_
  refine g_top (v' := 4) (by decide +kernel) ?_
  refine va_sld X.x X.b hX hbl hbA hG.2.2 (i := 4) (g_in (by decide +kernel)) dL_law_792 ?_
  refine g_top (v' := xs 4) rfl ?_
  refine g_ki (g_rV (As := [.int (xs 1), .int (xs 2), .int (xs 3), .int (xs 4)]) (rest := [.int (-1)]) X hl hG (k147_sheet l D cT hm y85 y86 y87 y88 y89 y90 y91 y92 y93 y94 y95 y96 y97 y98 y99 y100 y101 y102 y103 y104 y105 y106 y107 y108 y109 y110 y111 y112 y113 y114 y115 y116 y117 y118 y119 (xs 1) (xs 2) (xs 3) (xs 4) (by omega)) gw_L_89 g_E01 g_E02 [0] rfl rfl 0 rfl rfl rfl rfl rfl (Nat.le_of_ble_eq_true rfl) ⟨(Nat.le_of_ble_eq_true rfl), (Nat.le_of_ble_eq_true rfl)⟩ ⟨(Nat.le_of_ble_eq_true rfl), (Nat.le_of_ble_eq_true rfl)⟩ dL_law_793) hG hA [0] [1] rfl rfl rfl rfl (c1 := 137) (s1 := 21604) rfl rfl (fun r_2 u_2 H locs (hu : r_2 = (-1)) (hG : gG D A s.heap [(hx, .inr (10, [.ref z1, .ref z3, .ref z5, .ref z22, .ref z39, .ref z56, .ref z60, .ref z61, .ref z62, .ref z66, .ref z68, .ref z69, .ref z70, .null, .ref z75, .ref z79])), (hm, .inr (11, (.ref y85 :: .int 0 :: .ref y86 :: .ref y87 :: .ref y88 :: .ref y89 :: .ref y90 :: .int 0 :: .ref y91 :: .ref y92 :: .int 0 :: .ref y93 :: .ref y94 :: .ref y95 :: .int 0 :: .int (-1) :: .int 0 :: .ref y96 :: .int 0 :: .ref y97 :: .int 0 :: .int 0 :: .null :: .int 0 :: .int 0 :: .int 0 :: .int 0 :: .ref y98 :: .ref y99 :: .ref y100 :: .ref y101 :: .int 0 :: .null :: .int 0 :: .int 0 :: .int 0 :: .ref y102 :: .int 0 :: .int (-1) :: .int 0 :: .ref y103 :: .int 0 :: .ref y104 :: .ref y105 :: .int 0 :: .ref y106 :: .ref y107 :: .ref y108 :: .ref y109 :: .int 0 :: .int 0 :: .int 0 :: .ref y110 :: .int 0 :: .int 0 :: .ref y111 :: .ref y112 :: .ref y113 :: .ref y114 :: .int 0 :: .ref y115 :: .int 0 :: .ref y116 :: .int 0 :: .int 0 :: .ref y117 :: .ref y118 :: .ref y119 :: [])))] H locs) => ?_)
  have hu := hu.symm
  subst hu
  refine b_icmp_eq_t (tgt := 1767) X.x X.b dL_law_796 (by decide) (by decide +kernel) ?_
  refine W.widen (k := 138) (n := 21610) (Nat.le_of_ble_eq_true rfl) (Nat.le_of_ble_eq_true rfl) ?_
  exact hT _ _ _ hG.2.2 (lv_sub hl [0, 1, 2, 3, 4] rfl)
set_option maxHeartbeats 4000000 in
set_option maxRecDepth 100000 in
theorem w17_sheet {p : Program} {l : Launch} {e : Env} {s : State} {m : MethodId} {below : List Frame} {meth : Method} {c : Code} {b : Nat} {xs : Nat → Int32} {D : va_G} {cT : Nat → ClassId} {A : Nat → Prop} {Q : State → Prop} (X : gX p m c code 7 s #[Value.ref b] "StorksLetLaw" D cT) (hX : va_X b 5 xs s s.heap) (hbl : b < s.heap.size) (hbA : ¬ A b) (hA : ∀ q, s.heap.size ≤ q → A q) (hx hm z1 z3 z5 z22 z39 z56 z60 z61 z62 z66 z68 z69 z70 z75 z79 y85 y86 y87 y88 y89 y90 y91 y92 y93 y94 y95 y96 y97 y98 y99 y100 y101 y102 y103 y104 y105 y106 y107 y108 y109 y110 y111 y112 y113 y114 y115 y116 y117 y118 y119 ho : Nat) (l_1 : 0 ≤ (xs 1).toInt) (u_1 : (xs 1).toInt ≤ 2) (u_2 : (xs 2).toInt ≤ -1) (hT : ∀ (H : Heap) (locs : List Loc) (ls : Array Slot), va_S A s.heap H locs → lv_has ls 7 [(4, .int 0), (3, .ref ho), (2, .ref hm), (1, .ref hx), (0, .ref b)] → W p l e room_1 s m #[Value.ref b] below meth c H locs 138 21610 Q (F0 m 1767 ls [])) {H : Heap} {locs : List Loc} {ls : Array Slot} (hG : gG D A s.heap [(hx, .inr (10, [.ref z1, .ref z3, .ref z5, .ref z22, .ref z39, .ref z56, .ref z60, .ref z61, .ref z62, .ref z66, .ref z68, .ref z69, .ref z70, .null, .ref z75, .ref z79])), (hm, .inr (11, (.ref y85 :: .int 0 :: .ref y86 :: .ref y87 :: .ref y88 :: .ref y89 :: .ref y90 :: .int 0 :: .ref y91 :: .ref y92 :: .int 0 :: .ref y93 :: .ref y94 :: .ref y95 :: .int 0 :: .int (-1) :: .int 0 :: .ref y96 :: .int 0 :: .ref y97 :: .int 0 :: .int 0 :: .null :: .int 0 :: .int 0 :: .int 0 :: .int 0 :: .ref y98 :: .ref y99 :: .ref y100 :: .ref y101 :: .int 0 :: .null :: .int 0 :: .int 0 :: .int 0 :: .ref y102 :: .int 0 :: .int (-1) :: .int 0 :: .ref y103 :: .int 0 :: .ref y104 :: .ref y105 :: .int 0 :: .ref y106 :: .ref y107 :: .ref y108 :: .ref y109 :: .int 0 :: .int 0 :: .int 0 :: .ref y110 :: .int 0 :: .int 0 :: .ref y111 :: .ref y112 :: .ref y113 :: .ref y114 :: .int 0 :: .ref y115 :: .int 0 :: .ref y116 :: .int 0 :: .int 0 :: .ref y117 :: .ref y118 :: .ref y119 :: [])))] H locs) (hl : lv_has ls 7 [(4, .int 0), (3, .ref ho), (2, .ref hm), (1, .ref hx), (0, .ref b)]) : W p l e room_1 s m #[Value.ref b] below meth c H locs 137 21604 Q (F0 m 740 ls []) := by
  refine lv_aload_n X.x X.b dL_law_740 rfl (lv_at hl 3 rfl) ?_
  refine lv_aload_n X.x X.b dL_law_741 rfl (lv_at hl 4 rfl) ?_
  refine lv_iload X.x X.b dL_law_742 (lv_at hl 0 rfl) ?_
  refine lv_iconst (v := 1) X.x X.b dL_law_744 (by decide +kernel) ?_
  refine lv_iadd X.x X.b dL_law_745 ?_
  refine g_top (v' := 1) (by decide +kernel) ?_
  refine va_sld X.x X.b hX hbl hbA hG.2.2 (i := 1) (g_in (by decide +kernel)) dL_law_746 ?_
  refine g_top (v' := xs 1) rfl ?_
  refine lv_aload_n X.x X.b dL_law_747 rfl (lv_at hl 4 rfl) ?_
  refine lv_iload X.x X.b dL_law_748 (lv_at hl 0 rfl) ?_
  refine lv_iconst (v := 2) X.x X.b dL_law_750 (by decide +kernel) ?_
  refine lv_iadd X.x X.b dL_law_751 ?_
  refine g_top (v' := 2) (by decide +kernel) ?_
  refine va_sld X.x X.b hX hbl hbA hG.2.2 (i := 2) (g_in (by decide +kernel)) dL_law_752 ?_
  refine g_top (v' := xs 2) rfl ?_
  refine lv_aload_n X.x X.b dL_law_753 rfl (lv_at hl 4 rfl) ?_
  refine lv_iload X.x X.b dL_law_754 (lv_at hl 0 rfl) ?_
  refine lv_iconst (v := 3) X.x X.b dL_law_756 (by decide +kernel) ?_
  refine lv_iadd X.x X.b dL_law_757 ?_
  refine g_top (v' := 3) (by decide +kernel) ?_
  refine va_sld X.x X.b hX hbl hbA hG.2.2 (i := 3) (g_in (by decide +kernel)) dL_law_758 ?_
  refine g_top (v' := xs 3) rfl ?_
  refine lv_aload_n X.x X.b dL_law_759 rfl (lv_at hl 4 rfl) ?_
  refine lv_iload X.x X.b dL_law_760 (lv_at hl 0 rfl) ?_
  refine lv_iconst (v := 4) X.x X.b dL_law_762 (by decide +kernel) ?_
  refine lv_iadd X.x X.b dL_law_763 ?_
  refine g_top (v' := 4) (by decide +kernel) ?_
  refine va_sld X.x X.b hX hbl hbA hG.2.2 (i := 4) (g_in (by decide +kernel)) dL_law_764 ?_
  refine g_top (v' := xs 4) rfl ?_
  refine g_ki (g_rV (As := [.int (xs 1), .int (xs 2), .int (xs 3), .int (xs 4)]) (rest := []) X hl hG (k148_sheet l D cT hx z1 z3 z5 z22 z39 z56 z60 z61 z62 z66 z68 z69 z70 z75 z79 (xs 1) (xs 2) (xs 3) (xs 4) (by omega) (by omega) (by omega)) gw_L_85 g_E01 g_E02 [0] rfl rfl 0 rfl rfl rfl rfl rfl (Nat.le_of_ble_eq_true rfl) ⟨(Nat.le_of_ble_eq_true rfl), (Nat.le_of_ble_eq_true rfl)⟩ ⟨(Nat.le_of_ble_eq_true rfl), (Nat.le_of_ble_eq_true rfl)⟩ dL_law_765) hG hA [0] [1] rfl rfl rfl rfl (c1 := 137) (s1 := 21604) rfl rfl (fun r_1 u_1 H locs (hu : r_1 = (-2)) (hG : gG D A s.heap [(hm, .inr (11, (.ref y85 :: .int 0 :: .ref y86 :: .ref y87 :: .ref y88 :: .ref y89 :: .ref y90 :: .int 0 :: .ref y91 :: .ref y92 :: .int 0 :: .ref y93 :: .ref y94 :: .ref y95 :: .int 0 :: .int (-1) :: .int 0 :: .ref y96 :: .int 0 :: .ref y97 :: .int 0 :: .int 0 :: .null :: .int 0 :: .int 0 :: .int 0 :: .int 0 :: .ref y98 :: .ref y99 :: .ref y100 :: .ref y101 :: .int 0 :: .null :: .int 0 :: .int 0 :: .int 0 :: .ref y102 :: .int 0 :: .int (-1) :: .int 0 :: .ref y103 :: .int 0 :: .ref y104 :: .ref y105 :: .int 0 :: .ref y106 :: .ref y107 :: .ref y108 :: .ref y109 :: .int 0 :: .int 0 :: .int 0 :: .ref y110 :: .int 0 :: .int 0 :: .ref y111 :: .ref y112 :: .ref y113 :: .ref y114 :: .int 0 :: .ref y115 :: .int 0 :: .ref y116 :: .int 0 :: .int 0 :: .ref y117 :: .ref y118 :: .ref y119 :: []))), (hx, .inr (10, [.ref z1, .ref z3, .ref z5, .ref z22, .ref z39, .ref z56, .ref z60, .ref z61, .ref z62, .ref z66, .ref z68, .ref z69, .ref z70, .null, .ref z75, .ref z79]))] H locs) => ?_)
  have hu := hu.symm
  subst hu
  refine lv_aload_n X.x X.b dL_law_768 rfl (lv_at hl 2 rfl) ?_
  refine lv_aload_n X.x X.b dL_law_769 rfl (lv_at hl 4 rfl) ?_
  refine lv_iload X.x X.b dL_law_770 (lv_at hl 0 rfl) ?_
  refine lv_iconst (v := 1) X.x X.b dL_law_772 (by decide +kernel) ?_
  refine lv_iadd X.x X.b dL_law_773 ?_
  refine g_top (v' := 1) (by decide +kernel) ?_
  refine va_sld X.x X.b hX hbl hbA hG.2.2 (i := 1) (g_in (by decide +kernel)) dL_law_774 ?_
  refine g_top (v' := xs 1) rfl ?_
  refine lv_aload_n X.x X.b dL_law_775 rfl (lv_at hl 4 rfl) ?_
  refine lv_iload X.x X.b dL_law_776 (lv_at hl 0 rfl) ?_
  refine lv_iconst (v := 2) X.x X.b dL_law_778 (by decide +kernel) ?_
  refine lv_iadd X.x X.b dL_law_779 ?_
  refine g_top (v' := 2) (by decide +kernel) ?_
  refine va_sld X.x X.b hX hbl hbA hG.2.2 (i := 2) (g_in (by decide +kernel)) dL_law_780 ?_
  refine g_top (v' := xs 2) rfl ?_
  refine lv_aload_n X.x X.b dL_law_781 rfl (lv_at hl 4 rfl) ?_
  refine lv_iload X.x X.b dL_law_782 (lv_at hl 0 rfl) ?_
  refine lv_iconst (v := 3) X.x X.b dL_law_784 (by decide +kernel) ?_
  refine lv_iadd X.x X.b dL_law_785 ?_
  refine g_top (v' := 3) (by decide +kernel) ?_
  refine va_sld X.x X.b hX hbl hbA hG.2.2 (i := 3) (g_in (by decide +kernel)) dL_law_786 ?_
  refine g_top (v' := xs 3) rfl ?_
  refine lv_aload_n X.x X.b dL_law_787 rfl (lv_at hl 4 rfl) ?_
  refine lv_iload X.x X.b dL_law_788 (lv_at hl 0 rfl) ?_
  refine lv_iconst (v := 4) X.x X.b dL_law_790 (by decide +kernel) ?_
  refine lv_iadd X.x X.b dL_law_791 ?_
  refine g_top (v' := 4) (by decide +kernel) ?_
  refine va_sld X.x X.b hX hbl hbA hG.2.2 (i := 4) (g_in (by decide +kernel)) dL_law_792 ?_
  refine g_top (v' := xs 4) rfl ?_
  refine g_ki (g_rV (As := [.int (xs 1), .int (xs 2), .int (xs 3), .int (xs 4)]) (rest := [.int (-2)]) X hl hG (k150_sheet l D cT hm y85 y86 y87 y88 y89 y90 y91 y92 y93 y94 y95 y96 y97 y98 y99 y100 y101 y102 y103 y104 y105 y106 y107 y108 y109 y110 y111 y112 y113 y114 y115 y116 y117 y118 y119 (xs 1) (xs 2) (xs 3) (xs 4) (by omega) (by omega) (by omega)) gw_L_89 g_E01 g_E02 [0] rfl rfl 0 rfl rfl rfl rfl rfl (Nat.le_of_ble_eq_true rfl) ⟨(Nat.le_of_ble_eq_true rfl), (Nat.le_of_ble_eq_true rfl)⟩ ⟨(Nat.le_of_ble_eq_true rfl), (Nat.le_of_ble_eq_true rfl)⟩ dL_law_793) hG hA [0] [1] rfl rfl rfl rfl (c1 := 137) (s1 := 21604) rfl rfl (fun r_2 u_2 H locs (hu : r_2 = (-2)) (hG : gG D A s.heap [(hx, .inr (10, [.ref z1, .ref z3, .ref z5, .ref z22, .ref z39, .ref z56, .ref z60, .ref z61, .ref z62, .ref z66, .ref z68, .ref z69, .ref z70, .null, .ref z75, .ref z79])), (hm, .inr (11, (.ref y85 :: .int 0 :: .ref y86 :: .ref y87 :: .ref y88 :: .ref y89 :: .ref y90 :: .int 0 :: .ref y91 :: .ref y92 :: .int 0 :: .ref y93 :: .ref y94 :: .ref y95 :: .int 0 :: .int (-1) :: .int 0 :: .ref y96 :: .int 0 :: .ref y97 :: .int 0 :: .int 0 :: .null :: .int 0 :: .int 0 :: .int 0 :: .int 0 :: .ref y98 :: .ref y99 :: .ref y100 :: .ref y101 :: .int 0 :: .null :: .int 0 :: .int 0 :: .int 0 :: .ref y102 :: .int 0 :: .int (-1) :: .int 0 :: .ref y103 :: .int 0 :: .ref y104 :: .ref y105 :: .int 0 :: .ref y106 :: .ref y107 :: .ref y108 :: .ref y109 :: .int 0 :: .int 0 :: .int 0 :: .ref y110 :: .int 0 :: .int 0 :: .ref y111 :: .ref y112 :: .ref y113 :: .ref y114 :: .int 0 :: .ref y115 :: .int 0 :: .ref y116 :: .int 0 :: .int 0 :: .ref y117 :: .ref y118 :: .ref y119 :: [])))] H locs) => ?_)
  have hu := hu.symm
  subst hu
  refine b_icmp_eq_t (tgt := 1767) X.x X.b dL_law_796 (by decide) (by decide +kernel) ?_
  refine W.widen (k := 138) (n := 21610) (Nat.le_of_ble_eq_true rfl) (Nat.le_of_ble_eq_true rfl) ?_
  exact hT _ _ _ hG.2.2 (lv_sub hl [0, 1, 2, 3, 4] rfl)

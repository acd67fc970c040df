set_option maxHeartbeats 4000000 in
set_option maxRecDepth 100000 in
theorem k354_keep (l : Launch) (D : va_G) (cT : Nat → ClassId) (h0 h1 h2 h3 h4 h5 h6 h7 h8 h9 h10 h11 h12 h13 h14 h15 : Nat) (x0 : Int32) (u_x0 : x0.toInt ≤ -1) : gMet l D cT yX11_keep cX11_keep 2 (some .boolean) 0 0 0 0 [.ref h0, .int x0] [(h0, .inr (10, [.ref h1, .ref h2, .ref h3, .ref h4, .ref h5, .ref h6, .ref h7, .ref h8, .ref h9, .ref h10, .ref h11, .ref h12, .ref h13, .null, .ref h14, .ref h15]))] gE0 (gQi D cT (fun (r : Int32) (u : gS) => r = 0) (fun u : gS => [(h0, .inr (10, [.ref h1, .ref h2, .ref h3, .ref h4, .ref h5, .ref h6, .ref h7, .ref h8, .ref h9, .ref h10, .ref h11, .ref h12, .ref h13, .null, .ref h14, .ref h15]))])) := by
  refine gMet.of "StorksLet" rfl (by decide +kernel) (Nat.le_of_ble_eq_true rfl) [(0, .ref h0), (1, .int x0)] rfl ?_
  intro p e s m below meth c A ls X hr hlk hnm hA hG hE hl
  refine lv_iload_n X.x X.b dX11_keep_0 rfl (lv_at hl 1 rfl) ?_
  refine b_if_lt_t (tgt := 9) X.x X.b dX11_keep_1 (by decide) (by simp only [Int32.lt_iff_toInt_lt, Int32.le_iff_toInt_le, ← Int32.toInt_inj, show (0 : Int32).toInt = 0 from by decide +kernel]; omega) ?_
  refine lv_iconst (v := 0) X.x X.b dX11_keep_9 (by decide +kernel) ?_
  exact g_iret X hr hlk hG rfl gS0 rfl [0] rfl rfl (Nat.le_of_ble_eq_true rfl) (Nat.le_of_ble_eq_true rfl) dX11_keep_10
set_option maxHeartbeats 4000000 in
set_option maxRecDepth 100000 in
theorem k355_in (l : Launch) (D : va_G) (cT : Nat → ClassId) (x0 : Int32) (u_x0 : x0.toInt ≤ -1) : gMet l D cT yX12_in cX12_in 3 (some .boolean) 0 0 0 0 [.int x0, .int 0, .int 1] [] gE0 (gQi D cT (fun (r : Int32) (u : gS) => r = 0) (fun u : gS => [])) := by
  refine gMet.of "StorksLetModel" rfl (by decide +kernel) (Nat.le_of_ble_eq_true rfl) [(0, .int x0), (1, .int 0), (2, .int 1)] rfl ?_
  intro p e s m below meth c A ls X hr hlk hnm hA hG hE hl
  refine lv_iload_n X.x X.b dX12_in_0 rfl (lv_at hl 0 rfl) ?_
  refine lv_iload_n X.x X.b dX12_in_1 rfl (lv_at hl 1 rfl) ?_
  refine b_icmp_lt_t (tgt := 14) X.x X.b dX12_in_2 (by decide) (by simp only [Int32.lt_iff_toInt_lt, Int32.le_iff_toInt_le, ← Int32.toInt_inj, show (0 : Int32).toInt = 0 from by decide +kernel]; omega) ?_
  refine lv_iconst (v := 0) X.x X.b dX12_in_14 (by decide +kernel) ?_
  exact g_iret X hr hlk hG rfl gS0 rfl [] rfl rfl (Nat.le_of_ble_eq_true rfl) (Nat.le_of_ble_eq_true rfl) dX12_in_15
set_option maxHeartbeats 4000000 in
set_option maxRecDepth 100000 in
theorem k356_keep (l : Launch) (D : va_G) (cT : Nat → ClassId) (h0 h1 h2 h3 h4 h5 h6 h7 h8 h9 h10 h11 h12 h13 h14 h15 h16 h17 h18 h19 h20 h21 h22 h23 h24 h25 h26 h27 h28 h29 h30 h31 h32 h33 h34 h35 : Nat) (x0 : Int32) (u_x0 : x0.toInt ≤ -1) : gMet l D cT yX12_keep cX12_keep 2 (some .boolean) 1 22 0 0 [.ref h0, .int x0] [(h0, .inr (11, (.ref h1 :: .int 0 :: .ref h2 :: .ref h3 :: .ref h4 :: .ref h5 :: .ref h6 :: .int 0 :: .ref h7 :: .ref h8 :: .int 0 :: .ref h9 :: .ref h10 :: .ref h11 :: .int 0 :: .int (-1) :: .int 0 :: .ref h12 :: .int 0 :: .ref h13 :: .int 0 :: .int 0 :: .null :: .int 0 :: .int 0 :: .int 0 :: .int 0 :: .ref h14 :: .ref h15 :: .ref h16 :: .ref h17 :: .int 0 :: .null :: .int 0 :: .int 0 :: .int 0 :: .ref h18 :: .int 0 :: .int (-1) :: .int 0 :: .ref h19 :: .int 0 :: .ref h20 :: .ref h21 :: .int 0 :: .ref h22 :: .ref h23 :: .ref h24 :: .ref h25 :: .int 0 :: .int 0 :: .int 0 :: .ref h26 :: .int 0 :: .int 0 :: .ref h27 :: .ref h28 :: .ref h29 :: .ref h30 :: .int 0 :: .ref h31 :: .int 0 :: .ref h32 :: .int 0 :: .int 0 :: .ref h33 :: .ref h34 :: .ref h35 :: [])))] gE0 (gQi D cT (fun (r : Int32) (u : gS) => r = 0) (fun u : gS => [(h0, .inr (11, (.ref h1 :: .int 0 :: .ref h2 :: .ref h3 :: .ref h4 :: .ref h5 :: .ref h6 :: .int 0 :: .ref h7 :: .ref h8 :: .int 0 :: .ref h9 :: .ref h10 :: .ref h11 :: .int 0 :: .int (-1) :: .int 0 :: .ref h12 :: .int 0 :: .ref h13 :: .int 0 :: .int 0 :: .null :: .int 0 :: .int 0 :: .int 0 :: .int 0 :: .ref h14 :: .ref h15 :: .ref h16 :: .ref h17 :: .int 0 :: .null :: .int 0 :: .int 0 :: .int 0 :: .ref h18 :: .int 0 :: .int (-1) :: .int 0 :: .ref h19 :: .int 0 :: .ref h20 :: .ref h21 :: .int 0 :: .ref h22 :: .ref h23 :: .ref h24 :: .ref h25 :: .int 0 :: .int 0 :: .int 0 :: .ref h26 :: .int 0 :: .int 0 :: .ref h27 :: .ref h28 :: .ref h29 :: .ref h30 :: .int 0 :: .ref h31 :: .int 0 :: .ref h32 :: .int 0 :: .int 0 :: .ref h33 :: .ref h34 :: .ref h35 :: [])))])) := by
  refine gMet.of "StorksLetModel" rfl (by decide +kernel) (Nat.le_of_ble_eq_true rfl) [(0, .ref h0), (1, .int x0)] rfl ?_
  intro p e s m below meth c A ls X hr hlk hnm hA hG hE hl
  refine lv_aload_n X.x X.b dX12_keep_0 rfl (lv_at hl 0 rfl) ?_
  refine lv_iconst (v := 0) X.x X.b dX12_keep_1 (by decide +kernel) ?_
  refine gp_X12_124 X hG 0 rfl rfl rfl (Nat.le_of_ble_eq_true rfl) dX12_keep_2 (fun H locs (hG : gG D A s.heap [(h0, .inr (11, (.ref h1 :: .int 0 :: .ref h2 :: .ref h3 :: .ref h4 :: .ref h5 :: .ref h6 :: .int 0 :: .ref h7 :: .ref h8 :: .int 0 :: .ref h9 :: .ref h10 :: .ref h11 :: .int 0 :: .int (-1) :: .int 0 :: .ref h12 :: .int 0 :: .ref h13 :: .int 0 :: .int 0 :: .null :: .int 0 :: .int 0 :: .int 0 :: .int 0 :: .ref h14 :: .ref h15 :: .ref h16 :: .ref h17 :: .int 0 :: .null :: .int 0 :: .int 0 :: .int 0 :: .ref h18 :: .int 0 :: .int (-1) :: .int 0 :: .ref h19 :: .int 0 :: .ref h20 :: .ref h21 :: .int 0 :: .ref h22 :: .ref h23 :: .ref h24 :: .ref h25 :: .int 0 :: .int 0 :: .int 0 :: .ref h26 :: .int 0 :: .int 0 :: .ref h27 :: .ref h28 :: .ref h29 :: .ref h30 :: .int 0 :: .ref h31 :: .int 0 :: .ref h32 :: .int 0 :: .int 0 :: .ref h33 :: .ref h34 :: .ref h35 :: [])))] H locs) => ?_)
  refine lv_iload_n X.x X.b dX12_keep_5 rfl (lv_at hl 1 rfl) ?_
  refine lv_iconst (v := 0) X.x X.b dX12_keep_6 (by decide +kernel) ?_
  refine lv_iconst (v := 1) X.x X.b dX12_keep_7 (by decide +kernel) ?_
  refine g_ki (g_rS (As := [.int x0, .int 0, .int 1]) (rest := []) X hl hG (k355_in l D cT x0 (by omega)) gw_X12_133 g_E01 g_E02 [] rfl rfl rfl rfl (Nat.le_of_ble_eq_true rfl) ⟨(Nat.le_of_ble_eq_true rfl), (Nat.le_of_ble_eq_true rfl)⟩ ⟨(Nat.le_of_ble_eq_true rfl), (Nat.le_of_ble_eq_true rfl)⟩ dX12_keep_8) hG hA [] [0] rfl rfl rfl rfl (c1 := 0) (s1 := 0) rfl rfl (fun r_1 u_1 H locs (hu : r_1 = 0) (hG : gG D A s.heap [(h0, .inr (11, (.ref h1 :: .int 0 :: .ref h2 :: .ref h3 :: .ref h4 :: .ref h5 :: .ref h6 :: .int 0 :: .ref h7 :: .ref h8 :: .int 0 :: .ref h9 :: .ref h10 :: .ref h11 :: .int 0 :: .int (-1) :: .int 0 :: .ref h12 :: .int 0 :: .ref h13 :: .int 0 :: .int 0 :: .null :: .int 0 :: .int 0 :: .int 0 :: .int 0 :: .ref h14 :: .ref h15 :: .ref h16 :: .ref h17 :: .int 0 :: .null :: .int 0 :: .int 0 :: .int 0 :: .ref h18 :: .int 0 :: .int (-1) :: .int 0 :: .ref h19 :: .int 0 :: .ref h20 :: .ref h21 :: .int 0 :: .ref h22 :: .ref h23 :: .ref h24 :: .ref h25 :: .int 0 :: .int 0 :: .int 0 :: .ref h26 :: .int 0 :: .int 0 :: .ref h27 :: .ref h28 :: .ref h29 :: .ref h30 :: .int 0 :: .ref h31 :: .int 0 :: .ref h32 :: .int 0 :: .int 0 :: .ref h33 :: .ref h34 :: .ref h35 :: [])))] H locs) => ?_)
  have hu := hu.symm
  subst hu
  refine b_if_ne_f (tgt := 16) X.x X.b dX12_keep_11 (by decide) (by decide +kernel) ?_
  refine lv_iconst (v := 0) X.x X.b dX12_keep_14 (by decide +kernel) ?_
  exact g_iret X hr hlk hG rfl gS0 rfl [0] rfl rfl (Nat.le_of_ble_eq_true rfl) (Nat.le_of_ble_eq_true rfl) dX12_keep_15
set_option maxHeartbeats 4000000 in
set_option maxRecDepth 100000 in
theorem k357_sizeMark (l : Launch) (D : va_G) (cT : Nat → ClassId) (h0 h1 h2 h3 h4 h5 h6 h7 h8 h9 h10 h11 h12 h13 h14 : Nat) : gMet l D cT yX8_sizeMark cX8_sizeMark 1 (some .int) 0 0 0 0 [.ref h0] [(h0, .inr (7, [.int 0, .int 0, .int 0, .int 0, .ref h1, .ref h2, .ref h3, .ref h4, .ref h5, .ref h6, .ref h7, .ref h8, .ref h9, .ref h10, .ref h11, .ref h12, .ref h13, .int 0, .ref h14]))] gE0 (gQi D cT (fun (r : Int32) (u : gS) => r = 1) (fun u : gS => [(h0, .inr (7, [.int 0, .int 0, .int 0, .int 0, .ref h1, .ref h2, .ref h3, .ref h4, .ref h5, .ref h6, .ref h7, .ref h8, .ref h9, .ref h10, .ref h11, .ref h12, .ref h13, .int 0, .ref h14]))])) := by
  refine gMet.of "StorksLet$Town" rfl (by decide +kernel) (Nat.le_of_ble_eq_true rfl) [(0, .ref h0)] rfl ?_
  intro p e s m below meth c A ls X hr hlk hnm hA hG hE hl
  refine lv_iconst (v := 1) X.x X.b dX8_sizeMark_0 (by decide +kernel) ?_
  refine lv_aload_n X.x X.b dX8_sizeMark_1 rfl (lv_at hl 0 rfl) ?_
  refine gg_X8_15 X hG 0 rfl rfl dX8_sizeMark_2 ?_
  refine lv_iadd X.x X.b dX8_sizeMark_5 ?_
  refine g_top (v' := 1) (by decide +kernel) ?_
  refine lv_bipush (v := 10) X.x X.b dX8_sizeMark_6 (by decide +kernel) ?_
  refine lv_aload_n X.x X.b dX8_sizeMark_8 rfl (lv_at hl 0 rfl) ?_
  refine gg_X8_18 X hG 0 rfl rfl dX8_sizeMark_9 ?_
  refine lv_imul X.x X.b dX8_sizeMark_12 ?_
  refine g_top (v' := 0) (by decide +kernel) ?_
  refine lv_iadd X.x X.b dX8_sizeMark_13 ?_
  refine g_top (v' := 1) (by decide +kernel) ?_
  refine lv_bipush (v := 100) X.x X.b dX8_sizeMark_14 (by decide +kernel) ?_
  refine lv_aload_n X.x X.b dX8_sizeMark_16 rfl (lv_at hl 0 rfl) ?_
  refine gg_X8_21 X hG 0 rfl rfl dX8_sizeMark_17 ?_
  refine lv_imul X.x X.b dX8_sizeMark_20 ?_
  refine g_top (v' := 0) (by decide +kernel) ?_
  refine lv_iadd X.x X.b dX8_sizeMark_21 ?_
  refine g_top (v' := 1) (by decide +kernel) ?_
  exact g_iret X hr hlk hG rfl gS0 rfl [0] rfl rfl (Nat.le_of_ble_eq_true rfl) (Nat.le_of_ble_eq_true rfl) dX8_sizeMark_22
set_option maxHeartbeats 4000000 in
set_option maxRecDepth 100000 in
theorem k358_keep (l : Launch) (D : va_G) (cT : Nat → ClassId) (h0 h1 h2 h3 h4 h5 h6 h7 h8 h9 h10 h11 h12 h13 h14 h15 h16 h17 h18 h19 h20 h21 h22 h23 h24 h25 h26 h27 h28 h29 h30 h31 : Nat) (g0 : Nat → Option Nat) (hg0 : g0 0 = some h3) (hg1 : g0 1 = some h23) (f1 : Nat → Int32) (f2 : Nat → Int32) (f3 : Nat → Int32) (f4 : Nat → Int32) (f5 : Nat → Int32) (f6 : Nat → Int32) (f7 : Nat → Int32) : gMet l D cT yX11_keep cX11_keep 2 (some .boolean) 3 87 0 0 [.ref h0, .int 0] [(h0, .inr (10, [.ref h11, .ref h12, .ref h2, .ref h13, .ref h14, .ref h15, .ref h16, .ref h17, .ref h18, .ref h19, .ref h1, .ref h10, .ref h20, .null, .ref h21, .ref h22])), (h1, .inl (cT 4, 2, .inr (.inr (.inr (.inr g0))))), (h2, .inr (7, [.int 0, .int 0, .int 0, .int 0, .ref h8, .ref h24, .ref h25, .ref h4, .ref h26, .ref h27, .ref h9, .ref h28, .ref h5, .ref h6, .ref h7, .ref h29, .ref h30, .int 0, .ref h31])), (h3, .inl (cT 0, 76, .inl f1)), (h4, .inl (cT 0, 6, .inl f2)), (h5, .inl (cT 0, 8, .inl f3)), (h6, .inl (cT 0, 8, .inl f4)), (h7, .inl (cT 0, 32, .inl f5)), (h8, .inl (cT 0, 30, .inl f6)), (h9, .inl (cT 0, 8, .inl f7)), (h10, .inl (cT 0, 2, .inl (fun _ => 0)))] gE0 (gQi D cT (fun (r : Int32) (u : gS) => r = 1) (fun u : gS => [(h0, .inr (10, [.ref h11, .ref h12, .ref h2, .ref h13, .ref h14, .ref h15, .ref h16, .ref h17, .ref h18, .ref h19, .ref h1, .ref h10, .ref h20, .null, .ref h21, .ref h22])), (h1, .inl (cT 4, 2, .inr (.inr (.inr (.inr g0))))), (h2, .inr (7, [.int 0, .int 0, .int 0, .int 0, .ref h8, .ref h24, .ref h25, .ref h4, .ref h26, .ref h27, .ref h9, .ref h28, .ref h5, .ref h6, .ref h7, .ref h29, .ref h30, .int 0, .ref h31])), (h3, .inl (cT 0, 76, .inl (u.2.1 0))), (h4, .inl (cT 0, 6, .inl f2)), (h5, .inl (cT 0, 8, .inl f3)), (h6, .inl (cT 0, 8, .inl f4)), (h7, .inl (cT 0, 32, .inl f5)), (h8, .inl (cT 0, 30, .inl f6)), (h9, .inl (cT 0, 8, .inl f7)), (h10, .inl (cT 0, 2, .inl (u.2.1 1)))])) := by
  refine gMet.of "StorksLet" rfl (by decide +kernel) (Nat.le_of_ble_eq_true rfl) [(0, .ref h0), (1, .int 0)] rfl ?_
  intro p e s m below meth c A ls X hr hlk hnm hA hG hE hl
  refine lv_iload_n X.x X.b dX11_keep_0 rfl (lv_at hl 1 rfl) ?_
  refine b_if_lt_f (tgt := 9) X.x X.b dX11_keep_1 (by decide) (by decide +kernel) ?_
  refine lv_iload_n X.x X.b dX11_keep_4 rfl (lv_at hl 1 rfl) ?_
  refine lv_iconst (v := 2) X.x X.b dX11_keep_5 (by decide +kernel) ?_
  refine b_icmp_lt_t (tgt := 11) X.x X.b dX11_keep_6 (by decide) (by decide +kernel) ?_
  refine lv_aload_n X.x X.b dX11_keep_11 rfl (lv_at hl 0 rfl) ?_
  refine gg_X11_26 X hG 0 rfl rfl dX11_keep_12 ?_
  refine lv_aload_n X.x X.b dX11_keep_15 rfl (lv_at hl 0 rfl) ?_
  refine gg_X11_66 X hG 0 rfl rfl dX11_keep_16 ?_
  refine lv_iload_n X.x X.b dX11_keep_19 rfl (lv_at hl 1 rfl) ?_
  refine g_aald X hG 1 rfl (g_in (by decide +kernel)) (b := h3) hg0 dX11_keep_20 ?_
  refine lv_iconst (v := 0) X.x X.b dX11_keep_21 (by decide +kernel) ?_
  refine g_kv (g_rV (As := [.ref h3, .int 0]) (rest := []) X hl hG (k43_saveTo l D cT h2 h3 h4 h5 h6 h7 h8 h9 h24 h25 h26 h27 h28 h29 h30 h31 f1 f2 f3 f4 f5 f6 f7) gw_X11_248 g_E01 g_E02 [2, 3, 4, 5, 6, 7, 8, 9] rfl rfl 2 rfl rfl rfl rfl rfl (Nat.le_of_ble_eq_true rfl) ⟨(Nat.le_of_ble_eq_true rfl), (Nat.le_of_ble_eq_true rfl)⟩ ⟨(Nat.le_of_ble_eq_true rfl), (Nat.le_of_ble_eq_true rfl)⟩ dX11_keep_22) hG hA [2, 3, 4, 5, 6, 7, 8, 9] [0, 1, 10] rfl rfl rfl rfl (c1 := 0) (s1 := 0) rfl rfl (fun u_1 H locs hu_1 (hG : gG D A s.heap [(h0, .inr (10, [.ref h11, .ref h12, .ref h2, .ref h13, .ref h14, .ref h15, .ref h16, .ref h17, .ref h18, .ref h19, .ref h1, .ref h10, .ref h20, .null, .ref h21, .ref h22])), (h1, .inl (cT 4, 2, .inr (.inr (.inr (.inr g0))))), (h10, .inl (cT 0, 2, .inl (fun _ => 0))), (h2, .inr (7, [.int 0, .int 0, .int 0, .int 0, .ref h8, .ref h24, .ref h25, .ref h4, .ref h26, .ref h27, .ref h9, .ref h28, .ref h5, .ref h6, .ref h7, .ref h29, .ref h30, .int 0, .ref h31])), (h3, .inl (cT 0, 76, .inl (u_1.2.1 0))), (h4, .inl (cT 0, 6, .inl f2)), (h5, .inl (cT 0, 8, .inl f3)), (h6, .inl (cT 0, 8, .inl f4)), (h7, .inl (cT 0, 32, .inl f5)), (h8, .inl (cT 0, 30, .inl f6)), (h9, .inl (cT 0, 8, .inl f7))] H locs) => ?_)
  refine lv_aload_n X.x X.b dX11_keep_25 rfl (lv_at hl 0 rfl) ?_
  refine gg_X11_69 X hG 0 rfl rfl dX11_keep_26 ?_
  refine lv_iload_n X.x X.b dX11_keep_29 rfl (lv_at hl 1 rfl) ?_
  refine lv_aload_n X.x X.b dX11_keep_30 rfl (lv_at hl 0 rfl) ?_
  refine gg_X11_26 X hG 0 rfl rfl dX11_keep_31 ?_
  refine g_ki (g_rV (As := []) (rest := [.int 0, .ref h10]) X hl hG (k357_sizeMark l D cT h2 h8 h24 h25 h4 h26 h27 h9 h28 h5 h6 h7 h29 h30 h31) gw_X11_429 g_E01 g_E02 [3] rfl rfl 3 rfl rfl rfl rfl rfl (Nat.le_of_ble_eq_true rfl) ⟨(Nat.le_of_ble_eq_true rfl), (Nat.le_of_ble_eq_true rfl)⟩ ⟨(Nat.le_of_ble_eq_true rfl), (Nat.le_of_ble_eq_true rfl)⟩ dX11_keep_34) hG hA [3] [0, 1, 2, 4, 5, 6, 7, 8, 9, 10] rfl rfl rfl rfl (c1 := 0) (s1 := 0) rfl rfl (fun r_2 u_2 H locs (hu : r_2 = 1) (hG : gG D A s.heap [(h0, .inr (10, [.ref h11, .ref h12, .ref h2, .ref h13, .ref h14, .ref h15, .ref h16, .ref h17, .ref h18, .ref h19, .ref h1, .ref h10, .ref h20, .null, .ref h21, .ref h22])), (h1, .inl (cT 4, 2, .inr (.inr (.inr (.inr g0))))), (h10, .inl (cT 0, 2, .inl (fun _ => 0))), (h3, .inl (cT 0, 76, .inl (u_1.2.1 0))), (h4, .inl (cT 0, 6, .inl f2)), (h5, .inl (cT 0, 8, .inl f3)), (h6, .inl (cT 0, 8, .inl f4)), (h7, .inl (cT 0, 32, .inl f5)), (h8, .inl (cT 0, 30, .inl f6)), (h9, .inl (cT 0, 8, .inl f7)), (h2, .inr (7, [.int 0, .int 0, .int 0, .int 0, .ref h8, .ref h24, .ref h25, .ref h4, .ref h26, .ref h27, .ref h9, .ref h28, .ref h5, .ref h6, .ref h7, .ref h29, .ref h30, .int 0, .ref h31]))] H locs) => ?_)
  have hu := hu.symm
  subst hu
  refine g_iast X hG 2 rfl (g_in (by decide +kernel)) (f' := (upd (fun _ => 0) 0 1)) rfl dX11_keep_37 (fun H locs (hG : gG D A s.heap [(h0, .inr (10, [.ref h11, .ref h12, .ref h2, .ref h13, .ref h14, .ref h15, .ref h16, .ref h17, .ref h18, .ref h19, .ref h1, .ref h10, .ref h20, .null, .ref h21, .ref h22])), (h1, .inl (cT 4, 2, .inr (.inr (.inr (.inr g0))))), (h10, .inl (cT 0, 2, .inl (upd (fun _ => 0) 0 1))), (h3, .inl (cT 0, 76, .inl (u_1.2.1 0))), (h4, .inl (cT 0, 6, .inl f2)), (h5, .inl (cT 0, 8, .inl f3)), (h6, .inl (cT 0, 8, .inl f4)), (h7, .inl (cT 0, 32, .inl f5)), (h8, .inl (cT 0, 30, .inl f6)), (h9, .inl (cT 0, 8, .inl f7)), (h2, .inr (7, [.int 0, .int 0, .int 0, .int 0, .ref h8, .ref h24, .ref h25, .ref h4, .ref h26, .ref h27, .ref h9, .ref h28, .ref h5, .ref h6, .ref h7, .ref h29, .ref h30, .int 0, .ref h31]))] H locs) => ?_)
  refine lv_iconst (v := 1) X.x X.b dX11_keep_38 (by decide +kernel) ?_
  exact g_iret X hr hlk hG rfl (⟨fun k => ([] : List Nat).getD k 0, fun k => ([(u_1.2.1 0), (upd (fun _ => 0) 0 1)] : List (Nat → Int32)).getD k (fun _ => 0), fun k => ([] : List Int32).getD k 0, fun k => ([] : List (Nat → Option Nat)).getD k (fun _ => none)⟩ : gS) rfl [0, 1, 10, 3, 4, 5, 6, 7, 8, 9, 2] rfl rfl (Nat.le_of_ble_eq_true rfl) (Nat.le_of_ble_eq_true rfl) dX11_keep_39
set_option maxHeartbeats 4000000 in
set_option maxRecDepth 100000 in
theorem k359_in (l : Launch) (D : va_G) (cT : Nat → ClassId) : gMet l D cT yX12_in cX12_in 3 (some .boolean) 0 0 0 0 [.int 0, .int 0, .int 1] [] gE0 (gQi D cT (fun (r : Int32) (u : gS) => r = 1) (fun u : gS => [])) := by
  refine gMet.of "StorksLetModel" rfl (by decide +kernel) (Nat.le_of_ble_eq_true rfl) [(0, .int 0), (1, .int 0), (2, .int 1)] rfl ?_
  intro p e s m below meth c A ls X hr hlk hnm hA hG hE hl
  refine lv_iload_n X.x X.b dX12_in_0 rfl (lv_at hl 0 rfl) ?_
  refine lv_iload_n X.x X.b dX12_in_1 rfl (lv_at hl 1 rfl) ?_
  refine b_icmp_lt_f (tgt := 14) X.x X.b dX12_in_2 (by decide) (by decide +kernel) ?_
  refine lv_iload_n X.x X.b dX12_in_5 rfl (lv_at hl 0 rfl) ?_
  refine lv_iload_n X.x X.b dX12_in_6 rfl (lv_at hl 2 rfl) ?_
  refine b_icmp_gt_f (tgt := 14) X.x X.b dX12_in_7 (by decide) (by decide +kernel) ?_
  refine lv_iconst (v := 1) X.x X.b dX12_in_10 (by decide +kernel) ?_
  refine lv_goto (tgt := 15) X.x X.b dX12_in_11 (by decide) ?_
  exact g_iret X hr hlk hG rfl gS0 rfl [] rfl rfl (Nat.le_of_ble_eq_true rfl) (Nat.le_of_ble_eq_true rfl) dX12_in_15
set_option maxHeartbeats 4000000 in
set_option maxRecDepth 100000 in
theorem k360_lay (l : Launch) (D : va_G) (cT : Nat → ClassId) (h0 h1 : Nat) (f0 : Nat → Int32) (f1 : Nat → Int32) : gMet l D cT yX12_lay cX12_lay 4 none 0 0 0 0 [.ref h0, .ref h1, .int 0] [(h0, .inl (cT 0, 55, .inl f0)), (h1, .inl (cT 0, 110, .inl f1))] gE0 (gQv D cT (fun _ : gS => True) (fun u : gS => [(h0, .inl (cT 0, 55, .inl f0)), (h1, .inl (cT 0, 110, .inl (u.2.1 0)))])) := by
  refine gMet.of "StorksLetModel" rfl (by decide +kernel) (Nat.le_of_ble_eq_true rfl) [(0, .ref h0), (1, .ref h1), (2, .int 0)] rfl ?_
  intro p e s m below meth c A ls X hr hlk hnm hA hG hE hl
  generalize hQ9 : MQ below _ _ s _ _ A = Q9
  refine lv_iconst (v := 0) X.x X.b dX12_lay_0 (by decide +kernel) ?_
  refine lv_istore_n (lv' := [(3, .int 0), (0, .ref h0), (1, .ref h1), (2, .int 0)]) X.x X.b dX12_lay_1 rfl hl (Nat.le_of_ble_eq_true rfl) rfl (fun ls hl => ?_)
  have LOOP_2 : ∀ (fu k_2 : Nat) (g_1 : Nat → Int32), k_2 ≤ 55 → 55 < k_2 + fu → ∀ (H : Heap) (locs : List Loc), gG D A s.heap [(h0, .inl (cT 0, 55, .inl f0)), (h1, .inl (cT 0, 110, .inl g_1))] H locs → ∀ (ls : Array Slot), lv_has ls 4 [(3, .int (nI k_2)), (0, .ref h0), (1, .ref h1), (2, .int 0)] → W p l e { frames := 0, cells := 0, slots := 0, locals := 0 } s m ([.ref h0, .ref h1, .int 0] : List Value).toArray below meth c H locs 0 0 Q9 (F0 m 2 ls []) := by
    intro fu
    induction fu with
    | zero => intro k_2 g_1 hk1 hk2; exact absurd hk2 (by omega)
    | succ fu ih_2 =>
      intro k_2 g_1 hk1_2 hk2_2 H locs hG ls hl
      refine lv_iload_n X.x X.b dX12_lay_2 rfl (lv_at hl 0 rfl) ?_
      refine lv_bipush (v := 55) X.x X.b dX12_lay_3 (by decide +kernel) ?_
      refine lv_icmp_ge (tgt := 22) X.x X.b dX12_lay_5 (by decide) (fun c_2 => ?_) (fun c_2 => ?_)
      · skip
        have f_2 : 55 ≤ k_2 := (nI_leI (a := 55) (b := k_2) (by omega) (by omega)).mp c_2
        subst hQ9
        exact g_vret X hr hlk hG (⟨fun k => ([] : List Nat).getD k 0, fun k => ([g_1] : List (Nat → Int32)).getD k (fun _ => 0), fun k => ([] : List Int32).getD k 0, fun k => ([] : List (Nat → Option Nat)).getD k (fun _ => none)⟩ : gS) trivial [0, 1] rfl rfl (Nat.le_of_ble_eq_true rfl) (Nat.le_of_ble_eq_true rfl) dX12_lay_22
      · skip
        have f_2 : ¬ 55 ≤ k_2 := fun z => c_2 ((nI_leI (a := 55) (b := k_2) (by omega) (by omega)).mpr z)
        refine lv_aload_n X.x X.b dX12_lay_8 rfl (lv_at hl 2 rfl) ?_
        refine lv_iload_n X.x X.b dX12_lay_9 rfl (lv_at hl 3 rfl) ?_
        refine lv_iload_n X.x X.b dX12_lay_10 rfl (lv_at hl 0 rfl) ?_
        refine lv_iadd X.x X.b dX12_lay_11 ?_
        refine g_top (v' := (nI (0 + k_2))) (nI_add 0 _) ?_
        refine lv_aload_n X.x X.b dX12_lay_12 rfl (lv_at hl 1 rfl) ?_
        refine lv_iload_n X.x X.b dX12_lay_13 rfl (lv_at hl 0 rfl) ?_
        refine g_iald X hG 0 rfl (g_inN (k := k_2) rfl (by omega) (by decide)) (v := (f0 k_2)) (by rw [nI_clamp (by omega)]) dX12_lay_14 ?_
        refine g_iast X hG 1 rfl (g_inN (k := 0 + k_2) rfl (by omega) (by decide)) (f' := (upd g_1 (0 + k_2) (f0 k_2))) (by rw [nI_clamp (by omega)]) dX12_lay_15 (fun H locs (hG : gG D A s.heap [(h0, .inl (cT 0, 55, .inl f0)), (h1, .inl (cT 0, 110, .inl (upd g_1 (0 + k_2) (f0 k_2))))] H locs) => ?_)
        refine lv_iinc (v := (nI (k_2 + 1))) (lv' := [(3, .int (nI (k_2 + 1))), (0, .ref h0), (1, .ref h1), (2, .int 0)]) X.x X.b dX12_lay_16 hl (k := 0) rfl (nI_1 _) (Nat.le_of_ble_eq_true rfl) rfl (fun ls hl => ?_)
        refine lv_goto (tgt := 2) X.x X.b dX12_lay_19 (by decide) ?_
        exact ih_2 (k_2 + 1) ((upd g_1 (0 + k_2) (f0 k_2))) (by omega) (by omega) _ _ hG _ (lv_sub hl [0, 1, 2, 3] rfl)
  exact LOOP_2 56 0 f1 (by omega) (by omega) _ _ hG _ (lv_sub hl [0, 1, 2, 3] rfl)
set_option maxHeartbeats 4000000 in
set_option maxRecDepth 100000 in
theorem k361_keep (l : Launch) (D : va_G) (cT : Nat → ClassId) (h0 h1 h2 h3 h4 h5 h6 h7 h8 h9 h10 h11 h12 h13 h14 h15 h16 h17 h18 h19 h20 h21 h22 h23 h24 h25 h26 h27 h28 h29 h30 h31 h32 h33 h34 h35 : Nat) (f0 : Nat → Int32) (f1 : Nat → Int32) (f2 : Nat → Int32) : gMet l D cT yX12_keep cX12_keep 2 (some .boolean) 1 23 0 0 [.ref h0, .int 0] [(h0, .inr (11, (.ref h3 :: .int 0 :: .ref h5 :: .ref h6 :: .ref h7 :: .ref h8 :: .ref h9 :: .int 0 :: .ref h10 :: .ref h11 :: .int 0 :: .ref h12 :: .ref h13 :: .ref h14 :: .int 0 :: .int (-1) :: .int 0 :: .ref h15 :: .int 0 :: .ref h16 :: .int 0 :: .int 0 :: .null :: .int 0 :: .int 0 :: .int 0 :: .int 0 :: .ref h17 :: .ref h18 :: .ref h19 :: .ref h20 :: .int 0 :: .null :: .int 0 :: .int 0 :: .int 0 :: .ref h21 :: .int 0 :: .int (-1) :: .int 0 :: .ref h22 :: .int 0 :: .ref h23 :: .ref h24 :: .int 0 :: .ref h25 :: .ref h26 :: .ref h27 :: .ref h28 :: .int 0 :: .int 0 :: .int 0 :: .ref h29 :: .int 0 :: .int 0 :: .ref h30 :: .ref h31 :: .ref h32 :: .ref h33 :: .int 0 :: .ref h34 :: .int 0 :: .ref h35 :: .int 0 :: .int 0 :: .ref h4 :: .ref h1 :: .ref h2 :: []))), (h1, .inl (cT 3, 2, .inl (fun _ => 0))), (h2, .inl (cT 0, 2, .inl f0)), (h3, .inl (cT 0, 55, .inl f1)), (h4, .inl (cT 0, 110, .inl f2))] gE0 (gQi D cT (fun (r : Int32) (u : gS) => r = 1) (fun u : gS => [(h0, .inr (11, (.ref h3 :: .int 0 :: .ref h5 :: .ref h6 :: .ref h7 :: .ref h8 :: .ref h9 :: .int 0 :: .ref h10 :: .ref h11 :: .int 0 :: .ref h12 :: .ref h13 :: .ref h14 :: .int 0 :: .int (-1) :: .int 0 :: .ref h15 :: .int 0 :: .ref h16 :: .int 0 :: .int 0 :: .null :: .int 0 :: .int 0 :: .int 0 :: .int 0 :: .ref h17 :: .ref h18 :: .ref h19 :: .ref h20 :: .int 0 :: .null :: .int 0 :: .int 0 :: .int 0 :: .ref h21 :: .int 0 :: .int (-1) :: .int 0 :: .ref h22 :: .int 0 :: .ref h23 :: .ref h24 :: .int 0 :: .ref h25 :: .ref h26 :: .ref h27 :: .ref h28 :: .int 0 :: .int 0 :: .int 0 :: .ref h29 :: .int 0 :: .int 0 :: .ref h30 :: .ref h31 :: .ref h32 :: .ref h33 :: .int 0 :: .ref h34 :: .int 0 :: .ref h35 :: .int 0 :: .int 0 :: .ref h4 :: .ref h1 :: .ref h2 :: []))), (h1, .inl (cT 3, 2, .inl (u.2.1 0))), (h2, .inl (cT 0, 2, .inl (u.2.1 1))), (h3, .inl (cT 0, 55, .inl f1)), (h4, .inl (cT 0, 110, .inl (u.2.1 2)))])) := by
  refine gMet.of "StorksLetModel" rfl (by decide +kernel) (Nat.le_of_ble_eq_true rfl) [(0, .ref h0), (1, .int 0)] rfl ?_
  intro p e s m below meth c A ls X hr hlk hnm hA hG hE hl
  refine lv_aload_n X.x X.b dX12_keep_0 rfl (lv_at hl 0 rfl) ?_
  refine lv_iconst (v := 0) X.x X.b dX12_keep_1 (by decide +kernel) ?_
  refine gp_X12_124 X hG 0 rfl rfl rfl (Nat.le_of_ble_eq_true rfl) dX12_keep_2 (fun H locs (hG : gG D A s.heap [(h0, .inr (11, (.ref h3 :: .int 0 :: .ref h5 :: .ref h6 :: .ref h7 :: .ref h8 :: .ref h9 :: .int 0 :: .ref h10 :: .ref h11 :: .int 0 :: .ref h12 :: .ref h13 :: .ref h14 :: .int 0 :: .int (-1) :: .int 0 :: .ref h15 :: .int 0 :: .ref h16 :: .int 0 :: .int 0 :: .null :: .int 0 :: .int 0 :: .int 0 :: .int 0 :: .ref h17 :: .ref h18 :: .ref h19 :: .ref h20 :: .int 0 :: .null :: .int 0 :: .int 0 :: .int 0 :: .ref h21 :: .int 0 :: .int (-1) :: .int 0 :: .ref h22 :: .int 0 :: .ref h23 :: .ref h24 :: .int 0 :: .ref h25 :: .ref h26 :: .ref h27 :: .ref h28 :: .int 0 :: .int 0 :: .int 0 :: .ref h29 :: .int 0 :: .int 0 :: .ref h30 :: .ref h31 :: .ref h32 :: .ref h33 :: .int 0 :: .ref h34 :: .int 0 :: .ref h35 :: .int 0 :: .int 0 :: .ref h4 :: .ref h1 :: .ref h2 :: []))), (h1, .inl (cT 3, 2, .inl (fun _ => 0))), (h2, .inl (cT 0, 2, .inl f0)), (h3, .inl (cT 0, 55, .inl f1)), (h4, .inl (cT 0, 110, .inl f2))] H locs) => ?_)
  refine lv_iload_n X.x X.b dX12_keep_5 rfl (lv_at hl 1 rfl) ?_
  refine lv_iconst (v := 0) X.x X.b dX12_keep_6 (by decide +kernel) ?_
  refine lv_iconst (v := 1) X.x X.b dX12_keep_7 (by decide +kernel) ?_
  refine g_ki (g_rS (As := [.int 0, .int 0, .int 1]) (rest := []) X hl hG (k359_in l D cT) gw_X12_133 g_E01 g_E02 [] rfl rfl rfl rfl (Nat.le_of_ble_eq_true rfl) ⟨(Nat.le_of_ble_eq_true rfl), (Nat.le_of_ble_eq_true rfl)⟩ ⟨(Nat.le_of_ble_eq_true rfl), (Nat.le_of_ble_eq_true rfl)⟩ dX12_keep_8) hG hA [] [0, 1, 2, 3, 4] rfl rfl rfl rfl (c1 := 0) (s1 := 0) rfl rfl (fun r_1 u_1 H locs (hu : r_1 = 1) (hG : gG D A s.heap [(h0, .inr (11, (.ref h3 :: .int 0 :: .ref h5 :: .ref h6 :: .ref h7 :: .ref h8 :: .ref h9 :: .int 0 :: .ref h10 :: .ref h11 :: .int 0 :: .ref h12 :: .ref h13 :: .ref h14 :: .int 0 :: .int (-1) :: .int 0 :: .ref h15 :: .int 0 :: .ref h16 :: .int 0 :: .int 0 :: .null :: .int 0 :: .int 0 :: .int 0 :: .int 0 :: .ref h17 :: .ref h18 :: .ref h19 :: .ref h20 :: .int 0 :: .null :: .int 0 :: .int 0 :: .int 0 :: .ref h21 :: .int 0 :: .int (-1) :: .int 0 :: .ref h22 :: .int 0 :: .ref h23 :: .ref h24 :: .int 0 :: .ref h25 :: .ref h26 :: .ref h27 :: .ref h28 :: .int 0 :: .int 0 :: .int 0 :: .ref h29 :: .int 0 :: .int 0 :: .ref h30 :: .ref h31 :: .ref h32 :: .ref h33 :: .int 0 :: .ref h34 :: .int 0 :: .ref h35 :: .int 0 :: .int 0 :: .ref h4 :: .ref h1 :: .ref h2 :: []))), (h1, .inl (cT 3, 2, .inl (fun _ => 0))), (h2, .inl (cT 0, 2, .inl f0)), (h3, .inl (cT 0, 55, .inl f1)), (h4, .inl (cT 0, 110, .inl f2))] H locs) => ?_)
  have hu := hu.symm
  subst hu
  refine b_if_ne_t (tgt := 16) X.x X.b dX12_keep_11 (by decide) (by decide +kernel) ?_
  refine lv_aload_n X.x X.b dX12_keep_16 rfl (lv_at hl 0 rfl) ?_
  refine gg_X12_117 X hG 0 rfl rfl dX12_keep_17 ?_
  refine lv_iload_n X.x X.b dX12_keep_20 rfl (lv_at hl 1 rfl) ?_
  refine lv_iconst (v := 1) X.x X.b dX12_keep_21 (by decide +kernel) ?_
  refine g_zast X hG 1 rfl (g_in (by decide +kernel)) (f' := (upd (fun _ => 0) 0 (vp_nar .boolean 1))) rfl dX12_keep_22 (fun H locs (hG : gG D A s.heap [(h0, .inr (11, (.ref h3 :: .int 0 :: .ref h5 :: .ref h6 :: .ref h7 :: .ref h8 :: .ref h9 :: .int 0 :: .ref h10 :: .ref h11 :: .int 0 :: .ref h12 :: .ref h13 :: .ref h14 :: .int 0 :: .int (-1) :: .int 0 :: .ref h15 :: .int 0 :: .ref h16 :: .int 0 :: .int 0 :: .null :: .int 0 :: .int 0 :: .int 0 :: .int 0 :: .ref h17 :: .ref h18 :: .ref h19 :: .ref h20 :: .int 0 :: .null :: .int 0 :: .int 0 :: .int 0 :: .ref h21 :: .int 0 :: .int (-1) :: .int 0 :: .ref h22 :: .int 0 :: .ref h23 :: .ref h24 :: .int 0 :: .ref h25 :: .ref h26 :: .ref h27 :: .ref h28 :: .int 0 :: .int 0 :: .int 0 :: .ref h29 :: .int 0 :: .int 0 :: .ref h30 :: .ref h31 :: .ref h32 :: .ref h33 :: .int 0 :: .ref h34 :: .int 0 :: .ref h35 :: .int 0 :: .int 0 :: .ref h4 :: .ref h1 :: .ref h2 :: []))), (h1, .inl (cT 3, 2, .inl (upd (fun _ => 0) 0 (vp_nar .boolean 1)))), (h2, .inl (cT 0, 2, .inl f0)), (h3, .inl (cT 0, 55, .inl f1)), (h4, .inl (cT 0, 110, .inl f2))] H locs) => ?_)
  refine lv_aload_n X.x X.b dX12_keep_23 rfl (lv_at hl 0 rfl) ?_
  refine gg_X12_121 X hG 0 rfl rfl dX12_keep_24 ?_
  refine lv_iload_n X.x X.b dX12_keep_27 rfl (lv_at hl 1 rfl) ?_
  refine lv_aload_n X.x X.b dX12_keep_28 rfl (lv_at hl 0 rfl) ?_
  refine gg_X12_194 X hG 0 rfl rfl dX12_keep_29 ?_
  refine g_iast X hG 2 rfl (g_in (by decide +kernel)) (f' := (upd f0 0 0)) rfl dX12_keep_32 (fun H locs (hG : gG D A s.heap [(h0, .inr (11, (.ref h3 :: .int 0 :: .ref h5 :: .ref h6 :: .ref h7 :: .ref h8 :: .ref h9 :: .int 0 :: .ref h10 :: .ref h11 :: .int 0 :: .ref h12 :: .ref h13 :: .ref h14 :: .int 0 :: .int (-1) :: .int 0 :: .ref h15 :: .int 0 :: .ref h16 :: .int 0 :: .int 0 :: .null :: .int 0 :: .int 0 :: .int 0 :: .int 0 :: .ref h17 :: .ref h18 :: .ref h19 :: .ref h20 :: .int 0 :: .null :: .int 0 :: .int 0 :: .int 0 :: .ref h21 :: .int 0 :: .int (-1) :: .int 0 :: .ref h22 :: .int 0 :: .ref h23 :: .ref h24 :: .int 0 :: .ref h25 :: .ref h26 :: .ref h27 :: .ref h28 :: .int 0 :: .int 0 :: .int 0 :: .ref h29 :: .int 0 :: .int 0 :: .ref h30 :: .ref h31 :: .ref h32 :: .ref h33 :: .int 0 :: .ref h34 :: .int 0 :: .ref h35 :: .int 0 :: .int 0 :: .ref h4 :: .ref h1 :: .ref h2 :: []))), (h1, .inl (cT 3, 2, .inl (upd (fun _ => 0) 0 (vp_nar .boolean 1)))), (h2, .inl (cT 0, 2, .inl (upd f0 0 0))), (h3, .inl (cT 0, 55, .inl f1)), (h4, .inl (cT 0, 110, .inl f2))] H locs) => ?_)
  refine lv_aload_n X.x X.b dX12_keep_33 rfl (lv_at hl 0 rfl) ?_
  refine gg_X12_9 X hG 0 rfl rfl dX12_keep_34 ?_
  refine lv_aload_n X.x X.b dX12_keep_37 rfl (lv_at hl 0 rfl) ?_
  refine gg_X12_114 X hG 0 rfl rfl dX12_keep_38 ?_
  refine lv_bipush (v := 55) X.x X.b dX12_keep_41 (by decide +kernel) ?_
  refine lv_iload_n X.x X.b dX12_keep_43 rfl (lv_at hl 1 rfl) ?_
  refine lv_imul X.x X.b dX12_keep_44 ?_
  refine g_top (v' := 0) (by decide +kernel) ?_
  refine g_kv (g_rS (As := [.ref h3, .ref h4, .int 0]) (rest := []) X hl hG (k360_lay l D cT h3 h4 f1 f2) gw_X12_309 g_E01 g_E02 [3, 4] rfl rfl rfl rfl (Nat.le_of_ble_eq_true rfl) ⟨(Nat.le_of_ble_eq_true rfl), (Nat.le_of_ble_eq_true rfl)⟩ ⟨(Nat.le_of_ble_eq_true rfl), (Nat.le_of_ble_eq_true rfl)⟩ dX12_keep_45) hG hA [3, 4] [0, 1, 2] rfl rfl rfl rfl (c1 := 0) (s1 := 0) rfl rfl (fun u_2 H locs hu_2 (hG : gG D A s.heap [(h0, .inr (11, (.ref h3 :: .int 0 :: .ref h5 :: .ref h6 :: .ref h7 :: .ref h8 :: .ref h9 :: .int 0 :: .ref h10 :: .ref h11 :: .int 0 :: .ref h12 :: .ref h13 :: .ref h14 :: .int 0 :: .int (-1) :: .int 0 :: .ref h15 :: .int 0 :: .ref h16 :: .int 0 :: .int 0 :: .null :: .int 0 :: .int 0 :: .int 0 :: .int 0 :: .ref h17 :: .ref h18 :: .ref h19 :: .ref h20 :: .int 0 :: .null :: .int 0 :: .int 0 :: .int 0 :: .ref h21 :: .int 0 :: .int (-1) :: .int 0 :: .ref h22 :: .int 0 :: .ref h23 :: .ref h24 :: .int 0 :: .ref h25 :: .ref h26 :: .ref h27 :: .ref h28 :: .int 0 :: .int 0 :: .int 0 :: .ref h29 :: .int 0 :: .int 0 :: .ref h30 :: .ref h31 :: .ref h32 :: .ref h33 :: .int 0 :: .ref h34 :: .int 0 :: .ref h35 :: .int 0 :: .int 0 :: .ref h4 :: .ref h1 :: .ref h2 :: []))), (h1, .inl (cT 3, 2, .inl (upd (fun _ => 0) 0 (vp_nar .boolean 1)))), (h2, .inl (cT 0, 2, .inl (upd f0 0 0))), (h3, .inl (cT 0, 55, .inl f1)), (h4, .inl (cT 0, 110, .inl (u_2.2.1 0)))] H locs) => ?_)
  refine lv_iconst (v := 1) X.x X.b dX12_keep_48 (by decide +kernel) ?_
  exact g_iret X hr hlk hG rfl (⟨fun k => ([] : List Nat).getD k 0, fun k => ([(upd (fun _ => 0) 0 (vp_nar .boolean 1)), (upd f0 0 0), (u_2.2.1 0)] : List (Nat → Int32)).getD k (fun _ => 0), fun k => ([] : List Int32).getD k 0, fun k => ([] : List (Nat → Option Nat)).getD k (fun _ => none)⟩ : gS) rfl [0, 1, 2, 3, 4] rfl rfl (Nat.le_of_ble_eq_true rfl) (Nat.le_of_ble_eq_true rfl) dX12_keep_49
set_option maxHeartbeats 4000000 in
set_option maxRecDepth 100000 in
theorem k362_keep (l : Launch) (D : va_G) (cT : Nat → ClassId) (h0 h1 h2 h3 h4 h5 h6 h7 h8 h9 h10 h11 h12 h13 h14 h15 h16 h17 h18 h19 h20 h21 h22 h23 h24 h25 h26 h27 h28 h29 h30 h31 : Nat) (g0 : Nat → Option Nat) (hg0 : g0 0 = some h23) (hg1 : g0 1 = some h3) (f1 : Nat → Int32) (f2 : Nat → Int32) (f3 : Nat → Int32) (f4 : Nat → Int32) (f5 : Nat → Int32) (f6 : Nat → Int32) (f7 : Nat → Int32) : gMet l D cT yX11_keep cX11_keep 2 (some .boolean) 3 87 0 0 [.ref h0, .int 1] [(h0, .inr (10, [.ref h11, .ref h12, .ref h2, .ref h13, .ref h14, .ref h15, .ref h16, .ref h17, .ref h18, .ref h19, .ref h1, .ref h10, .ref h20, .null, .ref h21, .ref h22])), (h1, .inl (cT 4, 2, .inr (.inr (.inr (.inr g0))))), (h2, .inr (7, [.int 0, .int 0, .int 0, .int 0, .ref h8, .ref h24, .ref h25, .ref h4, .ref h26, .ref h27, .ref h9, .ref h28, .ref h5, .ref h6, .ref h7, .ref h29, .ref h30, .int 0, .ref h31])), (h3, .inl (cT 0, 76, .inl f1)), (h4, .inl (cT 0, 6, .inl f2)), (h5, .inl (cT 0, 8, .inl f3)), (h6, .inl (cT 0, 8, .inl f4)), (h7, .inl (cT 0, 32, .inl f5)), (h8, .inl (cT 0, 30, .inl f6)), (h9, .inl (cT 0, 8, .inl f7)), (h10, .inl (cT 0, 2, .inl (fun _ => 0)))] gE0 (gQi D cT (fun (r : Int32) (u : gS) => r = 1) (fun u : gS => [(h0, .inr (10, [.ref h11, .ref h12, .ref h2, .ref h13, .ref h14, .ref h15, .ref h16, .ref h17, .ref h18, .ref h19, .ref h1, .ref h10, .ref h20, .null, .ref h21, .ref h22])), (h1, .inl (cT 4, 2, .inr (.inr (.inr (.inr g0))))), (h2, .inr (7, [.int 0, .int 0, .int 0, .int 0, .ref h8, .ref h24, .ref h25, .ref h4, .ref h26, .ref h27, .ref h9, .ref h28, .ref h5, .ref h6, .ref h7, .ref h29, .ref h30, .int 0, .ref h31])), (h3, .inl (cT 0, 76, .inl (u.2.1 0))), (h4, .inl (cT 0, 6, .inl f2)), (h5, .inl (cT 0, 8, .inl f3)), (h6, .inl (cT 0, 8, .inl f4)), (h7, .inl (cT 0, 32, .inl f5)), (h8, .inl (cT 0, 30, .inl f6)), (h9, .inl (cT 0, 8, .inl f7)), (h10, .inl (cT 0, 2, .inl (u.2.1 1)))])) := by
  refine gMet.of "StorksLet" rfl (by decide +kernel) (Nat.le_of_ble_eq_true rfl) [(0, .ref h0), (1, .int 1)] rfl ?_
  intro p e s m below meth c A ls X hr hlk hnm hA hG hE hl
  refine lv_iload_n X.x X.b dX11_keep_0 rfl (lv_at hl 1 rfl) ?_
  refine b_if_lt_f (tgt := 9) X.x X.b dX11_keep_1 (by decide) (by decide +kernel) ?_
  refine lv_iload_n X.x X.b dX11_keep_4 rfl (lv_at hl 1 rfl) ?_
  refine lv_iconst (v := 2) X.x X.b dX11_keep_5 (by decide +kernel) ?_
  refine b_icmp_lt_t (tgt := 11) X.x X.b dX11_keep_6 (by decide) (by decide +kernel) ?_
  refine lv_aload_n X.x X.b dX11_keep_11 rfl (lv_at hl 0 rfl) ?_
  refine gg_X11_26 X hG 0 rfl rfl dX11_keep_12 ?_
  refine lv_aload_n X.x X.b dX11_keep_15 rfl (lv_at hl 0 rfl) ?_
  refine gg_X11_66 X hG 0 rfl rfl dX11_keep_16 ?_
  refine lv_iload_n X.x X.b dX11_keep_19 rfl (lv_at hl 1 rfl) ?_
  refine g_aald X hG 1 rfl (g_in (by decide +kernel)) (b := h3) hg1 dX11_keep_20 ?_
  refine lv_iconst (v := 0) X.x X.b dX11_keep_21 (by decide +kernel) ?_
  refine g_kv (g_rV (As := [.ref h3, .int 0]) (rest := []) X hl hG (k43_saveTo l D cT h2 h3 h4 h5 h6 h7 h8 h9 h24 h25 h26 h27 h28 h29 h30 h31 f1 f2 f3 f4 f5 f6 f7) gw_X11_248 g_E01 g_E02 [2, 3, 4, 5, 6, 7, 8, 9] rfl rfl 2 rfl rfl rfl rfl rfl (Nat.le_of_ble_eq_true rfl) ⟨(Nat.le_of_ble_eq_true rfl), (Nat.le_of_ble_eq_true rfl)⟩ ⟨(Nat.le_of_ble_eq_true rfl), (Nat.le_of_ble_eq_true rfl)⟩ dX11_keep_22) hG hA [2, 3, 4, 5, 6, 7, 8, 9] [0, 1, 10] rfl rfl rfl rfl (c1 := 0) (s1 := 0) rfl rfl (fun u_1 H locs hu_1 (hG : gG D A s.heap [(h0, .inr (10, [.ref h11, .ref h12, .ref h2, .ref h13, .ref h14, .ref h15, .ref h16, .ref h17, .ref h18, .ref h19, .ref h1, .ref h10, .ref h20, .null, .ref h21, .ref h22])), (h1, .inl (cT 4, 2, .inr (.inr (.inr (.inr g0))))), (h10, .inl (cT 0, 2, .inl (fun _ => 0))), (h2, .inr (7, [.int 0, .int 0, .int 0, .int 0, .ref h8, .ref h24, .ref h25, .ref h4, .ref h26, .ref h27, .ref h9, .ref h28, .ref h5, .ref h6, .ref h7, .ref h29, .ref h30, .int 0, .ref h31])), (h3, .inl (cT 0, 76, .inl (u_1.2.1 0))), (h4, .inl (cT 0, 6, .inl f2)), (h5, .inl (cT 0, 8, .inl f3)), (h6, .inl (cT 0, 8, .inl f4)), (h7, .inl (cT 0, 32, .inl f5)), (h8, .inl (cT 0, 30, .inl f6)), (h9, .inl (cT 0, 8, .inl f7))] H locs) => ?_)
  refine lv_aload_n X.x X.b dX11_keep_25 rfl (lv_at hl 0 rfl) ?_
  refine gg_X11_69 X hG 0 rfl rfl dX11_keep_26 ?_
  refine lv_iload_n X.x X.b dX11_keep_29 rfl (lv_at hl 1 rfl) ?_
  refine lv_aload_n X.x X.b dX11_keep_30 rfl (lv_at hl 0 rfl) ?_
  refine gg_X11_26 X hG 0 rfl rfl dX11_keep_31 ?_
  refine g_ki (g_rV (As := []) (rest := [.int 1, .ref h10]) X hl hG (k357_sizeMark l D cT h2 h8 h24 h25 h4 h26 h27 h9 h28 h5 h6 h7 h29 h30 h31) gw_X11_429 g_E01 g_E02 [3] rfl rfl 3 rfl rfl rfl rfl rfl (Nat.le_of_ble_eq_true rfl) ⟨(Nat.le_of_ble_eq_true rfl), (Nat.le_of_ble_eq_true rfl)⟩ ⟨(Nat.le_of_ble_eq_true rfl), (Nat.le_of_ble_eq_true rfl)⟩ dX11_keep_34) hG hA [3] [0, 1, 2, 4, 5, 6, 7, 8, 9, 10] rfl rfl rfl rfl (c1 := 0) (s1 := 0) rfl rfl (fun r_2 u_2 H locs (hu : r_2 = 1) (hG : gG D A s.heap [(h0, .inr (10, [.ref h11, .ref h12, .ref h2, .ref h13, .ref h14, .ref h15, .ref h16, .ref h17, .ref h18, .ref h19, .ref h1, .ref h10, .ref h20, .null, .ref h21, .ref h22])), (h1, .inl (cT 4, 2, .inr (.inr (.inr (.inr g0))))), (h10, .inl (cT 0, 2, .inl (fun _ => 0))), (h3, .inl (cT 0, 76, .inl (u_1.2.1 0))), (h4, .inl (cT 0, 6, .inl f2)), (h5, .inl (cT 0, 8, .inl f3)), (h6, .inl (cT 0, 8, .inl f4)), (h7, .inl (cT 0, 32, .inl f5)), (h8, .inl (cT 0, 30, .inl f6)), (h9, .inl (cT 0, 8, .inl f7)), (h2, .inr (7, [.int 0, .int 0, .int 0, .int 0, .ref h8, .ref h24, .ref h25, .ref h4, .ref h26, .ref h27, .ref h9, .ref h28, .ref h5, .ref h6, .ref h7, .ref h29, .ref h30, .int 0, .ref h31]))] H locs) => ?_)
  have hu := hu.symm
  subst hu
  refine g_iast X hG 2 rfl (g_in (by decide +kernel)) (f' := (upd (fun _ => 0) 1 1)) rfl dX11_keep_37 (fun H locs (hG : gG D A s.heap [(h0, .inr (10, [.ref h11, .ref h12, .ref h2, .ref h13, .ref h14, .ref h15, .ref h16, .ref h17, .ref h18, .ref h19, .ref h1, .ref h10, .ref h20, .null, .ref h21, .ref h22])), (h1, .inl (cT 4, 2, .inr (.inr (.inr (.inr g0))))), (h10, .inl (cT 0, 2, .inl (upd (fun _ => 0) 1 1))), (h3, .inl (cT 0, 76, .inl (u_1.2.1 0))), (h4, .inl (cT 0, 6, .inl f2)), (h5, .inl (cT 0, 8, .inl f3)), (h6, .inl (cT 0, 8, .inl f4)), (h7, .inl (cT 0, 32, .inl f5)), (h8, .inl (cT 0, 30, .inl f6)), (h9, .inl (cT 0, 8, .inl f7)), (h2, .inr (7, [.int 0, .int 0, .int 0, .int 0, .ref h8, .ref h24, .ref h25, .ref h4, .ref h26, .ref h27, .ref h9, .ref h28, .ref h5, .ref h6, .ref h7, .ref h29, .ref h30, .int 0, .ref h31]))] H locs) => ?_)
  refine lv_iconst (v := 1) X.x X.b dX11_keep_38 (by decide +kernel) ?_
  exact g_iret X hr hlk hG rfl (⟨fun k => ([] : List Nat).getD k 0, fun k => ([(u_1.2.1 0), (upd (fun _ => 0) 1 1)] : List (Nat → Int32)).getD k (fun _ => 0), fun k => ([] : List Int32).getD k 0, fun k => ([] : List (Nat → Option Nat)).getD k (fun _ => none)⟩ : gS) rfl [0, 1, 10, 3, 4, 5, 6, 7, 8, 9, 2] rfl rfl (Nat.le_of_ble_eq_true rfl) (Nat.le_of_ble_eq_true rfl) dX11_keep_39
set_option maxHeartbeats 4000000 in
set_option maxRecDepth 100000 in
theorem k363_in (l : Launch) (D : va_G) (cT : Nat → ClassId) : gMet l D cT yX12_in cX12_in 3 (some .boolean) 0 0 0 0 [.int 1, .int 0, .int 1] [] gE0 (gQi D cT (fun (r : Int32) (u : gS) => r = 1) (fun u : gS => [])) := by
  refine gMet.of "StorksLetModel" rfl (by decide +kernel) (Nat.le_of_ble_eq_true rfl) [(0, .int 1), (1, .int 0), (2, .int 1)] rfl ?_
  intro p e s m below meth c A ls X hr hlk hnm hA hG hE hl
  refine lv_iload_n X.x X.b dX12_in_0 rfl (lv_at hl 0 rfl) ?_
  refine lv_iload_n X.x X.b dX12_in_1 rfl (lv_at hl 1 rfl) ?_
  refine b_icmp_lt_f (tgt := 14) X.x X.b dX12_in_2 (by decide) (by decide +kernel) ?_
  refine lv_iload_n X.x X.b dX12_in_5 rfl (lv_at hl 0 rfl) ?_
  refine lv_iload_n X.x X.b dX12_in_6 rfl (lv_at hl 2 rfl) ?_
  refine b_icmp_gt_f (tgt := 14) X.x X.b dX12_in_7 (by decide) (by decide +kernel) ?_
  refine lv_iconst (v := 1) X.x X.b dX12_in_10 (by decide +kernel) ?_
  refine lv_goto (tgt := 15) X.x X.b dX12_in_11 (by decide) ?_
  exact g_iret X hr hlk hG rfl gS0 rfl [] rfl rfl (Nat.le_of_ble_eq_true rfl) (Nat.le_of_ble_eq_true rfl) dX12_in_15
set_option maxHeartbeats 4000000 in
set_option maxRecDepth 100000 in
theorem k364_lay (l : Launch) (D : va_G) (cT : Nat → ClassId) (h0 h1 : Nat) (f0 : Nat → Int32) (f1 : Nat → Int32) : gMet l D cT yX12_lay cX12_lay 4 none 0 0 0 0 [.ref h0, .ref h1, .int 55] [(h0, .inl (cT 0, 55, .inl f0)), (h1, .inl (cT 0, 110, .inl f1))] gE0 (gQv D cT (fun _ : gS => True) (fun u : gS => [(h0, .inl (cT 0, 55, .inl f0)), (h1, .inl (cT 0, 110, .inl (u.2.1 0)))])) := by
  refine gMet.of "StorksLetModel" rfl (by decide +kernel) (Nat.le_of_ble_eq_true rfl) [(0, .ref h0), (1, .ref h1), (2, .int 55)] rfl ?_
  intro p e s m below meth c A ls X hr hlk hnm hA hG hE hl
  generalize hQ9 : MQ below _ _ s _ _ A = Q9
  refine lv_iconst (v := 0) X.x X.b dX12_lay_0 (by decide +kernel) ?_
  refine lv_istore_n (lv' := [(3, .int 0), (0, .ref h0), (1, .ref h1), (2, .int 55)]) X.x X.b dX12_lay_1 rfl hl (Nat.le_of_ble_eq_true rfl) rfl (fun ls hl => ?_)
  have LOOP_2 : ∀ (fu k_2 : Nat) (g_1 : Nat → Int32), k_2 ≤ 55 → 55 < k_2 + fu → ∀ (H : Heap) (locs : List Loc), gG D A s.heap [(h0, .inl (cT 0, 55, .inl f0)), (h1, .inl (cT 0, 110, .inl g_1))] H locs → ∀ (ls : Array Slot), lv_has ls 4 [(3, .int (nI k_2)), (0, .ref h0), (1, .ref h1), (2, .int 55)] → W p l e { frames := 0, cells := 0, slots := 0, locals := 0 } s m ([.ref h0, .ref h1, .int 55] : List Value).toArray below meth c H locs 0 0 Q9 (F0 m 2 ls []) := by
    intro fu
    induction fu with
    | zero => intro k_2 g_1 hk1 hk2; exact absurd hk2 (by omega)
    | succ fu ih_2 =>
      intro k_2 g_1 hk1_2 hk2_2 H locs hG ls hl
      refine lv_iload_n X.x X.b dX12_lay_2 rfl (lv_at hl 0 rfl) ?_
      refine lv_bipush (v := 55) X.x X.b dX12_lay_3 (by decide +kernel) ?_
      refine lv_icmp_ge (tgt := 22) X.x X.b dX12_lay_5 (by decide) (fun c_2 => ?_) (fun c_2 => ?_)
      · skip
        have f_2 : 55 ≤ k_2 := (nI_leI (a := 55) (b := k_2) (by omega) (by omega)).mp c_2
        subst hQ9
        exact g_vret X hr hlk hG (⟨fun k => ([] : List Nat).getD k 0, fun k => ([g_1] : List (Nat → Int32)).getD k (fun _ => 0), fun k => ([] : List Int32).getD k 0, fun k => ([] : List (Nat → Option Nat)).getD k (fun _ => none)⟩ : gS) trivial [0, 1] rfl rfl (Nat.le_of_ble_eq_true rfl) (Nat.le_of_ble_eq_true rfl) dX12_lay_22
      · skip
        have f_2 : ¬ 55 ≤ k_2 := fun z => c_2 ((nI_leI (a := 55) (b := k_2) (by omega) (by omega)).mpr z)
        refine lv_aload_n X.x X.b dX12_lay_8 rfl (lv_at hl 2 rfl) ?_
        refine lv_iload_n X.x X.b dX12_lay_9 rfl (lv_at hl 3 rfl) ?_
        refine lv_iload_n X.x X.b dX12_lay_10 rfl (lv_at hl 0 rfl) ?_
        refine lv_iadd X.x X.b dX12_lay_11 ?_
        refine g_top (v' := (nI (55 + k_2))) (nI_add 55 _) ?_
        refine lv_aload_n X.x X.b dX12_lay_12 rfl (lv_at hl 1 rfl) ?_
        refine lv_iload_n X.x X.b dX12_lay_13 rfl (lv_at hl 0 rfl) ?_
        refine g_iald X hG 0 rfl (g_inN (k := k_2) rfl (by omega) (by decide)) (v := (f0 k_2)) (by rw [nI_clamp (by omega)]) dX12_lay_14 ?_
        refine g_iast X hG 1 rfl (g_inN (k := 55 + k_2) rfl (by omega) (by decide)) (f' := (upd g_1 (55 + k_2) (f0 k_2))) (by rw [nI_clamp (by omega)]) dX12_lay_15 (fun H locs (hG : gG D A s.heap [(h0, .inl (cT 0, 55, .inl f0)), (h1, .inl (cT 0, 110, .inl (upd g_1 (55 + k_2) (f0 k_2))))] H locs) => ?_)
        refine lv_iinc (v := (nI (k_2 + 1))) (lv' := [(3, .int (nI (k_2 + 1))), (0, .ref h0), (1, .ref h1), (2, .int 55)]) X.x X.b dX12_lay_16 hl (k := 0) rfl (nI_1 _) (Nat.le_of_ble_eq_true rfl) rfl (fun ls hl => ?_)
        refine lv_goto (tgt := 2) X.x X.b dX12_lay_19 (by decide) ?_
        exact ih_2 (k_2 + 1) ((upd g_1 (55 + k_2) (f0 k_2))) (by omega) (by omega) _ _ hG _ (lv_sub hl [0, 1, 2, 3] rfl)
  exact LOOP_2 56 0 f1 (by omega) (by omega) _ _ hG _ (lv_sub hl [0, 1, 2, 3] rfl)
set_option maxHeartbeats 4000000 in
set_option maxRecDepth 100000 in
theorem k365_keep (l : Launch) (D : va_G) (cT : Nat → ClassId) (h0 h1 h2 h3 h4 h5 h6 h7 h8 h9 h10 h11 h12 h13 h14 h15 h16 h17 h18 h19 h20 h21 h22 h23 h24 h25 h26 h27 h28 h29 h30 h31 h32 h33 h34 h35 : Nat) (f0 : Nat → Int32) (f1 : Nat → Int32) (f2 : Nat → Int32) : gMet l D cT yX12_keep cX12_keep 2 (some .boolean) 1 23 0 0 [.ref h0, .int 1] [(h0, .inr (11, (.ref h3 :: .int 0 :: .ref h5 :: .ref h6 :: .ref h7 :: .ref h8 :: .ref h9 :: .int 0 :: .ref h10 :: .ref h11 :: .int 0 :: .ref h12 :: .ref h13 :: .ref h14 :: .int 0 :: .int (-1) :: .int 0 :: .ref h15 :: .int 0 :: .ref h16 :: .int 0 :: .int 0 :: .null :: .int 0 :: .int 0 :: .int 0 :: .int 0 :: .ref h17 :: .ref h18 :: .ref h19 :: .ref h20 :: .int 0 :: .null :: .int 0 :: .int 0 :: .int 0 :: .ref h21 :: .int 0 :: .int (-1) :: .int 0 :: .ref h22 :: .int 0 :: .ref h23 :: .ref h24 :: .int 0 :: .ref h25 :: .ref h26 :: .ref h27 :: .ref h28 :: .int 0 :: .int 0 :: .int 0 :: .ref h29 :: .int 0 :: .int 0 :: .ref h30 :: .ref h31 :: .ref h32 :: .ref h33 :: .int 0 :: .ref h34 :: .int 0 :: .ref h35 :: .int 0 :: .int 0 :: .ref h4 :: .ref h1 :: .ref h2 :: []))), (h1, .inl (cT 3, 2, .inl (fun _ => 0))), (h2, .inl (cT 0, 2, .inl f0)), (h3, .inl (cT 0, 55, .inl f1)), (h4, .inl (cT 0, 110, .inl f2))] gE0 (gQi D cT (fun (r : Int32) (u : gS) => r = 1) (fun u : gS => [(h0, .inr (11, (.ref h3 :: .int 0 :: .ref h5 :: .ref h6 :: .ref h7 :: .ref h8 :: .ref h9 :: .int 0 :: .ref h10 :: .ref h11 :: .int 0 :: .ref h12 :: .ref h13 :: .ref h14 :: .int 0 :: .int (-1) :: .int 0 :: .ref h15 :: .int 0 :: .ref h16 :: .int 0 :: .int 0 :: .null :: .int 0 :: .int 0 :: .int 0 :: .int 0 :: .ref h17 :: .ref h18 :: .ref h19 :: .ref h20 :: .int 0 :: .null :: .int 0 :: .int 0 :: .int 0 :: .ref h21 :: .int 0 :: .int (-1) :: .int 0 :: .ref h22 :: .int 0 :: .ref h23 :: .ref h24 :: .int 0 :: .ref h25 :: .ref h26 :: .ref h27 :: .ref h28 :: .int 0 :: .int 0 :: .int 0 :: .ref h29 :: .int 0 :: .int 0 :: .ref h30 :: .ref h31 :: .ref h32 :: .ref h33 :: .int 0 :: .ref h34 :: .int 0 :: .ref h35 :: .int 0 :: .int 0 :: .ref h4 :: .ref h1 :: .ref h2 :: []))), (h1, .inl (cT 3, 2, .inl (u.2.1 0))), (h2, .inl (cT 0, 2, .inl (u.2.1 1))), (h3, .inl (cT 0, 55, .inl f1)), (h4, .inl (cT 0, 110, .inl (u.2.1 2)))])) := by
  refine gMet.of "StorksLetModel" rfl (by decide +kernel) (Nat.le_of_ble_eq_true rfl) [(0, .ref h0), (1, .int 1)] rfl ?_
  intro p e s m below meth c A ls X hr hlk hnm hA hG hE hl
  refine lv_aload_n X.x X.b dX12_keep_0 rfl (lv_at hl 0 rfl) ?_
  refine lv_iconst (v := 0) X.x X.b dX12_keep_1 (by decide +kernel) ?_
  refine gp_X12_124 X hG 0 rfl rfl rfl (Nat.le_of_ble_eq_true rfl) dX12_keep_2 (fun H locs (hG : gG D A s.heap [(h0, .inr (11, (.ref h3 :: .int 0 :: .ref h5 :: .ref h6 :: .ref h7 :: .ref h8 :: .ref h9 :: .int 0 :: .ref h10 :: .ref h11 :: .int 0 :: .ref h12 :: .ref h13 :: .ref h14 :: .int 0 :: .int (-1) :: .int 0 :: .ref h15 :: .int 0 :: .ref h16 :: .int 0 :: .int 0 :: .null :: .int 0 :: .int 0 :: .int 0 :: .int 0 :: .ref h17 :: .ref h18 :: .ref h19 :: .ref h20 :: .int 0 :: .null :: .int 0 :: .int 0 :: .int 0 :: .ref h21 :: .int 0 :: .int (-1) :: .int 0 :: .ref h22 :: .int 0 :: .ref h23 :: .ref h24 :: .int 0 :: .ref h25 :: .ref h26 :: .ref h27 :: .ref h28 :: .int 0 :: .int 0 :: .int 0 :: .ref h29 :: .int 0 :: .int 0 :: .ref h30 :: .ref h31 :: .ref h32 :: .ref h33 :: .int 0 :: .ref h34 :: .int 0 :: .ref h35 :: .int 0 :: .int 0 :: .ref h4 :: .ref h1 :: .ref h2 :: []))), (h1, .inl (cT 3, 2, .inl (fun _ => 0))), (h2, .inl (cT 0, 2, .inl f0)), (h3, .inl (cT 0, 55, .inl f1)), (h4, .inl (cT 0, 110, .inl f2))] H locs) => ?_)
  refine lv_iload_n X.x X.b dX12_keep_5 rfl (lv_at hl 1 rfl) ?_
  refine lv_iconst (v := 0) X.x X.b dX12_keep_6 (by decide +kernel) ?_
  refine lv_iconst (v := 1) X.x X.b dX12_keep_7 (by decide +kernel) ?_
  refine g_ki (g_rS (As := [.int 1, .int 0, .int 1]) (rest := []) X hl hG (k363_in l D cT) gw_X12_133 g_E01 g_E02 [] rfl rfl rfl rfl (Nat.le_of_ble_eq_true rfl) ⟨(Nat.le_of_ble_eq_true rfl), (Nat.le_of_ble_eq_true rfl)⟩ ⟨(Nat.le_of_ble_eq_true rfl), (Nat.le_of_ble_eq_true rfl)⟩ dX12_keep_8) hG hA [] [0, 1, 2, 3, 4] rfl rfl rfl rfl (c1 := 0) (s1 := 0) rfl rfl (fun r_1 u_1 H locs (hu : r_1 = 1) (hG : gG D A s.heap [(h0, .inr (11, (.ref h3 :: .int 0 :: .ref h5 :: .ref h6 :: .ref h7 :: .ref h8 :: .ref h9 :: .int 0 :: .ref h10 :: .ref h11 :: .int 0 :: .ref h12 :: .ref h13 :: .ref h14 :: .int 0 :: .int (-1) :: .int 0 :: .ref h15 :: .int 0 :: .ref h16 :: .int 0 :: .int 0 :: .null :: .int 0 :: .int 0 :: .int 0 :: .int 0 :: .ref h17 :: .ref h18 :: .ref h19 :: .ref h20 :: .int 0 :: .null :: .int 0 :: .int 0 :: .int 0 :: .ref h21 :: .int 0 :: .int (-1) :: .int 0 :: .ref h22 :: .int 0 :: .ref h23 :: .ref h24 :: .int 0 :: .ref h25 :: .ref h26 :: .ref h27 :: .ref h28 :: .int 0 :: .int 0 :: .int 0 :: .ref h29 :: .int 0 :: .int 0 :: .ref h30 :: .ref h31 :: .ref h32 :: .ref h33 :: .int 0 :: .ref h34 :: .int 0 :: .ref h35 :: .int 0 :: .int 0 :: .ref h4 :: .ref h1 :: .ref h2 :: []))), (h1, .inl (cT 3, 2, .inl (fun _ => 0))), (h2, .inl (cT 0, 2, .inl f0)), (h3, .inl (cT 0, 55, .inl f1)), (h4, .inl (cT 0, 110, .inl f2))] H locs) => ?_)
  have hu := hu.symm
  subst hu
  refine b_if_ne_t (tgt := 16) X.x X.b dX12_keep_11 (by decide) (by decide +kernel) ?_
  refine lv_aload_n X.x X.b dX12_keep_16 rfl (lv_at hl 0 rfl) ?_
  refine gg_X12_117 X hG 0 rfl rfl dX12_keep_17 ?_
  refine lv_iload_n X.x X.b dX12_keep_20 rfl (lv_at hl 1 rfl) ?_
  refine lv_iconst (v := 1) X.x X.b dX12_keep_21 (by decide +kernel) ?_
  refine g_zast X hG 1 rfl (g_in (by decide +kernel)) (f' := (upd (fun _ => 0) 1 (vp_nar .boolean 1))) rfl dX12_keep_22 (fun H locs (hG : gG D A s.heap [(h0, .inr (11, (.ref h3 :: .int 0 :: .ref h5 :: .ref h6 :: .ref h7 :: .ref h8 :: .ref h9 :: .int 0 :: .ref h10 :: .ref h11 :: .int 0 :: .ref h12 :: .ref h13 :: .ref h14 :: .int 0 :: .int (-1) :: .int 0 :: .ref h15 :: .int 0 :: .ref h16 :: .int 0 :: .int 0 :: .null :: .int 0 :: .int 0 :: .int 0 :: .int 0 :: .ref h17 :: .ref h18 :: .ref h19 :: .ref h20 :: .int 0 :: .null :: .int 0 :: .int 0 :: .int 0 :: .ref h21 :: .int 0 :: .int (-1) :: .int 0 :: .ref h22 :: .int 0 :: .ref h23 :: .ref h24 :: .int 0 :: .ref h25 :: .ref h26 :: .ref h27 :: .ref h28 :: .int 0 :: .int 0 :: .int 0 :: .ref h29 :: .int 0 :: .int 0 :: .ref h30 :: .ref h31 :: .ref h32 :: .ref h33 :: .int 0 :: .ref h34 :: .int 0 :: .ref h35 :: .int 0 :: .int 0 :: .ref h4 :: .ref h1 :: .ref h2 :: []))), (h1, .inl (cT 3, 2, .inl (upd (fun _ => 0) 1 (vp_nar .boolean 1)))), (h2, .inl (cT 0, 2, .inl f0)), (h3, .inl (cT 0, 55, .inl f1)), (h4, .inl (cT 0, 110, .inl f2))] H locs) => ?_)
  refine lv_aload_n X.x X.b dX12_keep_23 rfl (lv_at hl 0 rfl) ?_
  refine gg_X12_121 X hG 0 rfl rfl dX12_keep_24 ?_
  refine lv_iload_n X.x X.b dX12_keep_27 rfl (lv_at hl 1 rfl) ?_
  refine lv_aload_n X.x X.b dX12_keep_28 rfl (lv_at hl 0 rfl) ?_
  refine gg_X12_194 X hG 0 rfl rfl dX12_keep_29 ?_
  refine g_iast X hG 2 rfl (g_in (by decide +kernel)) (f' := (upd f0 1 0)) rfl dX12_keep_32 (fun H locs (hG : gG D A s.heap [(h0, .inr (11, (.ref h3 :: .int 0 :: .ref h5 :: .ref h6 :: .ref h7 :: .ref h8 :: .ref h9 :: .int 0 :: .ref h10 :: .ref h11 :: .int 0 :: .ref h12 :: .ref h13 :: .ref h14 :: .int 0 :: .int (-1) :: .int 0 :: .ref h15 :: .int 0 :: .ref h16 :: .int 0 :: .int 0 :: .null :: .int 0 :: .int 0 :: .int 0 :: .int 0 :: .ref h17 :: .ref h18 :: .ref h19 :: .ref h20 :: .int 0 :: .null :: .int 0 :: .int 0 :: .int 0 :: .ref h21 :: .int 0 :: .int (-1) :: .int 0 :: .ref h22 :: .int 0 :: .ref h23 :: .ref h24 :: .int 0 :: .ref h25 :: .ref h26 :: .ref h27 :: .ref h28 :: .int 0 :: .int 0 :: .int 0 :: .ref h29 :: .int 0 :: .int 0 :: .ref h30 :: .ref h31 :: .ref h32 :: .ref h33 :: .int 0 :: .ref h34 :: .int 0 :: .ref h35 :: .int 0 :: .int 0 :: .ref h4 :: .ref h1 :: .ref h2 :: []))), (h1, .inl (cT 3, 2, .inl (upd (fun _ => 0) 1 (vp_nar .boolean 1)))), (h2, .inl (cT 0, 2, .inl (upd f0 1 0))), (h3, .inl (cT 0, 55, .inl f1)), (h4, .inl (cT 0, 110, .inl f2))] H locs) => ?_)
  refine lv_aload_n X.x X.b dX12_keep_33 rfl (lv_at hl 0 rfl) ?_
  refine gg_X12_9 X hG 0 rfl rfl dX12_keep_34 ?_
  refine lv_aload_n X.x X.b dX12_keep_37 rfl (lv_at hl 0 rfl) ?_
  refine gg_X12_114 X hG 0 rfl rfl dX12_keep_38 ?_
  refine lv_bipush (v := 55) X.x X.b dX12_keep_41 (by decide +kernel) ?_
  refine lv_iload_n X.x X.b dX12_keep_43 rfl (lv_at hl 1 rfl) ?_
  refine lv_imul X.x X.b dX12_keep_44 ?_
  refine g_top (v' := 55) (by decide +kernel) ?_
  refine g_kv (g_rS (As := [.ref h3, .ref h4, .int 55]) (rest := []) X hl hG (k364_lay l D cT h3 h4 f1 f2) gw_X12_309 g_E01 g_E02 [3, 4] rfl rfl rfl rfl (Nat.le_of_ble_eq_true rfl) ⟨(Nat.le_of_ble_eq_true rfl), (Nat.le_of_ble_eq_true rfl)⟩ ⟨(Nat.le_of_ble_eq_true rfl), (Nat.le_of_ble_eq_true rfl)⟩ dX12_keep_45) hG hA [3, 4] [0, 1, 2] rfl rfl rfl rfl (c1 := 0) (s1 := 0) rfl rfl (fun u_2 H locs hu_2 (hG : gG D A s.heap [(h0, .inr (11, (.ref h3 :: .int 0 :: .ref h5 :: .ref h6 :: .ref h7 :: .ref h8 :: .ref h9 :: .int 0 :: .ref h10 :: .ref h11 :: .int 0 :: .ref h12 :: .ref h13 :: .ref h14 :: .int 0 :: .int (-1) :: .int 0 :: .ref h15 :: .int 0 :: .ref h16 :: .int 0 :: .int 0 :: .null :: .int 0 :: .int 0 :: .int 0 :: .int 0 :: .ref h17 :: .ref h18 :: .ref h19 :: .ref h20 :: .int 0 :: .null :: .int 0 :: .int 0 :: .int 0 :: .ref h21 :: .int 0 :: .int (-1) :: .int 0 :: .ref h22 :: .int 0 :: .ref h23 :: .ref h24 :: .int 0 :: .ref h25 :: .ref h26 :: .ref h27 :: .ref h28 :: .int 0 :: .int 0 :: .int 0 :: .ref h29 :: .int 0 :: .int 0 :: .ref h30 :: .ref h31 :: .ref h32 :: .ref h33 :: .int 0 :: .ref h34 :: .int 0 :: .ref h35 :: .int 0 :: .int 0 :: .ref h4 :: .ref h1 :: .ref h2 :: []))), (h1, .inl (cT 3, 2, .inl (upd (fun _ => 0) 1 (vp_nar .boolean 1)))), (h2, .inl (cT 0, 2, .inl (upd f0 1 0))), (h3, .inl (cT 0, 55, .inl f1)), (h4, .inl (cT 0, 110, .inl (u_2.2.1 0)))] H locs) => ?_)
  refine lv_iconst (v := 1) X.x X.b dX12_keep_48 (by decide +kernel) ?_
  exact g_iret X hr hlk hG rfl (⟨fun k => ([] : List Nat).getD k 0, fun k => ([(upd (fun _ => 0) 1 (vp_nar .boolean 1)), (upd f0 1 0), (u_2.2.1 0)] : List (Nat → Int32)).getD k (fun _ => 0), fun k => ([] : List Int32).getD k 0, fun k => ([] : List (Nat → Option Nat)).getD k (fun _ => none)⟩ : gS) rfl [0, 1, 2, 3, 4] rfl rfl (Nat.le_of_ble_eq_true rfl) (Nat.le_of_ble_eq_true rfl) dX12_keep_49
set_option maxHeartbeats 4000000 in
set_option maxRecDepth 100000 in
theorem k366_keep (l : Launch) (D : va_G) (cT : Nat → ClassId) (h0 h1 h2 h3 h4 h5 h6 h7 h8 h9 h10 h11 h12 h13 h14 h15 : Nat) (x0 : Int32) (l_x0 : 2 ≤ x0.toInt) : gMet l D cT yX11_keep cX11_keep 2 (some .boolean) 0 0 0 0 [.ref h0, .int x0] [(h0, .inr (10, [.ref h1, .ref h2, .ref h3, .ref h4, .ref h5, .ref h6, .ref h7, .ref h8, .ref h9, .ref h10, .ref h11, .ref h12, .ref h13, .null, .ref h14, .ref h15]))] gE0 (gQi D cT (fun (r : Int32) (u : gS) => r = 0) (fun u : gS => [(h0, .inr (10, [.ref h1, .ref h2, .ref h3, .ref h4, .ref h5, .ref h6, .ref h7, .ref h8, .ref h9, .ref h10, .ref h11, .ref h12, .ref h13, .null, .ref h14, .ref h15]))])) := by
  refine gMet.of "StorksLet" rfl (by decide +kernel) (Nat.le_of_ble_eq_true rfl) [(0, .ref h0), (1, .int x0)] rfl ?_
  intro p e s m below meth c A ls X hr hlk hnm hA hG hE hl
  refine lv_iload_n X.x X.b dX11_keep_0 rfl (lv_at hl 1 rfl) ?_
  refine b_if_lt_f (tgt := 9) X.x X.b dX11_keep_1 (by decide) (by simp only [Int32.lt_iff_toInt_lt, Int32.le_iff_toInt_le, ← Int32.toInt_inj, show (0 : Int32).toInt = 0 from by decide +kernel]; omega) ?_
  refine lv_iload_n X.x X.b dX11_keep_4 rfl (lv_at hl 1 rfl) ?_
  refine lv_iconst (v := 2) X.x X.b dX11_keep_5 (by decide +kernel) ?_
  refine b_icmp_lt_f (tgt := 11) X.x X.b dX11_keep_6 (by decide) (by simp only [Int32.lt_iff_toInt_lt, Int32.le_iff_toInt_le, ← Int32.toInt_inj, show (2 : Int32).toInt = 2 from by decide +kernel]; omega) ?_
  refine lv_iconst (v := 0) X.x X.b dX11_keep_9 (by decide +kernel) ?_
  exact g_iret X hr hlk hG rfl gS0 rfl [0] rfl rfl (Nat.le_of_ble_eq_true rfl) (Nat.le_of_ble_eq_true rfl) dX11_keep_10
set_option maxHeartbeats 4000000 in
set_option maxRecDepth 100000 in
theorem k367_in (l : Launch) (D : va_G) (cT : Nat → ClassId) (x0 : Int32) (l_x0 : 2 ≤ x0.toInt) : gMet l D cT yX12_in cX12_in 3 (some .boolean) 0 0 0 0 [.int x0, .int 0, .int 1] [] gE0 (gQi D cT (fun (r : Int32) (u : gS) => r = 0) (fun u : gS => [])) := by
  refine gMet.of "StorksLetModel" rfl (by decide +kernel) (Nat.le_of_ble_eq_true rfl) [(0, .int x0), (1, .int 0), (2, .int 1)] rfl ?_
  intro p e s m below meth c A ls X hr hlk hnm hA hG hE hl
  refine lv_iload_n X.x X.b dX12_in_0 rfl (lv_at hl 0 rfl) ?_
  refine lv_iload_n X.x X.b dX12_in_1 rfl (lv_at hl 1 rfl) ?_
  refine b_icmp_lt_f (tgt := 14) X.x X.b dX12_in_2 (by decide) (by simp only [Int32.lt_iff_toInt_lt, Int32.le_iff_toInt_le, ← Int32.toInt_inj, show (0 : Int32).toInt = 0 from by decide +kernel]; omega) ?_
  refine lv_iload_n X.x X.b dX12_in_5 rfl (lv_at hl 0 rfl) ?_
  refine lv_iload_n X.x X.b dX12_in_6 rfl (lv_at hl 2 rfl) ?_
  refine b_icmp_gt_t (tgt := 14) X.x X.b dX12_in_7 (by decide) (by simp only [Int32.lt_iff_toInt_lt, Int32.le_iff_toInt_le, ← Int32.toInt_inj, show (1 : Int32).toInt = 1 from by decide +kernel]; omega) ?_
  refine lv_iconst (v := 0) X.x X.b dX12_in_14 (by decide +kernel) ?_
  exact g_iret X hr hlk hG rfl gS0 rfl [] rfl rfl (Nat.le_of_ble_eq_true rfl) (Nat.le_of_ble_eq_true rfl) dX12_in_15
set_option maxHeartbeats 4000000 in
set_option maxRecDepth 100000 in
theorem k368_keep (l : Launch) (D : va_G) (cT : Nat → ClassId) (h0 h1 h2 h3 h4 h5 h6 h7 h8 h9 h10 h11 h12 h13 h14 h15 h16 h17 h18 h19 h20 h21 h22 h23 h24 h25 h26 h27 h28 h29 h30 h31 h32 h33 h34 h35 : Nat) (x0 : Int32) (l_x0 : 2 ≤ x0.toInt) : gMet l D cT yX12_keep cX12_keep 2 (some .boolean) 1 22 0 0 [.ref h0, .int x0] [(h0, .inr (11, (.ref h1 :: .int 0 :: .ref h2 :: .ref h3 :: .ref h4 :: .ref h5 :: .ref h6 :: .int 0 :: .ref h7 :: .ref h8 :: .int 0 :: .ref h9 :: .ref h10 :: .ref h11 :: .int 0 :: .int (-1) :: .int 0 :: .ref h12 :: .int 0 :: .ref h13 :: .int 0 :: .int 0 :: .null :: .int 0 :: .int 0 :: .int 0 :: .int 0 :: .ref h14 :: .ref h15 :: .ref h16 :: .ref h17 :: .int 0 :: .null :: .int 0 :: .int 0 :: .int 0 :: .ref h18 :: .int 0 :: .int (-1) :: .int 0 :: .ref h19 :: .int 0 :: .ref h20 :: .ref h21 :: .int 0 :: .ref h22 :: .ref h23 :: .ref h24 :: .ref h25 :: .int 0 :: .int 0 :: .int 0 :: .ref h26 :: .int 0 :: .int 0 :: .ref h27 :: .ref h28 :: .ref h29 :: .ref h30 :: .int 0 :: .ref h31 :: .int 0 :: .ref h32 :: .int 0 :: .int 0 :: .ref h33 :: .ref h34 :: .ref h35 :: [])))] gE0 (gQi D cT (fun (r : Int32) (u : gS) => r = 0) (fun u : gS => [(h0, .inr (11, (.ref h1 :: .int 0 :: .ref h2 :: .ref h3 :: .ref h4 :: .ref h5 :: .ref h6 :: .int 0 :: .ref h7 :: .ref h8 :: .int 0 :: .ref h9 :: .ref h10 :: .ref h11 :: .int 0 :: .int (-1) :: .int 0 :: .ref h12 :: .int 0 :: .ref h13 :: .int 0 :: .int 0 :: .null :: .int 0 :: .int 0 :: .int 0 :: .int 0 :: .ref h14 :: .ref h15 :: .ref h16 :: .ref h17 :: .int 0 :: .null :: .int 0 :: .int 0 :: .int 0 :: .ref h18 :: .int 0 :: .int (-1) :: .int 0 :: .ref h19 :: .int 0 :: .ref h20 :: .ref h21 :: .int 0 :: .ref h22 :: .ref h23 :: .ref h24 :: .ref h25 :: .int 0 :: .int 0 :: .int 0 :: .ref h26 :: .int 0 :: .int 0 :: .ref h27 :: .ref h28 :: .ref h29 :: .ref h30 :: .int 0 :: .ref h31 :: .int 0 :: .ref h32 :: .int 0 :: .int 0 :: .ref h33 :: .ref h34 :: .ref h35 :: [])))])) := by
  refine gMet.of "StorksLetModel" rfl (by decide +kernel) (Nat.le_of_ble_eq_true rfl) [(0, .ref h0), (1, .int x0)] rfl ?_
  intro p e s m below meth c A ls X hr hlk hnm hA hG hE hl
  refine lv_aload_n X.x X.b dX12_keep_0 rfl (lv_at hl 0 rfl) ?_
  refine lv_iconst (v := 0) X.x X.b dX12_keep_1 (by decide +kernel) ?_
  refine gp_X12_124 X hG 0 rfl rfl rfl (Nat.le_of_ble_eq_true rfl) dX12_keep_2 (fun H locs (hG : gG D A s.heap [(h0, .inr (11, (.ref h1 :: .int 0 :: .ref h2 :: .ref h3 :: .ref h4 :: .ref h5 :: .ref h6 :: .int 0 :: .ref h7 :: .ref h8 :: .int 0 :: .ref h9 :: .ref h10 :: .ref h11 :: .int 0 :: .int (-1) :: .int 0 :: .ref h12 :: .int 0 :: .ref h13 :: .int 0 :: .int 0 :: .null :: .int 0 :: .int 0 :: .int 0 :: .int 0 :: .ref h14 :: .ref h15 :: .ref h16 :: .ref h17 :: .int 0 :: .null :: .int 0 :: .int 0 :: .int 0 :: .ref h18 :: .int 0 :: .int (-1) :: .int 0 :: .ref h19 :: .int 0 :: .ref h20 :: .ref h21 :: .int 0 :: .ref h22 :: .ref h23 :: .ref h24 :: .ref h25 :: .int 0 :: .int 0 :: .int 0 :: .ref h26 :: .int 0 :: .int 0 :: .ref h27 :: .ref h28 :: .ref h29 :: .ref h30 :: .int 0 :: .ref h31 :: .int 0 :: .ref h32 :: .int 0 :: .int 0 :: .ref h33 :: .ref h34 :: .ref h35 :: [])))] H locs) => ?_)
  refine lv_iload_n X.x X.b dX12_keep_5 rfl (lv_at hl 1 rfl) ?_
  refine lv_iconst (v := 0) X.x X.b dX12_keep_6 (by decide +kernel) ?_
  refine lv_iconst (v := 1) X.x X.b dX12_keep_7 (by decide +kernel) ?_
  refine g_ki (g_rS (As := [.int x0, .int 0, .int 1]) (rest := []) X hl hG (k367_in l D cT x0 (by omega)) gw_X12_133 g_E01 g_E02 [] rfl rfl rfl rfl (Nat.le_of_ble_eq_true rfl) ⟨(Nat.le_of_ble_eq_true rfl), (Nat.le_of_ble_eq_true rfl)⟩ ⟨(Nat.le_of_ble_eq_true rfl), (Nat.le_of_ble_eq_true rfl)⟩ dX12_keep_8) hG hA [] [0] rfl rfl rfl rfl (c1 := 0) (s1 := 0) rfl rfl (fun r_1 u_1 H locs (hu : r_1 = 0) (hG : gG D A s.heap [(h0, .inr (11, (.ref h1 :: .int 0 :: .ref h2 :: .ref h3 :: .ref h4 :: .ref h5 :: .ref h6 :: .int 0 :: .ref h7 :: .ref h8 :: .int 0 :: .ref h9 :: .ref h10 :: .ref h11 :: .int 0 :: .int (-1) :: .int 0 :: .ref h12 :: .int 0 :: .ref h13 :: .int 0 :: .int 0 :: .null :: .int 0 :: .int 0 :: .int 0 :: .int 0 :: .ref h14 :: .ref h15 :: .ref h16 :: .ref h17 :: .int 0 :: .null :: .int 0 :: .int 0 :: .int 0 :: .ref h18 :: .int 0 :: .int (-1) :: .int 0 :: .ref h19 :: .int 0 :: .ref h20 :: .ref h21 :: .int 0 :: .ref h22 :: .ref h23 :: .ref h24 :: .ref h25 :: .int 0 :: .int 0 :: .int 0 :: .ref h26 :: .int 0 :: .int 0 :: .ref h27 :: .ref h28 :: .ref h29 :: .ref h30 :: .int 0 :: .ref h31 :: .int 0 :: .ref h32 :: .int 0 :: .int 0 :: .ref h33 :: .ref h34 :: .ref h35 :: [])))] H locs) => ?_)
  have hu := hu.symm
  subst hu
  refine b_if_ne_f (tgt := 16) X.x X.b dX12_keep_11 (by decide) (by decide +kernel) ?_
  refine lv_iconst (v := 0) X.x X.b dX12_keep_14 (by decide +kernel) ?_
  exact g_iret X hr hlk hG rfl gS0 rfl [0] rfl rfl (Nat.le_of_ble_eq_true rfl) (Nat.le_of_ble_eq_true rfl) dX12_keep_15
set_option maxHeartbeats 4000000 in
set_option maxRecDepth 100000 in
theorem k369_again (l : Launch) (D : va_G) (cT : Nat → ClassId) (h0 h1 h2 h3 h4 h5 h6 h7 h8 h9 h10 h11 h12 h13 h14 h15 : Nat) (x0 : Int32) (u_x0 : x0.toInt ≤ -1) : gMet l D cT yX11_again cX11_again 2 (some .boolean) 0 0 0 0 [.ref h0, .int x0] [(h0, .inr (10, [.ref h1, .ref h2, .ref h3, .ref h4, .ref h5, .ref h6, .ref h7, .ref h8, .ref h9, .ref h10, .ref h11, .ref h12, .ref h13, .null, .ref h14, .ref h15]))] gE0 (gQi D cT (fun (r : Int32) (u : gS) => r = 0) (fun u : gS => [(h0, .inr (10, [.ref h1, .ref h2, .ref h3, .ref h4, .ref h5, .ref h6, .ref h7, .ref h8, .ref h9, .ref h10, .ref h11, .ref h12, .ref h13, .null, .ref h14, .ref h15]))])) := by
  refine gMet.of "StorksLet" rfl (by decide +kernel) (Nat.le_of_ble_eq_true rfl) [(0, .ref h0), (1, .int x0)] rfl ?_
  intro p e s m below meth c A ls X hr hlk hnm hA hG hE hl
  refine lv_iload_n X.x X.b dX11_again_0 rfl (lv_at hl 1 rfl) ?_
  refine b_if_lt_t (tgt := 25) X.x X.b dX11_again_1 (by decide) (by simp only [Int32.lt_iff_toInt_lt, Int32.le_iff_toInt_le, ← Int32.toInt_inj, show (0 : Int32).toInt = 0 from by decide +kernel]; omega) ?_
  refine lv_iconst (v := 0) X.x X.b dX11_again_25 (by decide +kernel) ?_
  exact g_iret X hr hlk hG rfl gS0 rfl [0] rfl rfl (Nat.le_of_ble_eq_true rfl) (Nat.le_of_ble_eq_true rfl) dX11_again_26
set_option maxHeartbeats 4000000 in
set_option maxRecDepth 100000 in
theorem k370_again (l : Launch) (D : va_G) (cT : Nat → ClassId) (h0 h1 h2 h3 h4 h5 h6 h7 h8 h9 h10 h11 h12 h13 h14 h15 h16 h17 h18 h19 h20 h21 h22 h23 h24 h25 h26 h27 h28 h29 h30 h31 h32 h33 h34 h35 : Nat) (x0 : Int32) (u_x0 : x0.toInt ≤ -1) : gMet l D cT yX12_again cX12_again 3 (some .boolean) 1 22 0 0 [.ref h0, .int x0] [(h0, .inr (11, (.ref h1 :: .int 0 :: .ref h2 :: .ref h3 :: .ref h4 :: .ref h5 :: .ref h6 :: .int 0 :: .ref h7 :: .ref h8 :: .int 0 :: .ref h9 :: .ref h10 :: .ref h11 :: .int 0 :: .int (-1) :: .int 0 :: .ref h12 :: .int 0 :: .ref h13 :: .int 0 :: .int 0 :: .null :: .int 0 :: .int 0 :: .int 0 :: .int 0 :: .ref h14 :: .ref h15 :: .ref h16 :: .ref h17 :: .int 0 :: .null :: .int 0 :: .int 0 :: .int 0 :: .ref h18 :: .int 0 :: .int (-1) :: .int 0 :: .ref h19 :: .int 0 :: .ref h20 :: .ref h21 :: .int 0 :: .ref h22 :: .ref h23 :: .ref h24 :: .ref h25 :: .int 0 :: .int 0 :: .int 0 :: .ref h26 :: .int 0 :: .int 0 :: .ref h27 :: .ref h28 :: .ref h29 :: .ref h30 :: .int 0 :: .ref h31 :: .int 0 :: .ref h32 :: .int 0 :: .int 0 :: .ref h33 :: .ref h34 :: .ref h35 :: [])))] gE0 (gQi D cT (fun (r : Int32) (u : gS) => r = 0) (fun u : gS => [(h0, .inr (11, (.ref h1 :: .int 0 :: .ref h2 :: .ref h3 :: .ref h4 :: .ref h5 :: .ref h6 :: .int 0 :: .ref h7 :: .ref h8 :: .int 0 :: .ref h9 :: .ref h10 :: .ref h11 :: .int 0 :: .int (-1) :: .int 0 :: .ref h12 :: .int 0 :: .ref h13 :: .int 0 :: .int 0 :: .null :: .int 0 :: .int 0 :: .int 0 :: .int 0 :: .ref h14 :: .ref h15 :: .ref h16 :: .ref h17 :: .int 0 :: .null :: .int 0 :: .int 0 :: .int 0 :: .ref h18 :: .int 0 :: .int (-1) :: .int 0 :: .ref h19 :: .int 0 :: .ref h20 :: .ref h21 :: .int 0 :: .ref h22 :: .ref h23 :: .ref h24 :: .ref h25 :: .int 0 :: .int 0 :: .int 0 :: .ref h26 :: .int 0 :: .int 0 :: .ref h27 :: .ref h28 :: .ref h29 :: .ref h30 :: .int 0 :: .ref h31 :: .int 0 :: .ref h32 :: .int 0 :: .int 0 :: .ref h33 :: .ref h34 :: .ref h35 :: [])))])) := by
  refine gMet.of "StorksLetModel" rfl (by decide +kernel) (Nat.le_of_ble_eq_true rfl) [(0, .ref h0), (1, .int x0)] rfl ?_
  intro p e s m below meth c A ls X hr hlk hnm hA hG hE hl
  refine lv_aload_n X.x X.b dX12_again_0 rfl (lv_at hl 0 rfl) ?_
  refine lv_iconst (v := 0) X.x X.b dX12_again_1 (by decide +kernel) ?_
  refine gp_X12_124 X hG 0 rfl rfl rfl (Nat.le_of_ble_eq_true rfl) dX12_again_2 (fun H locs (hG : gG D A s.heap [(h0, .inr (11, (.ref h1 :: .int 0 :: .ref h2 :: .ref h3 :: .ref h4 :: .ref h5 :: .ref h6 :: .int 0 :: .ref h7 :: .ref h8 :: .int 0 :: .ref h9 :: .ref h10 :: .ref h11 :: .int 0 :: .int (-1) :: .int 0 :: .ref h12 :: .int 0 :: .ref h13 :: .int 0 :: .int 0 :: .null :: .int 0 :: .int 0 :: .int 0 :: .int 0 :: .ref h14 :: .ref h15 :: .ref h16 :: .ref h17 :: .int 0 :: .null :: .int 0 :: .int 0 :: .int 0 :: .ref h18 :: .int 0 :: .int (-1) :: .int 0 :: .ref h19 :: .int 0 :: .ref h20 :: .ref h21 :: .int 0 :: .ref h22 :: .ref h23 :: .ref h24 :: .ref h25 :: .int 0 :: .int 0 :: .int 0 :: .ref h26 :: .int 0 :: .int 0 :: .ref h27 :: .ref h28 :: .ref h29 :: .ref h30 :: .int 0 :: .ref h31 :: .int 0 :: .ref h32 :: .int 0 :: .int 0 :: .ref h33 :: .ref h34 :: .ref h35 :: [])))] H locs) => ?_)
  refine lv_iload_n X.x X.b dX12_again_5 rfl (lv_at hl 1 rfl) ?_
  refine lv_iconst (v := 0) X.x X.b dX12_again_6 (by decide +kernel) ?_
  refine lv_iconst (v := 1) X.x X.b dX12_again_7 (by decide +kernel) ?_
  refine g_ki (g_rS (As := [.int x0, .int 0, .int 1]) (rest := []) X hl hG (k355_in l D cT x0 (by omega)) gw_X12_133 g_E01 g_E02 [] rfl rfl rfl rfl (Nat.le_of_ble_eq_true rfl) ⟨(Nat.le_of_ble_eq_true rfl), (Nat.le_of_ble_eq_true rfl)⟩ ⟨(Nat.le_of_ble_eq_true rfl), (Nat.le_of_ble_eq_true rfl)⟩ dX12_again_8) hG hA [] [0] rfl rfl rfl rfl (c1 := 0) (s1 := 0) rfl rfl (fun r_1 u_1 H locs (hu : r_1 = 0) (hG : gG D A s.heap [(h0, .inr (11, (.ref h1 :: .int 0 :: .ref h2 :: .ref h3 :: .ref h4 :: .ref h5 :: .ref h6 :: .int 0 :: .ref h7 :: .ref h8 :: .int 0 :: .ref h9 :: .ref h10 :: .ref h11 :: .int 0 :: .int (-1) :: .int 0 :: .ref h12 :: .int 0 :: .ref h13 :: .int 0 :: .int 0 :: .null :: .int 0 :: .int 0 :: .int 0 :: .int 0 :: .ref h14 :: .ref h15 :: .ref h16 :: .ref h17 :: .int 0 :: .null :: .int 0 :: .int 0 :: .int 0 :: .ref h18 :: .int 0 :: .int (-1) :: .int 0 :: .ref h19 :: .int 0 :: .ref h20 :: .ref h21 :: .int 0 :: .ref h22 :: .ref h23 :: .ref h24 :: .ref h25 :: .int 0 :: .int 0 :: .int 0 :: .ref h26 :: .int 0 :: .int 0 :: .ref h27 :: .ref h28 :: .ref h29 :: .ref h30 :: .int 0 :: .ref h31 :: .int 0 :: .ref h32 :: .int 0 :: .int 0 :: .ref h33 :: .ref h34 :: .ref h35 :: [])))] H locs) => ?_)
  have hu := hu.symm
  subst hu
  refine b_if_eq_t (tgt := 36) X.x X.b dX12_again_11 (by decide) (by decide +kernel) ?_
  refine lv_iconst (v := 0) X.x X.b dX12_again_36 (by decide +kernel) ?_
  exact g_iret X hr hlk hG rfl gS0 rfl [0] rfl rfl (Nat.le_of_ble_eq_true rfl) (Nat.le_of_ble_eq_true rfl) dX12_again_37
set_option maxHeartbeats 4000000 in
set_option maxRecDepth 100000 in
theorem k371_again (l : Launch) (D : va_G) (cT : Nat → ClassId) (h0 h1 h2 h3 h4 h5 h6 h7 h8 h9 h10 h11 h12 h13 h14 h15 h16 h17 h18 h19 h20 h21 h22 h23 h24 h25 h26 h27 h28 h29 : Nat) : gMet l D cT yX11_again cX11_again 2 (some .boolean) 1 20 0 0 [.ref h0, .int 0] [(h0, .inr (10, [.ref h3, .ref h4, .ref h2, .ref h5, .ref h6, .ref h7, .ref h8, .ref h9, .ref h10, .ref h11, .ref h12, .ref h1, .ref h13, .null, .ref h14, .ref h15])), (h1, .inl (cT 0, 2, .inl (fun _ => 0))), (h2, .inr (7, [.int 0, .int 0, .int 0, .int 0, .ref h16, .ref h17, .ref h18, .ref h19, .ref h20, .ref h21, .ref h22, .ref h23, .ref h24, .ref h25, .ref h26, .ref h27, .ref h28, .int 0, .ref h29]))] gE0 (gQi D cT (fun (r : Int32) (u : gS) => r = 0) (fun u : gS => [(h0, .inr (10, [.ref h3, .ref h4, .ref h2, .ref h5, .ref h6, .ref h7, .ref h8, .ref h9, .ref h10, .ref h11, .ref h12, .ref h1, .ref h13, .null, .ref h14, .ref h15])), (h1, .inl (cT 0, 2, .inl (fun _ => 0))), (h2, .inr (7, [.int 0, .int 0, .int 0, .int 0, .ref h16, .ref h17, .ref h18, .ref h19, .ref h20, .ref h21, .ref h22, .ref h23, .ref h24, .ref h25, .ref h26, .ref h27, .ref h28, .int 0, .ref h29]))])) := by
  refine gMet.of "StorksLet" rfl (by decide +kernel) (Nat.le_of_ble_eq_true rfl) [(0, .ref h0), (1, .int 0)] rfl ?_
  intro p e s m below meth c A ls X hr hlk hnm hA hG hE hl
  refine lv_iload_n X.x X.b dX11_again_0 rfl (lv_at hl 1 rfl) ?_
  refine b_if_lt_f (tgt := 25) X.x X.b dX11_again_1 (by decide) (by decide +kernel) ?_
  refine lv_iload_n X.x X.b dX11_again_4 rfl (lv_at hl 1 rfl) ?_
  refine lv_iconst (v := 2) X.x X.b dX11_again_5 (by decide +kernel) ?_
  refine b_icmp_ge_f (tgt := 25) X.x X.b dX11_again_6 (by decide) (by decide +kernel) ?_
  refine lv_aload_n X.x X.b dX11_again_9 rfl (lv_at hl 0 rfl) ?_
  refine gg_X11_69 X hG 0 rfl rfl dX11_again_10 ?_
  refine lv_iload_n X.x X.b dX11_again_13 rfl (lv_at hl 1 rfl) ?_
  refine g_iald X hG 1 rfl (g_in (by decide +kernel)) (v := 0) rfl dX11_again_14 ?_
  refine lv_aload_n X.x X.b dX11_again_15 rfl (lv_at hl 0 rfl) ?_
  refine gg_X11_26 X hG 0 rfl rfl dX11_again_16 ?_
  refine g_ki (g_rV (As := []) (rest := [.int 0]) X hl hG (k357_sizeMark l D cT h2 h16 h17 h18 h19 h20 h21 h22 h23 h24 h25 h26 h27 h28 h29) gw_X11_429 g_E01 g_E02 [2] rfl rfl 2 rfl rfl rfl rfl rfl (Nat.le_of_ble_eq_true rfl) ⟨(Nat.le_of_ble_eq_true rfl), (Nat.le_of_ble_eq_true rfl)⟩ ⟨(Nat.le_of_ble_eq_true rfl), (Nat.le_of_ble_eq_true rfl)⟩ dX11_again_19) hG hA [2] [0, 1] rfl rfl rfl rfl (c1 := 0) (s1 := 0) rfl rfl (fun r_1 u_1 H locs (hu : r_1 = 1) (hG : gG D A s.heap [(h0, .inr (10, [.ref h3, .ref h4, .ref h2, .ref h5, .ref h6, .ref h7, .ref h8, .ref h9, .ref h10, .ref h11, .ref h12, .ref h1, .ref h13, .null, .ref h14, .ref h15])), (h1, .inl (cT 0, 2, .inl (fun _ => 0))), (h2, .inr (7, [.int 0, .int 0, .int 0, .int 0, .ref h16, .ref h17, .ref h18, .ref h19, .ref h20, .ref h21, .ref h22, .ref h23, .ref h24, .ref h25, .ref h26, .ref h27, .ref h28, .int 0, .ref h29]))] H locs) => ?_)
  have hu := hu.symm
  subst hu
  refine b_icmp_eq_f (tgt := 27) X.x X.b dX11_again_22 (by decide) (by decide +kernel) ?_
  refine lv_iconst (v := 0) X.x X.b dX11_again_25 (by decide +kernel) ?_
  exact g_iret X hr hlk hG rfl gS0 rfl [0, 1, 2] rfl rfl (Nat.le_of_ble_eq_true rfl) (Nat.le_of_ble_eq_true rfl) dX11_again_26
set_option maxHeartbeats 4000000 in
set_option maxRecDepth 100000 in
theorem k372_again (l : Launch) (D : va_G) (cT : Nat → ClassId) (h0 h1 h2 h3 h4 h5 h6 h7 h8 h9 h10 h11 h12 h13 h14 h15 h16 h17 h18 h19 h20 h21 h22 h23 h24 h25 h26 h27 h28 h29 h30 h31 h32 h33 h34 h35 : Nat) : gMet l D cT yX12_again cX12_again 3 (some .boolean) 1 22 0 0 [.ref h0, .int 0] [(h0, .inr (11, (.ref h2 :: .int 0 :: .ref h3 :: .ref h4 :: .ref h5 :: .ref h6 :: .ref h7 :: .int 0 :: .ref h8 :: .ref h9 :: .int 0 :: .ref h10 :: .ref h11 :: .ref h12 :: .int 0 :: .int (-1) :: .int 0 :: .ref h13 :: .int 0 :: .ref h14 :: .int 0 :: .int 0 :: .null :: .int 0 :: .int 0 :: .int 0 :: .int 0 :: .ref h15 :: .ref h16 :: .ref h17 :: .ref h18 :: .int 0 :: .null :: .int 0 :: .int 0 :: .int 0 :: .ref h19 :: .int 0 :: .int (-1) :: .int 0 :: .ref h20 :: .int 0 :: .ref h21 :: .ref h22 :: .int 0 :: .ref h23 :: .ref h24 :: .ref h25 :: .ref h26 :: .int 0 :: .int 0 :: .int 0 :: .ref h27 :: .int 0 :: .int 0 :: .ref h28 :: .ref h29 :: .ref h30 :: .ref h31 :: .int 0 :: .ref h32 :: .int 0 :: .ref h33 :: .int 0 :: .int 0 :: .ref h34 :: .ref h1 :: .ref h35 :: []))), (h1, .inl (cT 3, 2, .inl (fun _ => 0)))] gE0 (gQi D cT (fun (r : Int32) (u : gS) => r = 0) (fun u : gS => [(h0, .inr (11, (.ref h2 :: .int 0 :: .ref h3 :: .ref h4 :: .ref h5 :: .ref h6 :: .ref h7 :: .int 0 :: .ref h8 :: .ref h9 :: .int 0 :: .ref h10 :: .ref h11 :: .ref h12 :: .int 0 :: .int (-1) :: .int 0 :: .ref h13 :: .int 0 :: .ref h14 :: .int 0 :: .int 0 :: .null :: .int 0 :: .int 0 :: .int 0 :: .int 0 :: .ref h15 :: .ref h16 :: .ref h17 :: .ref h18 :: .int 0 :: .null :: .int 0 :: .int 0 :: .int 0 :: .ref h19 :: .int 0 :: .int (-1) :: .int 0 :: .ref h20 :: .int 0 :: .ref h21 :: .ref h22 :: .int 0 :: .ref h23 :: .ref h24 :: .ref h25 :: .ref h26 :: .int 0 :: .int 0 :: .int 0 :: .ref h27 :: .int 0 :: .int 0 :: .ref h28 :: .ref h29 :: .ref h30 :: .ref h31 :: .int 0 :: .ref h32 :: .int 0 :: .ref h33 :: .int 0 :: .int 0 :: .ref h34 :: .ref h1 :: .ref h35 :: []))), (h1, .inl (cT 3, 2, .inl (fun _ => 0)))])) := by
  refine gMet.of "StorksLetModel" rfl (by decide +kernel) (Nat.le_of_ble_eq_true rfl) [(0, .ref h0), (1, .int 0)] rfl ?_
  intro p e s m below meth c A ls X hr hlk hnm hA hG hE hl
  refine lv_aload_n X.x X.b dX12_again_0 rfl (lv_at hl 0 rfl) ?_
  refine lv_iconst (v := 0) X.x X.b dX12_again_1 (by decide +kernel) ?_
  refine gp_X12_124 X hG 0 rfl rfl rfl (Nat.le_of_ble_eq_true rfl) dX12_again_2 (fun H locs (hG : gG D A s.heap [(h0, .inr (11, (.ref h2 :: .int 0 :: .ref h3 :: .ref h4 :: .ref h5 :: .ref h6 :: .ref h7 :: .int 0 :: .ref h8 :: .ref h9 :: .int 0 :: .ref h10 :: .ref h11 :: .ref h12 :: .int 0 :: .int (-1) :: .int 0 :: .ref h13 :: .int 0 :: .ref h14 :: .int 0 :: .int 0 :: .null :: .int 0 :: .int 0 :: .int 0 :: .int 0 :: .ref h15 :: .ref h16 :: .ref h17 :: .ref h18 :: .int 0 :: .null :: .int 0 :: .int 0 :: .int 0 :: .ref h19 :: .int 0 :: .int (-1) :: .int 0 :: .ref h20 :: .int 0 :: .ref h21 :: .ref h22 :: .int 0 :: .ref h23 :: .ref h24 :: .ref h25 :: .ref h26 :: .int 0 :: .int 0 :: .int 0 :: .ref h27 :: .int 0 :: .int 0 :: .ref h28 :: .ref h29 :: .ref h30 :: .ref h31 :: .int 0 :: .ref h32 :: .int 0 :: .ref h33 :: .int 0 :: .int 0 :: .ref h34 :: .ref h1 :: .ref h35 :: []))), (h1, .inl (cT 3, 2, .inl (fun _ => 0)))] H locs) => ?_)
  refine lv_iload_n X.x X.b dX12_again_5 rfl (lv_at hl 1 rfl) ?_
  refine lv_iconst (v := 0) X.x X.b dX12_again_6 (by decide +kernel) ?_
  refine lv_iconst (v := 1) X.x X.b dX12_again_7 (by decide +kernel) ?_
  refine g_ki (g_rS (As := [.int 0, .int 0, .int 1]) (rest := []) X hl hG (k359_in l D cT) gw_X12_133 g_E01 g_E02 [] rfl rfl rfl rfl (Nat.le_of_ble_eq_true rfl) ⟨(Nat.le_of_ble_eq_true rfl), (Nat.le_of_ble_eq_true rfl)⟩ ⟨(Nat.le_of_ble_eq_true rfl), (Nat.le_of_ble_eq_true rfl)⟩ dX12_again_8) hG hA [] [0, 1] rfl rfl rfl rfl (c1 := 0) (s1 := 0) rfl rfl (fun r_1 u_1 H locs (hu : r_1 = 1) (hG : gG D A s.heap [(h0, .inr (11, (.ref h2 :: .int 0 :: .ref h3 :: .ref h4 :: .ref h5 :: .ref h6 :: .ref h7 :: .int 0 :: .ref h8 :: .ref h9 :: .int 0 :: .ref h10 :: .ref h11 :: .ref h12 :: .int 0 :: .int (-1) :: .int 0 :: .ref h13 :: .int 0 :: .ref h14 :: .int 0 :: .int 0 :: .null :: .int 0 :: .int 0 :: .int 0 :: .int 0 :: .ref h15 :: .ref h16 :: .ref h17 :: .ref h18 :: .int 0 :: .null :: .int 0 :: .int 0 :: .int 0 :: .ref h19 :: .int 0 :: .int (-1) :: .int 0 :: .ref h20 :: .int 0 :: .ref h21 :: .ref h22 :: .int 0 :: .ref h23 :: .ref h24 :: .ref h25 :: .ref h26 :: .int 0 :: .int 0 :: .int 0 :: .ref h27 :: .int 0 :: .int 0 :: .ref h28 :: .ref h29 :: .ref h30 :: .ref h31 :: .int 0 :: .ref h32 :: .int 0 :: .ref h33 :: .int 0 :: .int 0 :: .ref h34 :: .ref h1 :: .ref h35 :: []))), (h1, .inl (cT 3, 2, .inl (fun _ => 0)))] H locs) => ?_)
  have hu := hu.symm
  subst hu
  refine b_if_eq_f (tgt := 36) X.x X.b dX12_again_11 (by decide) (by decide +kernel) ?_
  refine lv_aload_n X.x X.b dX12_again_14 rfl (lv_at hl 0 rfl) ?_
  refine gg_X12_117 X hG 0 rfl rfl dX12_again_15 ?_
  refine lv_iload_n X.x X.b dX12_again_18 rfl (lv_at hl 1 rfl) ?_
  refine g_zald X hG 1 rfl (g_in (by decide +kernel)) (v := 0) rfl dX12_again_19 ?_
  refine b_if_eq_t (tgt := 36) X.x X.b dX12_again_20 (by decide) (by decide +kernel) ?_
  refine lv_iconst (v := 0) X.x X.b dX12_again_36 (by decide +kernel) ?_
  exact g_iret X hr hlk hG rfl gS0 rfl [0, 1] rfl rfl (Nat.le_of_ble_eq_true rfl) (Nat.le_of_ble_eq_true rfl) dX12_again_37
set_option maxHeartbeats 4000000 in
set_option maxRecDepth 100000 in
theorem k373_again (l : Launch) (D : va_G) (cT : Nat → ClassId) (h0 h1 h2 h3 h4 h5 h6 h7 h8 h9 h10 h11 h12 h13 h14 h15 h16 h17 h18 h19 h20 h21 h22 h23 h24 h25 h26 h27 h28 h29 : Nat) : gMet l D cT yX11_again cX11_again 2 (some .boolean) 1 20 0 0 [.ref h0, .int 1] [(h0, .inr (10, [.ref h3, .ref h4, .ref h2, .ref h5, .ref h6, .ref h7, .ref h8, .ref h9, .ref h10, .ref h11, .ref h12, .ref h1, .ref h13, .null, .ref h14, .ref h15])), (h1, .inl (cT 0, 2, .inl (fun _ => 0))), (h2, .inr (7, [.int 0, .int 0, .int 0, .int 0, .ref h16, .ref h17, .ref h18, .ref h19, .ref h20, .ref h21, .ref h22, .ref h23, .ref h24, .ref h25, .ref h26, .ref h27, .ref h28, .int 0, .ref h29]))] gE0 (gQi D cT (fun (r : Int32) (u : gS) => r = 0) (fun u : gS => [(h0, .inr (10, [.ref h3, .ref h4, .ref h2, .ref h5, .ref h6, .ref h7, .ref h8, .ref h9, .ref h10, .ref h11, .ref h12, .ref h1, .ref h13, .null, .ref h14, .ref h15])), (h1, .inl (cT 0, 2, .inl (fun _ => 0))), (h2, .inr (7, [.int 0, .int 0, .int 0, .int 0, .ref h16, .ref h17, .ref h18, .ref h19, .ref h20, .ref h21, .ref h22, .ref h23, .ref h24, .ref h25, .ref h26, .ref h27, .ref h28, .int 0, .ref h29]))])) := by
  refine gMet.of "StorksLet" rfl (by decide +kernel) (Nat.le_of_ble_eq_true rfl) [(0, .ref h0), (1, .int 1)] rfl ?_
  intro p e s m below meth c A ls X hr hlk hnm hA hG hE hl
  refine lv_iload_n X.x X.b dX11_again_0 rfl (lv_at hl 1 rfl) ?_
  refine b_if_lt_f (tgt := 25) X.x X.b dX11_again_1 (by decide) (by decide +kernel) ?_
  refine lv_iload_n X.x X.b dX11_again_4 rfl (lv_at hl 1 rfl) ?_
  refine lv_iconst (v := 2) X.x X.b dX11_again_5 (by decide +kernel) ?_
  refine b_icmp_ge_f (tgt := 25) X.x X.b dX11_again_6 (by decide) (by decide +kernel) ?_
  refine lv_aload_n X.x X.b dX11_again_9 rfl (lv_at hl 0 rfl) ?_
  refine gg_X11_69 X hG 0 rfl rfl dX11_again_10 ?_
  refine lv_iload_n X.x X.b dX11_again_13 rfl (lv_at hl 1 rfl) ?_
  refine g_iald X hG 1 rfl (g_in (by decide +kernel)) (v := 0) rfl dX11_again_14 ?_
  refine lv_aload_n X.x X.b dX11_again_15 rfl (lv_at hl 0 rfl) ?_
  refine gg_X11_26 X hG 0 rfl rfl dX11_again_16 ?_
  refine g_ki (g_rV (As := []) (rest := [.int 0]) X hl hG (k357_sizeMark l D cT h2 h16 h17 h18 h19 h20 h21 h22 h23 h24 h25 h26 h27 h28 h29) gw_X11_429 g_E01 g_E02 [2] rfl rfl 2 rfl rfl rfl rfl rfl (Nat.le_of_ble_eq_true rfl) ⟨(Nat.le_of_ble_eq_true rfl), (Nat.le_of_ble_eq_true rfl)⟩ ⟨(Nat.le_of_ble_eq_true rfl), (Nat.le_of_ble_eq_true rfl)⟩ dX11_again_19) hG hA [2] [0, 1] rfl rfl rfl rfl (c1 := 0) (s1 := 0) rfl rfl (fun r_1 u_1 H locs (hu : r_1 = 1) (hG : gG D A s.heap [(h0, .inr (10, [.ref h3, .ref h4, .ref h2, .ref h5, .ref h6, .ref h7, .ref h8, .ref h9, .ref h10, .ref h11, .ref h12, .ref h1, .ref h13, .null, .ref h14, .ref h15])), (h1, .inl (cT 0, 2, .inl (fun _ => 0))), (h2, .inr (7, [.int 0, .int 0, .int 0, .int 0, .ref h16, .ref h17, .ref h18, .ref h19, .ref h20, .ref h21, .ref h22, .ref h23, .ref h24, .ref h25, .ref h26, .ref h27, .ref h28, .int 0, .ref h29]))] H locs) => ?_)
  have hu := hu.symm
  subst hu
  refine b_icmp_eq_f (tgt := 27) X.x X.b dX11_again_22 (by decide) (by decide +kernel) ?_
  refine lv_iconst (v := 0) X.x X.b dX11_again_25 (by decide +kernel) ?_
  exact g_iret X hr hlk hG rfl gS0 rfl [0, 1, 2] rfl rfl (Nat.le_of_ble_eq_true rfl) (Nat.le_of_ble_eq_true rfl) dX11_again_26
set_option maxHeartbeats 4000000 in
set_option maxRecDepth 100000 in
theorem k374_again (l : Launch) (D : va_G) (cT : Nat → ClassId) (h0 h1 h2 h3 h4 h5 h6 h7 h8 h9 h10 h11 h12 h13 h14 h15 h16 h17 h18 h19 h20 h21 h22 h23 h24 h25 h26 h27 h28 h29 h30 h31 h32 h33 h34 h35 : Nat) : gMet l D cT yX12_again cX12_again 3 (some .boolean) 1 22 0 0 [.ref h0, .int 1] [(h0, .inr (11, (.ref h2 :: .int 0 :: .ref h3 :: .ref h4 :: .ref h5 :: .ref h6 :: .ref h7 :: .int 0 :: .ref h8 :: .ref h9 :: .int 0 :: .ref h10 :: .ref h11 :: .ref h12 :: .int 0 :: .int (-1) :: .int 0 :: .ref h13 :: .int 0 :: .ref h14 :: .int 0 :: .int 0 :: .null :: .int 0 :: .int 0 :: .int 0 :: .int 0 :: .ref h15 :: .ref h16 :: .ref h17 :: .ref h18 :: .int 0 :: .null :: .int 0 :: .int 0 :: .int 0 :: .ref h19 :: .int 0 :: .int (-1) :: .int 0 :: .ref h20 :: .int 0 :: .ref h21 :: .ref h22 :: .int 0 :: .ref h23 :: .ref h24 :: .ref h25 :: .ref h26 :: .int 0 :: .int 0 :: .int 0 :: .ref h27 :: .int 0 :: .int 0 :: .ref h28 :: .ref h29 :: .ref h30 :: .ref h31 :: .int 0 :: .ref h32 :: .int 0 :: .ref h33 :: .int 0 :: .int 0 :: .ref h34 :: .ref h1 :: .ref h35 :: []))), (h1, .inl (cT 3, 2, .inl (fun _ => 0)))] gE0 (gQi D cT (fun (r : Int32) (u : gS) => r = 0) (fun u : gS => [(h0, .inr (11, (.ref h2 :: .int 0 :: .ref h3 :: .ref h4 :: .ref h5 :: .ref h6 :: .ref h7 :: .int 0 :: .ref h8 :: .ref h9 :: .int 0 :: .ref h10 :: .ref h11 :: .ref h12 :: .int 0 :: .int (-1) :: .int 0 :: .ref h13 :: .int 0 :: .ref h14 :: .int 0 :: .int 0 :: .null :: .int 0 :: .int 0 :: .int 0 :: .int 0 :: .ref h15 :: .ref h16 :: .ref h17 :: .ref h18 :: .int 0 :: .null :: .int 0 :: .int 0 :: .int 0 :: .ref h19 :: .int 0 :: .int (-1) :: .int 0 :: .ref h20 :: .int 0 :: .ref h21 :: .ref h22 :: .int 0 :: .ref h23 :: .ref h24 :: .ref h25 :: .ref h26 :: .int 0 :: .int 0 :: .int 0 :: .ref h27 :: .int 0 :: .int 0 :: .ref h28 :: .ref h29 :: .ref h30 :: .ref h31 :: .int 0 :: .ref h32 :: .int 0 :: .ref h33 :: .int 0 :: .int 0 :: .ref h34 :: .ref h1 :: .ref h35 :: []))), (h1, .inl (cT 3, 2, .inl (fun _ => 0)))])) := by
  refine gMet.of "StorksLetModel" rfl (by decide +kernel) (Nat.le_of_ble_eq_true rfl) [(0, .ref h0), (1, .int 1)] rfl ?_
  intro p e s m below meth c A ls X hr hlk hnm hA hG hE hl
  refine lv_aload_n X.x X.b dX12_again_0 rfl (lv_at hl 0 rfl) ?_
  refine lv_iconst (v := 0) X.x X.b dX12_again_1 (by decide +kernel) ?_
  refine gp_X12_124 X hG 0 rfl rfl rfl (Nat.le_of_ble_eq_true rfl) dX12_again_2 (fun H locs (hG : gG D A s.heap [(h0, .inr (11, (.ref h2 :: .int 0 :: .ref h3 :: .ref h4 :: .ref h5 :: .ref h6 :: .ref h7 :: .int 0 :: .ref h8 :: .ref h9 :: .int 0 :: .ref h10 :: .ref h11 :: .ref h12 :: .int 0 :: .int (-1) :: .int 0 :: .ref h13 :: .int 0 :: .ref h14 :: .int 0 :: .int 0 :: .null :: .int 0 :: .int 0 :: .int 0 :: .int 0 :: .ref h15 :: .ref h16 :: .ref h17 :: .ref h18 :: .int 0 :: .null :: .int 0 :: .int 0 :: .int 0 :: .ref h19 :: .int 0 :: .int (-1) :: .int 0 :: .ref h20 :: .int 0 :: .ref h21 :: .ref h22 :: .int 0 :: .ref h23 :: .ref h24 :: .ref h25 :: .ref h26 :: .int 0 :: .int 0 :: .int 0 :: .ref h27 :: .int 0 :: .int 0 :: .ref h28 :: .ref h29 :: .ref h30 :: .ref h31 :: .int 0 :: .ref h32 :: .int 0 :: .ref h33 :: .int 0 :: .int 0 :: .ref h34 :: .ref h1 :: .ref h35 :: []))), (h1, .inl (cT 3, 2, .inl (fun _ => 0)))] H locs) => ?_)
  refine lv_iload_n X.x X.b dX12_again_5 rfl (lv_at hl 1 rfl) ?_
  refine lv_iconst (v := 0) X.x X.b dX12_again_6 (by decide +kernel) ?_
  refine lv_iconst (v := 1) X.x X.b dX12_again_7 (by decide +kernel) ?_
  refine g_ki (g_rS (As := [.int 1, .int 0, .int 1]) (rest := []) X hl hG (k363_in l D cT) gw_X12_133 g_E01 g_E02 [] rfl rfl rfl rfl (Nat.le_of_ble_eq_true rfl) ⟨(Nat.le_of_ble_eq_true rfl), (Nat.le_of_ble_eq_true rfl)⟩ ⟨(Nat.le_of_ble_eq_true rfl), (Nat.le_of_ble_eq_true rfl)⟩ dX12_again_8) hG hA [] [0, 1] rfl rfl rfl rfl (c1 := 0) (s1 := 0) rfl rfl (fun r_1 u_1 H locs (hu : r_1 = 1) (hG : gG D A s.heap [(h0, .inr (11, (.ref h2 :: .int 0 :: .ref h3 :: .ref h4 :: .ref h5 :: .ref h6 :: .ref h7 :: .int 0 :: .ref h8 :: .ref h9 :: .int 0 :: .ref h10 :: .ref h11 :: .ref h12 :: .int 0 :: .int (-1) :: .int 0 :: .ref h13 :: .int 0 :: .ref h14 :: .int 0 :: .int 0 :: .null :: .int 0 :: .int 0 :: .int 0 :: .int 0 :: .ref h15 :: .ref h16 :: .ref h17 :: .ref h18 :: .int 0 :: .null :: .int 0 :: .int 0 :: .int 0 :: .ref h19 :: .int 0 :: .int (-1) :: .int 0 :: .ref h20 :: .int 0 :: .ref h21 :: .ref h22 :: .int 0 :: .ref h23 :: .ref h24 :: .ref h25 :: .ref h26 :: .int 0 :: .int 0 :: .int 0 :: .ref h27 :: .int 0 :: .int 0 :: .ref h28 :: .ref h29 :: .ref h30 :: .ref h31 :: .int 0 :: .ref h32 :: .int 0 :: .ref h33 :: .int 0 :: .int 0 :: .ref h34 :: .ref h1 :: .ref h35 :: []))), (h1, .inl (cT 3, 2, .inl (fun _ => 0)))] H locs) => ?_)
  have hu := hu.symm
  subst hu
  refine b_if_eq_f (tgt := 36) X.x X.b dX12_again_11 (by decide) (by decide +kernel) ?_
  refine lv_aload_n X.x X.b dX12_again_14 rfl (lv_at hl 0 rfl) ?_
  refine gg_X12_117 X hG 0 rfl rfl dX12_again_15 ?_
  refine lv_iload_n X.x X.b dX12_again_18 rfl (lv_at hl 1 rfl) ?_
  refine g_zald X hG 1 rfl (g_in (by decide +kernel)) (v := 0) rfl dX12_again_19 ?_
  refine b_if_eq_t (tgt := 36) X.x X.b dX12_again_20 (by decide) (by decide +kernel) ?_
  refine lv_iconst (v := 0) X.x X.b dX12_again_36 (by decide +kernel) ?_
  exact g_iret X hr hlk hG rfl gS0 rfl [0, 1] rfl rfl (Nat.le_of_ble_eq_true rfl) (Nat.le_of_ble_eq_true rfl) dX12_again_37
set_option maxHeartbeats 4000000 in
set_option maxRecDepth 100000 in
theorem k375_again (l : Launch) (D : va_G) (cT : Nat → ClassId) (h0 h1 h2 h3 h4 h5 h6 h7 h8 h9 h10 h11 h12 h13 h14 h15 : Nat) (x0 : Int32) (l_x0 : 2 ≤ x0.toInt) : gMet l D cT yX11_again cX11_again 2 (some .boolean) 0 0 0 0 [.ref h0, .int x0] [(h0, .inr (10, [.ref h1, .ref h2, .ref h3, .ref h4, .ref h5, .ref h6, .ref h7, .ref h8, .ref h9, .ref h10, .ref h11, .ref h12, .ref h13, .null, .ref h14, .ref h15]))] gE0 (gQi D cT (fun (r : Int32) (u : gS) => r = 0) (fun u : gS => [(h0, .inr (10, [.ref h1, .ref h2, .ref h3, .ref h4, .ref h5, .ref h6, .ref h7, .ref h8, .ref h9, .ref h10, .ref h11, .ref h12, .ref h13, .null, .ref h14, .ref h15]))])) := by
  refine gMet.of "StorksLet" rfl (by decide +kernel) (Nat.le_of_ble_eq_true rfl) [(0, .ref h0), (1, .int x0)] rfl ?_
  intro p e s m below meth c A ls X hr hlk hnm hA hG hE hl
  refine lv_iload_n X.x X.b dX11_again_0 rfl (lv_at hl 1 rfl) ?_
  refine b_if_lt_f (tgt := 25) X.x X.b dX11_again_1 (by decide) (by simp only [Int32.lt_iff_toInt_lt, Int32.le_iff_toInt_le, ← Int32.toInt_inj, show (0 : Int32).toInt = 0 from by decide +kernel]; omega) ?_
  refine lv_iload_n X.x X.b dX11_again_4 rfl (lv_at hl 1 rfl) ?_
  refine lv_iconst (v := 2) X.x X.b dX11_again_5 (by decide +kernel) ?_
  refine b_icmp_ge_t (tgt := 25) X.x X.b dX11_again_6 (by decide) (by simp only [Int32.lt_iff_toInt_lt, Int32.le_iff_toInt_le, ← Int32.toInt_inj, show (2 : Int32).toInt = 2 from by decide +kernel]; omega) ?_
  refine lv_iconst (v := 0) X.x X.b dX11_again_25 (by decide +kernel) ?_
  exact g_iret X hr hlk hG rfl gS0 rfl [0] rfl rfl (Nat.le_of_ble_eq_true rfl) (Nat.le_of_ble_eq_true rfl) dX11_again_26
set_option maxHeartbeats 4000000 in
set_option maxRecDepth 100000 in
theorem k376_again (l : Launch) (D : va_G) (cT : Nat → ClassId) (h0 h1 h2 h3 h4 h5 h6 h7 h8 h9 h10 h11 h12 h13 h14 h15 h16 h17 h18 h19 h20 h21 h22 h23 h24 h25 h26 h27 h28 h29 h30 h31 h32 h33 h34 h35 : Nat) (x0 : Int32) (l_x0 : 2 ≤ x0.toInt) : gMet l D cT yX12_again cX12_again 3 (some .boolean) 1 22 0 0 [.ref h0, .int x0] [(h0, .inr (11, (.ref h1 :: .int 0 :: .ref h2 :: .ref h3 :: .ref h4 :: .ref h5 :: .ref h6 :: .int 0 :: .ref h7 :: .ref h8 :: .int 0 :: .ref h9 :: .ref h10 :: .ref h11 :: .int 0 :: .int (-1) :: .int 0 :: .ref h12 :: .int 0 :: .ref h13 :: .int 0 :: .int 0 :: .null :: .int 0 :: .int 0 :: .int 0 :: .int 0 :: .ref h14 :: .ref h15 :: .ref h16 :: .ref h17 :: .int 0 :: .null :: .int 0 :: .int 0 :: .int 0 :: .ref h18 :: .int 0 :: .int (-1) :: .int 0 :: .ref h19 :: .int 0 :: .ref h20 :: .ref h21 :: .int 0 :: .ref h22 :: .ref h23 :: .ref h24 :: .ref h25 :: .int 0 :: .int 0 :: .int 0 :: .ref h26 :: .int 0 :: .int 0 :: .ref h27 :: .ref h28 :: .ref h29 :: .ref h30 :: .int 0 :: .ref h31 :: .int 0 :: .ref h32 :: .int 0 :: .int 0 :: .ref h33 :: .ref h34 :: .ref h35 :: [])))] gE0 (gQi D cT (fun (r : Int32) (u : gS) => r = 0) (fun u : gS => [(h0, .inr (11, (.ref h1 :: .int 0 :: .ref h2 :: .ref h3 :: .ref h4 :: .ref h5 :: .ref h6 :: .int 0 :: .ref h7 :: .ref h8 :: .int 0 :: .ref h9 :: .ref h10 :: .ref h11 :: .int 0 :: .int (-1) :: .int 0 :: .ref h12 :: .int 0 :: .ref h13 :: .int 0 :: .int 0 :: .null :: .int 0 :: .int 0 :: .int 0 :: .int 0 :: .ref h14 :: .ref h15 :: .ref h16 :: .ref h17 :: .int 0 :: .null :: .int 0 :: .int 0 :: .int 0 :: .ref h18 :: .int 0 :: .int (-1) :: .int 0 :: .ref h19 :: .int 0 :: .ref h20 :: .ref h21 :: .int 0 :: .ref h22 :: .ref h23 :: .ref h24 :: .ref h25 :: .int 0 :: .int 0 :: .int 0 :: .ref h26 :: .int 0 :: .int 0 :: .ref h27 :: .ref h28 :: .ref h29 :: .ref h30 :: .int 0 :: .ref h31 :: .int 0 :: .ref h32 :: .int 0 :: .int 0 :: .ref h33 :: .ref h34 :: .ref h35 :: [])))])) := by
  refine gMet.of "StorksLetModel" rfl (by decide +kernel) (Nat.le_of_ble_eq_true rfl) [(0, .ref h0), (1, .int x0)] rfl ?_
  intro p e s m below meth c A ls X hr hlk hnm hA hG hE hl
  refine lv_aload_n X.x X.b dX12_again_0 rfl (lv_at hl 0 rfl) ?_
  refine lv_iconst (v := 0) X.x X.b dX12_again_1 (by decide +kernel) ?_
  refine gp_X12_124 X hG 0 rfl rfl rfl (Nat.le_of_ble_eq_true rfl) dX12_again_2 (fun H locs (hG : gG D A s.heap [(h0, .inr (11, (.ref h1 :: .int 0 :: .ref h2 :: .ref h3 :: .ref h4 :: .ref h5 :: .ref h6 :: .int 0 :: .ref h7 :: .ref h8 :: .int 0 :: .ref h9 :: .ref h10 :: .ref h11 :: .int 0 :: .int (-1) :: .int 0 :: .ref h12 :: .int 0 :: .ref h13 :: .int 0 :: .int 0 :: .null :: .int 0 :: .int 0 :: .int 0 :: .int 0 :: .ref h14 :: .ref h15 :: .ref h16 :: .ref h17 :: .int 0 :: .null :: .int 0 :: .int 0 :: .int 0 :: .ref h18 :: .int 0 :: .int (-1) :: .int 0 :: .ref h19 :: .int 0 :: .ref h20 :: .ref h21 :: .int 0 :: .ref h22 :: .ref h23 :: .ref h24 :: .ref h25 :: .int 0 :: .int 0 :: .int 0 :: .ref h26 :: .int 0 :: .int 0 :: .ref h27 :: .ref h28 :: .ref h29 :: .ref h30 :: .int 0 :: .ref h31 :: .int 0 :: .ref h32 :: .int 0 :: .int 0 :: .ref h33 :: .ref h34 :: .ref h35 :: [])))] H locs) => ?_)
  refine lv_iload_n X.x X.b dX12_again_5 rfl (lv_at hl 1 rfl) ?_
  refine lv_iconst (v := 0) X.x X.b dX12_again_6 (by decide +kernel) ?_
  refine lv_iconst (v := 1) X.x X.b dX12_again_7 (by decide +kernel) ?_
  refine g_ki (g_rS (As := [.int x0, .int 0, .int 1]) (rest := []) X hl hG (k367_in l D cT x0 (by omega)) gw_X12_133 g_E01 g_E02 [] rfl rfl rfl rfl (Nat.le_of_ble_eq_true rfl) ⟨(Nat.le_of_ble_eq_true rfl), (Nat.le_of_ble_eq_true rfl)⟩ ⟨(Nat.le_of_ble_eq_true rfl), (Nat.le_of_ble_eq_true rfl)⟩ dX12_again_8) hG hA [] [0] rfl rfl rfl rfl (c1 := 0) (s1 := 0) rfl rfl (fun r_1 u_1 H locs (hu : r_1 = 0) (hG : gG D A s.heap [(h0, .inr (11, (.ref h1 :: .int 0 :: .ref h2 :: .ref h3 :: .ref h4 :: .ref h5 :: .ref h6 :: .int 0 :: .ref h7 :: .ref h8 :: .int 0 :: .ref h9 :: .ref h10 :: .ref h11 :: .int 0 :: .int (-1) :: .int 0 :: .ref h12 :: .int 0 :: .ref h13 :: .int 0 :: .int 0 :: .null :: .int 0 :: .int 0 :: .int 0 :: .int 0 :: .ref h14 :: .ref h15 :: .ref h16 :: .ref h17 :: .int 0 :: .null :: .int 0 :: .int 0 :: .int 0 :: .ref h18 :: .int 0 :: .int (-1) :: .int 0 :: .ref h19 :: .int 0 :: .ref h20 :: .ref h21 :: .int 0 :: .ref h22 :: .ref h23 :: .ref h24 :: .ref h25 :: .int 0 :: .int 0 :: .int 0 :: .ref h26 :: .int 0 :: .int 0 :: .ref h27 :: .ref h28 :: .ref h29 :: .ref h30 :: .int 0 :: .ref h31 :: .int 0 :: .ref h32 :: .int 0 :: .int 0 :: .ref h33 :: .ref h34 :: .ref h35 :: [])))] H locs) => ?_)
  have hu := hu.symm
  subst hu
  refine b_if_eq_t (tgt := 36) X.x X.b dX12_again_11 (by decide) (by decide +kernel) ?_
  refine lv_iconst (v := 0) X.x X.b dX12_again_36 (by decide +kernel) ?_
  exact g_iret X hr hlk hG rfl gS0 rfl [0] rfl rfl (Nat.le_of_ble_eq_true rfl) (Nat.le_of_ble_eq_true rfl) dX12_again_37
set_option maxHeartbeats 4000000 in
set_option maxRecDepth 100000 in
theorem k377_count (l : Launch) (D : va_G) (cT : Nat → ClassId) (h0 h1 h2 h3 h4 h5 h6 h7 h8 h9 h10 h11 h12 h13 h14 h15 : Nat) (x0 : Int32) (u_x0 : x0.toInt ≤ -1) : gMet l D cT yX11_count cX11_count 2 (some .int) 0 0 0 0 [.ref h0, .int x0] [(h0, .inr (10, [.ref h1, .ref h2, .ref h3, .ref h4, .ref h5, .ref h6, .ref h7, .ref h8, .ref h9, .ref h10, .ref h11, .ref h12, .ref h13, .null, .ref h14, .ref h15]))] gE0 (gQi D cT (fun (r : Int32) (u : gS) => r = (-1)) (fun u : gS => [(h0, .inr (10, [.ref h1, .ref h2, .ref h3, .ref h4, .ref h5, .ref h6, .ref h7, .ref h8, .ref h9, .ref h10, .ref h11, .ref h12, .ref h13, .null, .ref h14, .ref h15]))])) := by
  refine gMet.of "StorksLet" rfl (by decide +kernel) (Nat.le_of_ble_eq_true rfl) [(0, .ref h0), (1, .int x0)] rfl ?_
  intro p e s m below meth c A ls X hr hlk hnm hA hG hE hl
  refine lv_iload_n X.x X.b dX11_count_0 rfl (lv_at hl 1 rfl) ?_
  refine lv_tableOut (tgt := 160) X.x X.b dX11_count_1 (Or.inl (by omega)) (by decide) ?_
  refine lv_iconst (v := (-1)) X.x X.b dX11_count_160 (by decide +kernel) ?_
  exact g_iret X hr hlk hG rfl gS0 rfl [0] rfl rfl (Nat.le_of_ble_eq_true rfl) (Nat.le_of_ble_eq_true rfl) dX11_count_161
set_option maxHeartbeats 4000000 in
set_option maxRecDepth 100000 in
theorem k378_count (l : Launch) (D : va_G) (cT : Nat → ClassId) (h0 h1 h2 h3 h4 h5 h6 h7 h8 h9 h10 h11 h12 h13 h14 h15 h16 h17 h18 h19 h20 h21 h22 h23 h24 h25 h26 h27 h28 h29 h30 h31 h32 h33 h34 h35 : Nat) (x0 : Int32) (u_x0 : x0.toInt ≤ -1) : gMet l D cT yX12_count cX12_count 4 (some .int) 0 0 0 0 [.ref h0, .int x0] [(h0, .inr (11, (.ref h1 :: .int 0 :: .ref h2 :: .ref h3 :: .ref h4 :: .ref h5 :: .ref h6 :: .int 0 :: .ref h7 :: .ref h8 :: .int 0 :: .ref h9 :: .ref h10 :: .ref h11 :: .int 0 :: .int (-1) :: .int 0 :: .ref h12 :: .int 0 :: .ref h13 :: .int 0 :: .int 0 :: .null :: .int 0 :: .int 0 :: .int 0 :: .int 0 :: .ref h14 :: .ref h15 :: .ref h16 :: .ref h17 :: .int 0 :: .null :: .int 0 :: .int 0 :: .int 0 :: .ref h18 :: .int 0 :: .int (-1) :: .int 0 :: .ref h19 :: .int 0 :: .ref h20 :: .ref h21 :: .int 0 :: .ref h22 :: .ref h23 :: .ref h24 :: .ref h25 :: .int 0 :: .int 0 :: .int 0 :: .ref h26 :: .int 0 :: .int 0 :: .ref h27 :: .ref h28 :: .ref h29 :: .ref h30 :: .int 0 :: .ref h31 :: .int 0 :: .ref h32 :: .int 0 :: .int 0 :: .ref h33 :: .ref h34 :: .ref h35 :: [])))] gE0 (gQi D cT (fun (r : Int32) (u : gS) => r = (-1)) (fun u : gS => [(h0, .inr (11, (.ref h1 :: .int 0 :: .ref h2 :: .ref h3 :: .ref h4 :: .ref h5 :: .ref h6 :: .int 0 :: .ref h7 :: .ref h8 :: .int 0 :: .ref h9 :: .ref h10 :: .ref h11 :: .int 0 :: .int (-1) :: .int 0 :: .ref h12 :: .int 0 :: .ref h13 :: .int 0 :: .int 0 :: .null :: .int 0 :: .int 0 :: .int 0 :: .int 0 :: .ref h14 :: .ref h15 :: .ref h16 :: .ref h17 :: .int 0 :: .null :: .int 0 :: .int 0 :: .int 0 :: .ref h18 :: .int 0 :: .int (-1) :: .int 0 :: .ref h19 :: .int 0 :: .ref h20 :: .ref h21 :: .int 0 :: .ref h22 :: .ref h23 :: .ref h24 :: .ref h25 :: .int 0 :: .int 0 :: .int 0 :: .ref h26 :: .int 0 :: .int 0 :: .ref h27 :: .ref h28 :: .ref h29 :: .ref h30 :: .int 0 :: .ref h31 :: .int 0 :: .ref h32 :: .int 0 :: .int 0 :: .ref h33 :: .ref h34 :: .ref h35 :: [])))])) := by
  refine gMet.of "StorksLetModel" rfl (by decide +kernel) (Nat.le_of_ble_eq_true rfl) [(0, .ref h0), (1, .int x0)] rfl ?_
  intro p e s m below meth c A ls X hr hlk hnm hA hG hE hl
  refine lv_aload_n X.x X.b dX12_count_0 rfl (lv_at hl 0 rfl) ?_
  refine lv_iconst (v := 0) X.x X.b dX12_count_1 (by decide +kernel) ?_
  refine gp_X12_124 X hG 0 rfl rfl rfl (Nat.le_of_ble_eq_true rfl) dX12_count_2 (fun H locs (hG : gG D A s.heap [(h0, .inr (11, (.ref h1 :: .int 0 :: .ref h2 :: .ref h3 :: .ref h4 :: .ref h5 :: .ref h6 :: .int 0 :: .ref h7 :: .ref h8 :: .int 0 :: .ref h9 :: .ref h10 :: .ref h11 :: .int 0 :: .int (-1) :: .int 0 :: .ref h12 :: .int 0 :: .ref h13 :: .int 0 :: .int 0 :: .null :: .int 0 :: .int 0 :: .int 0 :: .int 0 :: .ref h14 :: .ref h15 :: .ref h16 :: .ref h17 :: .int 0 :: .null :: .int 0 :: .int 0 :: .int 0 :: .ref h18 :: .int 0 :: .int (-1) :: .int 0 :: .ref h19 :: .int 0 :: .ref h20 :: .ref h21 :: .int 0 :: .ref h22 :: .ref h23 :: .ref h24 :: .ref h25 :: .int 0 :: .int 0 :: .int 0 :: .ref h26 :: .int 0 :: .int 0 :: .ref h27 :: .ref h28 :: .ref h29 :: .ref h30 :: .int 0 :: .ref h31 :: .int 0 :: .ref h32 :: .int 0 :: .int 0 :: .ref h33 :: .ref h34 :: .ref h35 :: [])))] H locs) => ?_)
  refine lv_iconst (v := 0) X.x X.b dX12_count_5 (by decide +kernel) ?_
  refine lv_istore_n (lv' := [(2, .int 0), (0, .ref h0), (1, .int x0)]) X.x X.b dX12_count_6 rfl hl (Nat.le_of_ble_eq_true rfl) rfl (fun ls hl => ?_)
  refine lv_iload_n X.x X.b dX12_count_7 rfl (lv_at hl 2 rfl) ?_
  refine lv_tableOut (tgt := 221) X.x X.b dX12_count_8 (Or.inl (by omega)) (by decide) ?_
  refine lv_iconst (v := (-1)) X.x X.b dX12_count_221 (by decide +kernel) ?_
  exact g_iret X hr hlk hG rfl gS0 rfl [0] rfl rfl (Nat.le_of_ble_eq_true rfl) (Nat.le_of_ble_eq_true rfl) dX12_count_222
set_option maxHeartbeats 4000000 in
set_option maxRecDepth 100000 in
theorem k379_count (l : Launch) (D : va_G) (cT : Nat → ClassId) (h0 h1 h2 h3 h4 h5 h6 h7 h8 h9 h10 h11 h12 h13 h14 h15 h16 h17 h18 h19 h20 h21 h22 h23 h24 h25 h26 h27 h28 h29 : Nat) : gMet l D cT yX11_count cX11_count 2 (some .int) 0 0 0 0 [.ref h0, .int 0] [(h0, .inr (10, [.ref h2, .ref h3, .ref h1, .ref h4, .ref h5, .ref h6, .ref h7, .ref h8, .ref h9, .ref h10, .ref h11, .ref h12, .ref h13, .null, .ref h14, .ref h15])), (h1, .inr (7, [.int 0, .int 0, .int 0, .int 0, .ref h16, .ref h17, .ref h18, .ref h19, .ref h20, .ref h21, .ref h22, .ref h23, .ref h24, .ref h25, .ref h26, .ref h27, .ref h28, .int 0, .ref h29]))] gE0 (gQi D cT (fun (r : Int32) (u : gS) => r = 0) (fun u : gS => [(h0, .inr (10, [.ref h2, .ref h3, .ref h1, .ref h4, .ref h5, .ref h6, .ref h7, .ref h8, .ref h9, .ref h10, .ref h11, .ref h12, .ref h13, .null, .ref h14, .ref h15])), (h1, .inr (7, [.int 0, .int 0, .int 0, .int 0, .ref h16, .ref h17, .ref h18, .ref h19, .ref h20, .ref h21, .ref h22, .ref h23, .ref h24, .ref h25, .ref h26, .ref h27, .ref h28, .int 0, .ref h29]))])) := by
  refine gMet.of "StorksLet" rfl (by decide +kernel) (Nat.le_of_ble_eq_true rfl) [(0, .ref h0), (1, .int 0)] rfl ?_
  intro p e s m below meth c A ls X hr hlk hnm hA hG hE hl
  refine lv_iload_n X.x X.b dX11_count_0 rfl (lv_at hl 1 rfl) ?_
  refine lv_tableIn (off := 63) (tgt := 64) X.x X.b dX11_count_1 (by decide +kernel) (by decide +kernel) (by decide +kernel) (by decide) ?_
  refine lv_aload_n X.x X.b dX11_count_64 rfl (lv_at hl 0 rfl) ?_
  refine gg_X11_26 X hG 0 rfl rfl dX11_count_65 ?_
  refine gg_X11_238 X hG 1 rfl rfl dX11_count_68 ?_
  exact g_iret X hr hlk hG rfl gS0 rfl [0, 1] rfl rfl (Nat.le_of_ble_eq_true rfl) (Nat.le_of_ble_eq_true rfl) dX11_count_71
set_option maxHeartbeats 4000000 in
set_option maxRecDepth 100000 in
theorem k380_count (l : Launch) (D : va_G) (cT : Nat → ClassId) (h0 h1 h2 h3 h4 h5 h6 h7 h8 h9 h10 h11 h12 h13 h14 h15 h16 h17 h18 h19 h20 h21 h22 h23 h24 h25 h26 h27 h28 h29 h30 h31 h32 h33 h34 h35 : Nat) : gMet l D cT yX12_count cX12_count 4 (some .int) 0 0 0 0 [.ref h0, .int 0] [(h0, .inr (11, (.ref h1 :: .int 0 :: .ref h2 :: .ref h3 :: .ref h4 :: .ref h5 :: .ref h6 :: .int 0 :: .ref h7 :: .ref h8 :: .int 0 :: .ref h9 :: .ref h10 :: .ref h11 :: .int 0 :: .int (-1) :: .int 0 :: .ref h12 :: .int 0 :: .ref h13 :: .int 0 :: .int 0 :: .null :: .int 0 :: .int 0 :: .int 0 :: .int 0 :: .ref h14 :: .ref h15 :: .ref h16 :: .ref h17 :: .int 0 :: .null :: .int 0 :: .int 0 :: .int 0 :: .ref h18 :: .int 0 :: .int (-1) :: .int 0 :: .ref h19 :: .int 0 :: .ref h20 :: .ref h21 :: .int 0 :: .ref h22 :: .ref h23 :: .ref h24 :: .ref h25 :: .int 0 :: .int 0 :: .int 0 :: .ref h26 :: .int 0 :: .int 0 :: .ref h27 :: .ref h28 :: .ref h29 :: .ref h30 :: .int 0 :: .ref h31 :: .int 0 :: .ref h32 :: .int 0 :: .int 0 :: .ref h33 :: .ref h34 :: .ref h35 :: [])))] gE0 (gQi D cT (fun (r : Int32) (u : gS) => r = 0) (fun u : gS => [(h0, .inr (11, (.ref h1 :: .int 0 :: .ref h2 :: .ref h3 :: .ref h4 :: .ref h5 :: .ref h6 :: .int 0 :: .ref h7 :: .ref h8 :: .int 0 :: .ref h9 :: .ref h10 :: .ref h11 :: .int 0 :: .int (-1) :: .int 0 :: .ref h12 :: .int 0 :: .ref h13 :: .int 0 :: .int 0 :: .null :: .int 0 :: .int 0 :: .int 0 :: .int 0 :: .ref h14 :: .ref h15 :: .ref h16 :: .ref h17 :: .int 0 :: .null :: .int 0 :: .int 0 :: .int 0 :: .ref h18 :: .int 0 :: .int (-1) :: .int 0 :: .ref h19 :: .int 0 :: .ref h20 :: .ref h21 :: .int 0 :: .ref h22 :: .ref h23 :: .ref h24 :: .ref h25 :: .int 0 :: .int 0 :: .int 0 :: .ref h26 :: .int 0 :: .int 0 :: .ref h27 :: .ref h28 :: .ref h29 :: .ref h30 :: .int 0 :: .ref h31 :: .int 0 :: .ref h32 :: .int 0 :: .int 0 :: .ref h33 :: .ref h34 :: .ref h35 :: [])))])) := by
  refine gMet.of "StorksLetModel" rfl (by decide +kernel) (Nat.le_of_ble_eq_true rfl) [(0, .ref h0), (1, .int 0)] rfl ?_
  intro p e s m below meth c A ls X hr hlk hnm hA hG hE hl
  refine lv_aload_n X.x X.b dX12_count_0 rfl (lv_at hl 0 rfl) ?_
  refine lv_iconst (v := 0) X.x X.b dX12_count_1 (by decide +kernel) ?_
  refine gp_X12_124 X hG 0 rfl rfl rfl (Nat.le_of_ble_eq_true rfl) dX12_count_2 (fun H locs (hG : gG D A s.heap [(h0, .inr (11, (.ref h1 :: .int 0 :: .ref h2 :: .ref h3 :: .ref h4 :: .ref h5 :: .ref h6 :: .int 0 :: .ref h7 :: .ref h8 :: .int 0 :: .ref h9 :: .ref h10 :: .ref h11 :: .int 0 :: .int (-1) :: .int 0 :: .ref h12 :: .int 0 :: .ref h13 :: .int 0 :: .int 0 :: .null :: .int 0 :: .int 0 :: .int 0 :: .int 0 :: .ref h14 :: .ref h15 :: .ref h16 :: .ref h17 :: .int 0 :: .null :: .int 0 :: .int 0 :: .int 0 :: .ref h18 :: .int 0 :: .int (-1) :: .int 0 :: .ref h19 :: .int 0 :: .ref h20 :: .ref h21 :: .int 0 :: .ref h22 :: .ref h23 :: .ref h24 :: .ref h25 :: .int 0 :: .int 0 :: .int 0 :: .ref h26 :: .int 0 :: .int 0 :: .ref h27 :: .ref h28 :: .ref h29 :: .ref h30 :: .int 0 :: .ref h31 :: .int 0 :: .ref h32 :: .int 0 :: .int 0 :: .ref h33 :: .ref h34 :: .ref h35 :: [])))] H locs) => ?_)
  refine lv_iconst (v := 0) X.x X.b dX12_count_5 (by decide +kernel) ?_
  refine lv_istore_n (lv' := [(2, .int 0), (0, .ref h0), (1, .int 0)]) X.x X.b dX12_count_6 rfl hl (Nat.le_of_ble_eq_true rfl) rfl (fun ls hl => ?_)
  refine lv_iload_n X.x X.b dX12_count_7 rfl (lv_at hl 2 rfl) ?_
  refine lv_tableIn (off := 64) (tgt := 72) X.x X.b dX12_count_8 (by decide +kernel) (by decide +kernel) (by decide +kernel) (by decide) ?_
  refine lv_aload_n X.x X.b dX12_count_72 rfl (lv_at hl 1 rfl) ?_
  refine gg_X12_130 X hG 0 rfl rfl dX12_count_73 ?_
  exact g_iret X hr hlk hG rfl gS0 rfl [0] rfl rfl (Nat.le_of_ble_eq_true rfl) (Nat.le_of_ble_eq_true rfl) dX12_count_76
set_option maxHeartbeats 4000000 in
set_option maxRecDepth 100000 in
theorem k381_count (l : Launch) (D : va_G) (cT : Nat → ClassId) (h0 h1 h2 h3 h4 h5 h6 h7 h8 h9 h10 h11 h12 h13 h14 h15 h16 h17 h18 h19 h20 h21 h22 h23 h24 h25 h26 h27 h28 h29 : Nat) : gMet l D cT yX11_count cX11_count 2 (some .int) 0 0 0 0 [.ref h0, .int 1] [(h0, .inr (10, [.ref h2, .ref h3, .ref h1, .ref h4, .ref h5, .ref h6, .ref h7, .ref h8, .ref h9, .ref h10, .ref h11, .ref h12, .ref h13, .null, .ref h14, .ref h15])), (h1, .inr (7, [.int 0, .int 0, .int 0, .int 0, .ref h16, .ref h17, .ref h18, .ref h19, .ref h20, .ref h21, .ref h22, .ref h23, .ref h24, .ref h25, .ref h26, .ref h27, .ref h28, .int 0, .ref h29]))] gE0 (gQi D cT (fun (r : Int32) (u : gS) => r = 0) (fun u : gS => [(h0, .inr (10, [.ref h2, .ref h3, .ref h1, .ref h4, .ref h5, .ref h6, .ref h7, .ref h8, .ref h9, .ref h10, .ref h11, .ref h12, .ref h13, .null, .ref h14, .ref h15])), (h1, .inr (7, [.int 0, .int 0, .int 0, .int 0, .ref h16, .ref h17, .ref h18, .ref h19, .ref h20, .ref h21, .ref h22, .ref h23, .ref h24, .ref h25, .ref h26, .ref h27, .ref h28, .int 0, .ref h29]))])) := by
  refine gMet.of "StorksLet" rfl (by decide +kernel) (Nat.le_of_ble_eq_true rfl) [(0, .ref h0), (1, .int 1)] rfl ?_
  intro p e s m below meth c A ls X hr hlk hnm hA hG hE hl
  refine lv_iload_n X.x X.b dX11_count_0 rfl (lv_at hl 1 rfl) ?_
  refine lv_tableIn (off := 71) (tgt := 72) X.x X.b dX11_count_1 (by decide +kernel) (by decide +kernel) (by decide +kernel) (by decide) ?_
  refine lv_aload_n X.x X.b dX11_count_72 rfl (lv_at hl 0 rfl) ?_
  refine gg_X11_26 X hG 0 rfl rfl dX11_count_73 ?_
  refine gg_X11_312 X hG 1 rfl rfl dX11_count_76 ?_
  exact g_iret X hr hlk hG rfl gS0 rfl [0, 1] rfl rfl (Nat.le_of_ble_eq_true rfl) (Nat.le_of_ble_eq_true rfl) dX11_count_79
set_option maxHeartbeats 4000000 in
set_option maxRecDepth 100000 in
theorem k382_count (l : Launch) (D : va_G) (cT : Nat → ClassId) (h0 h1 h2 h3 h4 h5 h6 h7 h8 h9 h10 h11 h12 h13 h14 h15 h16 h17 h18 h19 h20 h21 h22 h23 h24 h25 h26 h27 h28 h29 h30 h31 h32 h33 h34 h35 : Nat) : gMet l D cT yX12_count cX12_count 4 (some .int) 0 0 0 0 [.ref h0, .int 1] [(h0, .inr (11, (.ref h1 :: .int 0 :: .ref h2 :: .ref h3 :: .ref h4 :: .ref h5 :: .ref h6 :: .int 0 :: .ref h7 :: .ref h8 :: .int 0 :: .ref h9 :: .ref h10 :: .ref h11 :: .int 0 :: .int (-1) :: .int 0 :: .ref h12 :: .int 0 :: .ref h13 :: .int 0 :: .int 0 :: .null :: .int 0 :: .int 0 :: .int 0 :: .int 0 :: .ref h14 :: .ref h15 :: .ref h16 :: .ref h17 :: .int 0 :: .null :: .int 0 :: .int 0 :: .int 0 :: .ref h18 :: .int 0 :: .int (-1) :: .int 0 :: .ref h19 :: .int 0 :: .ref h20 :: .ref h21 :: .int 0 :: .ref h22 :: .ref h23 :: .ref h24 :: .ref h25 :: .int 0 :: .int 0 :: .int 0 :: .ref h26 :: .int 0 :: .int 0 :: .ref h27 :: .ref h28 :: .ref h29 :: .ref h30 :: .int 0 :: .ref h31 :: .int 0 :: .ref h32 :: .int 0 :: .int 0 :: .ref h33 :: .ref h34 :: .ref h35 :: [])))] gE0 (gQi D cT (fun (r : Int32) (u : gS) => r = 0) (fun u : gS => [(h0, .inr (11, (.ref h1 :: .int 0 :: .ref h2 :: .ref h3 :: .ref h4 :: .ref h5 :: .ref h6 :: .int 0 :: .ref h7 :: .ref h8 :: .int 0 :: .ref h9 :: .ref h10 :: .ref h11 :: .int 0 :: .int (-1) :: .int 0 :: .ref h12 :: .int 0 :: .ref h13 :: .int 0 :: .int 0 :: .null :: .int 0 :: .int 0 :: .int 0 :: .int 0 :: .ref h14 :: .ref h15 :: .ref h16 :: .ref h17 :: .int 0 :: .null :: .int 0 :: .int 0 :: .int 0 :: .ref h18 :: .int 0 :: .int (-1) :: .int 0 :: .ref h19 :: .int 0 :: .ref h20 :: .ref h21 :: .int 0 :: .ref h22 :: .ref h23 :: .ref h24 :: .ref h25 :: .int 0 :: .int 0 :: .int 0 :: .ref h26 :: .int 0 :: .int 0 :: .ref h27 :: .ref h28 :: .ref h29 :: .ref h30 :: .int 0 :: .ref h31 :: .int 0 :: .ref h32 :: .int 0 :: .int 0 :: .ref h33 :: .ref h34 :: .ref h35 :: [])))])) := by
  refine gMet.of "StorksLetModel" rfl (by decide +kernel) (Nat.le_of_ble_eq_true rfl) [(0, .ref h0), (1, .int 1)] rfl ?_
  intro p e s m below meth c A ls X hr hlk hnm hA hG hE hl
  refine lv_aload_n X.x X.b dX12_count_0 rfl (lv_at hl 0 rfl) ?_
  refine lv_iconst (v := 0) X.x X.b dX12_count_1 (by decide +kernel) ?_
  refine gp_X12_124 X hG 0 rfl rfl rfl (Nat.le_of_ble_eq_true rfl) dX12_count_2 (fun H locs (hG : gG D A s.heap [(h0, .inr (11, (.ref h1 :: .int 0 :: .ref h2 :: .ref h3 :: .ref h4 :: .ref h5 :: .ref h6 :: .int 0 :: .ref h7 :: .ref h8 :: .int 0 :: .ref h9 :: .ref h10 :: .ref h11 :: .int 0 :: .int (-1) :: .int 0 :: .ref h12 :: .int 0 :: .ref h13 :: .int 0 :: .int 0 :: .null :: .int 0 :: .int 0 :: .int 0 :: .int 0 :: .ref h14 :: .ref h15 :: .ref h16 :: .ref h17 :: .int 0 :: .null :: .int 0 :: .int 0 :: .int 0 :: .ref h18 :: .int 0 :: .int (-1) :: .int 0 :: .ref h19 :: .int 0 :: .ref h20 :: .ref h21 :: .int 0 :: .ref h22 :: .ref h23 :: .ref h24 :: .ref h25 :: .int 0 :: .int 0 :: .int 0 :: .ref h26 :: .int 0 :: .int 0 :: .ref h27 :: .ref h28 :: .ref h29 :: .ref h30 :: .int 0 :: .ref h31 :: .int 0 :: .ref h32 :: .int 0 :: .int 0 :: .ref h33 :: .ref h34 :: .ref h35 :: [])))] H locs) => ?_)
  refine lv_iconst (v := 0) X.x X.b dX12_count_5 (by decide +kernel) ?_
  refine lv_istore_n (lv' := [(2, .int 0), (0, .ref h0), (1, .int 1)]) X.x X.b dX12_count_6 rfl hl (Nat.le_of_ble_eq_true rfl) rfl (fun ls hl => ?_)
  refine lv_iload_n X.x X.b dX12_count_7 rfl (lv_at hl 2 rfl) ?_
  refine lv_tableIn (off := 69) (tgt := 77) X.x X.b dX12_count_8 (by decide +kernel) (by decide +kernel) (by decide +kernel) (by decide) ?_
  refine lv_aload_n X.x X.b dX12_count_77 rfl (lv_at hl 1 rfl) ?_
  refine gg_X12_137 X hG 0 rfl rfl dX12_count_78 ?_
  exact g_iret X hr hlk hG rfl gS0 rfl [0] rfl rfl (Nat.le_of_ble_eq_true rfl) (Nat.le_of_ble_eq_true rfl) dX12_count_81
set_option maxHeartbeats 4000000 in
set_option maxRecDepth 100000 in
theorem k383_count (l : Launch) (D : va_G) (cT : Nat → ClassId) (h0 h1 h2 h3 h4 h5 h6 h7 h8 h9 h10 h11 h12 h13 h14 h15 h16 h17 h18 h19 h20 h21 h22 h23 h24 h25 h26 h27 h28 h29 : Nat) : gMet l D cT yX11_count cX11_count 2 (some .int) 0 0 0 0 [.ref h0, .int 2] [(h0, .inr (10, [.ref h2, .ref h3, .ref h1, .ref h4, .ref h5, .ref h6, .ref h7, .ref h8, .ref h9, .ref h10, .ref h11, .ref h12, .ref h13, .null, .ref h14, .ref h15])), (h1, .inr (7, [.int 0, .int 0, .int 0, .int 0, .ref h16, .ref h17, .ref h18, .ref h19, .ref h20, .ref h21, .ref h22, .ref h23, .ref h24, .ref h25, .ref h26, .ref h27, .ref h28, .int 0, .ref h29]))] gE0 (gQi D cT (fun (r : Int32) (u : gS) => r = 0) (fun u : gS => [(h0, .inr (10, [.ref h2, .ref h3, .ref h1, .ref h4, .ref h5, .ref h6, .ref h7, .ref h8, .ref h9, .ref h10, .ref h11, .ref h12, .ref h13, .null, .ref h14, .ref h15])), (h1, .inr (7, [.int 0, .int 0, .int 0, .int 0, .ref h16, .ref h17, .ref h18, .ref h19, .ref h20, .ref h21, .ref h22, .ref h23, .ref h24, .ref h25, .ref h26, .ref h27, .ref h28, .int 0, .ref h29]))])) := by
  refine gMet.of "StorksLet" rfl (by decide +kernel) (Nat.le_of_ble_eq_true rfl) [(0, .ref h0), (1, .int 2)] rfl ?_
  intro p e s m below meth c A ls X hr hlk hnm hA hG hE hl
  refine lv_iload_n X.x X.b dX11_count_0 rfl (lv_at hl 1 rfl) ?_
  refine lv_tableIn (off := 79) (tgt := 80) X.x X.b dX11_count_1 (by decide +kernel) (by decide +kernel) (by decide +kernel) (by decide) ?_
  refine lv_aload_n X.x X.b dX11_count_80 rfl (lv_at hl 0 rfl) ?_
  refine gg_X11_26 X hG 0 rfl rfl dX11_count_81 ?_
  refine gg_X11_423 X hG 1 rfl rfl dX11_count_84 ?_
  exact g_iret X hr hlk hG rfl gS0 rfl [0, 1] rfl rfl (Nat.le_of_ble_eq_true rfl) (Nat.le_of_ble_eq_true rfl) dX11_count_87
set_option maxHeartbeats 4000000 in
set_option maxRecDepth 100000 in
theorem k384_count (l : Launch) (D : va_G) (cT : Nat → ClassId) (h0 h1 h2 h3 h4 h5 h6 h7 h8 h9 h10 h11 h12 h13 h14 h15 h16 h17 h18 h19 h20 h21 h22 h23 h24 h25 h26 h27 h28 h29 h30 h31 h32 h33 h34 h35 : Nat) : gMet l D cT yX12_count cX12_count 4 (some .int) 0 0 0 0 [.ref h0, .int 2] [(h0, .inr (11, (.ref h1 :: .int 0 :: .ref h2 :: .ref h3 :: .ref h4 :: .ref h5 :: .ref h6 :: .int 0 :: .ref h7 :: .ref h8 :: .int 0 :: .ref h9 :: .ref h10 :: .ref h11 :: .int 0 :: .int (-1) :: .int 0 :: .ref h12 :: .int 0 :: .ref h13 :: .int 0 :: .int 0 :: .null :: .int 0 :: .int 0 :: .int 0 :: .int 0 :: .ref h14 :: .ref h15 :: .ref h16 :: .ref h17 :: .int 0 :: .null :: .int 0 :: .int 0 :: .int 0 :: .ref h18 :: .int 0 :: .int (-1) :: .int 0 :: .ref h19 :: .int 0 :: .ref h20 :: .ref h21 :: .int 0 :: .ref h22 :: .ref h23 :: .ref h24 :: .ref h25 :: .int 0 :: .int 0 :: .int 0 :: .ref h26 :: .int 0 :: .int 0 :: .ref h27 :: .ref h28 :: .ref h29 :: .ref h30 :: .int 0 :: .ref h31 :: .int 0 :: .ref h32 :: .int 0 :: .int 0 :: .ref h33 :: .ref h34 :: .ref h35 :: [])))] gE0 (gQi D cT (fun (r : Int32) (u : gS) => r = 0) (fun u : gS => [(h0, .inr (11, (.ref h1 :: .int 0 :: .ref h2 :: .ref h3 :: .ref h4 :: .ref h5 :: .ref h6 :: .int 0 :: .ref h7 :: .ref h8 :: .int 0 :: .ref h9 :: .ref h10 :: .ref h11 :: .int 0 :: .int (-1) :: .int 0 :: .ref h12 :: .int 0 :: .ref h13 :: .int 0 :: .int 0 :: .null :: .int 0 :: .int 0 :: .int 0 :: .int 0 :: .ref h14 :: .ref h15 :: .ref h16 :: .ref h17 :: .int 0 :: .null :: .int 0 :: .int 0 :: .int 0 :: .ref h18 :: .int 0 :: .int (-1) :: .int 0 :: .ref h19 :: .int 0 :: .ref h20 :: .ref h21 :: .int 0 :: .ref h22 :: .ref h23 :: .ref h24 :: .ref h25 :: .int 0 :: .int 0 :: .int 0 :: .ref h26 :: .int 0 :: .int 0 :: .ref h27 :: .ref h28 :: .ref h29 :: .ref h30 :: .int 0 :: .ref h31 :: .int 0 :: .ref h32 :: .int 0 :: .int 0 :: .ref h33 :: .ref h34 :: .ref h35 :: [])))])) := by
  refine gMet.of "StorksLetModel" rfl (by decide +kernel) (Nat.le_of_ble_eq_true rfl) [(0, .ref h0), (1, .int 2)] rfl ?_
  intro p e s m below meth c A ls X hr hlk hnm hA hG hE hl
  refine lv_aload_n X.x X.b dX12_count_0 rfl (lv_at hl 0 rfl) ?_
  refine lv_iconst (v := 0) X.x X.b dX12_count_1 (by decide +kernel) ?_
  refine gp_X12_124 X hG 0 rfl rfl rfl (Nat.le_of_ble_eq_true rfl) dX12_count_2 (fun H locs (hG : gG D A s.heap [(h0, .inr (11, (.ref h1 :: .int 0 :: .ref h2 :: .ref h3 :: .ref h4 :: .ref h5 :: .ref h6 :: .int 0 :: .ref h7 :: .ref h8 :: .int 0 :: .ref h9 :: .ref h10 :: .ref h11 :: .int 0 :: .int (-1) :: .int 0 :: .ref h12 :: .int 0 :: .ref h13 :: .int 0 :: .int 0 :: .null :: .int 0 :: .int 0 :: .int 0 :: .int 0 :: .ref h14 :: .ref h15 :: .ref h16 :: .ref h17 :: .int 0 :: .null :: .int 0 :: .int 0 :: .int 0 :: .ref h18 :: .int 0 :: .int (-1) :: .int 0 :: .ref h19 :: .int 0 :: .ref h20 :: .ref h21 :: .int 0 :: .ref h22 :: .ref h23 :: .ref h24 :: .ref h25 :: .int 0 :: .int 0 :: .int 0 :: .ref h26 :: .int 0 :: .int 0 :: .ref h27 :: .ref h28 :: .ref h29 :: .ref h30 :: .int 0 :: .ref h31 :: .int 0 :: .ref h32 :: .int 0 :: .int 0 :: .ref h33 :: .ref h34 :: .ref h35 :: [])))] H locs) => ?_)
  refine lv_iconst (v := 0) X.x X.b dX12_count_5 (by decide +kernel) ?_
  refine lv_istore_n (lv' := [(2, .int 0), (0, .ref h0), (1, .int 2)]) X.x X.b dX12_count_6 rfl hl (Nat.le_of_ble_eq_true rfl) rfl (fun ls hl => ?_)
  refine lv_iload_n X.x X.b dX12_count_7 rfl (lv_at hl 2 rfl) ?_
  refine lv_tableIn (off := 74) (tgt := 82) X.x X.b dX12_count_8 (by decide +kernel) (by decide +kernel) (by decide +kernel) (by decide) ?_
  refine lv_aload_n X.x X.b dX12_count_82 rfl (lv_at hl 1 rfl) ?_
  refine gg_X12_140 X hG 0 rfl rfl dX12_count_83 ?_
  exact g_iret X hr hlk hG rfl gS0 rfl [0] rfl rfl (Nat.le_of_ble_eq_true rfl) (Nat.le_of_ble_eq_true rfl) dX12_count_86
set_option maxHeartbeats 4000000 in
set_option maxRecDepth 100000 in
theorem k385_count (l : Launch) (D : va_G) (cT : Nat → ClassId) (h0 h1 h2 h3 h4 h5 h6 h7 h8 h9 h10 h11 h12 h13 h14 h15 h16 h17 h18 h19 h20 h21 h22 h23 h24 h25 h26 h27 h28 h29 : Nat) : gMet l D cT yX11_count cX11_count 2 (some .int) 0 0 0 0 [.ref h0, .int 3] [(h0, .inr (10, [.ref h2, .ref h3, .ref h1, .ref h4, .ref h5, .ref h6, .ref h7, .ref h8, .ref h9, .ref h10, .ref h11, .ref h12, .ref h13, .null, .ref h14, .ref h15])), (h1, .inr (7, [.int 0, .int 0, .int 0, .int 0, .ref h16, .ref h17, .ref h18, .ref h19, .ref h20, .ref h21, .ref h22, .ref h23, .ref h24, .ref h25, .ref h26, .ref h27, .ref h28, .int 0, .ref h29]))] gE0 (gQi D cT (fun (r : Int32) (u : gS) => r = 0) (fun u : gS => [(h0, .inr (10, [.ref h2, .ref h3, .ref h1, .ref h4, .ref h5, .ref h6, .ref h7, .ref h8, .ref h9, .ref h10, .ref h11, .ref h12, .ref h13, .null, .ref h14, .ref h15])), (h1, .inr (7, [.int 0, .int 0, .int 0, .int 0, .ref h16, .ref h17, .ref h18, .ref h19, .ref h20, .ref h21, .ref h22, .ref h23, .ref h24, .ref h25, .ref h26, .ref h27, .ref h28, .int 0, .ref h29]))])) := by
  refine gMet.of "StorksLet" rfl (by decide +kernel) (Nat.le_of_ble_eq_true rfl) [(0, .ref h0), (1, .int 3)] rfl ?_
  intro p e s m below meth c A ls X hr hlk hnm hA hG hE hl
  refine lv_iload_n X.x X.b dX11_count_0 rfl (lv_at hl 1 rfl) ?_
  refine lv_tableIn (off := 87) (tgt := 88) X.x X.b dX11_count_1 (by decide +kernel) (by decide +kernel) (by decide +kernel) (by decide) ?_
  refine lv_aload_n X.x X.b dX11_count_88 rfl (lv_at hl 0 rfl) ?_
  refine gg_X11_26 X hG 0 rfl rfl dX11_count_89 ?_
  refine gg_X11_394 X hG 1 rfl rfl dX11_count_92 ?_
  exact g_iret X hr hlk hG rfl gS0 rfl [0, 1] rfl rfl (Nat.le_of_ble_eq_true rfl) (Nat.le_of_ble_eq_true rfl) dX11_count_95
set_option maxHeartbeats 4000000 in
set_option maxRecDepth 100000 in
theorem k386_count (l : Launch) (D : va_G) (cT : Nat → ClassId) (h0 h1 h2 h3 h4 h5 h6 h7 h8 h9 h10 h11 h12 h13 h14 h15 h16 h17 h18 h19 h20 h21 h22 h23 h24 h25 h26 h27 h28 h29 h30 h31 h32 h33 h34 h35 : Nat) : gMet l D cT yX12_count cX12_count 4 (some .int) 0 0 0 0 [.ref h0, .int 3] [(h0, .inr (11, (.ref h1 :: .int 0 :: .ref h2 :: .ref h3 :: .ref h4 :: .ref h5 :: .ref h6 :: .int 0 :: .ref h7 :: .ref h8 :: .int 0 :: .ref h9 :: .ref h10 :: .ref h11 :: .int 0 :: .int (-1) :: .int 0 :: .ref h12 :: .int 0 :: .ref h13 :: .int 0 :: .int 0 :: .null :: .int 0 :: .int 0 :: .int 0 :: .int 0 :: .ref h14 :: .ref h15 :: .ref h16 :: .ref h17 :: .int 0 :: .null :: .int 0 :: .int 0 :: .int 0 :: .ref h18 :: .int 0 :: .int (-1) :: .int 0 :: .ref h19 :: .int 0 :: .ref h20 :: .ref h21 :: .int 0 :: .ref h22 :: .ref h23 :: .ref h24 :: .ref h25 :: .int 0 :: .int 0 :: .int 0 :: .ref h26 :: .int 0 :: .int 0 :: .ref h27 :: .ref h28 :: .ref h29 :: .ref h30 :: .int 0 :: .ref h31 :: .int 0 :: .ref h32 :: .int 0 :: .int 0 :: .ref h33 :: .ref h34 :: .ref h35 :: []))), (h1, .inl (cT 0, 55, .inl (fun _ => 0)))] gE0 (gQi D cT (fun (r : Int32) (u : gS) => r = 0) (fun u : gS => [(h0, .inr (11, (.ref h1 :: .int 0 :: .ref h2 :: .ref h3 :: .ref h4 :: .ref h5 :: .ref h6 :: .int 0 :: .ref h7 :: .ref h8 :: .int 0 :: .ref h9 :: .ref h10 :: .ref h11 :: .int 0 :: .int (-1) :: .int 0 :: .ref h12 :: .int 0 :: .ref h13 :: .int 0 :: .int 0 :: .null :: .int 0 :: .int 0 :: .int 0 :: .int 0 :: .ref h14 :: .ref h15 :: .ref h16 :: .ref h17 :: .int 0 :: .null :: .int 0 :: .int 0 :: .int 0 :: .ref h18 :: .int 0 :: .int (-1) :: .int 0 :: .ref h19 :: .int 0 :: .ref h20 :: .ref h21 :: .int 0 :: .ref h22 :: .ref h23 :: .ref h24 :: .ref h25 :: .int 0 :: .int 0 :: .int 0 :: .ref h26 :: .int 0 :: .int 0 :: .ref h27 :: .ref h28 :: .ref h29 :: .ref h30 :: .int 0 :: .ref h31 :: .int 0 :: .ref h32 :: .int 0 :: .int 0 :: .ref h33 :: .ref h34 :: .ref h35 :: []))), (h1, .inl (cT 0, 55, .inl (fun _ => 0)))])) := by
  refine gMet.of "StorksLetModel" rfl (by decide +kernel) (Nat.le_of_ble_eq_true rfl) [(0, .ref h0), (1, .int 3)] rfl ?_
  intro p e s m below meth c A ls X hr hlk hnm hA hG hE hl
  refine lv_aload_n X.x X.b dX12_count_0 rfl (lv_at hl 0 rfl) ?_
  refine lv_iconst (v := 0) X.x X.b dX12_count_1 (by decide +kernel) ?_
  refine gp_X12_124 X hG 0 rfl rfl rfl (Nat.le_of_ble_eq_true rfl) dX12_count_2 (fun H locs (hG : gG D A s.heap [(h0, .inr (11, (.ref h1 :: .int 0 :: .ref h2 :: .ref h3 :: .ref h4 :: .ref h5 :: .ref h6 :: .int 0 :: .ref h7 :: .ref h8 :: .int 0 :: .ref h9 :: .ref h10 :: .ref h11 :: .int 0 :: .int (-1) :: .int 0 :: .ref h12 :: .int 0 :: .ref h13 :: .int 0 :: .int 0 :: .null :: .int 0 :: .int 0 :: .int 0 :: .int 0 :: .ref h14 :: .ref h15 :: .ref h16 :: .ref h17 :: .int 0 :: .null :: .int 0 :: .int 0 :: .int 0 :: .ref h18 :: .int 0 :: .int (-1) :: .int 0 :: .ref h19 :: .int 0 :: .ref h20 :: .ref h21 :: .int 0 :: .ref h22 :: .ref h23 :: .ref h24 :: .ref h25 :: .int 0 :: .int 0 :: .int 0 :: .ref h26 :: .int 0 :: .int 0 :: .ref h27 :: .ref h28 :: .ref h29 :: .ref h30 :: .int 0 :: .ref h31 :: .int 0 :: .ref h32 :: .int 0 :: .int 0 :: .ref h33 :: .ref h34 :: .ref h35 :: []))), (h1, .inl (cT 0, 55, .inl (fun _ => 0)))] H locs) => ?_)
  refine lv_iconst (v := 0) X.x X.b dX12_count_5 (by decide +kernel) ?_
  refine lv_istore_n (lv' := [(2, .int 0), (0, .ref h0), (1, .int 3)]) X.x X.b dX12_count_6 rfl hl (Nat.le_of_ble_eq_true rfl) rfl (fun ls hl => ?_)
  refine lv_iload_n X.x X.b dX12_count_7 rfl (lv_at hl 2 rfl) ?_
  refine lv_tableIn (off := 79) (tgt := 87) X.x X.b dX12_count_8 (by decide +kernel) (by decide +kernel) (by decide +kernel) (by decide) ?_
  refine lv_aload_n X.x X.b dX12_count_87 rfl (lv_at hl 1 rfl) ?_
  refine gg_X12_9 X hG 0 rfl rfl dX12_count_88 ?_
  refine lv_bipush (v := 54) X.x X.b dX12_count_91 (by decide +kernel) ?_
  refine g_iald X hG 1 rfl (g_in (by decide +kernel)) (v := 0) rfl dX12_count_93 ?_
  exact g_iret X hr hlk hG rfl gS0 rfl [0, 1] rfl rfl (Nat.le_of_ble_eq_true rfl) (Nat.le_of_ble_eq_true rfl) dX12_count_94
set_option maxHeartbeats 4000000 in
set_option maxRecDepth 100000 in
theorem k387_nestedBits (l : Launch) (D : va_G) (cT : Nat → ClassId) (h0 h1 h2 h3 h4 h5 h6 h7 h8 h9 h10 h11 h12 h13 h14 : Nat) : gMet l D cT yX8_nestedBits cX8_nestedBits 3 (some .int) 0 0 0 0 [.ref h0] [(h0, .inr (7, [.int 0, .int 0, .int 0, .int 0, .ref h1, .ref h2, .ref h3, .ref h4, .ref h5, .ref h6, .ref h7, .ref h8, .ref h9, .ref h10, .ref h11, .ref h12, .ref h13, .int 0, .ref h14]))] gE0 (gQi D cT (fun (r : Int32) (u : gS) => r = 0) (fun u : gS => [(h0, .inr (7, [.int 0, .int 0, .int 0, .int 0, .ref h1, .ref h2, .ref h3, .ref h4, .ref h5, .ref h6, .ref h7, .ref h8, .ref h9, .ref h10, .ref h11, .ref h12, .ref h13, .int 0, .ref h14]))])) := by
  refine gMet.of "StorksLet$Town" rfl (by decide +kernel) (Nat.le_of_ble_eq_true rfl) [(0, .ref h0)] rfl ?_
  intro p e s m below meth c A ls X hr hlk hnm hA hG hE hl
  refine lv_iconst (v := 0) X.x X.b dX8_nestedBits_0 (by decide +kernel) ?_
  refine lv_istore_n (lv' := [(1, .int 0), (0, .ref h0)]) X.x X.b dX8_nestedBits_1 rfl hl (Nat.le_of_ble_eq_true rfl) rfl (fun ls hl => ?_)
  refine lv_iconst (v := 0) X.x X.b dX8_nestedBits_2 (by decide +kernel) ?_
  refine lv_istore_n (lv' := [(2, .int 0), (1, .int 0), (0, .ref h0)]) X.x X.b dX8_nestedBits_3 rfl hl (Nat.le_of_ble_eq_true rfl) rfl (fun ls hl => ?_)
  refine lv_iload_n X.x X.b dX8_nestedBits_4 rfl (lv_at hl 0 rfl) ?_
  refine lv_aload_n X.x X.b dX8_nestedBits_5 rfl (lv_at hl 2 rfl) ?_
  refine gg_X8_18 X hG 0 rfl rfl dX8_nestedBits_6 ?_
  refine b_icmp_ge_t (tgt := 38) X.x X.b dX8_nestedBits_9 (by decide) (by decide +kernel) ?_
  refine lv_iload_n X.x X.b dX8_nestedBits_38 rfl (lv_at hl 1 rfl) ?_
  exact g_iret X hr hlk hG rfl gS0 rfl [0] rfl rfl (Nat.le_of_ble_eq_true rfl) (Nat.le_of_ble_eq_true rfl) dX8_nestedBits_39
set_option maxHeartbeats 4000000 in
set_option maxRecDepth 100000 in
theorem k388_count (l : Launch) (D : va_G) (cT : Nat → ClassId) (h0 h1 h2 h3 h4 h5 h6 h7 h8 h9 h10 h11 h12 h13 h14 h15 h16 h17 h18 h19 h20 h21 h22 h23 h24 h25 h26 h27 h28 h29 : Nat) : gMet l D cT yX11_count cX11_count 2 (some .int) 1 22 0 0 [.ref h0, .int 4] [(h0, .inr (10, [.ref h2, .ref h3, .ref h1, .ref h4, .ref h5, .ref h6, .ref h7, .ref h8, .ref h9, .ref h10, .ref h11, .ref h12, .ref h13, .null, .ref h14, .ref h15])), (h1, .inr (7, [.int 0, .int 0, .int 0, .int 0, .ref h16, .ref h17, .ref h18, .ref h19, .ref h20, .ref h21, .ref h22, .ref h23, .ref h24, .ref h25, .ref h26, .ref h27, .ref h28, .int 0, .ref h29]))] gE0 (gQi D cT (fun (r : Int32) (u : gS) => r = 0) (fun u : gS => [(h0, .inr (10, [.ref h2, .ref h3, .ref h1, .ref h4, .ref h5, .ref h6, .ref h7, .ref h8, .ref h9, .ref h10, .ref h11, .ref h12, .ref h13, .null, .ref h14, .ref h15])), (h1, .inr (7, [.int 0, .int 0, .int 0, .int 0, .ref h16, .ref h17, .ref h18, .ref h19, .ref h20, .ref h21, .ref h22, .ref h23, .ref h24, .ref h25, .ref h26, .ref h27, .ref h28, .int 0, .ref h29]))])) := by
  refine gMet.of "StorksLet" rfl (by decide +kernel) (Nat.le_of_ble_eq_true rfl) [(0, .ref h0), (1, .int 4)] rfl ?_
  intro p e s m below meth c A ls X hr hlk hnm hA hG hE hl
  refine lv_iload_n X.x X.b dX11_count_0 rfl (lv_at hl 1 rfl) ?_
  refine lv_tableIn (off := 95) (tgt := 96) X.x X.b dX11_count_1 (by decide +kernel) (by decide +kernel) (by decide +kernel) (by decide) ?_
  refine lv_aload_n X.x X.b dX11_count_96 rfl (lv_at hl 0 rfl) ?_
  refine gg_X11_26 X hG 0 rfl rfl dX11_count_97 ?_
  refine g_ki (g_rV (As := []) (rest := []) X hl hG (k387_nestedBits l D cT h1 h16 h17 h18 h19 h20 h21 h22 h23 h24 h25 h26 h27 h28 h29) gw_X11_432 g_E01 g_E02 [1] rfl rfl 1 rfl rfl rfl rfl rfl (Nat.le_of_ble_eq_true rfl) ⟨(Nat.le_of_ble_eq_true rfl), (Nat.le_of_ble_eq_true rfl)⟩ ⟨(Nat.le_of_ble_eq_true rfl), (Nat.le_of_ble_eq_true rfl)⟩ dX11_count_100) hG hA [1] [0] rfl rfl rfl rfl (c1 := 0) (s1 := 0) rfl rfl (fun r_1 u_1 H locs (hu : r_1 = 0) (hG : gG D A s.heap [(h0, .inr (10, [.ref h2, .ref h3, .ref h1, .ref h4, .ref h5, .ref h6, .ref h7, .ref h8, .ref h9, .ref h10, .ref h11, .ref h12, .ref h13, .null, .ref h14, .ref h15])), (h1, .inr (7, [.int 0, .int 0, .int 0, .int 0, .ref h16, .ref h17, .ref h18, .ref h19, .ref h20, .ref h21, .ref h22, .ref h23, .ref h24, .ref h25, .ref h26, .ref h27, .ref h28, .int 0, .ref h29]))] H locs) => ?_)
  have hu := hu.symm
  subst hu
  exact g_iret X hr hlk hG rfl gS0 rfl [0, 1] rfl rfl (Nat.le_of_ble_eq_true rfl) (Nat.le_of_ble_eq_true rfl) dX11_count_103
set_option maxHeartbeats 4000000 in
set_option maxRecDepth 100000 in
theorem k389_count (l : Launch) (D : va_G) (cT : Nat → ClassId) (h0 h1 h2 h3 h4 h5 h6 h7 h8 h9 h10 h11 h12 h13 h14 h15 h16 h17 h18 h19 h20 h21 h22 h23 h24 h25 h26 h27 h28 h29 h30 h31 h32 h33 h34 h35 : Nat) : gMet l D cT yX12_count cX12_count 4 (some .int) 0 0 0 0 [.ref h0, .int 4] [(h0, .inr (11, (.ref h1 :: .int 0 :: .ref h2 :: .ref h3 :: .ref h4 :: .ref h5 :: .ref h6 :: .int 0 :: .ref h7 :: .ref h8 :: .int 0 :: .ref h9 :: .ref h10 :: .ref h11 :: .int 0 :: .int (-1) :: .int 0 :: .ref h12 :: .int 0 :: .ref h13 :: .int 0 :: .int 0 :: .null :: .int 0 :: .int 0 :: .int 0 :: .int 0 :: .ref h14 :: .ref h15 :: .ref h16 :: .ref h17 :: .int 0 :: .null :: .int 0 :: .int 0 :: .int 0 :: .ref h18 :: .int 0 :: .int (-1) :: .int 0 :: .ref h19 :: .int 0 :: .ref h20 :: .ref h21 :: .int 0 :: .ref h22 :: .ref h23 :: .ref h24 :: .ref h25 :: .int 0 :: .int 0 :: .int 0 :: .ref h26 :: .int 0 :: .int 0 :: .ref h27 :: .ref h28 :: .ref h29 :: .ref h30 :: .int 0 :: .ref h31 :: .int 0 :: .ref h32 :: .int 0 :: .int 0 :: .ref h33 :: .ref h34 :: .ref h35 :: [])))] gE0 (gQi D cT (fun (r : Int32) (u : gS) => r = 0) (fun u : gS => [(h0, .inr (11, (.ref h1 :: .int 0 :: .ref h2 :: .ref h3 :: .ref h4 :: .ref h5 :: .ref h6 :: .int 0 :: .ref h7 :: .ref h8 :: .int 0 :: .ref h9 :: .ref h10 :: .ref h11 :: .int 0 :: .int (-1) :: .int 0 :: .ref h12 :: .int 0 :: .ref h13 :: .int 0 :: .int 0 :: .null :: .int 0 :: .int 0 :: .int 0 :: .int 0 :: .ref h14 :: .ref h15 :: .ref h16 :: .ref h17 :: .int 0 :: .null :: .int 0 :: .int 0 :: .int 0 :: .ref h18 :: .int 0 :: .int (-1) :: .int 0 :: .ref h19 :: .int 0 :: .ref h20 :: .ref h21 :: .int 0 :: .ref h22 :: .ref h23 :: .ref h24 :: .ref h25 :: .int 0 :: .int 0 :: .int 0 :: .ref h26 :: .int 0 :: .int 0 :: .ref h27 :: .ref h28 :: .ref h29 :: .ref h30 :: .int 0 :: .ref h31 :: .int 0 :: .ref h32 :: .int 0 :: .int 0 :: .ref h33 :: .ref h34 :: .ref h35 :: [])))])) := by
  refine gMet.of "StorksLetModel" rfl (by decide +kernel) (Nat.le_of_ble_eq_true rfl) [(0, .ref h0), (1, .int 4)] rfl ?_
  intro p e s m below meth c A ls X hr hlk hnm hA hG hE hl
  refine lv_aload_n X.x X.b dX12_count_0 rfl (lv_at hl 0 rfl) ?_
  refine lv_iconst (v := 0) X.x X.b dX12_count_1 (by decide +kernel) ?_
  refine gp_X12_124 X hG 0 rfl rfl rfl (Nat.le_of_ble_eq_true rfl) dX12_count_2 (fun H locs (hG : gG D A s.heap [(h0, .inr (11, (.ref h1 :: .int 0 :: .ref h2 :: .ref h3 :: .ref h4 :: .ref h5 :: .ref h6 :: .int 0 :: .ref h7 :: .ref h8 :: .int 0 :: .ref h9 :: .ref h10 :: .ref h11 :: .int 0 :: .int (-1) :: .int 0 :: .ref h12 :: .int 0 :: .ref h13 :: .int 0 :: .int 0 :: .null :: .int 0 :: .int 0 :: .int 0 :: .int 0 :: .ref h14 :: .ref h15 :: .ref h16 :: .ref h17 :: .int 0 :: .null :: .int 0 :: .int 0 :: .int 0 :: .ref h18 :: .int 0 :: .int (-1) :: .int 0 :: .ref h19 :: .int 0 :: .ref h20 :: .ref h21 :: .int 0 :: .ref h22 :: .ref h23 :: .ref h24 :: .ref h25 :: .int 0 :: .int 0 :: .int 0 :: .ref h26 :: .int 0 :: .int 0 :: .ref h27 :: .ref h28 :: .ref h29 :: .ref h30 :: .int 0 :: .ref h31 :: .int 0 :: .ref h32 :: .int 0 :: .int 0 :: .ref h33 :: .ref h34 :: .ref h35 :: [])))] H locs) => ?_)
  refine lv_iconst (v := 0) X.x X.b dX12_count_5 (by decide +kernel) ?_
  refine lv_istore_n (lv' := [(2, .int 0), (0, .ref h0), (1, .int 4)]) X.x X.b dX12_count_6 rfl hl (Nat.le_of_ble_eq_true rfl) rfl (fun ls hl => ?_)
  refine lv_iload_n X.x X.b dX12_count_7 rfl (lv_at hl 2 rfl) ?_
  refine lv_tableIn (off := 87) (tgt := 95) X.x X.b dX12_count_8 (by decide +kernel) (by decide +kernel) (by decide +kernel) (by decide) ?_
  refine lv_iconst (v := 0) X.x X.b dX12_count_95 (by decide +kernel) ?_
  refine lv_istore_n (lv' := [(3, .int 0), (2, .int 0), (0, .ref h0), (1, .int 4)]) X.x X.b dX12_count_96 rfl hl (Nat.le_of_ble_eq_true rfl) rfl (fun ls hl => ?_)
  refine lv_iload_n X.x X.b dX12_count_97 rfl (lv_at hl 0 rfl) ?_
  refine lv_aload_n X.x X.b dX12_count_98 rfl (lv_at hl 2 rfl) ?_
  refine gg_X12_137 X hG 0 rfl rfl dX12_count_99 ?_
  refine b_icmp_ge_t (tgt := 131) X.x X.b dX12_count_102 (by decide) (by decide +kernel) ?_
  refine lv_iload_n X.x X.b dX12_count_131 rfl (lv_at hl 1 rfl) ?_
  exact g_iret X hr hlk hG rfl gS0 rfl [0] rfl rfl (Nat.le_of_ble_eq_true rfl) (Nat.le_of_ble_eq_true rfl) dX12_count_132
set_option maxHeartbeats 4000000 in
set_option maxRecDepth 100000 in
theorem k390_housedBits (l : Launch) (D : va_G) (cT : Nat → ClassId) (h0 h1 h2 h3 h4 h5 h6 h7 h8 h9 h10 h11 h12 h13 h14 : Nat) : gMet l D cT yX8_housedBits cX8_housedBits 3 (some .int) 0 0 0 0 [.ref h0] [(h0, .inr (7, [.int 0, .int 0, .int 0, .int 0, .ref h1, .ref h2, .ref h3, .ref h4, .ref h5, .ref h6, .ref h7, .ref h8, .ref h9, .ref h10, .ref h11, .ref h12, .ref h13, .int 0, .ref h14]))] gE0 (gQi D cT (fun (r : Int32) (u : gS) => r = 0) (fun u : gS => [(h0, .inr (7, [.int 0, .int 0, .int 0, .int 0, .ref h1, .ref h2, .ref h3, .ref h4, .ref h5, .ref h6, .ref h7, .ref h8, .ref h9, .ref h10, .ref h11, .ref h12, .ref h13, .int 0, .ref h14]))])) := by
  refine gMet.of "StorksLet$Town" rfl (by decide +kernel) (Nat.le_of_ble_eq_true rfl) [(0, .ref h0)] rfl ?_
  intro p e s m below meth c A ls X hr hlk hnm hA hG hE hl
  refine lv_iconst (v := 0) X.x X.b dX8_housedBits_0 (by decide +kernel) ?_
  refine lv_istore_n (lv' := [(1, .int 0), (0, .ref h0)]) X.x X.b dX8_housedBits_1 rfl hl (Nat.le_of_ble_eq_true rfl) rfl (fun ls hl => ?_)
  refine lv_iconst (v := 0) X.x X.b dX8_housedBits_2 (by decide +kernel) ?_
  refine lv_istore_n (lv' := [(2, .int 0), (1, .int 0), (0, .ref h0)]) X.x X.b dX8_housedBits_3 rfl hl (Nat.le_of_ble_eq_true rfl) rfl (fun ls hl => ?_)
  refine lv_iload_n X.x X.b dX8_housedBits_4 rfl (lv_at hl 0 rfl) ?_
  refine lv_aload_n X.x X.b dX8_housedBits_5 rfl (lv_at hl 2 rfl) ?_
  refine gg_X8_21 X hG 0 rfl rfl dX8_housedBits_6 ?_
  refine b_icmp_ge_t (tgt := 38) X.x X.b dX8_housedBits_9 (by decide) (by decide +kernel) ?_
  refine lv_iload_n X.x X.b dX8_housedBits_38 rfl (lv_at hl 1 rfl) ?_
  exact g_iret X hr hlk hG rfl gS0 rfl [0] rfl rfl (Nat.le_of_ble_eq_true rfl) (Nat.le_of_ble_eq_true rfl) dX8_housedBits_39
set_option maxHeartbeats 4000000 in
set_option maxRecDepth 100000 in
theorem k391_count (l : Launch) (D : va_G) (cT : Nat → ClassId) (h0 h1 h2 h3 h4 h5 h6 h7 h8 h9 h10 h11 h12 h13 h14 h15 h16 h17 h18 h19 h20 h21 h22 h23 h24 h25 h26 h27 h28 h29 : Nat) : gMet l D cT yX11_count cX11_count 2 (some .int) 1 22 0 0 [.ref h0, .int 5] [(h0, .inr (10, [.ref h2, .ref h3, .ref h1, .ref h4, .ref h5, .ref h6, .ref h7, .ref h8, .ref h9, .ref h10, .ref h11, .ref h12, .ref h13, .null, .ref h14, .ref h15])), (h1, .inr (7, [.int 0, .int 0, .int 0, .int 0, .ref h16, .ref h17, .ref h18, .ref h19, .ref h20, .ref h21, .ref h22, .ref h23, .ref h24, .ref h25, .ref h26, .ref h27, .ref h28, .int 0, .ref h29]))] gE0 (gQi D cT (fun (r : Int32) (u : gS) => r = 0) (fun u : gS => [(h0, .inr (10, [.ref h2, .ref h3, .ref h1, .ref h4, .ref h5, .ref h6, .ref h7, .ref h8, .ref h9, .ref h10, .ref h11, .ref h12, .ref h13, .null, .ref h14, .ref h15])), (h1, .inr (7, [.int 0, .int 0, .int 0, .int 0, .ref h16, .ref h17, .ref h18, .ref h19, .ref h20, .ref h21, .ref h22, .ref h23, .ref h24, .ref h25, .ref h26, .ref h27, .ref h28, .int 0, .ref h29]))])) := by
  refine gMet.of "StorksLet" rfl (by decide +kernel) (Nat.le_of_ble_eq_true rfl) [(0, .ref h0), (1, .int 5)] rfl ?_
  intro p e s m below meth c A ls X hr hlk hnm hA hG hE hl
  refine lv_iload_n X.x X.b dX11_count_0 rfl (lv_at hl 1 rfl) ?_
  refine lv_tableIn (off := 103) (tgt := 104) X.x X.b dX11_count_1 (by decide +kernel) (by decide +kernel) (by decide +kernel) (by decide) ?_
  refine lv_aload_n X.x X.b dX11_count_104 rfl (lv_at hl 0 rfl) ?_
  refine gg_X11_26 X hG 0 rfl rfl dX11_count_105 ?_
  refine g_ki (g_rV (As := []) (rest := []) X hl hG (k390_housedBits l D cT h1 h16 h17 h18 h19 h20 h21 h22 h23 h24 h25 h26 h27 h28 h29) gw_X11_435 g_E01 g_E02 [1] rfl rfl 1 rfl rfl rfl rfl rfl (Nat.le_of_ble_eq_true rfl) ⟨(Nat.le_of_ble_eq_true rfl), (Nat.le_of_ble_eq_true rfl)⟩ ⟨(Nat.le_of_ble_eq_true rfl), (Nat.le_of_ble_eq_true rfl)⟩ dX11_count_108) hG hA [1] [0] rfl rfl rfl rfl (c1 := 0) (s1 := 0) rfl rfl (fun r_1 u_1 H locs (hu : r_1 = 0) (hG : gG D A s.heap [(h0, .inr (10, [.ref h2, .ref h3, .ref h1, .ref h4, .ref h5, .ref h6, .ref h7, .ref h8, .ref h9, .ref h10, .ref h11, .ref h12, .ref h13, .null, .ref h14, .ref h15])), (h1, .inr (7, [.int 0, .int 0, .int 0, .int 0, .ref h16, .ref h17, .ref h18, .ref h19, .ref h20, .ref h21, .ref h22, .ref h23, .ref h24, .ref h25, .ref h26, .ref h27, .ref h28, .int 0, .ref h29]))] H locs) => ?_)
  have hu := hu.symm
  subst hu
  exact g_iret X hr hlk hG rfl gS0 rfl [0, 1] rfl rfl (Nat.le_of_ble_eq_true rfl) (Nat.le_of_ble_eq_true rfl) dX11_count_111
set_option maxHeartbeats 4000000 in
set_option maxRecDepth 100000 in
theorem k392_living (l : Launch) (D : va_G) (cT : Nat → ClassId) (h0 h1 h2 h3 h4 h5 h6 h7 h8 h9 h10 h11 h12 h13 h14 h15 h16 h17 h18 h19 h20 h21 h22 h23 h24 h25 h26 h27 h28 h29 h30 h31 h32 h33 h34 h35 : Nat) : gMet l D cT yX12_living cX12_living 4 (some .int) 0 0 0 0 [.ref h0, .ref h1] [(h0, .inr (11, (.ref h1 :: .int 0 :: .ref h2 :: .ref h3 :: .ref h4 :: .ref h5 :: .ref h6 :: .int 0 :: .ref h7 :: .ref h8 :: .int 0 :: .ref h9 :: .ref h10 :: .ref h11 :: .int 0 :: .int (-1) :: .int 0 :: .ref h12 :: .int 0 :: .ref h13 :: .int 0 :: .int 0 :: .null :: .int 0 :: .int 0 :: .int 0 :: .int 0 :: .ref h14 :: .ref h15 :: .ref h16 :: .ref h17 :: .int 0 :: .null :: .int 0 :: .int 0 :: .int 0 :: .ref h18 :: .int 0 :: .int (-1) :: .int 0 :: .ref h19 :: .int 0 :: .ref h20 :: .ref h21 :: .int 0 :: .ref h22 :: .ref h23 :: .ref h24 :: .ref h25 :: .int 0 :: .int 0 :: .int 0 :: .ref h26 :: .int 0 :: .int 0 :: .ref h27 :: .ref h28 :: .ref h29 :: .ref h30 :: .int 0 :: .ref h31 :: .int 0 :: .ref h32 :: .int 0 :: .int 0 :: .ref h33 :: .ref h34 :: .ref h35 :: [])))] gE0 (gQi D cT (fun (r : Int32) (u : gS) => r = 0) (fun u : gS => [(h0, .inr (11, (.ref h1 :: .int 0 :: .ref h2 :: .ref h3 :: .ref h4 :: .ref h5 :: .ref h6 :: .int 0 :: .ref h7 :: .ref h8 :: .int 0 :: .ref h9 :: .ref h10 :: .ref h11 :: .int 0 :: .int (-1) :: .int 0 :: .ref h12 :: .int 0 :: .ref h13 :: .int 0 :: .int 0 :: .null :: .int 0 :: .int 0 :: .int 0 :: .int 0 :: .ref h14 :: .ref h15 :: .ref h16 :: .ref h17 :: .int 0 :: .null :: .int 0 :: .int 0 :: .int 0 :: .ref h18 :: .int 0 :: .int (-1) :: .int 0 :: .ref h19 :: .int 0 :: .ref h20 :: .ref h21 :: .int 0 :: .ref h22 :: .ref h23 :: .ref h24 :: .ref h25 :: .int 0 :: .int 0 :: .int 0 :: .ref h26 :: .int 0 :: .int 0 :: .ref h27 :: .ref h28 :: .ref h29 :: .ref h30 :: .int 0 :: .ref h31 :: .int 0 :: .ref h32 :: .int 0 :: .int 0 :: .ref h33 :: .ref h34 :: .ref h35 :: [])))])) := by
  refine gMet.of "StorksLetModel" rfl (by decide +kernel) (Nat.le_of_ble_eq_true rfl) [(0, .ref h0), (1, .ref h1)] rfl ?_
  intro p e s m below meth c A ls X hr hlk hnm hA hG hE hl
  refine lv_iconst (v := 0) X.x X.b dX12_living_0 (by decide +kernel) ?_
  refine lv_istore_n (lv' := [(2, .int 0), (0, .ref h0), (1, .ref h1)]) X.x X.b dX12_living_1 rfl hl (Nat.le_of_ble_eq_true rfl) rfl (fun ls hl => ?_)
  refine lv_iconst (v := 0) X.x X.b dX12_living_2 (by decide +kernel) ?_
  refine lv_istore_n (lv' := [(3, .int 0), (2, .int 0), (0, .ref h0), (1, .ref h1)]) X.x X.b dX12_living_3 rfl hl (Nat.le_of_ble_eq_true rfl) rfl (fun ls hl => ?_)
  refine lv_iload_n X.x X.b dX12_living_4 rfl (lv_at hl 0 rfl) ?_
  refine lv_aload_n X.x X.b dX12_living_5 rfl (lv_at hl 2 rfl) ?_
  refine gg_X12_140 X hG 0 rfl rfl dX12_living_6 ?_
  refine b_icmp_ge_t (tgt := 38) X.x X.b dX12_living_9 (by decide) (by decide +kernel) ?_
  refine lv_iload_n X.x X.b dX12_living_38 rfl (lv_at hl 1 rfl) ?_
  exact g_iret X hr hlk hG rfl gS0 rfl [0] rfl rfl (Nat.le_of_ble_eq_true rfl) (Nat.le_of_ble_eq_true rfl) dX12_living_39
set_option maxHeartbeats 4000000 in
set_option maxRecDepth 100000 in
theorem k393_count (l : Launch) (D : va_G) (cT : Nat → ClassId) (h0 h1 h2 h3 h4 h5 h6 h7 h8 h9 h10 h11 h12 h13 h14 h15 h16 h17 h18 h19 h20 h21 h22 h23 h24 h25 h26 h27 h28 h29 h30 h31 h32 h33 h34 h35 : Nat) : gMet l D cT yX12_count cX12_count 4 (some .int) 1 23 0 0 [.ref h0, .int 5] [(h0, .inr (11, (.ref h1 :: .int 0 :: .ref h2 :: .ref h3 :: .ref h4 :: .ref h5 :: .ref h6 :: .int 0 :: .ref h7 :: .ref h8 :: .int 0 :: .ref h9 :: .ref h10 :: .ref h11 :: .int 0 :: .int (-1) :: .int 0 :: .ref h12 :: .int 0 :: .ref h13 :: .int 0 :: .int 0 :: .null :: .int 0 :: .int 0 :: .int 0 :: .int 0 :: .ref h14 :: .ref h15 :: .ref h16 :: .ref h17 :: .int 0 :: .null :: .int 0 :: .int 0 :: .int 0 :: .ref h18 :: .int 0 :: .int (-1) :: .int 0 :: .ref h19 :: .int 0 :: .ref h20 :: .ref h21 :: .int 0 :: .ref h22 :: .ref h23 :: .ref h24 :: .ref h25 :: .int 0 :: .int 0 :: .int 0 :: .ref h26 :: .int 0 :: .int 0 :: .ref h27 :: .ref h28 :: .ref h29 :: .ref h30 :: .int 0 :: .ref h31 :: .int 0 :: .ref h32 :: .int 0 :: .int 0 :: .ref h33 :: .ref h34 :: .ref h35 :: [])))] gE0 (gQi D cT (fun (r : Int32) (u : gS) => r = 0) (fun u : gS => [(h0, .inr (11, (.ref h1 :: .int 0 :: .ref h2 :: .ref h3 :: .ref h4 :: .ref h5 :: .ref h6 :: .int 0 :: .ref h7 :: .ref h8 :: .int 0 :: .ref h9 :: .ref h10 :: .ref h11 :: .int 0 :: .int (-1) :: .int 0 :: .ref h12 :: .int 0 :: .ref h13 :: .int 0 :: .int 0 :: .null :: .int 0 :: .int 0 :: .int 0 :: .int 0 :: .ref h14 :: .ref h15 :: .ref h16 :: .ref h17 :: .int 0 :: .null :: .int 0 :: .int 0 :: .int 0 :: .ref h18 :: .int 0 :: .int (-1) :: .int 0 :: .ref h19 :: .int 0 :: .ref h20 :: .ref h21 :: .int 0 :: .ref h22 :: .ref h23 :: .ref h24 :: .ref h25 :: .int 0 :: .int 0 :: .int 0 :: .ref h26 :: .int 0 :: .int 0 :: .ref h27 :: .ref h28 :: .ref h29 :: .ref h30 :: .int 0 :: .ref h31 :: .int 0 :: .ref h32 :: .int 0 :: .int 0 :: .ref h33 :: .ref h34 :: .ref h35 :: [])))])) := by
  refine gMet.of "StorksLetModel" rfl (by decide +kernel) (Nat.le_of_ble_eq_true rfl) [(0, .ref h0), (1, .int 5)] rfl ?_
  intro p e s m below meth c A ls X hr hlk hnm hA hG hE hl
  refine lv_aload_n X.x X.b dX12_count_0 rfl (lv_at hl 0 rfl) ?_
  refine lv_iconst (v := 0) X.x X.b dX12_count_1 (by decide +kernel) ?_
  refine gp_X12_124 X hG 0 rfl rfl rfl (Nat.le_of_ble_eq_true rfl) dX12_count_2 (fun H locs (hG : gG D A s.heap [(h0, .inr (11, (.ref h1 :: .int 0 :: .ref h2 :: .ref h3 :: .ref h4 :: .ref h5 :: .ref h6 :: .int 0 :: .ref h7 :: .ref h8 :: .int 0 :: .ref h9 :: .ref h10 :: .ref h11 :: .int 0 :: .int (-1) :: .int 0 :: .ref h12 :: .int 0 :: .ref h13 :: .int 0 :: .int 0 :: .null :: .int 0 :: .int 0 :: .int 0 :: .int 0 :: .ref h14 :: .ref h15 :: .ref h16 :: .ref h17 :: .int 0 :: .null :: .int 0 :: .int 0 :: .int 0 :: .ref h18 :: .int 0 :: .int (-1) :: .int 0 :: .ref h19 :: .int 0 :: .ref h20 :: .ref h21 :: .int 0 :: .ref h22 :: .ref h23 :: .ref h24 :: .ref h25 :: .int 0 :: .int 0 :: .int 0 :: .ref h26 :: .int 0 :: .int 0 :: .ref h27 :: .ref h28 :: .ref h29 :: .ref h30 :: .int 0 :: .ref h31 :: .int 0 :: .ref h32 :: .int 0 :: .int 0 :: .ref h33 :: .ref h34 :: .ref h35 :: [])))] H locs) => ?_)
  refine lv_iconst (v := 0) X.x X.b dX12_count_5 (by decide +kernel) ?_
  refine lv_istore_n (lv' := [(2, .int 0), (0, .ref h0), (1, .int 5)]) X.x X.b dX12_count_6 rfl hl (Nat.le_of_ble_eq_true rfl) rfl (fun ls hl => ?_)
  refine lv_iload_n X.x X.b dX12_count_7 rfl (lv_at hl 2 rfl) ?_
  refine lv_tableIn (off := 125) (tgt := 133) X.x X.b dX12_count_8 (by decide +kernel) (by decide +kernel) (by decide +kernel) (by decide) ?_
  refine lv_aload_n X.x X.b dX12_count_133 rfl (lv_at hl 1 rfl) ?_
  refine lv_aload_n X.x X.b dX12_count_134 rfl (lv_at hl 1 rfl) ?_
  refine gg_X12_9 X hG 0 rfl rfl dX12_count_135 ?_
  refine g_ki (g_rV (As := [.ref h1]) (rest := []) X hl hG (k392_living l D cT h0 h1 h2 h3 h4 h5 h6 h7 h8 h9 h10 h11 h12 h13 h14 h15 h16 h17 h18 h19 h20 h21 h22 h23 h24 h25 h26 h27 h28 h29 h30 h31 h32 h33 h34 h35) gw_X12_300 g_E01 g_E02 [0] rfl rfl 0 rfl rfl rfl rfl rfl (Nat.le_of_ble_eq_true rfl) ⟨(Nat.le_of_ble_eq_true rfl), (Nat.le_of_ble_eq_true rfl)⟩ ⟨(Nat.le_of_ble_eq_true rfl), (Nat.le_of_ble_eq_true rfl)⟩ dX12_count_138) hG hA [0] [] rfl rfl rfl rfl (c1 := 0) (s1 := 0) rfl rfl (fun r_1 u_1 H locs (hu : r_1 = 0) (hG : gG D A s.heap [(h0, .inr (11, (.ref h1 :: .int 0 :: .ref h2 :: .ref h3 :: .ref h4 :: .ref h5 :: .ref h6 :: .int 0 :: .ref h7 :: .ref h8 :: .int 0 :: .ref h9 :: .ref h10 :: .ref h11 :: .int 0 :: .int (-1) :: .int 0 :: .ref h12 :: .int 0 :: .ref h13 :: .int 0 :: .int 0 :: .null :: .int 0 :: .int 0 :: .int 0 :: .int 0 :: .ref h14 :: .ref h15 :: .ref h16 :: .ref h17 :: .int 0 :: .null :: .int 0 :: .int 0 :: .int 0 :: .ref h18 :: .int 0 :: .int (-1) :: .int 0 :: .ref h19 :: .int 0 :: .ref h20 :: .ref h21 :: .int 0 :: .ref h22 :: .ref h23 :: .ref h24 :: .ref h25 :: .int 0 :: .int 0 :: .int 0 :: .ref h26 :: .int 0 :: .int 0 :: .ref h27 :: .ref h28 :: .ref h29 :: .ref h30 :: .int 0 :: .ref h31 :: .int 0 :: .ref h32 :: .int 0 :: .int 0 :: .ref h33 :: .ref h34 :: .ref h35 :: [])))] H locs) => ?_)
  have hu := hu.symm
  subst hu
  exact g_iret X hr hlk hG rfl gS0 rfl [0] rfl rfl (Nat.le_of_ble_eq_true rfl) (Nat.le_of_ble_eq_true rfl) dX12_count_141
set_option maxHeartbeats 4000000 in
set_option maxRecDepth 100000 in
theorem k394_count (l : Launch) (D : va_G) (cT : Nat → ClassId) (h0 h1 h2 h3 h4 h5 h6 h7 h8 h9 h10 h11 h12 h13 h14 h15 h16 h17 h18 h19 h20 h21 h22 h23 h24 h25 h26 h27 h28 h29 : Nat) : gMet l D cT yX11_count cX11_count 2 (some .int) 1 22 0 0 [.ref h0, .int 6] [(h0, .inr (10, [.ref h2, .ref h3, .ref h1, .ref h4, .ref h5, .ref h6, .ref h7, .ref h8, .ref h9, .ref h10, .ref h11, .ref h12, .ref h13, .null, .ref h14, .ref h15])), (h1, .inr (7, [.int 0, .int 0, .int 0, .int 0, .ref h16, .ref h17, .ref h18, .ref h19, .ref h20, .ref h21, .ref h22, .ref h23, .ref h24, .ref h25, .ref h26, .ref h27, .ref h28, .int 0, .ref h29]))] gE0 (gQi D cT (fun (r : Int32) (u : gS) => r = 0) (fun u : gS => [(h0, .inr (10, [.ref h2, .ref h3, .ref h1, .ref h4, .ref h5, .ref h6, .ref h7, .ref h8, .ref h9, .ref h10, .ref h11, .ref h12, .ref h13, .null, .ref h14, .ref h15])), (h1, .inr (7, [.int 0, .int 0, .int 0, .int 0, .ref h16, .ref h17, .ref h18, .ref h19, .ref h20, .ref h21, .ref h22, .ref h23, .ref h24, .ref h25, .ref h26, .ref h27, .ref h28, .int 0, .ref h29]))])) := by
  refine gMet.of "StorksLet" rfl (by decide +kernel) (Nat.le_of_ble_eq_true rfl) [(0, .ref h0), (1, .int 6)] rfl ?_
  intro p e s m below meth c A ls X hr hlk hnm hA hG hE hl
  refine lv_iload_n X.x X.b dX11_count_0 rfl (lv_at hl 1 rfl) ?_
  refine lv_tableIn (off := 111) (tgt := 112) X.x X.b dX11_count_1 (by decide +kernel) (by decide +kernel) (by decide +kernel) (by decide) ?_
  refine lv_aload_n X.x X.b dX11_count_112 rfl (lv_at hl 0 rfl) ?_
  refine gg_X11_26 X hG 0 rfl rfl dX11_count_113 ?_
  refine g_ki (g_rV (As := []) (rest := []) X hl hG (k45_movesOfAll l D cT h1 h16 h17 h18 h19 h20 h21 h22 h23 h24 h25 h26 h27 h28 h29) gw_X11_255 g_E01 g_E02 [1] rfl rfl 1 rfl rfl rfl rfl rfl (Nat.le_of_ble_eq_true rfl) ⟨(Nat.le_of_ble_eq_true rfl), (Nat.le_of_ble_eq_true rfl)⟩ ⟨(Nat.le_of_ble_eq_true rfl), (Nat.le_of_ble_eq_true rfl)⟩ dX11_count_116) hG hA [1] [0] rfl rfl rfl rfl (c1 := 0) (s1 := 0) rfl rfl (fun r_1 u_1 H locs (hu : r_1 = 0) (hG : gG D A s.heap [(h0, .inr (10, [.ref h2, .ref h3, .ref h1, .ref h4, .ref h5, .ref h6, .ref h7, .ref h8, .ref h9, .ref h10, .ref h11, .ref h12, .ref h13, .null, .ref h14, .ref h15])), (h1, .inr (7, [.int 0, .int 0, .int 0, .int 0, .ref h16, .ref h17, .ref h18, .ref h19, .ref h20, .ref h21, .ref h22, .ref h23, .ref h24, .ref h25, .ref h26, .ref h27, .ref h28, .int 0, .ref h29]))] H locs) => ?_)
  have hu := hu.symm
  subst hu
  exact g_iret X hr hlk hG rfl gS0 rfl [0, 1] rfl rfl (Nat.le_of_ble_eq_true rfl) (Nat.le_of_ble_eq_true rfl) dX11_count_119
set_option maxHeartbeats 4000000 in
set_option maxRecDepth 100000 in
theorem k395_count (l : Launch) (D : va_G) (cT : Nat → ClassId) (h0 h1 h2 h3 h4 h5 h6 h7 h8 h9 h10 h11 h12 h13 h14 h15 h16 h17 h18 h19 h20 h21 h22 h23 h24 h25 h26 h27 h28 h29 h30 h31 h32 h33 h34 h35 : Nat) : gMet l D cT yX12_count cX12_count 4 (some .int) 0 0 0 0 [.ref h0, .int 6] [(h0, .inr (11, (.ref h1 :: .int 0 :: .ref h2 :: .ref h3 :: .ref h4 :: .ref h5 :: .ref h6 :: .int 0 :: .ref h7 :: .ref h8 :: .int 0 :: .ref h9 :: .ref h10 :: .ref h11 :: .int 0 :: .int (-1) :: .int 0 :: .ref h12 :: .int 0 :: .ref h13 :: .int 0 :: .int 0 :: .null :: .int 0 :: .int 0 :: .int 0 :: .int 0 :: .ref h14 :: .ref h15 :: .ref h16 :: .ref h17 :: .int 0 :: .null :: .int 0 :: .int 0 :: .int 0 :: .ref h18 :: .int 0 :: .int (-1) :: .int 0 :: .ref h19 :: .int 0 :: .ref h20 :: .ref h21 :: .int 0 :: .ref h22 :: .ref h23 :: .ref h24 :: .ref h25 :: .int 0 :: .int 0 :: .int 0 :: .ref h26 :: .int 0 :: .int 0 :: .ref h27 :: .ref h28 :: .ref h29 :: .ref h30 :: .int 0 :: .ref h31 :: .int 0 :: .ref h32 :: .int 0 :: .int 0 :: .ref h33 :: .ref h34 :: .ref h35 :: [])))] gE0 (gQi D cT (fun (r : Int32) (u : gS) => r = 0) (fun u : gS => [(h0, .inr (11, (.ref h1 :: .int 0 :: .ref h2 :: .ref h3 :: .ref h4 :: .ref h5 :: .ref h6 :: .int 0 :: .ref h7 :: .ref h8 :: .int 0 :: .ref h9 :: .ref h10 :: .ref h11 :: .int 0 :: .int (-1) :: .int 0 :: .ref h12 :: .int 0 :: .ref h13 :: .int 0 :: .int 0 :: .null :: .int 0 :: .int 0 :: .int 0 :: .int 0 :: .ref h14 :: .ref h15 :: .ref h16 :: .ref h17 :: .int 0 :: .null :: .int 0 :: .int 0 :: .int 0 :: .ref h18 :: .int 0 :: .int (-1) :: .int 0 :: .ref h19 :: .int 0 :: .ref h20 :: .ref h21 :: .int 0 :: .ref h22 :: .ref h23 :: .ref h24 :: .ref h25 :: .int 0 :: .int 0 :: .int 0 :: .ref h26 :: .int 0 :: .int 0 :: .ref h27 :: .ref h28 :: .ref h29 :: .ref h30 :: .int 0 :: .ref h31 :: .int 0 :: .ref h32 :: .int 0 :: .int 0 :: .ref h33 :: .ref h34 :: .ref h35 :: [])))])) := by
  refine gMet.of "StorksLetModel" rfl (by decide +kernel) (Nat.le_of_ble_eq_true rfl) [(0, .ref h0), (1, .int 6)] rfl ?_
  intro p e s m below meth c A ls X hr hlk hnm hA hG hE hl
  refine lv_aload_n X.x X.b dX12_count_0 rfl (lv_at hl 0 rfl) ?_
  refine lv_iconst (v := 0) X.x X.b dX12_count_1 (by decide +kernel) ?_
  refine gp_X12_124 X hG 0 rfl rfl rfl (Nat.le_of_ble_eq_true rfl) dX12_count_2 (fun H locs (hG : gG D A s.heap [(h0, .inr (11, (.ref h1 :: .int 0 :: .ref h2 :: .ref h3 :: .ref h4 :: .ref h5 :: .ref h6 :: .int 0 :: .ref h7 :: .ref h8 :: .int 0 :: .ref h9 :: .ref h10 :: .ref h11 :: .int 0 :: .int (-1) :: .int 0 :: .ref h12 :: .int 0 :: .ref h13 :: .int 0 :: .int 0 :: .null :: .int 0 :: .int 0 :: .int 0 :: .int 0 :: .ref h14 :: .ref h15 :: .ref h16 :: .ref h17 :: .int 0 :: .null :: .int 0 :: .int 0 :: .int 0 :: .ref h18 :: .int 0 :: .int (-1) :: .int 0 :: .ref h19 :: .int 0 :: .ref h20 :: .ref h21 :: .int 0 :: .ref h22 :: .ref h23 :: .ref h24 :: .ref h25 :: .int 0 :: .int 0 :: .int 0 :: .ref h26 :: .int 0 :: .int 0 :: .ref h27 :: .ref h28 :: .ref h29 :: .ref h30 :: .int 0 :: .ref h31 :: .int 0 :: .ref h32 :: .int 0 :: .int 0 :: .ref h33 :: .ref h34 :: .ref h35 :: [])))] H locs) => ?_)
  refine lv_iconst (v := 0) X.x X.b dX12_count_5 (by decide +kernel) ?_
  refine lv_istore_n (lv' := [(2, .int 0), (0, .ref h0), (1, .int 6)]) X.x X.b dX12_count_6 rfl hl (Nat.le_of_ble_eq_true rfl) rfl (fun ls hl => ?_)
  refine lv_iload_n X.x X.b dX12_count_7 rfl (lv_at hl 2 rfl) ?_
  refine lv_tableIn (off := 134) (tgt := 142) X.x X.b dX12_count_8 (by decide +kernel) (by decide +kernel) (by decide +kernel) (by decide) ?_
  refine lv_iconst (v := 0) X.x X.b dX12_count_142 (by decide +kernel) ?_
  refine lv_istore_n (lv' := [(3, .int 0), (2, .int 0), (0, .ref h0), (1, .int 6)]) X.x X.b dX12_count_143 rfl hl (Nat.le_of_ble_eq_true rfl) rfl (fun ls hl => ?_)
  refine lv_iload_n X.x X.b dX12_count_144 rfl (lv_at hl 0 rfl) ?_
  refine lv_aload_n X.x X.b dX12_count_145 rfl (lv_at hl 2 rfl) ?_
  refine gg_X12_140 X hG 0 rfl rfl dX12_count_146 ?_
  refine b_icmp_ge_t (tgt := 170) X.x X.b dX12_count_149 (by decide) (by decide +kernel) ?_
  refine lv_iload_n X.x X.b dX12_count_170 rfl (lv_at hl 1 rfl) ?_
  exact g_iret X hr hlk hG rfl gS0 rfl [0] rfl rfl (Nat.le_of_ble_eq_true rfl) (Nat.le_of_ble_eq_true rfl) dX12_count_171

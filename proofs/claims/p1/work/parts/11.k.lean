set_option maxHeartbeats 4000000 in
set_option maxRecDepth 100000 in
theorem k28_rule (l : Launch) (D : va_G) (cT : Nat → ClassId) (h0 h1 h2 h3 h4 h5 h6 h7 h8 h9 h10 h11 h12 h13 h14 h15 h16 h17 h18 h19 h20 h21 h22 h23 h24 h25 h26 h27 h28 h29 h30 h31 h32 h33 h34 h35 h36 h37 : Nat) : gMet l D cT yX11_rule cX11_rule 3 (some .int) 3 57 0 0 [.ref h0] [(h0, .inr (10, [.ref h2, .ref h5, .ref h3, .ref h6, .ref h7, .ref h1, .ref h8, .ref h9, .ref h10, .ref h11, .ref h12, .ref h13, .ref h14, .null, .ref h15, .ref h16])), (h1, .inr (2, [.ref h17, .ref h18, .ref h19, .int 0, .int 0, .int 0, .int 0, .int 0, .int 1, .int 0, .int 0])), (h2, .inr (5, [.ref h20, .int 0, .int 0, .int 0])), (h3, .inr (7, [.int 0, .int 0, .int 0, .int 0, .ref h21, .ref h22, .ref h23, .ref h24, .ref h25, .ref h26, .ref h27, .ref h28, .ref h29, .ref h30, .ref h31, .ref h32, .ref h33, .int 0, .ref h4])), (h4, .inr (9, [.ref h34, .ref h35, .ref h36, .ref h37, .int 0, .int 0]))] gE0 (gQi D cT (fun (r : Int32) (u : gS) => r = 0) (fun u : gS => [(h0, .inr (10, [.ref h2, .ref h5, .ref h3, .ref h6, .ref h7, .ref h34, .ref h8, .ref h9, .ref h10, .ref h11, .ref h12, .ref h13, .ref h14, .null, .ref h15, .ref h16])), (h1, .inr (2, [.ref h17, .ref h18, .ref h19, .int 0, .int 0, .int 0, .int 0, .int 0, .int 1, .int 0, .int 0])), (h2, .inr (5, [.ref h20, .int 0, .int 0, .int 0])), (h3, .inr (7, [.int 0, .int 0, .int 0, .int 0, .ref h21, .ref h22, .ref h23, .ref h24, .ref h25, .ref h26, .ref h27, .ref h28, .ref h29, .ref h30, .ref h31, .ref h32, .ref h33, .int 0, .ref h4])), (h4, .inr (9, [.ref h1, .ref h35, .ref h36, .ref h37, .int 0, .int 0]))])) := by
  refine gMet.of "StorksLet" rfl (by decide +kernel) (Nat.le_of_ble_eq_true rfl) [(0, .ref h0)] rfl ?_
  intro p e s m below meth c A ls X hr hlk hnm hA hG hE hl
  refine lv_aload_n X.x X.b dX11_rule_0 rfl (lv_at hl 0 rfl) ?_
  refine gg_X11_39 X hG 0 rfl rfl dX11_rule_1 ?_
  refine lv_aload_n X.x X.b dX11_rule_4 rfl (lv_at hl 0 rfl) ?_
  refine gg_X11_10 X hG 0 rfl rfl dX11_rule_5 ?_
  refine g_ki (g_rV (As := [.ref h2]) (rest := []) X hl hG (k26_read l D cT h1 h2 h17 h18 h19 h20) gw_X11_132 g_E01 g_E02 [1, 2] rfl rfl 1 rfl rfl rfl rfl rfl (Nat.le_of_ble_eq_true rfl) ⟨(Nat.le_of_ble_eq_true rfl), (Nat.le_of_ble_eq_true rfl)⟩ ⟨(Nat.le_of_ble_eq_true rfl), (Nat.le_of_ble_eq_true rfl)⟩ dX11_rule_8) hG hA [1, 2] [0, 3, 4] rfl rfl rfl rfl (c1 := 0) (s1 := 0) rfl rfl (fun r_1 u_1 H locs (hu : r_1 = (-1)) (hG : gG D A s.heap [(h0, .inr (10, [.ref h2, .ref h5, .ref h3, .ref h6, .ref h7, .ref h1, .ref h8, .ref h9, .ref h10, .ref h11, .ref h12, .ref h13, .ref h14, .null, .ref h15, .ref h16])), (h3, .inr (7, [.int 0, .int 0, .int 0, .int 0, .ref h21, .ref h22, .ref h23, .ref h24, .ref h25, .ref h26, .ref h27, .ref h28, .ref h29, .ref h30, .ref h31, .ref h32, .ref h33, .int 0, .ref h4])), (h4, .inr (9, [.ref h34, .ref h35, .ref h36, .ref h37, .int 0, .int 0])), (h1, .inr (2, [.ref h17, .ref h18, .ref h19, .int 0, .int 0, .int 0, .int 0, .int 0, .int 1, .int 0, .int 0])), (h2, .inr (5, [.ref h20, .int 0, .int 0, .int 0]))] H locs) => ?_)
  have hu := hu.symm
  subst hu
  refine lv_istore_n (lv' := [(1, .int (-1)), (0, .ref h0)]) X.x X.b dX11_rule_11 rfl hl (Nat.le_of_ble_eq_true rfl) rfl (fun ls hl => ?_)
  refine lv_aload_n X.x X.b dX11_rule_12 rfl (lv_at hl 1 rfl) ?_
  refine gg_X11_10 X hG 0 rfl rfl dX11_rule_13 ?_
  refine g_kv (g_rV (As := []) (rest := []) X hl hG (k20_empty l D cT h2 h20) gw_X11_126 g_E01 g_E02 [4] rfl rfl 4 rfl rfl rfl rfl rfl (Nat.le_of_ble_eq_true rfl) ⟨(Nat.le_of_ble_eq_true rfl), (Nat.le_of_ble_eq_true rfl)⟩ ⟨(Nat.le_of_ble_eq_true rfl), (Nat.le_of_ble_eq_true rfl)⟩ dX11_rule_16) hG hA [4] [0, 1, 2, 3] rfl rfl rfl rfl (c1 := 0) (s1 := 0) rfl rfl (fun u_2 H locs hu_2 (hG : gG D A s.heap [(h0, .inr (10, [.ref h2, .ref h5, .ref h3, .ref h6, .ref h7, .ref h1, .ref h8, .ref h9, .ref h10, .ref h11, .ref h12, .ref h13, .ref h14, .null, .ref h15, .ref h16])), (h3, .inr (7, [.int 0, .int 0, .int 0, .int 0, .ref h21, .ref h22, .ref h23, .ref h24, .ref h25, .ref h26, .ref h27, .ref h28, .ref h29, .ref h30, .ref h31, .ref h32, .ref h33, .int 0, .ref h4])), (h4, .inr (9, [.ref h34, .ref h35, .ref h36, .ref h37, .int 0, .int 0])), (h1, .inr (2, [.ref h17, .ref h18, .ref h19, .int 0, .int 0, .int 0, .int 0, .int 0, .int 1, .int 0, .int 0])), (h2, .inr (5, [.ref h20, .int 0, .int 0, .int 0]))] H locs) => ?_)
  refine lv_iload_n X.x X.b dX11_rule_19 rfl (lv_at hl 0 rfl) ?_
  refine lv_iconst (v := (-1)) X.x X.b dX11_rule_20 (by decide +kernel) ?_
  refine b_icmp_eq_t (tgt := 28) X.x X.b dX11_rule_21 (by decide) (by decide +kernel) ?_
  refine lv_aload_n X.x X.b dX11_rule_28 rfl (lv_at hl 1 rfl) ?_
  refine gg_X11_26 X hG 0 rfl rfl dX11_rule_29 ?_
  refine gg_X11_96 X hG 1 rfl rfl dX11_rule_32 ?_
  refine gg_X11_100 X hG 2 rfl rfl dX11_rule_35 ?_
  refine lv_astore_n (lv' := [(2, .ref h34), (1, .int (-1)), (0, .ref h0)]) X.x X.b dX11_rule_38 rfl hl (Nat.le_of_ble_eq_true rfl) rfl (fun ls hl => ?_)
  refine lv_aload_n X.x X.b dX11_rule_39 rfl (lv_at hl 2 rfl) ?_
  refine gg_X11_26 X hG 0 rfl rfl dX11_rule_40 ?_
  refine gg_X11_96 X hG 1 rfl rfl dX11_rule_43 ?_
  refine lv_aload_n X.x X.b dX11_rule_46 rfl (lv_at hl 2 rfl) ?_
  refine gg_X11_39 X hG 0 rfl rfl dX11_rule_47 ?_
  refine gp_X11_100 X hG 2 rfl rfl rfl (Nat.le_of_ble_eq_true rfl) dX11_rule_50 (fun H locs (hG : gG D A s.heap [(h0, .inr (10, [.ref h2, .ref h5, .ref h3, .ref h6, .ref h7, .ref h1, .ref h8, .ref h9, .ref h10, .ref h11, .ref h12, .ref h13, .ref h14, .null, .ref h15, .ref h16])), (h3, .inr (7, [.int 0, .int 0, .int 0, .int 0, .ref h21, .ref h22, .ref h23, .ref h24, .ref h25, .ref h26, .ref h27, .ref h28, .ref h29, .ref h30, .ref h31, .ref h32, .ref h33, .int 0, .ref h4])), (h4, .inr (9, [.ref h1, .ref h35, .ref h36, .ref h37, .int 0, .int 0])), (h1, .inr (2, [.ref h17, .ref h18, .ref h19, .int 0, .int 0, .int 0, .int 0, .int 0, .int 1, .int 0, .int 0])), (h2, .inr (5, [.ref h20, .int 0, .int 0, .int 0]))] H locs) => ?_)
  refine lv_aload_n X.x X.b dX11_rule_53 rfl (lv_at hl 2 rfl) ?_
  refine gg_X11_26 X hG 0 rfl rfl dX11_rule_54 ?_
  refine gg_X11_96 X hG 1 rfl rfl dX11_rule_57 ?_
  refine g_kv (g_rV (As := []) (rest := []) X hl hG (k27_spoil l D cT h4 h1 h35 h36 h37) gw_X11_136 g_E01 g_E02 [2] rfl rfl 2 rfl rfl rfl rfl rfl (Nat.le_of_ble_eq_true rfl) ⟨(Nat.le_of_ble_eq_true rfl), (Nat.le_of_ble_eq_true rfl)⟩ ⟨(Nat.le_of_ble_eq_true rfl), (Nat.le_of_ble_eq_true rfl)⟩ dX11_rule_60) hG hA [2] [0, 1, 3, 4] rfl rfl rfl rfl (c1 := 0) (s1 := 0) rfl rfl (fun u_3 H locs hu_3 (hG : gG D A s.heap [(h0, .inr (10, [.ref h2, .ref h5, .ref h3, .ref h6, .ref h7, .ref h1, .ref h8, .ref h9, .ref h10, .ref h11, .ref h12, .ref h13, .ref h14, .null, .ref h15, .ref h16])), (h3, .inr (7, [.int 0, .int 0, .int 0, .int 0, .ref h21, .ref h22, .ref h23, .ref h24, .ref h25, .ref h26, .ref h27, .ref h28, .ref h29, .ref h30, .ref h31, .ref h32, .ref h33, .int 0, .ref h4])), (h1, .inr (2, [.ref h17, .ref h18, .ref h19, .int 0, .int 0, .int 0, .int 0, .int 0, .int 1, .int 0, .int 0])), (h2, .inr (5, [.ref h20, .int 0, .int 0, .int 0])), (h4, .inr (9, [.ref h1, .ref h35, .ref h36, .ref h37, .int 0, .int 0]))] H locs) => ?_)
  refine lv_aload_n X.x X.b dX11_rule_63 rfl (lv_at hl 2 rfl) ?_
  refine lv_aload_n X.x X.b dX11_rule_64 rfl (lv_at hl 0 rfl) ?_
  refine gp_X11_39 X hG 0 rfl rfl rfl (Nat.le_of_ble_eq_true rfl) dX11_rule_65 (fun H locs (hG : gG D A s.heap [(h0, .inr (10, [.ref h2, .ref h5, .ref h3, .ref h6, .ref h7, .ref h34, .ref h8, .ref h9, .ref h10, .ref h11, .ref h12, .ref h13, .ref h14, .null, .ref h15, .ref h16])), (h3, .inr (7, [.int 0, .int 0, .int 0, .int 0, .ref h21, .ref h22, .ref h23, .ref h24, .ref h25, .ref h26, .ref h27, .ref h28, .ref h29, .ref h30, .ref h31, .ref h32, .ref h33, .int 0, .ref h4])), (h1, .inr (2, [.ref h17, .ref h18, .ref h19, .int 0, .int 0, .int 0, .int 0, .int 0, .int 1, .int 0, .int 0])), (h2, .inr (5, [.ref h20, .int 0, .int 0, .int 0])), (h4, .inr (9, [.ref h1, .ref h35, .ref h36, .ref h37, .int 0, .int 0]))] H locs) => ?_)
  refine lv_iconst (v := 0) X.x X.b dX11_rule_68 (by decide +kernel) ?_
  exact g_iret X hr hlk hG rfl gS0 rfl [0, 2, 3, 1, 4] rfl rfl (Nat.le_of_ble_eq_true rfl) (Nat.le_of_ble_eq_true rfl) dX11_rule_69
set_option maxHeartbeats 4000000 in
set_option maxRecDepth 100000 in
theorem k29_begin (l : Launch) (D : va_G) (cT : Nat → ClassId) (h0 h1 h2 h3 h4 h5 h6 h7 h8 h9 h10 h11 h12 h13 h14 h15 h16 h17 h18 h19 h20 h21 h22 h23 h24 h25 h26 h27 h28 h29 h30 h31 h32 h33 h34 h35 : Nat) : gMet l D cT yX12_begin cX12_begin 4 none 0 0 0 0 [.ref h0, .ref h1, .int 0, .int 40] [(h0, .inr (11, (.ref h2 :: .int 0 :: .ref h3 :: .ref h4 :: .ref h5 :: .ref h6 :: .ref h7 :: .int 0 :: .ref h8 :: .ref h9 :: .int 0 :: .ref h10 :: .ref h11 :: .ref h12 :: .int 0 :: .int (-1) :: .int 0 :: .ref h1 :: .int 0 :: .ref h13 :: .int 0 :: .int 0 :: .null :: .int 0 :: .int 0 :: .int 0 :: .int 0 :: .ref h14 :: .ref h15 :: .ref h16 :: .ref h17 :: .int 0 :: .null :: .int 0 :: .int 0 :: .int 0 :: .ref h18 :: .int 0 :: .int (-1) :: .int 0 :: .ref h19 :: .int 0 :: .ref h20 :: .ref h21 :: .int 0 :: .ref h22 :: .ref h23 :: .ref h24 :: .ref h25 :: .int 0 :: .int 0 :: .int 0 :: .ref h26 :: .int 0 :: .int 0 :: .ref h27 :: .ref h28 :: .ref h29 :: .ref h30 :: .int 0 :: .ref h31 :: .int 0 :: .ref h32 :: .int 0 :: .int 0 :: .ref h33 :: .ref h34 :: .ref h35 :: [])))] gE0 (gQv D cT (fun _ : gS => True) (fun u : gS => [(h0, .inr (11, (.ref h2 :: .int 0 :: .ref h3 :: .ref h4 :: .ref h5 :: .ref h6 :: .ref h7 :: .int 0 :: .ref h8 :: .ref h9 :: .int 0 :: .ref h10 :: .ref h11 :: .ref h12 :: .int 0 :: .int (-1) :: .int 0 :: .ref h1 :: .int 0 :: .ref h13 :: .int 0 :: .int 0 :: .ref h1 :: .int 0 :: .int 40 :: .int 0 :: .int (-1) :: .ref h14 :: .ref h15 :: .ref h16 :: .ref h17 :: .int 0 :: .null :: .int 0 :: .int 0 :: .int 0 :: .ref h18 :: .int 0 :: .int (-1) :: .int 0 :: .ref h19 :: .int 0 :: .ref h20 :: .ref h21 :: .int 0 :: .ref h22 :: .ref h23 :: .ref h24 :: .ref h25 :: .int 0 :: .int 0 :: .int 0 :: .ref h26 :: .int 0 :: .int 0 :: .ref h27 :: .ref h28 :: .ref h29 :: .ref h30 :: .int 0 :: .ref h31 :: .int 0 :: .ref h32 :: .int 0 :: .int 0 :: .ref h33 :: .ref h34 :: .ref h35 :: [])))])) := by
  refine gMet.of "StorksLetModel" rfl (by decide +kernel) (Nat.le_of_ble_eq_true rfl) [(0, .ref h0), (1, .ref h1), (2, .int 0), (3, .int 40)] rfl ?_
  intro p e s m below meth c A ls X hr hlk hnm hA hG hE hl
  refine lv_aload_n X.x X.b dX12_begin_0 rfl (lv_at hl 0 rfl) ?_
  refine lv_aload_n X.x X.b dX12_begin_1 rfl (lv_at hl 1 rfl) ?_
  refine gp_X12_146 X hG 0 rfl rfl rfl (Nat.le_of_ble_eq_true rfl) dX12_begin_2 (fun H locs (hG : gG D A s.heap [(h0, .inr (11, (.ref h2 :: .int 0 :: .ref h3 :: .ref h4 :: .ref h5 :: .ref h6 :: .ref h7 :: .int 0 :: .ref h8 :: .ref h9 :: .int 0 :: .ref h10 :: .ref h11 :: .ref h12 :: .int 0 :: .int (-1) :: .int 0 :: .ref h1 :: .int 0 :: .ref h13 :: .int 0 :: .int 0 :: .ref h1 :: .int 0 :: .int 0 :: .int 0 :: .int 0 :: .ref h14 :: .ref h15 :: .ref h16 :: .ref h17 :: .int 0 :: .null :: .int 0 :: .int 0 :: .int 0 :: .ref h18 :: .int 0 :: .int (-1) :: .int 0 :: .ref h19 :: .int 0 :: .ref h20 :: .ref h21 :: .int 0 :: .ref h22 :: .ref h23 :: .ref h24 :: .ref h25 :: .int 0 :: .int 0 :: .int 0 :: .ref h26 :: .int 0 :: .int 0 :: .ref h27 :: .ref h28 :: .ref h29 :: .ref h30 :: .int 0 :: .ref h31 :: .int 0 :: .ref h32 :: .int 0 :: .int 0 :: .ref h33 :: .ref h34 :: .ref h35 :: [])))] H locs) => ?_)
  refine lv_aload_n X.x X.b dX12_begin_5 rfl (lv_at hl 0 rfl) ?_
  refine lv_iload_n X.x X.b dX12_begin_6 rfl (lv_at hl 2 rfl) ?_
  refine gp_X12_149 X hG 0 rfl rfl rfl (Nat.le_of_ble_eq_true rfl) dX12_begin_7 (fun H locs (hG : gG D A s.heap [(h0, .inr (11, (.ref h2 :: .int 0 :: .ref h3 :: .ref h4 :: .ref h5 :: .ref h6 :: .ref h7 :: .int 0 :: .ref h8 :: .ref h9 :: .int 0 :: .ref h10 :: .ref h11 :: .ref h12 :: .int 0 :: .int (-1) :: .int 0 :: .ref h1 :: .int 0 :: .ref h13 :: .int 0 :: .int 0 :: .ref h1 :: .int 0 :: .int 0 :: .int 0 :: .int 0 :: .ref h14 :: .ref h15 :: .ref h16 :: .ref h17 :: .int 0 :: .null :: .int 0 :: .int 0 :: .int 0 :: .ref h18 :: .int 0 :: .int (-1) :: .int 0 :: .ref h19 :: .int 0 :: .ref h20 :: .ref h21 :: .int 0 :: .ref h22 :: .ref h23 :: .ref h24 :: .ref h25 :: .int 0 :: .int 0 :: .int 0 :: .ref h26 :: .int 0 :: .int 0 :: .ref h27 :: .ref h28 :: .ref h29 :: .ref h30 :: .int 0 :: .ref h31 :: .int 0 :: .ref h32 :: .int 0 :: .int 0 :: .ref h33 :: .ref h34 :: .ref h35 :: [])))] H locs) => ?_)
  refine lv_aload_n X.x X.b dX12_begin_10 rfl (lv_at hl 0 rfl) ?_
  refine lv_iload_n X.x X.b dX12_begin_11 rfl (lv_at hl 3 rfl) ?_
  refine gp_X12_152 X hG 0 rfl rfl rfl (Nat.le_of_ble_eq_true rfl) dX12_begin_12 (fun H locs (hG : gG D A s.heap [(h0, .inr (11, (.ref h2 :: .int 0 :: .ref h3 :: .ref h4 :: .ref h5 :: .ref h6 :: .ref h7 :: .int 0 :: .ref h8 :: .ref h9 :: .int 0 :: .ref h10 :: .ref h11 :: .ref h12 :: .int 0 :: .int (-1) :: .int 0 :: .ref h1 :: .int 0 :: .ref h13 :: .int 0 :: .int 0 :: .ref h1 :: .int 0 :: .int 40 :: .int 0 :: .int 0 :: .ref h14 :: .ref h15 :: .ref h16 :: .ref h17 :: .int 0 :: .null :: .int 0 :: .int 0 :: .int 0 :: .ref h18 :: .int 0 :: .int (-1) :: .int 0 :: .ref h19 :: .int 0 :: .ref h20 :: .ref h21 :: .int 0 :: .ref h22 :: .ref h23 :: .ref h24 :: .ref h25 :: .int 0 :: .int 0 :: .int 0 :: .ref h26 :: .int 0 :: .int 0 :: .ref h27 :: .ref h28 :: .ref h29 :: .ref h30 :: .int 0 :: .ref h31 :: .int 0 :: .ref h32 :: .int 0 :: .int 0 :: .ref h33 :: .ref h34 :: .ref h35 :: [])))] H locs) => ?_)
  refine lv_aload_n X.x X.b dX12_begin_15 rfl (lv_at hl 0 rfl) ?_
  refine lv_iconst (v := 0) X.x X.b dX12_begin_16 (by decide +kernel) ?_
  refine gp_X12_155 X hG 0 rfl rfl rfl (Nat.le_of_ble_eq_true rfl) dX12_begin_17 (fun H locs (hG : gG D A s.heap [(h0, .inr (11, (.ref h2 :: .int 0 :: .ref h3 :: .ref h4 :: .ref h5 :: .ref h6 :: .ref h7 :: .int 0 :: .ref h8 :: .ref h9 :: .int 0 :: .ref h10 :: .ref h11 :: .ref h12 :: .int 0 :: .int (-1) :: .int 0 :: .ref h1 :: .int 0 :: .ref h13 :: .int 0 :: .int 0 :: .ref h1 :: .int 0 :: .int 40 :: .int 0 :: .int 0 :: .ref h14 :: .ref h15 :: .ref h16 :: .ref h17 :: .int 0 :: .null :: .int 0 :: .int 0 :: .int 0 :: .ref h18 :: .int 0 :: .int (-1) :: .int 0 :: .ref h19 :: .int 0 :: .ref h20 :: .ref h21 :: .int 0 :: .ref h22 :: .ref h23 :: .ref h24 :: .ref h25 :: .int 0 :: .int 0 :: .int 0 :: .ref h26 :: .int 0 :: .int 0 :: .ref h27 :: .ref h28 :: .ref h29 :: .ref h30 :: .int 0 :: .ref h31 :: .int 0 :: .ref h32 :: .int 0 :: .int 0 :: .ref h33 :: .ref h34 :: .ref h35 :: [])))] H locs) => ?_)
  refine lv_aload_n X.x X.b dX12_begin_20 rfl (lv_at hl 0 rfl) ?_
  refine lv_iconst (v := (-1)) X.x X.b dX12_begin_21 (by decide +kernel) ?_
  refine gp_X12_158 X hG 0 rfl rfl rfl (Nat.le_of_ble_eq_true rfl) dX12_begin_22 (fun H locs (hG : gG D A s.heap [(h0, .inr (11, (.ref h2 :: .int 0 :: .ref h3 :: .ref h4 :: .ref h5 :: .ref h6 :: .ref h7 :: .int 0 :: .ref h8 :: .ref h9 :: .int 0 :: .ref h10 :: .ref h11 :: .ref h12 :: .int 0 :: .int (-1) :: .int 0 :: .ref h1 :: .int 0 :: .ref h13 :: .int 0 :: .int 0 :: .ref h1 :: .int 0 :: .int 40 :: .int 0 :: .int (-1) :: .ref h14 :: .ref h15 :: .ref h16 :: .ref h17 :: .int 0 :: .null :: .int 0 :: .int 0 :: .int 0 :: .ref h18 :: .int 0 :: .int (-1) :: .int 0 :: .ref h19 :: .int 0 :: .ref h20 :: .ref h21 :: .int 0 :: .ref h22 :: .ref h23 :: .ref h24 :: .ref h25 :: .int 0 :: .int 0 :: .int 0 :: .ref h26 :: .int 0 :: .int 0 :: .ref h27 :: .ref h28 :: .ref h29 :: .ref h30 :: .int 0 :: .ref h31 :: .int 0 :: .ref h32 :: .int 0 :: .int 0 :: .ref h33 :: .ref h34 :: .ref h35 :: [])))] H locs) => ?_)
  exact g_vret X hr hlk hG gS0 trivial [0] rfl rfl (Nat.le_of_ble_eq_true rfl) (Nat.le_of_ble_eq_true rfl) dX12_begin_25
set_option maxHeartbeats 4000000 in
set_option maxRecDepth 100000 in
theorem k30_rule (l : Launch) (D : va_G) (cT : Nat → ClassId) (h0 h1 h2 h3 h4 h5 h6 h7 h8 h9 h10 h11 h12 h13 h14 h15 h16 h17 h18 h19 h20 h21 h22 h23 h24 h25 h26 h27 h28 h29 h30 h31 h32 h33 h34 h35 : Nat) : gMet l D cT yX12_rule cX12_rule 3 (some .int) 1 23 0 0 [.ref h0] [(h0, .inr (11, (.ref h1 :: .int 0 :: .ref h2 :: .ref h3 :: .ref h4 :: .ref h5 :: .ref h6 :: .int 0 :: .ref h7 :: .ref h8 :: .int 0 :: .ref h9 :: .ref h10 :: .ref h11 :: .int 0 :: .int (-1) :: .int 0 :: .ref h12 :: .int 0 :: .ref h13 :: .int 0 :: .int 0 :: .null :: .int 0 :: .int 0 :: .int 0 :: .int 0 :: .ref h14 :: .ref h15 :: .ref h16 :: .ref h17 :: .int 0 :: .null :: .int 0 :: .int 0 :: .int 0 :: .ref h18 :: .int 0 :: .int (-1) :: .int 0 :: .ref h19 :: .int 0 :: .ref h20 :: .ref h21 :: .int 0 :: .ref h22 :: .ref h23 :: .ref h24 :: .ref h25 :: .int 0 :: .int 0 :: .int 0 :: .ref h26 :: .int 0 :: .int 0 :: .ref h27 :: .ref h28 :: .ref h29 :: .ref h30 :: .int 0 :: .ref h31 :: .int 0 :: .ref h32 :: .int 0 :: .int 0 :: .ref h33 :: .ref h34 :: .ref h35 :: [])))] gE0 (gQi D cT (fun (r : Int32) (u : gS) => r = 0) (fun u : gS => [(h0, .inr (11, (.ref h1 :: .int 0 :: .ref h2 :: .ref h3 :: .ref h4 :: .ref h5 :: .ref h6 :: .int 0 :: .ref h7 :: .ref h8 :: .int 0 :: .ref h9 :: .ref h10 :: .ref h11 :: .int 0 :: .int (-1) :: .int 0 :: .ref h12 :: .int 0 :: .ref h13 :: .int 0 :: .int 0 :: .ref h12 :: .int 0 :: .int 40 :: .int 0 :: .int (-1) :: .ref h14 :: .ref h15 :: .ref h16 :: .ref h17 :: .int 0 :: .null :: .int 0 :: .int 0 :: .int 0 :: .ref h18 :: .int 0 :: .int (-1) :: .int 0 :: .ref h19 :: .int 0 :: .ref h20 :: .ref h21 :: .int 0 :: .ref h22 :: .ref h23 :: .ref h24 :: .ref h25 :: .int 0 :: .int 0 :: .int 0 :: .ref h26 :: .int 0 :: .int 0 :: .ref h27 :: .ref h28 :: .ref h29 :: .ref h30 :: .int 0 :: .ref h31 :: .int 0 :: .ref h32 :: .int 0 :: .int 0 :: .ref h33 :: .ref h34 :: .ref h35 :: [])))])) := by
  refine gMet.of "StorksLetModel" rfl (by decide +kernel) (Nat.le_of_ble_eq_true rfl) [(0, .ref h0)] rfl ?_
  intro p e s m below meth c A ls X hr hlk hnm hA hG hE hl
  refine lv_aload_n X.x X.b dX12_rule_0 rfl (lv_at hl 0 rfl) ?_
  refine lv_iconst (v := 0) X.x X.b dX12_rule_1 (by decide +kernel) ?_
  refine gp_X12_124 X hG 0 rfl rfl rfl (Nat.le_of_ble_eq_true rfl) dX12_rule_2 (fun H locs (hG : gG D A s.heap [(h0, .inr (11, (.ref h1 :: .int 0 :: .ref h2 :: .ref h3 :: .ref h4 :: .ref h5 :: .ref h6 :: .int 0 :: .ref h7 :: .ref h8 :: .int 0 :: .ref h9 :: .ref h10 :: .ref h11 :: .int 0 :: .int (-1) :: .int 0 :: .ref h12 :: .int 0 :: .ref h13 :: .int 0 :: .int 0 :: .null :: .int 0 :: .int 0 :: .int 0 :: .int 0 :: .ref h14 :: .ref h15 :: .ref h16 :: .ref h17 :: .int 0 :: .null :: .int 0 :: .int 0 :: .int 0 :: .ref h18 :: .int 0 :: .int (-1) :: .int 0 :: .ref h19 :: .int 0 :: .ref h20 :: .ref h21 :: .int 0 :: .ref h22 :: .ref h23 :: .ref h24 :: .ref h25 :: .int 0 :: .int 0 :: .int 0 :: .ref h26 :: .int 0 :: .int 0 :: .ref h27 :: .ref h28 :: .ref h29 :: .ref h30 :: .int 0 :: .ref h31 :: .int 0 :: .ref h32 :: .int 0 :: .int 0 :: .ref h33 :: .ref h34 :: .ref h35 :: [])))] H locs) => ?_)
  refine lv_aload_n X.x X.b dX12_rule_5 rfl (lv_at hl 0 rfl) ?_
  refine gg_X12_143 X hG 0 rfl rfl dX12_rule_6 ?_
  refine lv_istore_n (lv' := [(1, .int 0), (0, .ref h0)]) X.x X.b dX12_rule_9 rfl hl (Nat.le_of_ble_eq_true rfl) rfl (fun ls hl => ?_)
  refine lv_aload_n X.x X.b dX12_rule_10 rfl (lv_at hl 1 rfl) ?_
  refine lv_aload_n X.x X.b dX12_rule_11 rfl (lv_at hl 1 rfl) ?_
  refine gg_X12_47 X hG 0 rfl rfl dX12_rule_12 ?_
  refine lv_iload_n X.x X.b dX12_rule_15 rfl (lv_at hl 0 rfl) ?_
  refine lv_bipush (v := 40) X.x X.b dX12_rule_16 (by decide +kernel) ?_
  refine g_kv (g_rV (As := [.ref h12, .int 0, .int 40]) (rest := []) X hl hG (k29_begin l D cT h0 h12 h1 h2 h3 h4 h5 h6 h7 h8 h9 h10 h11 h13 h14 h15 h16 h17 h18 h19 h20 h21 h22 h23 h24 h25 h26 h27 h28 h29 h30 h31 h32 h33 h34 h35) gw_X12_177 g_E01 g_E02 [0] rfl rfl 0 rfl rfl rfl rfl rfl (Nat.le_of_ble_eq_true rfl) ⟨(Nat.le_of_ble_eq_true rfl), (Nat.le_of_ble_eq_true rfl)⟩ ⟨(Nat.le_of_ble_eq_true rfl), (Nat.le_of_ble_eq_true rfl)⟩ dX12_rule_18) hG hA [0] [] rfl rfl rfl rfl (c1 := 0) (s1 := 0) rfl rfl (fun u_1 H locs hu_1 (hG : gG D A s.heap [(h0, .inr (11, (.ref h1 :: .int 0 :: .ref h2 :: .ref h3 :: .ref h4 :: .ref h5 :: .ref h6 :: .int 0 :: .ref h7 :: .ref h8 :: .int 0 :: .ref h9 :: .ref h10 :: .ref h11 :: .int 0 :: .int (-1) :: .int 0 :: .ref h12 :: .int 0 :: .ref h13 :: .int 0 :: .int 0 :: .ref h12 :: .int 0 :: .int 40 :: .int 0 :: .int (-1) :: .ref h14 :: .ref h15 :: .ref h16 :: .ref h17 :: .int 0 :: .null :: .int 0 :: .int 0 :: .int 0 :: .ref h18 :: .int 0 :: .int (-1) :: .int 0 :: .ref h19 :: .int 0 :: .ref h20 :: .ref h21 :: .int 0 :: .ref h22 :: .ref h23 :: .ref h24 :: .ref h25 :: .int 0 :: .int 0 :: .int 0 :: .ref h26 :: .int 0 :: .int 0 :: .ref h27 :: .ref h28 :: .ref h29 :: .ref h30 :: .int 0 :: .ref h31 :: .int 0 :: .ref h32 :: .int 0 :: .int 0 :: .ref h33 :: .ref h34 :: .ref h35 :: [])))] H locs) => ?_)
  refine lv_aload_n X.x X.b dX12_rule_21 rfl (lv_at hl 1 rfl) ?_
  refine lv_iconst (v := 0) X.x X.b dX12_rule_22 (by decide +kernel) ?_
  refine gp_X12_143 X hG 0 rfl rfl rfl (Nat.le_of_ble_eq_true rfl) dX12_rule_23 (fun H locs (hG : gG D A s.heap [(h0, .inr (11, (.ref h1 :: .int 0 :: .ref h2 :: .ref h3 :: .ref h4 :: .ref h5 :: .ref h6 :: .int 0 :: .ref h7 :: .ref h8 :: .int 0 :: .ref h9 :: .ref h10 :: .ref h11 :: .int 0 :: .int (-1) :: .int 0 :: .ref h12 :: .int 0 :: .ref h13 :: .int 0 :: .int 0 :: .ref h12 :: .int 0 :: .int 40 :: .int 0 :: .int (-1) :: .ref h14 :: .ref h15 :: .ref h16 :: .ref h17 :: .int 0 :: .null :: .int 0 :: .int 0 :: .int 0 :: .ref h18 :: .int 0 :: .int (-1) :: .int 0 :: .ref h19 :: .int 0 :: .ref h20 :: .ref h21 :: .int 0 :: .ref h22 :: .ref h23 :: .ref h24 :: .ref h25 :: .int 0 :: .int 0 :: .int 0 :: .ref h26 :: .int 0 :: .int 0 :: .ref h27 :: .ref h28 :: .ref h29 :: .ref h30 :: .int 0 :: .ref h31 :: .int 0 :: .ref h32 :: .int 0 :: .int 0 :: .ref h33 :: .ref h34 :: .ref h35 :: [])))] H locs) => ?_)
  refine lv_aload_n X.x X.b dX12_rule_26 rfl (lv_at hl 1 rfl) ?_
  refine lv_null X.x X.b dX12_rule_27 ?_
  refine gp_X12_220 X hG 0 rfl rfl rfl (Nat.le_of_ble_eq_true rfl) dX12_rule_28 (fun H locs (hG : gG D A s.heap [(h0, .inr (11, (.ref h1 :: .int 0 :: .ref h2 :: .ref h3 :: .ref h4 :: .ref h5 :: .ref h6 :: .int 0 :: .ref h7 :: .ref h8 :: .int 0 :: .ref h9 :: .ref h10 :: .ref h11 :: .int 0 :: .int (-1) :: .int 0 :: .ref h12 :: .int 0 :: .ref h13 :: .int 0 :: .int 0 :: .ref h12 :: .int 0 :: .int 40 :: .int 0 :: .int (-1) :: .ref h14 :: .ref h15 :: .ref h16 :: .ref h17 :: .int 0 :: .null :: .int 0 :: .int 0 :: .int 0 :: .ref h18 :: .int 0 :: .int (-1) :: .int 0 :: .ref h19 :: .int 0 :: .ref h20 :: .ref h21 :: .int 0 :: .ref h22 :: .ref h23 :: .ref h24 :: .ref h25 :: .int 0 :: .int 0 :: .int 0 :: .ref h26 :: .int 0 :: .int 0 :: .ref h27 :: .ref h28 :: .ref h29 :: .ref h30 :: .int 0 :: .ref h31 :: .int 0 :: .ref h32 :: .int 0 :: .int 0 :: .ref h33 :: .ref h34 :: .ref h35 :: [])))] H locs) => ?_)
  refine lv_iload_n X.x X.b dX12_rule_31 rfl (lv_at hl 0 rfl) ?_
  refine b_if_le_t (tgt := 71) X.x X.b dX12_rule_32 (by decide) (by decide +kernel) ?_
  refine lv_iconst (v := 0) X.x X.b dX12_rule_71 (by decide +kernel) ?_
  refine lv_istore_n (lv' := [(2, .int 0), (1, .int 0), (0, .ref h0)]) X.x X.b dX12_rule_72 rfl hl (Nat.le_of_ble_eq_true rfl) rfl (fun ls hl => ?_)
  refine lv_iload_n X.x X.b dX12_rule_73 rfl (lv_at hl 0 rfl) ?_
  refine lv_iload_n X.x X.b dX12_rule_74 rfl (lv_at hl 1 rfl) ?_
  refine b_icmp_ge_t (tgt := 96) X.x X.b dX12_rule_75 (by decide) (by decide +kernel) ?_
  refine lv_aload_n X.x X.b dX12_rule_96 rfl (lv_at hl 2 rfl) ?_
  refine lv_iload_n X.x X.b dX12_rule_97 rfl (lv_at hl 1 rfl) ?_
  refine gp_X12_236 X hG 0 rfl rfl rfl (Nat.le_of_ble_eq_true rfl) dX12_rule_98 (fun H locs (hG : gG D A s.heap [(h0, .inr (11, (.ref h1 :: .int 0 :: .ref h2 :: .ref h3 :: .ref h4 :: .ref h5 :: .ref h6 :: .int 0 :: .ref h7 :: .ref h8 :: .int 0 :: .ref h9 :: .ref h10 :: .ref h11 :: .int 0 :: .int (-1) :: .int 0 :: .ref h12 :: .int 0 :: .ref h13 :: .int 0 :: .int 0 :: .ref h12 :: .int 0 :: .int 40 :: .int 0 :: .int (-1) :: .ref h14 :: .ref h15 :: .ref h16 :: .ref h17 :: .int 0 :: .null :: .int 0 :: .int 0 :: .int 0 :: .ref h18 :: .int 0 :: .int (-1) :: .int 0 :: .ref h19 :: .int 0 :: .ref h20 :: .ref h21 :: .int 0 :: .ref h22 :: .ref h23 :: .ref h24 :: .ref h25 :: .int 0 :: .int 0 :: .int 0 :: .ref h26 :: .int 0 :: .int 0 :: .ref h27 :: .ref h28 :: .ref h29 :: .ref h30 :: .int 0 :: .ref h31 :: .int 0 :: .ref h32 :: .int 0 :: .int 0 :: .ref h33 :: .ref h34 :: .ref h35 :: [])))] H locs) => ?_)
  refine lv_iconst (v := 0) X.x X.b dX12_rule_101 (by decide +kernel) ?_
  exact g_iret X hr hlk hG rfl gS0 rfl [0] rfl rfl (Nat.le_of_ble_eq_true rfl) (Nat.le_of_ble_eq_true rfl) dX12_rule_102
set_option maxHeartbeats 4000000 in
set_option maxRecDepth 100000 in
theorem k31_isReadWhole (l : Launch) (D : va_G) (cT : Nat → ClassId) (h0 h1 : Nat) : gMet l D cT yX6_isReadWhole cX6_isReadWhole 1 (some .boolean) 0 0 0 0 [.ref h0] [(h0, .inr (5, [.ref h1, .int 0, .int 0, .int 0]))] gE0 (gQi D cT (fun (r : Int32) (u : gS) => r = 1) (fun u : gS => [(h0, .inr (5, [.ref h1, .int 0, .int 0, .int 0]))])) := by
  refine gMet.of "StorksLet$Signs" rfl (by decide +kernel) (Nat.le_of_ble_eq_true rfl) [(0, .ref h0)] rfl ?_
  intro p e s m below meth c A ls X hr hlk hnm hA hG hE hl
  refine lv_aload_n X.x X.b dX6_isReadWhole_0 rfl (lv_at hl 0 rfl) ?_
  refine gg_X6_19 X hG 0 rfl rfl dX6_isReadWhole_1 ?_
  refine lv_aload_n X.x X.b dX6_isReadWhole_4 rfl (lv_at hl 0 rfl) ?_
  refine gg_X6_15 X hG 0 rfl rfl dX6_isReadWhole_5 ?_
  refine b_icmp_ne_f (tgt := 15) X.x X.b dX6_isReadWhole_8 (by decide) (by decide +kernel) ?_
  refine lv_iconst (v := 1) X.x X.b dX6_isReadWhole_11 (by decide +kernel) ?_
  refine lv_goto (tgt := 16) X.x X.b dX6_isReadWhole_12 (by decide) ?_
  exact g_iret X hr hlk hG rfl gS0 rfl [0] rfl rfl (Nat.le_of_ble_eq_true rfl) (Nat.le_of_ble_eq_true rfl) dX6_isReadWhole_16
set_option maxHeartbeats 4000000 in
set_option maxRecDepth 100000 in
theorem k32_readFrost (l : Launch) (D : va_G) (cT : Nat → ClassId) (h0 h1 h2 : Nat) : gMet l D cT yX1_readFrost cX1_readFrost 4 (some .int) 2 35 0 0 [.ref h0, .ref h1] [(h0, .inr (5, [.ref h2, .int 0, .int 0, .int 0]))] gE0 (gQi D cT (fun (r : Int32) (u : gS) => r = 0) (fun u : gS => [(h0, .inr (5, [.ref h2, .int 0, .int 0, .int 0]))])) := by
  refine gMet.of "StorksLet$Lines" rfl (by decide +kernel) (Nat.le_of_ble_eq_true rfl) [(0, .ref h0), (1, .ref h1)] rfl ?_
  intro p e s m below meth c A ls X hr hlk hnm hA hG hE hl
  refine lv_aload_n X.x X.b dX1_readFrost_0 rfl (lv_at hl 0 rfl) ?_
  refine lv_bipush (v := 40) X.x X.b dX1_readFrost_1 (by decide +kernel) ?_
  refine g_kv (g_rV (As := [.int 40]) (rest := []) X hl hG (k25_open l D cT h0 h2) gw_X1_9 g_E01 g_E02 [0] rfl rfl 0 rfl rfl rfl rfl rfl (Nat.le_of_ble_eq_true rfl) ⟨(Nat.le_of_ble_eq_true rfl), (Nat.le_of_ble_eq_true rfl)⟩ ⟨(Nat.le_of_ble_eq_true rfl), (Nat.le_of_ble_eq_true rfl)⟩ dX1_readFrost_3) hG hA [0] [] rfl rfl rfl rfl (c1 := 0) (s1 := 0) rfl rfl (fun u_1 H locs hu_1 (hG : gG D A s.heap [(h0, .inr (5, [.ref h2, .int 0, .int 0, .int 0]))] H locs) => ?_)
  refine lv_iconst (v := 0) X.x X.b dX1_readFrost_6 (by decide +kernel) ?_
  refine lv_istore_n (lv' := [(2, .int 0), (0, .ref h0), (1, .ref h1)]) X.x X.b dX1_readFrost_7 rfl hl (Nat.le_of_ble_eq_true rfl) rfl (fun ls hl => ?_)
  refine lv_aload_n X.x X.b dX1_readFrost_8 rfl (lv_at hl 1 rfl) ?_
  refine gg_X1_72 X hG 0 rfl rfl dX1_readFrost_9 ?_
  refine lv_aload_n X.x X.b dX1_readFrost_12 rfl (lv_at hl 1 rfl) ?_
  refine gg_X1_75 X hG 0 rfl rfl dX1_readFrost_13 ?_
  refine b_icmp_ge_t (tgt := 53) X.x X.b dX1_readFrost_16 (by decide) (by decide +kernel) ?_
  refine lv_aload_n X.x X.b dX1_readFrost_53 rfl (lv_at hl 1 rfl) ?_
  refine g_ki (g_rV (As := []) (rest := []) X hl hG (k31_isReadWhole l D cT h0 h2) gw_X1_29 g_E01 g_E02 [0] rfl rfl 0 rfl rfl rfl rfl rfl (Nat.le_of_ble_eq_true rfl) ⟨(Nat.le_of_ble_eq_true rfl), (Nat.le_of_ble_eq_true rfl)⟩ ⟨(Nat.le_of_ble_eq_true rfl), (Nat.le_of_ble_eq_true rfl)⟩ dX1_readFrost_54) hG hA [0] [] rfl rfl rfl rfl (c1 := 0) (s1 := 0) rfl rfl (fun r_2 u_2 H locs (hu : r_2 = 1) (hG : gG D A s.heap [(h0, .inr (5, [.ref h2, .int 0, .int 0, .int 0]))] H locs) => ?_)
  have hu := hu.symm
  subst hu
  refine b_if_eq_f (tgt := 64) X.x X.b dX1_readFrost_57 (by decide) (by decide +kernel) ?_
  refine lv_iload_n X.x X.b dX1_readFrost_60 rfl (lv_at hl 0 rfl) ?_
  refine lv_goto (tgt := 68) X.x X.b dX1_readFrost_61 (by decide) ?_
  exact g_iret X hr hlk hG rfl gS0 rfl [0] rfl rfl (Nat.le_of_ble_eq_true rfl) (Nat.le_of_ble_eq_true rfl) dX1_readFrost_68
set_option maxHeartbeats 4000000 in
set_option maxRecDepth 100000 in
theorem k33_frost (l : Launch) (D : va_G) (cT : Nat → ClassId) (h0 h1 h2 h3 h4 h5 h6 h7 h8 h9 h10 h11 h12 h13 h14 h15 h16 h17 h18 h19 h20 h21 h22 h23 h24 h25 h26 h27 h28 h29 h30 : Nat) (f0 : Nat → Int32) (f1 : Nat → Int32) : gMet l D cT yX11_frost cX11_frost 2 (some .int) 3 58 0 0 [.ref h0] [(h0, .inr (10, [.ref h1, .ref h5, .ref h2, .ref h6, .ref h7, .ref h8, .ref h3, .ref h9, .ref h10, .ref h11, .ref h12, .ref h13, .ref h14, .null, .ref h15, .ref h16])), (h1, .inr (5, [.ref h17, .int 0, .int 0, .int 0])), (h2, .inr (7, [.int 0, .int 0, .int 0, .int 0, .ref h18, .ref h19, .ref h20, .ref h21, .ref h22, .ref h23, .ref h24, .ref h25, .ref h26, .ref h27, .ref h28, .ref h29, .ref h4, .int 0, .ref h30])), (h3, .inl (cT 0, 40, .inl f0)), (h4, .inl (cT 0, 40, .inl f1))] gE0 (gQi D cT (fun (r : Int32) (u : gS) => r = 0) (fun u : gS => [(h0, .inr (10, [.ref h1, .ref h5, .ref h2, .ref h6, .ref h7, .ref h8, .ref h3, .ref h9, .ref h10, .ref h11, .ref h12, .ref h13, .ref h14, .null, .ref h15, .ref h16])), (h1, .inr (5, [.ref h17, .int 0, .int 0, .int 0])), (h2, .inr (7, [.int 0, .int 0, .int 0, .int 0, .ref h18, .ref h19, .ref h20, .ref h21, .ref h22, .ref h23, .ref h24, .ref h25, .ref h26, .ref h27, .ref h28, .ref h29, .ref h4, .int 0, .ref h30])), (h3, .inl (cT 0, 40, .inl f0)), (h4, .inl (cT 0, 40, .inl (u.2.1 0)))])) := by
  refine gMet.of "StorksLet" rfl (by decide +kernel) (Nat.le_of_ble_eq_true rfl) [(0, .ref h0)] rfl ?_
  intro p e s m below meth c A ls X hr hlk hnm hA hG hE hl
  refine lv_aload_n X.x X.b dX11_frost_0 rfl (lv_at hl 0 rfl) ?_
  refine gg_X11_10 X hG 0 rfl rfl dX11_frost_1 ?_
  refine lv_aload_n X.x X.b dX11_frost_4 rfl (lv_at hl 0 rfl) ?_
  refine gg_X11_43 X hG 0 rfl rfl dX11_frost_5 ?_
  refine g_ki (g_rS (As := [.ref h1, .ref h3]) (rest := []) X hl hG (k32_readFrost l D cT h1 h3 h17) gw_X11_139 g_E01 g_E02 [1] rfl rfl rfl rfl (Nat.le_of_ble_eq_true rfl) ⟨(Nat.le_of_ble_eq_true rfl), (Nat.le_of_ble_eq_true rfl)⟩ ⟨(Nat.le_of_ble_eq_true rfl), (Nat.le_of_ble_eq_true rfl)⟩ dX11_frost_8) hG hA [1] [0, 2, 3, 4] rfl rfl rfl rfl (c1 := 0) (s1 := 0) rfl rfl (fun r_1 u_1 H locs (hu : r_1 = 0) (hG : gG D A s.heap [(h0, .inr (10, [.ref h1, .ref h5, .ref h2, .ref h6, .ref h7, .ref h8, .ref h3, .ref h9, .ref h10, .ref h11, .ref h12, .ref h13, .ref h14, .null, .ref h15, .ref h16])), (h2, .inr (7, [.int 0, .int 0, .int 0, .int 0, .ref h18, .ref h19, .ref h20, .ref h21, .ref h22, .ref h23, .ref h24, .ref h25, .ref h26, .ref h27, .ref h28, .ref h29, .ref h4, .int 0, .ref h30])), (h3, .inl (cT 0, 40, .inl f0)), (h4, .inl (cT 0, 40, .inl f1)), (h1, .inr (5, [.ref h17, .int 0, .int 0, .int 0]))] H locs) => ?_)
  have hu := hu.symm
  subst hu
  refine lv_istore_n (lv' := [(1, .int 0), (0, .ref h0)]) X.x X.b dX11_frost_11 rfl hl (Nat.le_of_ble_eq_true rfl) rfl (fun ls hl => ?_)
  refine lv_aload_n X.x X.b dX11_frost_12 rfl (lv_at hl 1 rfl) ?_
  refine gg_X11_10 X hG 0 rfl rfl dX11_frost_13 ?_
  refine g_kv (g_rV (As := []) (rest := []) X hl hG (k20_empty l D cT h1 h17) gw_X11_126 g_E01 g_E02 [4] rfl rfl 4 rfl rfl rfl rfl rfl (Nat.le_of_ble_eq_true rfl) ⟨(Nat.le_of_ble_eq_true rfl), (Nat.le_of_ble_eq_true rfl)⟩ ⟨(Nat.le_of_ble_eq_true rfl), (Nat.le_of_ble_eq_true rfl)⟩ dX11_frost_16) hG hA [4] [0, 1, 2, 3] rfl rfl rfl rfl (c1 := 0) (s1 := 0) rfl rfl (fun u_2 H locs hu_2 (hG : gG D A s.heap [(h0, .inr (10, [.ref h1, .ref h5, .ref h2, .ref h6, .ref h7, .ref h8, .ref h3, .ref h9, .ref h10, .ref h11, .ref h12, .ref h13, .ref h14, .null, .ref h15, .ref h16])), (h2, .inr (7, [.int 0, .int 0, .int 0, .int 0, .ref h18, .ref h19, .ref h20, .ref h21, .ref h22, .ref h23, .ref h24, .ref h25, .ref h26, .ref h27, .ref h28, .ref h29, .ref h4, .int 0, .ref h30])), (h3, .inl (cT 0, 40, .inl f0)), (h4, .inl (cT 0, 40, .inl f1)), (h1, .inr (5, [.ref h17, .int 0, .int 0, .int 0]))] H locs) => ?_)
  refine lv_iload_n X.x X.b dX11_frost_19 rfl (lv_at hl 0 rfl) ?_
  refine b_if_lt_f (tgt := 48) X.x X.b dX11_frost_20 (by decide) (by decide +kernel) ?_
  refine lv_aload_n X.x X.b dX11_frost_23 rfl (lv_at hl 1 rfl) ?_
  refine gg_X11_43 X hG 0 rfl rfl dX11_frost_24 ?_
  refine lv_iconst (v := 0) X.x X.b dX11_frost_27 (by decide +kernel) ?_
  refine lv_aload_n X.x X.b dX11_frost_28 rfl (lv_at hl 1 rfl) ?_
  refine gg_X11_26 X hG 0 rfl rfl dX11_frost_29 ?_
  refine gg_X11_93 X hG 1 rfl rfl dX11_frost_32 ?_
  refine lv_iconst (v := 0) X.x X.b dX11_frost_35 (by decide +kernel) ?_
  refine lv_iload_n X.x X.b dX11_frost_36 rfl (lv_at hl 0 rfl) ?_
  refine g_copy X hl hG m_709 m_492 m_491 m_78 2 3 rfl rfl (by decide +kernel) (by decide +kernel) (by decide +kernel) (by decide +kernel) (by decide +kernel) (g' := (va_cpy f0 f1 0 0 0)) rfl (Nat.le_of_ble_eq_true rfl) (by decide +kernel) dX11_frost_37 (fun H locs (hG : gG D A s.heap [(h0, .inr (10, [.ref h1, .ref h5, .ref h2, .ref h6, .ref h7, .ref h8, .ref h3, .ref h9, .ref h10, .ref h11, .ref h12, .ref h13, .ref h14, .null, .ref h15, .ref h16])), (h2, .inr (7, [.int 0, .int 0, .int 0, .int 0, .ref h18, .ref h19, .ref h20, .ref h21, .ref h22, .ref h23, .ref h24, .ref h25, .ref h26, .ref h27, .ref h28, .ref h29, .ref h4, .int 0, .ref h30])), (h3, .inl (cT 0, 40, .inl f0)), (h4, .inl (cT 0, 40, .inl (va_cpy f0 f1 0 0 0))), (h1, .inr (5, [.ref h17, .int 0, .int 0, .int 0]))] H locs) => ?_)
  refine lv_aload_n X.x X.b dX11_frost_40 rfl (lv_at hl 1 rfl) ?_
  refine gg_X11_26 X hG 0 rfl rfl dX11_frost_41 ?_
  refine lv_iload_n X.x X.b dX11_frost_44 rfl (lv_at hl 0 rfl) ?_
  refine gp_X11_149 X hG 1 rfl rfl rfl (Nat.le_of_ble_eq_true rfl) dX11_frost_45 (fun H locs (hG : gG D A s.heap [(h0, .inr (10, [.ref h1, .ref h5, .ref h2, .ref h6, .ref h7, .ref h8, .ref h3, .ref h9, .ref h10, .ref h11, .ref h12, .ref h13, .ref h14, .null, .ref h15, .ref h16])), (h2, .inr (7, [.int 0, .int 0, .int 0, .int 0, .ref h18, .ref h19, .ref h20, .ref h21, .ref h22, .ref h23, .ref h24, .ref h25, .ref h26, .ref h27, .ref h28, .ref h29, .ref h4, .int 0, .ref h30])), (h3, .inl (cT 0, 40, .inl f0)), (h4, .inl (cT 0, 40, .inl (va_cpy f0 f1 0 0 0))), (h1, .inr (5, [.ref h17, .int 0, .int 0, .int 0]))] H locs) => ?_)
  refine lv_iload_n X.x X.b dX11_frost_48 rfl (lv_at hl 0 rfl) ?_
  exact g_iret X hr hlk hG rfl (⟨fun k => ([] : List Nat).getD k 0, fun k => ([(va_cpy f0 f1 0 0 0)] : List (Nat → Int32)).getD k (fun _ => 0), fun k => ([] : List Int32).getD k 0, fun k => ([] : List (Nat → Option Nat)).getD k (fun _ => none)⟩ : gS) rfl [0, 4, 1, 2, 3] rfl rfl (Nat.le_of_ble_eq_true rfl) (Nat.le_of_ble_eq_true rfl) dX11_frost_49
set_option maxHeartbeats 4000000 in
set_option maxRecDepth 100000 in
theorem k34_frost (l : Launch) (D : va_G) (cT : Nat → ClassId) (h0 h1 h2 h3 h4 h5 h6 h7 h8 h9 h10 h11 h12 h13 h14 h15 h16 h17 h18 h19 h20 h21 h22 h23 h24 h25 h26 h27 h28 h29 h30 h31 h32 h33 h34 h35 : Nat) : gMet l D cT yX12_frost cX12_frost 3 (some .int) 0 0 0 0 [.ref h0] [(h0, .inr (11, (.ref h1 :: .int 0 :: .ref h2 :: .ref h3 :: .ref h4 :: .ref h5 :: .ref h6 :: .int 0 :: .ref h7 :: .ref h8 :: .int 0 :: .ref h9 :: .ref h10 :: .ref h11 :: .int 0 :: .int (-1) :: .int 0 :: .ref h12 :: .int 0 :: .ref h13 :: .int 0 :: .int 0 :: .null :: .int 0 :: .int 0 :: .int 0 :: .int 0 :: .ref h14 :: .ref h15 :: .ref h16 :: .ref h17 :: .int 0 :: .null :: .int 0 :: .int 0 :: .int 0 :: .ref h18 :: .int 0 :: .int (-1) :: .int 0 :: .ref h19 :: .int 0 :: .ref h20 :: .ref h21 :: .int 0 :: .ref h22 :: .ref h23 :: .ref h24 :: .ref h25 :: .int 0 :: .int 0 :: .int 0 :: .ref h26 :: .int 0 :: .int 0 :: .ref h27 :: .ref h28 :: .ref h29 :: .ref h30 :: .int 0 :: .ref h31 :: .int 0 :: .ref h32 :: .int 0 :: .int 0 :: .ref h33 :: .ref h34 :: .ref h35 :: [])))] gE0 (gQi D cT (fun (r : Int32) (u : gS) => r = 0) (fun u : gS => [(h0, .inr (11, (.ref h1 :: .int 0 :: .ref h2 :: .ref h3 :: .ref h4 :: .ref h5 :: .ref h6 :: .int 0 :: .ref h7 :: .ref h8 :: .int 0 :: .ref h9 :: .ref h10 :: .ref h11 :: .int 0 :: .int (-1) :: .int 0 :: .ref h12 :: .int 0 :: .ref h13 :: .int 0 :: .int 0 :: .null :: .int 0 :: .int 0 :: .int 0 :: .int 0 :: .ref h14 :: .ref h15 :: .ref h16 :: .ref h17 :: .int 0 :: .null :: .int 0 :: .int 0 :: .int 0 :: .ref h18 :: .int 0 :: .int (-1) :: .int 0 :: .ref h19 :: .int 0 :: .ref h20 :: .ref h21 :: .int 0 :: .ref h22 :: .ref h23 :: .ref h24 :: .ref h25 :: .int 0 :: .int 0 :: .int 0 :: .ref h26 :: .int 0 :: .int 0 :: .ref h27 :: .ref h28 :: .ref h29 :: .ref h30 :: .int 0 :: .ref h31 :: .int 0 :: .ref h32 :: .int 0 :: .int 0 :: .ref h33 :: .ref h34 :: .ref h35 :: [])))])) := by
  refine gMet.of "StorksLetModel" rfl (by decide +kernel) (Nat.le_of_ble_eq_true rfl) [(0, .ref h0)] rfl ?_
  intro p e s m below meth c A ls X hr hlk hnm hA hG hE hl
  refine lv_aload_n X.x X.b dX12_frost_0 rfl (lv_at hl 0 rfl) ?_
  refine lv_iconst (v := 0) X.x X.b dX12_frost_1 (by decide +kernel) ?_
  refine gp_X12_124 X hG 0 rfl rfl rfl (Nat.le_of_ble_eq_true rfl) dX12_frost_2 (fun H locs (hG : gG D A s.heap [(h0, .inr (11, (.ref h1 :: .int 0 :: .ref h2 :: .ref h3 :: .ref h4 :: .ref h5 :: .ref h6 :: .int 0 :: .ref h7 :: .ref h8 :: .int 0 :: .ref h9 :: .ref h10 :: .ref h11 :: .int 0 :: .int (-1) :: .int 0 :: .ref h12 :: .int 0 :: .ref h13 :: .int 0 :: .int 0 :: .null :: .int 0 :: .int 0 :: .int 0 :: .int 0 :: .ref h14 :: .ref h15 :: .ref h16 :: .ref h17 :: .int 0 :: .null :: .int 0 :: .int 0 :: .int 0 :: .ref h18 :: .int 0 :: .int (-1) :: .int 0 :: .ref h19 :: .int 0 :: .ref h20 :: .ref h21 :: .int 0 :: .ref h22 :: .ref h23 :: .ref h24 :: .ref h25 :: .int 0 :: .int 0 :: .int 0 :: .ref h26 :: .int 0 :: .int 0 :: .ref h27 :: .ref h28 :: .ref h29 :: .ref h30 :: .int 0 :: .ref h31 :: .int 0 :: .ref h32 :: .int 0 :: .int 0 :: .ref h33 :: .ref h34 :: .ref h35 :: [])))] H locs) => ?_)
  refine lv_aload_n X.x X.b dX12_frost_5 rfl (lv_at hl 0 rfl) ?_
  refine gg_X12_143 X hG 0 rfl rfl dX12_frost_6 ?_
  refine lv_istore_n (lv' := [(1, .int 0), (0, .ref h0)]) X.x X.b dX12_frost_9 rfl hl (Nat.le_of_ble_eq_true rfl) rfl (fun ls hl => ?_)
  refine lv_aload_n X.x X.b dX12_frost_10 rfl (lv_at hl 1 rfl) ?_
  refine lv_iconst (v := 0) X.x X.b dX12_frost_11 (by decide +kernel) ?_
  refine gp_X12_143 X hG 0 rfl rfl rfl (Nat.le_of_ble_eq_true rfl) dX12_frost_12 (fun H locs (hG : gG D A s.heap [(h0, .inr (11, (.ref h1 :: .int 0 :: .ref h2 :: .ref h3 :: .ref h4 :: .ref h5 :: .ref h6 :: .int 0 :: .ref h7 :: .ref h8 :: .int 0 :: .ref h9 :: .ref h10 :: .ref h11 :: .int 0 :: .int (-1) :: .int 0 :: .ref h12 :: .int 0 :: .ref h13 :: .int 0 :: .int 0 :: .null :: .int 0 :: .int 0 :: .int 0 :: .int 0 :: .ref h14 :: .ref h15 :: .ref h16 :: .ref h17 :: .int 0 :: .null :: .int 0 :: .int 0 :: .int 0 :: .ref h18 :: .int 0 :: .int (-1) :: .int 0 :: .ref h19 :: .int 0 :: .ref h20 :: .ref h21 :: .int 0 :: .ref h22 :: .ref h23 :: .ref h24 :: .ref h25 :: .int 0 :: .int 0 :: .int 0 :: .ref h26 :: .int 0 :: .int 0 :: .ref h27 :: .ref h28 :: .ref h29 :: .ref h30 :: .int 0 :: .ref h31 :: .int 0 :: .ref h32 :: .int 0 :: .int 0 :: .ref h33 :: .ref h34 :: .ref h35 :: [])))] H locs) => ?_)
  refine lv_iconst (v := 0) X.x X.b dX12_frost_15 (by decide +kernel) ?_
  refine lv_istore_n (lv' := [(2, .int 0), (1, .int 0), (0, .ref h0)]) X.x X.b dX12_frost_16 rfl hl (Nat.le_of_ble_eq_true rfl) rfl (fun ls hl => ?_)
  refine lv_iload_n X.x X.b dX12_frost_17 rfl (lv_at hl 0 rfl) ?_
  refine lv_iload_n X.x X.b dX12_frost_18 rfl (lv_at hl 1 rfl) ?_
  refine b_icmp_ge_t (tgt := 54) X.x X.b dX12_frost_19 (by decide) (by decide +kernel) ?_
  refine lv_iconst (v := 0) X.x X.b dX12_frost_54 (by decide +kernel) ?_
  refine lv_istore_n (lv' := [(2, .int 0), (1, .int 0), (0, .ref h0)]) X.x X.b dX12_frost_55 rfl hl (Nat.le_of_ble_eq_true rfl) rfl (fun ls hl => ?_)
  refine lv_iload_n X.x X.b dX12_frost_56 rfl (lv_at hl 0 rfl) ?_
  refine lv_iload_n X.x X.b dX12_frost_57 rfl (lv_at hl 1 rfl) ?_
  refine b_icmp_ge_t (tgt := 82) X.x X.b dX12_frost_58 (by decide) (by decide +kernel) ?_
  refine lv_aload_n X.x X.b dX12_frost_82 rfl (lv_at hl 2 rfl) ?_
  refine lv_iload_n X.x X.b dX12_frost_83 rfl (lv_at hl 1 rfl) ?_
  refine gp_X12_204 X hG 0 rfl rfl rfl (Nat.le_of_ble_eq_true rfl) dX12_frost_84 (fun H locs (hG : gG D A s.heap [(h0, .inr (11, (.ref h1 :: .int 0 :: .ref h2 :: .ref h3 :: .ref h4 :: .ref h5 :: .ref h6 :: .int 0 :: .ref h7 :: .ref h8 :: .int 0 :: .ref h9 :: .ref h10 :: .ref h11 :: .int 0 :: .int (-1) :: .int 0 :: .ref h12 :: .int 0 :: .ref h13 :: .int 0 :: .int 0 :: .null :: .int 0 :: .int 0 :: .int 0 :: .int 0 :: .ref h14 :: .ref h15 :: .ref h16 :: .ref h17 :: .int 0 :: .null :: .int 0 :: .int 0 :: .int 0 :: .ref h18 :: .int 0 :: .int (-1) :: .int 0 :: .ref h19 :: .int 0 :: .ref h20 :: .ref h21 :: .int 0 :: .ref h22 :: .ref h23 :: .ref h24 :: .ref h25 :: .int 0 :: .int 0 :: .int 0 :: .ref h26 :: .int 0 :: .int 0 :: .ref h27 :: .ref h28 :: .ref h29 :: .ref h30 :: .int 0 :: .ref h31 :: .int 0 :: .ref h32 :: .int 0 :: .int 0 :: .ref h33 :: .ref h34 :: .ref h35 :: [])))] H locs) => ?_)
  refine lv_iload_n X.x X.b dX12_frost_87 rfl (lv_at hl 1 rfl) ?_
  exact g_iret X hr hlk hG rfl gS0 rfl [0] rfl rfl (Nat.le_of_ble_eq_true rfl) (Nat.le_of_ble_eq_true rfl) dX12_frost_88
set_option maxHeartbeats 4000000 in
set_option maxRecDepth 100000 in
theorem k35_slot (l : Launch) (D : va_G) (cT : Nat → ClassId) (h0 h1 h2 : Nat) (g0 : Nat → Option Nat) (hg0 : g0 0 = some h2) : gMet l D cT yX0_slot cX0_slot 1 (some (.array .int)) 0 0 0 0 [.ref h0] [(h0, .inr (0, [.ref h1, .int 0, .int 0])), (h1, .inl (cT 4, 13, .inr (.inr (.inr (.inr g0)))))] gE0 (gQr D cT (fun (u : gS) (r : Nat) => r = h2) (fun u : gS => [(h0, .inr (0, [.ref h1, .int 0, .int 0])), (h1, .inl (cT 4, 13, .inr (.inr (.inr (.inr g0)))))])) := by
  refine gMet.of "StorksLet$History" rfl (by decide +kernel) (Nat.le_of_ble_eq_true rfl) [(0, .ref h0)] rfl ?_
  intro p e s m below meth c A ls X hr hlk hnm hA hG hE hl
  refine lv_aload_n X.x X.b dX0_slot_0 rfl (lv_at hl 0 rfl) ?_
  refine gg_X0_13 X hG 0 rfl rfl dX0_slot_1 ?_
  refine lv_aload_n X.x X.b dX0_slot_4 rfl (lv_at hl 0 rfl) ?_
  refine gg_X0_16 X hG 0 rfl rfl dX0_slot_5 ?_
  refine lv_aload_n X.x X.b dX0_slot_8 rfl (lv_at hl 0 rfl) ?_
  refine gg_X0_20 X hG 0 rfl rfl dX0_slot_9 ?_
  refine lv_iadd X.x X.b dX0_slot_12 ?_
  refine g_top (v' := 0) (by decide +kernel) ?_
  refine lv_bipush (v := 13) X.x X.b dX0_slot_13 (by decide +kernel) ?_
  refine lv_irem X.x X.b dX0_slot_15 (by decide +kernel) ?_
  refine g_top (v' := 0) (by decide +kernel) ?_
  refine g_aald X hG 1 rfl (g_in (by decide +kernel)) (b := h2) hg0 dX0_slot_16 ?_
  exact g_aret X hr (Or.inr ⟨_, rfl⟩) hlk hG gS0 rfl [0, 1] rfl rfl (Nat.le_of_ble_eq_true rfl) (Nat.le_of_ble_eq_true rfl) dX0_slot_17
set_option maxHeartbeats 4000000 in
set_option maxRecDepth 100000 in
theorem k36_pack (l : Launch) (D : va_G) (cT : Nat → ClassId) (h0 h1 : Nat) (f0 : Nat → Int32) (f1 : Nat → Int32) : gMet l D cT yX8_pack cX8_pack 5 (some .int) 1 40 0 0 [.ref h0, .int 0, .ref h1, .int 1, .int 6] [(h0, .inl (cT 0, 6, .inl f0)), (h1, .inl (cT 0, 76, .inl f1))] gE0 (gQi D cT (fun (r : Int32) (u : gS) => r = 7) (fun u : gS => [(h0, .inl (cT 0, 6, .inl f0)), (h1, .inl (cT 0, 76, .inl (u.2.1 0)))])) := by
  refine gMet.of "StorksLet$Town" rfl (by decide +kernel) (Nat.le_of_ble_eq_true rfl) [(0, .ref h0), (1, .int 0), (2, .ref h1), (3, .int 1), (4, .int 6)] rfl ?_
  intro p e s m below meth c A ls X hr hlk hnm hA hG hE hl
  refine lv_aload_n X.x X.b dX8_pack_0 rfl (lv_at hl 0 rfl) ?_
  refine lv_iload_n X.x X.b dX8_pack_1 rfl (lv_at hl 1 rfl) ?_
  refine lv_aload_n X.x X.b dX8_pack_2 rfl (lv_at hl 2 rfl) ?_
  refine lv_iload_n X.x X.b dX8_pack_3 rfl (lv_at hl 3 rfl) ?_
  refine lv_iload X.x X.b dX8_pack_4 (lv_at hl 4 rfl) ?_
  refine g_copy X hl hG m_490 m_492 m_491 m_78 0 1 rfl rfl (by decide +kernel) (by decide +kernel) (by decide +kernel) (by decide +kernel) (by decide +kernel) (g' := (va_cpy f0 f1 0 1 6)) rfl (Nat.le_of_ble_eq_true rfl) (by decide +kernel) dX8_pack_6 (fun H locs (hG : gG D A s.heap [(h0, .inl (cT 0, 6, .inl f0)), (h1, .inl (cT 0, 76, .inl (va_cpy f0 f1 0 1 6)))] H locs) => ?_)
  refine lv_iload_n X.x X.b dX8_pack_9 rfl (lv_at hl 3 rfl) ?_
  refine lv_iload X.x X.b dX8_pack_10 (lv_at hl 4 rfl) ?_
  refine lv_iadd X.x X.b dX8_pack_12 ?_
  refine g_top (v' := 7) (by decide +kernel) ?_
  exact g_iret X hr hlk hG rfl (⟨fun k => ([] : List Nat).getD k 0, fun k => ([(va_cpy f0 f1 0 1 6)] : List (Nat → Int32)).getD k (fun _ => 0), fun k => ([] : List Int32).getD k 0, fun k => ([] : List (Nat → Option Nat)).getD k (fun _ => none)⟩ : gS) rfl [0, 1] rfl rfl (Nat.le_of_ble_eq_true rfl) (Nat.le_of_ble_eq_true rfl) dX8_pack_13
set_option maxHeartbeats 4000000 in
set_option maxRecDepth 100000 in
theorem k37_pack (l : Launch) (D : va_G) (cT : Nat → ClassId) (h0 h1 : Nat) (f0 : Nat → Int32) (f1 : Nat → Int32) : gMet l D cT yX8_pack cX8_pack 5 (some .int) 1 40 0 0 [.ref h0, .int 0, .ref h1, .int 7, .int 8] [(h0, .inl (cT 0, 8, .inl f0)), (h1, .inl (cT 0, 76, .inl f1))] gE0 (gQi D cT (fun (r : Int32) (u : gS) => r = 15) (fun u : gS => [(h0, .inl (cT 0, 8, .inl f0)), (h1, .inl (cT 0, 76, .inl (u.2.1 0)))])) := by
  refine gMet.of "StorksLet$Town" rfl (by decide +kernel) (Nat.le_of_ble_eq_true rfl) [(0, .ref h0), (1, .int 0), (2, .ref h1), (3, .int 7), (4, .int 8)] rfl ?_
  intro p e s m below meth c A ls X hr hlk hnm hA hG hE hl
  refine lv_aload_n X.x X.b dX8_pack_0 rfl (lv_at hl 0 rfl) ?_
  refine lv_iload_n X.x X.b dX8_pack_1 rfl (lv_at hl 1 rfl) ?_
  refine lv_aload_n X.x X.b dX8_pack_2 rfl (lv_at hl 2 rfl) ?_
  refine lv_iload_n X.x X.b dX8_pack_3 rfl (lv_at hl 3 rfl) ?_
  refine lv_iload X.x X.b dX8_pack_4 (lv_at hl 4 rfl) ?_
  refine g_copy X hl hG m_490 m_492 m_491 m_78 0 1 rfl rfl (by decide +kernel) (by decide +kernel) (by decide +kernel) (by decide +kernel) (by decide +kernel) (g' := (va_cpy f0 f1 0 7 8)) rfl (Nat.le_of_ble_eq_true rfl) (by decide +kernel) dX8_pack_6 (fun H locs (hG : gG D A s.heap [(h0, .inl (cT 0, 8, .inl f0)), (h1, .inl (cT 0, 76, .inl (va_cpy f0 f1 0 7 8)))] H locs) => ?_)
  refine lv_iload_n X.x X.b dX8_pack_9 rfl (lv_at hl 3 rfl) ?_
  refine lv_iload X.x X.b dX8_pack_10 (lv_at hl 4 rfl) ?_
  refine lv_iadd X.x X.b dX8_pack_12 ?_
  refine g_top (v' := 15) (by decide +kernel) ?_
  exact g_iret X hr hlk hG rfl (⟨fun k => ([] : List Nat).getD k 0, fun k => ([(va_cpy f0 f1 0 7 8)] : List (Nat → Int32)).getD k (fun _ => 0), fun k => ([] : List Int32).getD k 0, fun k => ([] : List (Nat → Option Nat)).getD k (fun _ => none)⟩ : gS) rfl [0, 1] rfl rfl (Nat.le_of_ble_eq_true rfl) (Nat.le_of_ble_eq_true rfl) dX8_pack_13
set_option maxHeartbeats 4000000 in
set_option maxRecDepth 100000 in
theorem k38_pack (l : Launch) (D : va_G) (cT : Nat → ClassId) (h0 h1 : Nat) (f0 : Nat → Int32) (f1 : Nat → Int32) : gMet l D cT yX8_pack cX8_pack 5 (some .int) 1 40 0 0 [.ref h0, .int 0, .ref h1, .int 15, .int 8] [(h0, .inl (cT 0, 8, .inl f0)), (h1, .inl (cT 0, 76, .inl f1))] gE0 (gQi D cT (fun (r : Int32) (u : gS) => r = 23) (fun u : gS => [(h0, .inl (cT 0, 8, .inl f0)), (h1, .inl (cT 0, 76, .inl (u.2.1 0)))])) := by
  refine gMet.of "StorksLet$Town" rfl (by decide +kernel) (Nat.le_of_ble_eq_true rfl) [(0, .ref h0), (1, .int 0), (2, .ref h1), (3, .int 15), (4, .int 8)] rfl ?_
  intro p e s m below meth c A ls X hr hlk hnm hA hG hE hl
  refine lv_aload_n X.x X.b dX8_pack_0 rfl (lv_at hl 0 rfl) ?_
  refine lv_iload_n X.x X.b dX8_pack_1 rfl (lv_at hl 1 rfl) ?_
  refine lv_aload_n X.x X.b dX8_pack_2 rfl (lv_at hl 2 rfl) ?_
  refine lv_iload_n X.x X.b dX8_pack_3 rfl (lv_at hl 3 rfl) ?_
  refine lv_iload X.x X.b dX8_pack_4 (lv_at hl 4 rfl) ?_
  refine g_copy X hl hG m_490 m_492 m_491 m_78 0 1 rfl rfl (by decide +kernel) (by decide +kernel) (by decide +kernel) (by decide +kernel) (by decide +kernel) (g' := (va_cpy f0 f1 0 15 8)) rfl (Nat.le_of_ble_eq_true rfl) (by decide +kernel) dX8_pack_6 (fun H locs (hG : gG D A s.heap [(h0, .inl (cT 0, 8, .inl f0)), (h1, .inl (cT 0, 76, .inl (va_cpy f0 f1 0 15 8)))] H locs) => ?_)
  refine lv_iload_n X.x X.b dX8_pack_9 rfl (lv_at hl 3 rfl) ?_
  refine lv_iload X.x X.b dX8_pack_10 (lv_at hl 4 rfl) ?_
  refine lv_iadd X.x X.b dX8_pack_12 ?_
  refine g_top (v' := 23) (by decide +kernel) ?_
  exact g_iret X hr hlk hG rfl (⟨fun k => ([] : List Nat).getD k 0, fun k => ([(va_cpy f0 f1 0 15 8)] : List (Nat → Int32)).getD k (fun _ => 0), fun k => ([] : List Int32).getD k 0, fun k => ([] : List (Nat → Option Nat)).getD k (fun _ => none)⟩ : gS) rfl [0, 1] rfl rfl (Nat.le_of_ble_eq_true rfl) (Nat.le_of_ble_eq_true rfl) dX8_pack_13
set_option maxHeartbeats 4000000 in
set_option maxRecDepth 100000 in
theorem k39_pack (l : Launch) (D : va_G) (cT : Nat → ClassId) (h0 h1 : Nat) (f0 : Nat → Int32) (f1 : Nat → Int32) : gMet l D cT yX8_pack cX8_pack 5 (some .int) 1 40 0 0 [.ref h0, .int 0, .ref h1, .int 23, .int 32] [(h0, .inl (cT 0, 32, .inl f0)), (h1, .inl (cT 0, 76, .inl f1))] gE0 (gQi D cT (fun (r : Int32) (u : gS) => r = 55) (fun u : gS => [(h0, .inl (cT 0, 32, .inl f0)), (h1, .inl (cT 0, 76, .inl (u.2.1 0)))])) := by
  refine gMet.of "StorksLet$Town" rfl (by decide +kernel) (Nat.le_of_ble_eq_true rfl) [(0, .ref h0), (1, .int 0), (2, .ref h1), (3, .int 23), (4, .int 32)] rfl ?_
  intro p e s m below meth c A ls X hr hlk hnm hA hG hE hl
  refine lv_aload_n X.x X.b dX8_pack_0 rfl (lv_at hl 0 rfl) ?_
  refine lv_iload_n X.x X.b dX8_pack_1 rfl (lv_at hl 1 rfl) ?_
  refine lv_aload_n X.x X.b dX8_pack_2 rfl (lv_at hl 2 rfl) ?_
  refine lv_iload_n X.x X.b dX8_pack_3 rfl (lv_at hl 3 rfl) ?_
  refine lv_iload X.x X.b dX8_pack_4 (lv_at hl 4 rfl) ?_
  refine g_copy X hl hG m_490 m_492 m_491 m_78 0 1 rfl rfl (by decide +kernel) (by decide +kernel) (by decide +kernel) (by decide +kernel) (by decide +kernel) (g' := (va_cpy f0 f1 0 23 32)) rfl (Nat.le_of_ble_eq_true rfl) (by decide +kernel) dX8_pack_6 (fun H locs (hG : gG D A s.heap [(h0, .inl (cT 0, 32, .inl f0)), (h1, .inl (cT 0, 76, .inl (va_cpy f0 f1 0 23 32)))] H locs) => ?_)
  refine lv_iload_n X.x X.b dX8_pack_9 rfl (lv_at hl 3 rfl) ?_
  refine lv_iload X.x X.b dX8_pack_10 (lv_at hl 4 rfl) ?_
  refine lv_iadd X.x X.b dX8_pack_12 ?_
  refine g_top (v' := 55) (by decide +kernel) ?_
  exact g_iret X hr hlk hG rfl (⟨fun k => ([] : List Nat).getD k 0, fun k => ([(va_cpy f0 f1 0 23 32)] : List (Nat → Int32)).getD k (fun _ => 0), fun k => ([] : List Int32).getD k 0, fun k => ([] : List (Nat → Option Nat)).getD k (fun _ => none)⟩ : gS) rfl [0, 1] rfl rfl (Nat.le_of_ble_eq_true rfl) (Nat.le_of_ble_eq_true rfl) dX8_pack_13
set_option maxHeartbeats 4000000 in
set_option maxRecDepth 100000 in
theorem k40_pack (l : Launch) (D : va_G) (cT : Nat → ClassId) (h0 h1 : Nat) (f0 : Nat → Int32) (f1 : Nat → Int32) : gMet l D cT yX8_pack cX8_pack 5 (some .int) 1 40 0 0 [.ref h0, .int 18, .ref h1, .int 55, .int 6] [(h0, .inl (cT 0, 30, .inl f0)), (h1, .inl (cT 0, 76, .inl f1))] gE0 (gQi D cT (fun (r : Int32) (u : gS) => r = 61) (fun u : gS => [(h0, .inl (cT 0, 30, .inl f0)), (h1, .inl (cT 0, 76, .inl (u.2.1 0)))])) := by
  refine gMet.of "StorksLet$Town" rfl (by decide +kernel) (Nat.le_of_ble_eq_true rfl) [(0, .ref h0), (1, .int 18), (2, .ref h1), (3, .int 55), (4, .int 6)] rfl ?_
  intro p e s m below meth c A ls X hr hlk hnm hA hG hE hl
  refine lv_aload_n X.x X.b dX8_pack_0 rfl (lv_at hl 0 rfl) ?_
  refine lv_iload_n X.x X.b dX8_pack_1 rfl (lv_at hl 1 rfl) ?_
  refine lv_aload_n X.x X.b dX8_pack_2 rfl (lv_at hl 2 rfl) ?_
  refine lv_iload_n X.x X.b dX8_pack_3 rfl (lv_at hl 3 rfl) ?_
  refine lv_iload X.x X.b dX8_pack_4 (lv_at hl 4 rfl) ?_
  refine g_copy X hl hG m_490 m_492 m_491 m_78 0 1 rfl rfl (by decide +kernel) (by decide +kernel) (by decide +kernel) (by decide +kernel) (by decide +kernel) (g' := (va_cpy f0 f1 18 55 6)) rfl (Nat.le_of_ble_eq_true rfl) (by decide +kernel) dX8_pack_6 (fun H locs (hG : gG D A s.heap [(h0, .inl (cT 0, 30, .inl f0)), (h1, .inl (cT 0, 76, .inl (va_cpy f0 f1 18 55 6)))] H locs) => ?_)
  refine lv_iload_n X.x X.b dX8_pack_9 rfl (lv_at hl 3 rfl) ?_
  refine lv_iload X.x X.b dX8_pack_10 (lv_at hl 4 rfl) ?_
  refine lv_iadd X.x X.b dX8_pack_12 ?_
  refine g_top (v' := 61) (by decide +kernel) ?_
  exact g_iret X hr hlk hG rfl (⟨fun k => ([] : List Nat).getD k 0, fun k => ([(va_cpy f0 f1 18 55 6)] : List (Nat → Int32)).getD k (fun _ => 0), fun k => ([] : List Int32).getD k 0, fun k => ([] : List (Nat → Option Nat)).getD k (fun _ => none)⟩ : gS) rfl [0, 1] rfl rfl (Nat.le_of_ble_eq_true rfl) (Nat.le_of_ble_eq_true rfl) dX8_pack_13
set_option maxHeartbeats 4000000 in
set_option maxRecDepth 100000 in
theorem k41_pack (l : Launch) (D : va_G) (cT : Nat → ClassId) (h0 h1 : Nat) (f0 : Nat → Int32) (f1 : Nat → Int32) : gMet l D cT yX8_pack cX8_pack 5 (some .int) 1 40 0 0 [.ref h0, .int 6, .ref h1, .int 61, .int 6] [(h0, .inl (cT 0, 30, .inl f0)), (h1, .inl (cT 0, 76, .inl f1))] gE0 (gQi D cT (fun (r : Int32) (u : gS) => r = 67) (fun u : gS => [(h0, .inl (cT 0, 30, .inl f0)), (h1, .inl (cT 0, 76, .inl (u.2.1 0)))])) := by
  refine gMet.of "StorksLet$Town" rfl (by decide +kernel) (Nat.le_of_ble_eq_true rfl) [(0, .ref h0), (1, .int 6), (2, .ref h1), (3, .int 61), (4, .int 6)] rfl ?_
  intro p e s m below meth c A ls X hr hlk hnm hA hG hE hl
  refine lv_aload_n X.x X.b dX8_pack_0 rfl (lv_at hl 0 rfl) ?_
  refine lv_iload_n X.x X.b dX8_pack_1 rfl (lv_at hl 1 rfl) ?_
  refine lv_aload_n X.x X.b dX8_pack_2 rfl (lv_at hl 2 rfl) ?_
  refine lv_iload_n X.x X.b dX8_pack_3 rfl (lv_at hl 3 rfl) ?_
  refine lv_iload X.x X.b dX8_pack_4 (lv_at hl 4 rfl) ?_
  refine g_copy X hl hG m_490 m_492 m_491 m_78 0 1 rfl rfl (by decide +kernel) (by decide +kernel) (by decide +kernel) (by decide +kernel) (by decide +kernel) (g' := (va_cpy f0 f1 6 61 6)) rfl (Nat.le_of_ble_eq_true rfl) (by decide +kernel) dX8_pack_6 (fun H locs (hG : gG D A s.heap [(h0, .inl (cT 0, 30, .inl f0)), (h1, .inl (cT 0, 76, .inl (va_cpy f0 f1 6 61 6)))] H locs) => ?_)
  refine lv_iload_n X.x X.b dX8_pack_9 rfl (lv_at hl 3 rfl) ?_
  refine lv_iload X.x X.b dX8_pack_10 (lv_at hl 4 rfl) ?_
  refine lv_iadd X.x X.b dX8_pack_12 ?_
  refine g_top (v' := 67) (by decide +kernel) ?_
  exact g_iret X hr hlk hG rfl (⟨fun k => ([] : List Nat).getD k 0, fun k => ([(va_cpy f0 f1 6 61 6)] : List (Nat → Int32)).getD k (fun _ => 0), fun k => ([] : List Int32).getD k 0, fun k => ([] : List (Nat → Option Nat)).getD k (fun _ => none)⟩ : gS) rfl [0, 1] rfl rfl (Nat.le_of_ble_eq_true rfl) (Nat.le_of_ble_eq_true rfl) dX8_pack_13
set_option maxHeartbeats 4000000 in
set_option maxRecDepth 100000 in
theorem k42_pack (l : Launch) (D : va_G) (cT : Nat → ClassId) (h0 h1 : Nat) (f0 : Nat → Int32) (f1 : Nat → Int32) : gMet l D cT yX8_pack cX8_pack 5 (some .int) 1 40 0 0 [.ref h0, .int 0, .ref h1, .int 67, .int 8] [(h0, .inl (cT 0, 8, .inl f0)), (h1, .inl (cT 0, 76, .inl f1))] gE0 (gQi D cT (fun (r : Int32) (u : gS) => r = 75) (fun u : gS => [(h0, .inl (cT 0, 8, .inl f0)), (h1, .inl (cT 0, 76, .inl (u.2.1 0)))])) := by
  refine gMet.of "StorksLet$Town" rfl (by decide +kernel) (Nat.le_of_ble_eq_true rfl) [(0, .ref h0), (1, .int 0), (2, .ref h1), (3, .int 67), (4, .int 8)] rfl ?_
  intro p e s m below meth c A ls X hr hlk hnm hA hG hE hl
  refine lv_aload_n X.x X.b dX8_pack_0 rfl (lv_at hl 0 rfl) ?_
  refine lv_iload_n X.x X.b dX8_pack_1 rfl (lv_at hl 1 rfl) ?_
  refine lv_aload_n X.x X.b dX8_pack_2 rfl (lv_at hl 2 rfl) ?_
  refine lv_iload_n X.x X.b dX8_pack_3 rfl (lv_at hl 3 rfl) ?_
  refine lv_iload X.x X.b dX8_pack_4 (lv_at hl 4 rfl) ?_
  refine g_copy X hl hG m_490 m_492 m_491 m_78 0 1 rfl rfl (by decide +kernel) (by decide +kernel) (by decide +kernel) (by decide +kernel) (by decide +kernel) (g' := (va_cpy f0 f1 0 67 8)) rfl (Nat.le_of_ble_eq_true rfl) (by decide +kernel) dX8_pack_6 (fun H locs (hG : gG D A s.heap [(h0, .inl (cT 0, 8, .inl f0)), (h1, .inl (cT 0, 76, .inl (va_cpy f0 f1 0 67 8)))] H locs) => ?_)
  refine lv_iload_n X.x X.b dX8_pack_9 rfl (lv_at hl 3 rfl) ?_
  refine lv_iload X.x X.b dX8_pack_10 (lv_at hl 4 rfl) ?_
  refine lv_iadd X.x X.b dX8_pack_12 ?_
  refine g_top (v' := 75) (by decide +kernel) ?_
  exact g_iret X hr hlk hG rfl (⟨fun k => ([] : List Nat).getD k 0, fun k => ([(va_cpy f0 f1 0 67 8)] : List (Nat → Int32)).getD k (fun _ => 0), fun k => ([] : List Int32).getD k 0, fun k => ([] : List (Nat → Option Nat)).getD k (fun _ => none)⟩ : gS) rfl [0, 1] rfl rfl (Nat.le_of_ble_eq_true rfl) (Nat.le_of_ble_eq_true rfl) dX8_pack_13
set_option maxHeartbeats 4000000 in
set_option maxRecDepth 100000 in
theorem k43_saveTo (l : Launch) (D : va_G) (cT : Nat → ClassId) (h0 h1 h2 h3 h4 h5 h6 h7 h8 h9 h10 h11 h12 h13 h14 h15 : Nat) (f0 : Nat → Int32) (f1 : Nat → Int32) (f2 : Nat → Int32) (f3 : Nat → Int32) (f4 : Nat → Int32) (f5 : Nat → Int32) (f6 : Nat → Int32) : gMet l D cT yX8_saveTo cX8_saveTo 4 none 2 64 0 0 [.ref h0, .ref h1, .int 0] [(h0, .inr (7, [.int 0, .int 0, .int 0, .int 0, .ref h6, .ref h8, .ref h9, .ref h2, .ref h10, .ref h11, .ref h7, .ref h12, .ref h3, .ref h4, .ref h5, .ref h13, .ref h14, .int 0, .ref h15])), (h1, .inl (cT 0, 76, .inl f0)), (h2, .inl (cT 0, 6, .inl f1)), (h3, .inl (cT 0, 8, .inl f2)), (h4, .inl (cT 0, 8, .inl f3)), (h5, .inl (cT 0, 32, .inl f4)), (h6, .inl (cT 0, 30, .inl f5)), (h7, .inl (cT 0, 8, .inl f6))] gE0 (gQv D cT (fun _ : gS => True) (fun u : gS => [(h0, .inr (7, [.int 0, .int 0, .int 0, .int 0, .ref h6, .ref h8, .ref h9, .ref h2, .ref h10, .ref h11, .ref h7, .ref h12, .ref h3, .ref h4, .ref h5, .ref h13, .ref h14, .int 0, .ref h15])), (h1, .inl (cT 0, 76, .inl (u.2.1 0))), (h2, .inl (cT 0, 6, .inl f1)), (h3, .inl (cT 0, 8, .inl f2)), (h4, .inl (cT 0, 8, .inl f3)), (h5, .inl (cT 0, 32, .inl f4)), (h6, .inl (cT 0, 30, .inl f5)), (h7, .inl (cT 0, 8, .inl f6))])) := by
  refine gMet.of "StorksLet$Town" rfl (by decide +kernel) (Nat.le_of_ble_eq_true rfl) [(0, .ref h0), (1, .ref h1), (2, .int 0)] rfl ?_
  intro p e s m below meth c A ls X hr hlk hnm hA hG hE hl
  refine lv_aload_n X.x X.b dX8_saveTo_0 rfl (lv_at hl 1 rfl) ?_
  refine lv_iconst (v := 0) X.x X.b dX8_saveTo_1 (by decide +kernel) ?_
  refine lv_aload_n X.x X.b dX8_saveTo_2 rfl (lv_at hl 0 rfl) ?_
  refine gg_X8_9 X hG 0 rfl rfl dX8_saveTo_3 ?_
  refine g_iast X hG 1 rfl (g_in (by decide +kernel)) (f' := (upd f0 0 0)) rfl dX8_saveTo_6 (fun H locs (hG : gG D A s.heap [(h0, .inr (7, [.int 0, .int 0, .int 0, .int 0, .ref h6, .ref h8, .ref h9, .ref h2, .ref h10, .ref h11, .ref h7, .ref h12, .ref h3, .ref h4, .ref h5, .ref h13, .ref h14, .int 0, .ref h15])), (h1, .inl (cT 0, 76, .inl (upd f0 0 0))), (h2, .inl (cT 0, 6, .inl f1)), (h3, .inl (cT 0, 8, .inl f2)), (h4, .inl (cT 0, 8, .inl f3)), (h5, .inl (cT 0, 32, .inl f4)), (h6, .inl (cT 0, 30, .inl f5)), (h7, .inl (cT 0, 8, .inl f6))] H locs) => ?_)
  refine lv_iconst (v := 1) X.x X.b dX8_saveTo_7 (by decide +kernel) ?_
  refine lv_istore_n (lv' := [(3, .int 1), (0, .ref h0), (1, .ref h1), (2, .int 0)]) X.x X.b dX8_saveTo_8 rfl hl (Nat.le_of_ble_eq_true rfl) rfl (fun ls hl => ?_)
  refine lv_aload_n X.x X.b dX8_saveTo_9 rfl (lv_at hl 1 rfl) ?_
  refine gg_X8_34 X hG 0 rfl rfl dX8_saveTo_10 ?_
  refine lv_iconst (v := 0) X.x X.b dX8_saveTo_13 (by decide +kernel) ?_
  refine lv_aload_n X.x X.b dX8_saveTo_14 rfl (lv_at hl 2 rfl) ?_
  refine lv_iload_n X.x X.b dX8_saveTo_15 rfl (lv_at hl 0 rfl) ?_
  refine lv_bipush (v := 6) X.x X.b dX8_saveTo_16 (by decide +kernel) ?_
  refine g_ki (g_rS (As := [.ref h2, .int 0, .ref h1, .int 1, .int 6]) (rest := []) X hl hG (k36_pack l D cT h2 h1 f1 (upd f0 0 0)) gw_X8_163 g_E01 g_E02 [2, 1] rfl rfl rfl rfl (Nat.le_of_ble_eq_true rfl) ⟨(Nat.le_of_ble_eq_true rfl), (Nat.le_of_ble_eq_true rfl)⟩ ⟨(Nat.le_of_ble_eq_true rfl), (Nat.le_of_ble_eq_true rfl)⟩ dX8_saveTo_18) hG hA [2, 1] [0, 3, 4, 5, 6, 7] rfl rfl rfl rfl (c1 := 0) (s1 := 0) rfl rfl (fun r_1 u_1 H locs (hu : r_1 = 7) (hG : gG D A s.heap [(h0, .inr (7, [.int 0, .int 0, .int 0, .int 0, .ref h6, .ref h8, .ref h9, .ref h2, .ref h10, .ref h11, .ref h7, .ref h12, .ref h3, .ref h4, .ref h5, .ref h13, .ref h14, .int 0, .ref h15])), (h3, .inl (cT 0, 8, .inl f2)), (h4, .inl (cT 0, 8, .inl f3)), (h5, .inl (cT 0, 32, .inl f4)), (h6, .inl (cT 0, 30, .inl f5)), (h7, .inl (cT 0, 8, .inl f6)), (h2, .inl (cT 0, 6, .inl f1)), (h1, .inl (cT 0, 76, .inl (u_1.2.1 0)))] H locs) => ?_)
  have hu := hu.symm
  subst hu
  refine lv_istore_n (lv' := [(3, .int 7), (0, .ref h0), (1, .ref h1), (2, .int 0)]) X.x X.b dX8_saveTo_21 rfl hl (Nat.le_of_ble_eq_true rfl) rfl (fun ls hl => ?_)
  refine lv_aload_n X.x X.b dX8_saveTo_22 rfl (lv_at hl 1 rfl) ?_
  refine gg_X8_49 X hG 0 rfl rfl dX8_saveTo_23 ?_
  refine lv_iconst (v := 0) X.x X.b dX8_saveTo_26 (by decide +kernel) ?_
  refine lv_aload_n X.x X.b dX8_saveTo_27 rfl (lv_at hl 2 rfl) ?_
  refine lv_iload_n X.x X.b dX8_saveTo_28 rfl (lv_at hl 0 rfl) ?_
  refine lv_bipush (v := 8) X.x X.b dX8_saveTo_29 (by decide +kernel) ?_
  refine g_ki (g_rS (As := [.ref h3, .int 0, .ref h1, .int 7, .int 8]) (rest := []) X hl hG (k37_pack l D cT h3 h1 f2 (u_1.2.1 0)) gw_X8_163 g_E01 g_E02 [1, 7] rfl rfl rfl rfl (Nat.le_of_ble_eq_true rfl) ⟨(Nat.le_of_ble_eq_true rfl), (Nat.le_of_ble_eq_true rfl)⟩ ⟨(Nat.le_of_ble_eq_true rfl), (Nat.le_of_ble_eq_true rfl)⟩ dX8_saveTo_31) hG hA [1, 7] [0, 2, 3, 4, 5, 6] rfl rfl rfl rfl (c1 := 0) (s1 := 0) rfl rfl (fun r_2 u_2 H locs (hu : r_2 = 15) (hG : gG D A s.heap [(h0, .inr (7, [.int 0, .int 0, .int 0, .int 0, .ref h6, .ref h8, .ref h9, .ref h2, .ref h10, .ref h11, .ref h7, .ref h12, .ref h3, .ref h4, .ref h5, .ref h13, .ref h14, .int 0, .ref h15])), (h4, .inl (cT 0, 8, .inl f3)), (h5, .inl (cT 0, 32, .inl f4)), (h6, .inl (cT 0, 30, .inl f5)), (h7, .inl (cT 0, 8, .inl f6)), (h2, .inl (cT 0, 6, .inl f1)), (h3, .inl (cT 0, 8, .inl f2)), (h1, .inl (cT 0, 76, .inl (u_2.2.1 0)))] H locs) => ?_)
  have hu := hu.symm
  subst hu
  refine lv_istore_n (lv' := [(3, .int 15), (0, .ref h0), (1, .ref h1), (2, .int 0)]) X.x X.b dX8_saveTo_34 rfl hl (Nat.le_of_ble_eq_true rfl) rfl (fun ls hl => ?_)
  refine lv_aload_n X.x X.b dX8_saveTo_35 rfl (lv_at hl 1 rfl) ?_
  refine gg_X8_52 X hG 0 rfl rfl dX8_saveTo_36 ?_
  refine lv_iconst (v := 0) X.x X.b dX8_saveTo_39 (by decide +kernel) ?_
  refine lv_aload_n X.x X.b dX8_saveTo_40 rfl (lv_at hl 2 rfl) ?_
  refine lv_iload_n X.x X.b dX8_saveTo_41 rfl (lv_at hl 0 rfl) ?_
  refine lv_bipush (v := 8) X.x X.b dX8_saveTo_42 (by decide +kernel) ?_
  refine g_ki (g_rS (As := [.ref h4, .int 0, .ref h1, .int 15, .int 8]) (rest := []) X hl hG (k38_pack l D cT h4 h1 f3 (u_2.2.1 0)) gw_X8_163 g_E01 g_E02 [1, 7] rfl rfl rfl rfl (Nat.le_of_ble_eq_true rfl) ⟨(Nat.le_of_ble_eq_true rfl), (Nat.le_of_ble_eq_true rfl)⟩ ⟨(Nat.le_of_ble_eq_true rfl), (Nat.le_of_ble_eq_true rfl)⟩ dX8_saveTo_44) hG hA [1, 7] [0, 2, 3, 4, 5, 6] rfl rfl rfl rfl (c1 := 0) (s1 := 0) rfl rfl (fun r_3 u_3 H locs (hu : r_3 = 23) (hG : gG D A s.heap [(h0, .inr (7, [.int 0, .int 0, .int 0, .int 0, .ref h6, .ref h8, .ref h9, .ref h2, .ref h10, .ref h11, .ref h7, .ref h12, .ref h3, .ref h4, .ref h5, .ref h13, .ref h14, .int 0, .ref h15])), (h5, .inl (cT 0, 32, .inl f4)), (h6, .inl (cT 0, 30, .inl f5)), (h7, .inl (cT 0, 8, .inl f6)), (h2, .inl (cT 0, 6, .inl f1)), (h3, .inl (cT 0, 8, .inl f2)), (h4, .inl (cT 0, 8, .inl f3)), (h1, .inl (cT 0, 76, .inl (u_3.2.1 0)))] H locs) => ?_)
  have hu := hu.symm
  subst hu
  refine lv_istore_n (lv' := [(3, .int 23), (0, .ref h0), (1, .ref h1), (2, .int 0)]) X.x X.b dX8_saveTo_47 rfl hl (Nat.le_of_ble_eq_true rfl) rfl (fun ls hl => ?_)
  refine lv_aload_n X.x X.b dX8_saveTo_48 rfl (lv_at hl 1 rfl) ?_
  refine gg_X8_55 X hG 0 rfl rfl dX8_saveTo_49 ?_
  refine lv_iconst (v := 0) X.x X.b dX8_saveTo_52 (by decide +kernel) ?_
  refine lv_aload_n X.x X.b dX8_saveTo_53 rfl (lv_at hl 2 rfl) ?_
  refine lv_iload_n X.x X.b dX8_saveTo_54 rfl (lv_at hl 0 rfl) ?_
  refine lv_bipush (v := 32) X.x X.b dX8_saveTo_55 (by decide +kernel) ?_
  refine g_ki (g_rS (As := [.ref h5, .int 0, .ref h1, .int 23, .int 32]) (rest := []) X hl hG (k39_pack l D cT h5 h1 f4 (u_3.2.1 0)) gw_X8_163 g_E01 g_E02 [1, 7] rfl rfl rfl rfl (Nat.le_of_ble_eq_true rfl) ⟨(Nat.le_of_ble_eq_true rfl), (Nat.le_of_ble_eq_true rfl)⟩ ⟨(Nat.le_of_ble_eq_true rfl), (Nat.le_of_ble_eq_true rfl)⟩ dX8_saveTo_57) hG hA [1, 7] [0, 2, 3, 4, 5, 6] rfl rfl rfl rfl (c1 := 0) (s1 := 0) rfl rfl (fun r_4 u_4 H locs (hu : r_4 = 55) (hG : gG D A s.heap [(h0, .inr (7, [.int 0, .int 0, .int 0, .int 0, .ref h6, .ref h8, .ref h9, .ref h2, .ref h10, .ref h11, .ref h7, .ref h12, .ref h3, .ref h4, .ref h5, .ref h13, .ref h14, .int 0, .ref h15])), (h6, .inl (cT 0, 30, .inl f5)), (h7, .inl (cT 0, 8, .inl f6)), (h2, .inl (cT 0, 6, .inl f1)), (h3, .inl (cT 0, 8, .inl f2)), (h4, .inl (cT 0, 8, .inl f3)), (h5, .inl (cT 0, 32, .inl f4)), (h1, .inl (cT 0, 76, .inl (u_4.2.1 0)))] H locs) => ?_)
  have hu := hu.symm
  subst hu
  refine lv_istore_n (lv' := [(3, .int 55), (0, .ref h0), (1, .ref h1), (2, .int 0)]) X.x X.b dX8_saveTo_60 rfl hl (Nat.le_of_ble_eq_true rfl) rfl (fun ls hl => ?_)
  refine lv_aload_n X.x X.b dX8_saveTo_61 rfl (lv_at hl 1 rfl) ?_
  refine gg_X8_24 X hG 0 rfl rfl dX8_saveTo_62 ?_
  refine lv_bipush (v := 18) X.x X.b dX8_saveTo_65 (by decide +kernel) ?_
  refine lv_aload_n X.x X.b dX8_saveTo_67 rfl (lv_at hl 2 rfl) ?_
  refine lv_iload_n X.x X.b dX8_saveTo_68 rfl (lv_at hl 0 rfl) ?_
  refine lv_bipush (v := 6) X.x X.b dX8_saveTo_69 (by decide +kernel) ?_
  refine g_ki (g_rS (As := [.ref h6, .int 18, .ref h1, .int 55, .int 6]) (rest := []) X hl hG (k40_pack l D cT h6 h1 f5 (u_4.2.1 0)) gw_X8_163 g_E01 g_E02 [1, 7] rfl rfl rfl rfl (Nat.le_of_ble_eq_true rfl) ⟨(Nat.le_of_ble_eq_true rfl), (Nat.le_of_ble_eq_true rfl)⟩ ⟨(Nat.le_of_ble_eq_true rfl), (Nat.le_of_ble_eq_true rfl)⟩ dX8_saveTo_71) hG hA [1, 7] [0, 2, 3, 4, 5, 6] rfl rfl rfl rfl (c1 := 0) (s1 := 0) rfl rfl (fun r_5 u_5 H locs (hu : r_5 = 61) (hG : gG D A s.heap [(h0, .inr (7, [.int 0, .int 0, .int 0, .int 0, .ref h6, .ref h8, .ref h9, .ref h2, .ref h10, .ref h11, .ref h7, .ref h12, .ref h3, .ref h4, .ref h5, .ref h13, .ref h14, .int 0, .ref h15])), (h7, .inl (cT 0, 8, .inl f6)), (h2, .inl (cT 0, 6, .inl f1)), (h3, .inl (cT 0, 8, .inl f2)), (h4, .inl (cT 0, 8, .inl f3)), (h5, .inl (cT 0, 32, .inl f4)), (h6, .inl (cT 0, 30, .inl f5)), (h1, .inl (cT 0, 76, .inl (u_5.2.1 0)))] H locs) => ?_)
  have hu := hu.symm
  subst hu
  refine lv_istore_n (lv' := [(3, .int 61), (0, .ref h0), (1, .ref h1), (2, .int 0)]) X.x X.b dX8_saveTo_74 rfl hl (Nat.le_of_ble_eq_true rfl) rfl (fun ls hl => ?_)
  refine lv_aload_n X.x X.b dX8_saveTo_75 rfl (lv_at hl 1 rfl) ?_
  refine gg_X8_24 X hG 0 rfl rfl dX8_saveTo_76 ?_
  refine lv_bipush (v := 6) X.x X.b dX8_saveTo_79 (by decide +kernel) ?_
  refine lv_aload_n X.x X.b dX8_saveTo_81 rfl (lv_at hl 2 rfl) ?_
  refine lv_iload_n X.x X.b dX8_saveTo_82 rfl (lv_at hl 0 rfl) ?_
  refine lv_bipush (v := 6) X.x X.b dX8_saveTo_83 (by decide +kernel) ?_
  refine g_ki (g_rS (As := [.ref h6, .int 6, .ref h1, .int 61, .int 6]) (rest := []) X hl hG (k41_pack l D cT h6 h1 f5 (u_5.2.1 0)) gw_X8_163 g_E01 g_E02 [6, 7] rfl rfl rfl rfl (Nat.le_of_ble_eq_true rfl) ⟨(Nat.le_of_ble_eq_true rfl), (Nat.le_of_ble_eq_true rfl)⟩ ⟨(Nat.le_of_ble_eq_true rfl), (Nat.le_of_ble_eq_true rfl)⟩ dX8_saveTo_85) hG hA [6, 7] [0, 1, 2, 3, 4, 5] rfl rfl rfl rfl (c1 := 0) (s1 := 0) rfl rfl (fun r_6 u_6 H locs (hu : r_6 = 67) (hG : gG D A s.heap [(h0, .inr (7, [.int 0, .int 0, .int 0, .int 0, .ref h6, .ref h8, .ref h9, .ref h2, .ref h10, .ref h11, .ref h7, .ref h12, .ref h3, .ref h4, .ref h5, .ref h13, .ref h14, .int 0, .ref h15])), (h7, .inl (cT 0, 8, .inl f6)), (h2, .inl (cT 0, 6, .inl f1)), (h3, .inl (cT 0, 8, .inl f2)), (h4, .inl (cT 0, 8, .inl f3)), (h5, .inl (cT 0, 32, .inl f4)), (h6, .inl (cT 0, 30, .inl f5)), (h1, .inl (cT 0, 76, .inl (u_6.2.1 0)))] H locs) => ?_)
  have hu := hu.symm
  subst hu
  refine lv_istore_n (lv' := [(3, .int 67), (0, .ref h0), (1, .ref h1), (2, .int 0)]) X.x X.b dX8_saveTo_88 rfl hl (Nat.le_of_ble_eq_true rfl) rfl (fun ls hl => ?_)
  refine lv_aload_n X.x X.b dX8_saveTo_89 rfl (lv_at hl 1 rfl) ?_
  refine gg_X8_43 X hG 0 rfl rfl dX8_saveTo_90 ?_
  refine lv_iconst (v := 0) X.x X.b dX8_saveTo_93 (by decide +kernel) ?_
  refine lv_aload_n X.x X.b dX8_saveTo_94 rfl (lv_at hl 2 rfl) ?_
  refine lv_iload_n X.x X.b dX8_saveTo_95 rfl (lv_at hl 0 rfl) ?_
  refine lv_bipush (v := 8) X.x X.b dX8_saveTo_96 (by decide +kernel) ?_
  refine g_ki (g_rS (As := [.ref h7, .int 0, .ref h1, .int 67, .int 8]) (rest := []) X hl hG (k42_pack l D cT h7 h1 f6 (u_6.2.1 0)) gw_X8_163 g_E01 g_E02 [1, 7] rfl rfl rfl rfl (Nat.le_of_ble_eq_true rfl) ⟨(Nat.le_of_ble_eq_true rfl), (Nat.le_of_ble_eq_true rfl)⟩ ⟨(Nat.le_of_ble_eq_true rfl), (Nat.le_of_ble_eq_true rfl)⟩ dX8_saveTo_98) hG hA [1, 7] [0, 2, 3, 4, 5, 6] rfl rfl rfl rfl (c1 := 0) (s1 := 0) rfl rfl (fun r_7 u_7 H locs (hu : r_7 = 75) (hG : gG D A s.heap [(h0, .inr (7, [.int 0, .int 0, .int 0, .int 0, .ref h6, .ref h8, .ref h9, .ref h2, .ref h10, .ref h11, .ref h7, .ref h12, .ref h3, .ref h4, .ref h5, .ref h13, .ref h14, .int 0, .ref h15])), (h2, .inl (cT 0, 6, .inl f1)), (h3, .inl (cT 0, 8, .inl f2)), (h4, .inl (cT 0, 8, .inl f3)), (h5, .inl (cT 0, 32, .inl f4)), (h6, .inl (cT 0, 30, .inl f5)), (h7, .inl (cT 0, 8, .inl f6)), (h1, .inl (cT 0, 76, .inl (u_7.2.1 0)))] H locs) => ?_)
  have hu := hu.symm
  subst hu
  refine lv_istore_n (lv' := [(3, .int 75), (0, .ref h0), (1, .ref h1), (2, .int 0)]) X.x X.b dX8_saveTo_101 rfl hl (Nat.le_of_ble_eq_true rfl) rfl (fun ls hl => ?_)
  refine lv_aload_n X.x X.b dX8_saveTo_102 rfl (lv_at hl 2 rfl) ?_
  refine lv_iload_n X.x X.b dX8_saveTo_103 rfl (lv_at hl 0 rfl) ?_
  refine lv_iload_n X.x X.b dX8_saveTo_104 rfl (lv_at hl 3 rfl) ?_
  refine b_if_eq_t (tgt := 112) X.x X.b dX8_saveTo_105 (by decide) (by decide +kernel) ?_
  refine lv_iconst (v := 0) X.x X.b dX8_saveTo_112 (by decide +kernel) ?_
  refine g_iast X hG 7 rfl (g_in (by decide +kernel)) (f' := (upd (u_7.2.1 0) 75 0)) rfl dX8_saveTo_113 (fun H locs (hG : gG D A s.heap [(h0, .inr (7, [.int 0, .int 0, .int 0, .int 0, .ref h6, .ref h8, .ref h9, .ref h2, .ref h10, .ref h11, .ref h7, .ref h12, .ref h3, .ref h4, .ref h5, .ref h13, .ref h14, .int 0, .ref h15])), (h2, .inl (cT 0, 6, .inl f1)), (h3, .inl (cT 0, 8, .inl f2)), (h4, .inl (cT 0, 8, .inl f3)), (h5, .inl (cT 0, 32, .inl f4)), (h6, .inl (cT 0, 30, .inl f5)), (h7, .inl (cT 0, 8, .inl f6)), (h1, .inl (cT 0, 76, .inl (upd (u_7.2.1 0) 75 0)))] H locs) => ?_)
  exact g_vret X hr hlk hG (⟨fun k => ([] : List Nat).getD k 0, fun k => ([(upd (u_7.2.1 0) 75 0)] : List (Nat → Int32)).getD k (fun _ => 0), fun k => ([] : List Int32).getD k 0, fun k => ([] : List (Nat → Option Nat)).getD k (fun _ => none)⟩ : gS) trivial [0, 7, 1, 2, 3, 4, 5, 6] rfl rfl (Nat.le_of_ble_eq_true rfl) (Nat.le_of_ble_eq_true rfl) dX8_saveTo_114
set_option maxHeartbeats 4000000 in
set_option maxRecDepth 100000 in
theorem k44_commit (l : Launch) (D : va_G) (cT : Nat → ClassId) (h0 h1 : Nat) : gMet l D cT yX0_commit cX0_commit 1 none 0 0 0 0 [.ref h0] [(h0, .inr (0, [.ref h1, .int 0, .int 0]))] gE0 (gQv D cT (fun _ : gS => True) (fun u : gS => [(h0, .inr (0, [.ref h1, .int 0, .int 1]))])) := by
  refine gMet.of "StorksLet$History" rfl (by decide +kernel) (Nat.le_of_ble_eq_true rfl) [(0, .ref h0)] rfl ?_
  intro p e s m below meth c A ls X hr hlk hnm hA hG hE hl
  refine lv_aload_n X.x X.b dX0_commit_0 rfl (lv_at hl 0 rfl) ?_
  refine gg_X0_20 X hG 0 rfl rfl dX0_commit_1 ?_
  refine lv_bipush (v := 12) X.x X.b dX0_commit_4 (by decide +kernel) ?_
  refine b_icmp_ge_f (tgt := 22) X.x X.b dX0_commit_6 (by decide) (by decide +kernel) ?_
  refine lv_aload_n X.x X.b dX0_commit_9 rfl (lv_at hl 0 rfl) ?_
  refine lv_dup X.x X.b dX0_commit_10 rfl ?_
  refine gg_X0_20 X hG 0 rfl rfl dX0_commit_11 ?_
  refine lv_iconst (v := 1) X.x X.b dX0_commit_14 (by decide +kernel) ?_
  refine lv_iadd X.x X.b dX0_commit_15 ?_
  refine g_top (v' := 1) (by decide +kernel) ?_
  refine gp_X0_20 X hG 0 rfl rfl rfl (Nat.le_of_ble_eq_true rfl) dX0_commit_16 (fun H locs (hG : gG D A s.heap [(h0, .inr (0, [.ref h1, .int 0, .int 1]))] H locs) => ?_)
  refine lv_goto (tgt := 35) X.x X.b dX0_commit_19 (by decide) ?_
  exact g_vret X hr hlk hG gS0 trivial [0] rfl rfl (Nat.le_of_ble_eq_true rfl) (Nat.le_of_ble_eq_true rfl) dX0_commit_35
set_option maxHeartbeats 4000000 in
set_option maxRecDepth 100000 in
theorem k45_movesOfAll (l : Launch) (D : va_G) (cT : Nat → ClassId) (h0 h1 h2 h3 h4 h5 h6 h7 h8 h9 h10 h11 h12 h13 h14 : Nat) : gMet l D cT yX8_movesOfAll cX8_movesOfAll 3 (some .int) 0 0 0 0 [.ref h0] [(h0, .inr (7, [.int 0, .int 0, .int 0, .int 0, .ref h1, .ref h2, .ref h3, .ref h4, .ref h5, .ref h6, .ref h7, .ref h8, .ref h9, .ref h10, .ref h11, .ref h12, .ref h13, .int 0, .ref h14]))] gE0 (gQi D cT (fun (r : Int32) (u : gS) => r = 0) (fun u : gS => [(h0, .inr (7, [.int 0, .int 0, .int 0, .int 0, .ref h1, .ref h2, .ref h3, .ref h4, .ref h5, .ref h6, .ref h7, .ref h8, .ref h9, .ref h10, .ref h11, .ref h12, .ref h13, .int 0, .ref h14]))])) := by
  refine gMet.of "StorksLet$Town" rfl (by decide +kernel) (Nat.le_of_ble_eq_true rfl) [(0, .ref h0)] rfl ?_
  intro p e s m below meth c A ls X hr hlk hnm hA hG hE hl
  refine lv_iconst (v := 0) X.x X.b dX8_movesOfAll_0 (by decide +kernel) ?_
  refine lv_istore_n (lv' := [(1, .int 0), (0, .ref h0)]) X.x X.b dX8_movesOfAll_1 rfl hl (Nat.le_of_ble_eq_true rfl) rfl (fun ls hl => ?_)
  refine lv_iconst (v := 0) X.x X.b dX8_movesOfAll_2 (by decide +kernel) ?_
  refine lv_istore_n (lv' := [(2, .int 0), (1, .int 0), (0, .ref h0)]) X.x X.b dX8_movesOfAll_3 rfl hl (Nat.le_of_ble_eq_true rfl) rfl (fun ls hl => ?_)
  refine lv_iload_n X.x X.b dX8_movesOfAll_4 rfl (lv_at hl 0 rfl) ?_
  refine lv_aload_n X.x X.b dX8_movesOfAll_5 rfl (lv_at hl 2 rfl) ?_
  refine gg_X8_21 X hG 0 rfl rfl dX8_movesOfAll_6 ?_
  refine b_icmp_ge_t (tgt := 27) X.x X.b dX8_movesOfAll_9 (by decide) (by decide +kernel) ?_
  refine lv_iload_n X.x X.b dX8_movesOfAll_27 rfl (lv_at hl 1 rfl) ?_
  exact g_iret X hr hlk hG rfl gS0 rfl [0] rfl rfl (Nat.le_of_ble_eq_true rfl) (Nat.le_of_ble_eq_true rfl) dX8_movesOfAll_28
set_option maxHeartbeats 4000000 in
set_option maxRecDepth 100000 in
theorem k46_refresh (l : Launch) (D : va_G) (cT : Nat → ClassId) (h0 h1 h2 h3 h4 h5 h6 h7 h8 h9 h10 h11 h12 h13 h14 h15 h16 h17 h18 : Nat) (f0 : Nat → Int32) : gMet l D cT yX10_refresh cX10_refresh 5 none 0 0 0 0 [.ref h0, .ref h1] [(h0, .inr (9, [.ref h3, .ref h4, .ref h5, .ref h2, .int 0, .int 0])), (h1, .inr (7, [.int 0, .int 0, .int 0, .int 0, .ref h6, .ref h7, .ref h8, .ref h9, .ref h10, .ref h11, .ref h12, .ref h13, .ref h14, .ref h15, .ref h16, .ref h17, .ref h18, .int 0, .ref h0])), (h2, .inl (cT 0, 10, .inl f0))] gE0 (gQv D cT (fun _ : gS => True) (fun u : gS => [(h0, .inr (9, [.ref h3, .ref h4, .ref h5, .ref h2, .int 1, .int 0])), (h1, .inr (7, [.int 0, .int 0, .int 0, .int 0, .ref h6, .ref h7, .ref h8, .ref h9, .ref h10, .ref h11, .ref h12, .ref h13, .ref h14, .ref h15, .ref h16, .ref h17, .ref h18, .int 0, .ref h0])), (h2, .inl (cT 0, 10, .inl (u.2.1 0)))])) := by
  refine gMet.of "StorksLet$Worths" rfl (by decide +kernel) (Nat.le_of_ble_eq_true rfl) [(0, .ref h0), (1, .ref h1)] rfl ?_
  intro p e s m below meth c A ls X hr hlk hnm hA hG hE hl
  refine lv_aload_n X.x X.b dX10_refresh_0 rfl (lv_at hl 0 rfl) ?_
  refine gg_X10_9 X hG 0 rfl rfl dX10_refresh_1 ?_
  refine lv_ifnull X.x X.b dX10_refresh_4 ?_
  refine lv_aload_n X.x X.b dX10_refresh_7 rfl (lv_at hl 0 rfl) ?_
  refine gg_X10_35 X hG 0 rfl rfl dX10_refresh_8 ?_
  refine b_if_eq_t (tgt := 36) X.x X.b dX10_refresh_11 (by decide) (by decide +kernel) ?_
  refine lv_aload_n X.x X.b dX10_refresh_36 rfl (lv_at hl 0 rfl) ?_
  refine gg_X10_32 X hG 0 rfl rfl dX10_refresh_37 ?_
  refine lv_bipush (v := 8) X.x X.b dX10_refresh_40 (by decide +kernel) ?_
  refine lv_aload_n X.x X.b dX10_refresh_42 rfl (lv_at hl 1 rfl) ?_
  refine gg_X10_49 X hG 1 rfl rfl dX10_refresh_43 ?_
  refine g_iast X hG 2 rfl (g_in (by decide +kernel)) (f' := (upd f0 8 0)) rfl dX10_refresh_46 (fun H locs (hG : gG D A s.heap [(h0, .inr (9, [.ref h3, .ref h4, .ref h5, .ref h2, .int 0, .int 0])), (h1, .inr (7, [.int 0, .int 0, .int 0, .int 0, .ref h6, .ref h7, .ref h8, .ref h9, .ref h10, .ref h11, .ref h12, .ref h13, .ref h14, .ref h15, .ref h16, .ref h17, .ref h18, .int 0, .ref h0])), (h2, .inl (cT 0, 10, .inl (upd f0 8 0)))] H locs) => ?_)
  refine lv_iconst (v := 0) X.x X.b dX10_refresh_47 (by decide +kernel) ?_
  refine lv_istore_n (lv' := [(2, .int 0), (0, .ref h0), (1, .ref h1)]) X.x X.b dX10_refresh_48 rfl hl (Nat.le_of_ble_eq_true rfl) rfl (fun ls hl => ?_)
  refine lv_iload_n X.x X.b dX10_refresh_49 rfl (lv_at hl 0 rfl) ?_
  refine lv_aload_n X.x X.b dX10_refresh_50 rfl (lv_at hl 2 rfl) ?_
  refine gg_X10_57 X hG 1 rfl rfl dX10_refresh_51 ?_
  refine b_icmp_ge_t (tgt := 231) X.x X.b dX10_refresh_54 (by decide) (by decide +kernel) ?_
  refine lv_aload_n X.x X.b dX10_refresh_231 rfl (lv_at hl 1 rfl) ?_
  refine lv_iconst (v := 1) X.x X.b dX10_refresh_232 (by decide +kernel) ?_
  refine gp_X10_35 X hG 0 rfl (by decide +kernel) rfl (Nat.le_of_ble_eq_true rfl) dX10_refresh_233 (fun H locs (hG : gG D A s.heap [(h0, .inr (9, [.ref h3, .ref h4, .ref h5, .ref h2, .int 1, .int 0])), (h1, .inr (7, [.int 0, .int 0, .int 0, .int 0, .ref h6, .ref h7, .ref h8, .ref h9, .ref h10, .ref h11, .ref h12, .ref h13, .ref h14, .ref h15, .ref h16, .ref h17, .ref h18, .int 0, .ref h0])), (h2, .inl (cT 0, 10, .inl (upd f0 8 0)))] H locs) => ?_)
  refine lv_aload_n X.x X.b dX10_refresh_236 rfl (lv_at hl 1 rfl) ?_
  refine lv_aload_n X.x X.b dX10_refresh_237 rfl (lv_at hl 2 rfl) ?_
  refine gg_X10_49 X hG 1 rfl rfl dX10_refresh_238 ?_
  refine gp_X10_39 X hG 0 rfl rfl rfl (Nat.le_of_ble_eq_true rfl) dX10_refresh_241 (fun H locs (hG : gG D A s.heap [(h0, .inr (9, [.ref h3, .ref h4, .ref h5, .ref h2, .int 1, .int 0])), (h1, .inr (7, [.int 0, .int 0, .int 0, .int 0, .ref h6, .ref h7, .ref h8, .ref h9, .ref h10, .ref h11, .ref h12, .ref h13, .ref h14, .ref h15, .ref h16, .ref h17, .ref h18, .int 0, .ref h0])), (h2, .inl (cT 0, 10, .inl (upd f0 8 0)))] H locs) => ?_)
  exact g_vret X hr hlk hG (⟨fun k => ([] : List Nat).getD k 0, fun k => ([(upd f0 8 0)] : List (Nat → Int32)).getD k (fun _ => 0), fun k => ([] : List Int32).getD k 0, fun k => ([] : List (Nat → Option Nat)).getD k (fun _ => none)⟩ : gS) trivial [0, 1, 2] rfl rfl (Nat.le_of_ble_eq_true rfl) (Nat.le_of_ble_eq_true rfl) dX10_refresh_244
set_option maxHeartbeats 4000000 in
set_option maxRecDepth 100000 in
theorem k47_freeze (l : Launch) (D : va_G) (cT : Nat → ClassId) (h0 h1 h2 h3 h4 h5 h6 h7 h8 h9 h10 h11 h12 h13 h14 : Nat) : gMet l D cT yX8_freeze cX8_freeze 3 none 0 0 0 0 [.ref h0, .int 0] [(h0, .inr (7, [.int 0, .int 0, .int 0, .int 0, .ref h1, .ref h2, .ref h3, .ref h4, .ref h5, .ref h6, .ref h7, .ref h8, .ref h9, .ref h10, .ref h11, .ref h12, .ref h13, .int 0, .ref h14]))] gE0 (gQv D cT (fun _ : gS => True) (fun u : gS => [(h0, .inr (7, [.int 0, .int 0, .int 0, .int 0, .ref h1, .ref h2, .ref h3, .ref h4, .ref h5, .ref h6, .ref h7, .ref h8, .ref h9, .ref h10, .ref h11, .ref h12, .ref h13, .int 0, .ref h14]))])) := by
  refine gMet.of "StorksLet$Town" rfl (by decide +kernel) (Nat.le_of_ble_eq_true rfl) [(0, .ref h0), (1, .int 0)] rfl ?_
  intro p e s m below meth c A ls X hr hlk hnm hA hG hE hl
  refine lv_iconst (v := 0) X.x X.b dX8_freeze_0 (by decide +kernel) ?_
  refine lv_istore_n (lv' := [(2, .int 0), (0, .ref h0), (1, .int 0)]) X.x X.b dX8_freeze_1 rfl hl (Nat.le_of_ble_eq_true rfl) rfl (fun ls hl => ?_)
  refine lv_iload_n X.x X.b dX8_freeze_2 rfl (lv_at hl 0 rfl) ?_
  refine lv_aload_n X.x X.b dX8_freeze_3 rfl (lv_at hl 1 rfl) ?_
  refine gg_X8_18 X hG 0 rfl rfl dX8_freeze_4 ?_
  refine b_icmp_ge_t (tgt := 44) X.x X.b dX8_freeze_7 (by decide) (by decide +kernel) ?_
  exact g_vret X hr hlk hG gS0 trivial [0] rfl rfl (Nat.le_of_ble_eq_true rfl) (Nat.le_of_ble_eq_true rfl) dX8_freeze_44
set_option maxHeartbeats 4000000 in
set_option maxRecDepth 100000 in
theorem k48_passDays (l : Launch) (D : va_G) (cT : Nat → ClassId) (h0 h1 h2 h3 h4 h5 h6 h7 h8 h9 h10 h11 h12 h13 h14 h15 h16 h17 h18 : Nat) (f0 : Nat → Int32) (f1 : Nat → Int32) (f2 : Nat → Int32) : gMet l D cT yX8_passDays cX8_passDays 5 none 1 40 0 0 [.ref h0, .int 1] [(h0, .inr (7, [.int 0, .int 0, .int 0, .int 0, .ref h5, .ref h6, .ref h7, .ref h3, .ref h8, .ref h4, .ref h9, .ref h10, .ref h11, .ref h12, .ref h13, .ref h14, .ref h15, .int 0, .ref h1])), (h1, .inr (9, [.ref h16, .ref h17, .ref h18, .ref h2, .int 0, .int 0])), (h2, .inl (cT 0, 10, .inl f0)), (h3, .inl (cT 0, 6, .inl f1)), (h4, .inl (cT 0, 6, .inl f2))] gE0 (gQv D cT (fun _ : gS => True) (fun u : gS => [(h0, .inr (7, [.int 1, .int 0, .int 0, .int 0, .ref h5, .ref h6, .ref h7, .ref h3, .ref h8, .ref h4, .ref h9, .ref h10, .ref h11, .ref h12, .ref h13, .ref h14, .ref h15, .int 0, .ref h1])), (h1, .inr (9, [.ref h16, .ref h17, .ref h18, .ref h2, .int 1, .int 0])), (h2, .inl (cT 0, 10, .inl (u.2.1 0))), (h3, .inl (cT 0, 6, .inl f1)), (h4, .inl (cT 0, 6, .inl (u.2.1 1)))])) := by
  refine gMet.of "StorksLet$Town" rfl (by decide +kernel) (Nat.le_of_ble_eq_true rfl) [(0, .ref h0), (1, .int 1)] rfl ?_
  intro p e s m below meth c A ls X hr hlk hnm hA hG hE hl
  generalize hQ9 : MQ below _ _ s _ _ A = Q9
  refine lv_iconst (v := 0) X.x X.b dX8_passDays_0 (by decide +kernel) ?_
  refine lv_istore_n (lv' := [(2, .int 0), (0, .ref h0), (1, .int 1)]) X.x X.b dX8_passDays_1 rfl hl (Nat.le_of_ble_eq_true rfl) rfl (fun ls hl => ?_)
  refine lv_iload_n X.x X.b dX8_passDays_2 rfl (lv_at hl 0 rfl) ?_
  refine lv_iload_n X.x X.b dX8_passDays_3 rfl (lv_at hl 2 rfl) ?_
  refine b_icmp_ge_f (tgt := 159) X.x X.b dX8_passDays_4 (by decide) (by decide +kernel) ?_
  refine lv_aload_n X.x X.b dX8_passDays_7 rfl (lv_at hl 1 rfl) ?_
  refine gg_X8_70 X hG 0 rfl rfl dX8_passDays_8 ?_
  refine lv_aload_n X.x X.b dX8_passDays_11 rfl (lv_at hl 1 rfl) ?_
  refine g_kv (g_rV (As := [.ref h0]) (rest := []) X hl hG (k46_refresh l D cT h1 h0 h2 h16 h17 h18 h5 h6 h7 h3 h8 h4 h9 h10 h11 h12 h13 h14 h15 f0) gw_X8_115 g_E01 g_E02 [1, 0, 2] rfl rfl 1 rfl rfl rfl rfl rfl (Nat.le_of_ble_eq_true rfl) ⟨(Nat.le_of_ble_eq_true rfl), (Nat.le_of_ble_eq_true rfl)⟩ ⟨(Nat.le_of_ble_eq_true rfl), (Nat.le_of_ble_eq_true rfl)⟩ dX8_passDays_12) hG hA [1, 0, 2] [3, 4] rfl rfl rfl rfl (c1 := 0) (s1 := 0) rfl rfl (fun u_1 H locs hu_1 (hG : gG D A s.heap [(h3, .inl (cT 0, 6, .inl f1)), (h4, .inl (cT 0, 6, .inl f2)), (h1, .inr (9, [.ref h16, .ref h17, .ref h18, .ref h2, .int 1, .int 0])), (h0, .inr (7, [.int 0, .int 0, .int 0, .int 0, .ref h5, .ref h6, .ref h7, .ref h3, .ref h8, .ref h4, .ref h9, .ref h10, .ref h11, .ref h12, .ref h13, .ref h14, .ref h15, .int 0, .ref h1])), (h2, .inl (cT 0, 10, .inl (u_1.2.1 0)))] H locs) => ?_)
  refine lv_aload_n X.x X.b dX8_passDays_15 rfl (lv_at hl 1 rfl) ?_
  refine gg_X8_34 X hG 3 rfl rfl dX8_passDays_16 ?_
  refine lv_iconst (v := 0) X.x X.b dX8_passDays_19 (by decide +kernel) ?_
  refine lv_aload_n X.x X.b dX8_passDays_20 rfl (lv_at hl 1 rfl) ?_
  refine gg_X8_40 X hG 3 rfl rfl dX8_passDays_21 ?_
  refine lv_iconst (v := 0) X.x X.b dX8_passDays_24 (by decide +kernel) ?_
  refine lv_aload_n X.x X.b dX8_passDays_25 rfl (lv_at hl 1 rfl) ?_
  refine gg_X8_18 X hG 3 rfl rfl dX8_passDays_26 ?_
  refine g_copy X hl hG m_490 m_492 m_491 m_78 0 1 rfl rfl (by decide +kernel) (by decide +kernel) (by decide +kernel) (by decide +kernel) (by decide +kernel) (g' := (va_cpy f1 f2 0 0 0)) rfl (Nat.le_of_ble_eq_true rfl) (by decide +kernel) dX8_passDays_29 (fun H locs (hG : gG D A s.heap [(h3, .inl (cT 0, 6, .inl f1)), (h4, .inl (cT 0, 6, .inl (va_cpy f1 f2 0 0 0))), (h1, .inr (9, [.ref h16, .ref h17, .ref h18, .ref h2, .int 1, .int 0])), (h0, .inr (7, [.int 0, .int 0, .int 0, .int 0, .ref h5, .ref h6, .ref h7, .ref h3, .ref h8, .ref h4, .ref h9, .ref h10, .ref h11, .ref h12, .ref h13, .ref h14, .ref h15, .int 0, .ref h1])), (h2, .inl (cT 0, 10, .inl (u_1.2.1 0)))] H locs) => ?_)
  refine lv_aload_n X.x X.b dX8_passDays_32 rfl (lv_at hl 1 rfl) ?_
  refine gg_X8_64 X hG 3 rfl rfl dX8_passDays_33 ?_
  refine b_if_le_t (tgt := 63) X.x X.b dX8_passDays_36 (by decide) (by decide +kernel) ?_
  refine lv_iconst (v := 0) X.x X.b dX8_passDays_63 (by decide +kernel) ?_
  refine lv_istore_n (lv' := [(3, .int 0), (2, .int 0), (0, .ref h0), (1, .int 1)]) X.x X.b dX8_passDays_64 rfl hl (Nat.le_of_ble_eq_true rfl) rfl (fun ls hl => ?_)
  refine lv_aload_n X.x X.b dX8_passDays_65 rfl (lv_at hl 2 rfl) ?_
  refine lv_iload_n X.x X.b dX8_passDays_66 rfl (lv_at hl 0 rfl) ?_
  refine g_kv (g_rV (As := [.int 0]) (rest := []) X hl hG (k47_freeze l D cT h0 h5 h6 h7 h3 h8 h4 h9 h10 h11 h12 h13 h14 h15 h1) gw_X8_143 g_E01 g_E02 [3] rfl rfl 3 rfl rfl rfl rfl rfl (Nat.le_of_ble_eq_true rfl) ⟨(Nat.le_of_ble_eq_true rfl), (Nat.le_of_ble_eq_true rfl)⟩ ⟨(Nat.le_of_ble_eq_true rfl), (Nat.le_of_ble_eq_true rfl)⟩ dX8_passDays_67) hG hA [3] [0, 1, 2, 4] rfl rfl rfl rfl (c1 := 0) (s1 := 0) rfl rfl (fun u_2 H locs hu_2 (hG : gG D A s.heap [(h3, .inl (cT 0, 6, .inl f1)), (h4, .inl (cT 0, 6, .inl (va_cpy f1 f2 0 0 0))), (h1, .inr (9, [.ref h16, .ref h17, .ref h18, .ref h2, .int 1, .int 0])), (h2, .inl (cT 0, 10, .inl (u_1.2.1 0))), (h0, .inr (7, [.int 0, .int 0, .int 0, .int 0, .ref h5, .ref h6, .ref h7, .ref h3, .ref h8, .ref h4, .ref h9, .ref h10, .ref h11, .ref h12, .ref h13, .ref h14, .ref h15, .int 0, .ref h1]))] H locs) => ?_)
  refine lv_iconst (v := 0) X.x X.b dX8_passDays_70 (by decide +kernel) ?_
  refine lv_istore (lv' := [(4, .int 0), (3, .int 0), (2, .int 0), (0, .ref h0), (1, .int 1)]) X.x X.b dX8_passDays_71 hl (Nat.le_of_ble_eq_true rfl) rfl (fun ls hl => ?_)
  refine lv_iload X.x X.b dX8_passDays_73 (lv_at hl 0 rfl) ?_
  refine lv_aload_n X.x X.b dX8_passDays_75 rfl (lv_at hl 3 rfl) ?_
  refine gg_X8_18 X hG 4 rfl rfl dX8_passDays_76 ?_
  refine b_icmp_ge_t (tgt := 119) X.x X.b dX8_passDays_79 (by decide) (by decide +kernel) ?_
  refine lv_iconst (v := 0) X.x X.b dX8_passDays_119 (by decide +kernel) ?_
  refine lv_istore (lv' := [(4, .int 0), (3, .int 0), (2, .int 0), (0, .ref h0), (1, .int 1)]) X.x X.b dX8_passDays_120 hl (Nat.le_of_ble_eq_true rfl) rfl (fun ls hl => ?_)
  refine lv_iload X.x X.b dX8_passDays_122 (lv_at hl 0 rfl) ?_
  refine lv_aload_n X.x X.b dX8_passDays_124 rfl (lv_at hl 3 rfl) ?_
  refine gg_X8_21 X hG 4 rfl rfl dX8_passDays_125 ?_
  refine b_icmp_ge_t (tgt := 143) X.x X.b dX8_passDays_128 (by decide) (by decide +kernel) ?_
  refine lv_aload_n X.x X.b dX8_passDays_143 rfl (lv_at hl 3 rfl) ?_
  refine lv_dup X.x X.b dX8_passDays_144 rfl ?_
  refine gg_X8_9 X hG 4 rfl rfl dX8_passDays_145 ?_
  refine lv_iconst (v := 1) X.x X.b dX8_passDays_148 (by decide +kernel) ?_
  refine lv_iadd X.x X.b dX8_passDays_149 ?_
  refine g_top (v' := 1) (by decide +kernel) ?_
  refine gp_X8_9 X hG 4 rfl rfl rfl (Nat.le_of_ble_eq_true rfl) dX8_passDays_150 (fun H locs (hG : gG D A s.heap [(h3, .inl (cT 0, 6, .inl f1)), (h4, .inl (cT 0, 6, .inl (va_cpy f1 f2 0 0 0))), (h1, .inr (9, [.ref h16, .ref h17, .ref h18, .ref h2, .int 1, .int 0])), (h2, .inl (cT 0, 10, .inl (u_1.2.1 0))), (h0, .inr (7, [.int 1, .int 0, .int 0, .int 0, .ref h5, .ref h6, .ref h7, .ref h3, .ref h8, .ref h4, .ref h9, .ref h10, .ref h11, .ref h12, .ref h13, .ref h14, .ref h15, .int 0, .ref h1]))] H locs) => ?_)
  refine lv_iinc (v := 1) (lv' := [(2, .int 1), (4, .int 0), (3, .int 0), (0, .ref h0), (1, .int 1)]) X.x X.b dX8_passDays_153 hl (k := 2) rfl (by decide +kernel) (Nat.le_of_ble_eq_true rfl) rfl (fun ls hl => ?_)
  refine lv_goto (tgt := 2) X.x X.b dX8_passDays_156 (by decide) ?_
  refine lv_iload_n X.x X.b dX8_passDays_2 rfl (lv_at hl 0 rfl) ?_
  refine lv_iload_n X.x X.b dX8_passDays_3 rfl (lv_at hl 4 rfl) ?_
  refine b_icmp_ge_t (tgt := 159) X.x X.b dX8_passDays_4 (by decide) (by decide +kernel) ?_
  subst hQ9
  exact g_vret X hr hlk hG (⟨fun k => ([] : List Nat).getD k 0, fun k => ([(u_1.2.1 0), (va_cpy f1 f2 0 0 0)] : List (Nat → Int32)).getD k (fun _ => 0), fun k => ([] : List Int32).getD k 0, fun k => ([] : List (Nat → Option Nat)).getD k (fun _ => none)⟩ : gS) trivial [4, 2, 3, 0, 1] rfl rfl (Nat.le_of_ble_eq_true rfl) (Nat.le_of_ble_eq_true rfl) dX8_passDays_159
set_option maxHeartbeats 4000000 in
set_option maxRecDepth 100000 in
theorem k49_movesOfAll (l : Launch) (D : va_G) (cT : Nat → ClassId) (h0 h1 h2 h3 h4 h5 h6 h7 h8 h9 h10 h11 h12 h13 h14 : Nat) : gMet l D cT yX8_movesOfAll cX8_movesOfAll 3 (some .int) 0 0 0 0 [.ref h0] [(h0, .inr (7, [.int 1, .int 0, .int 0, .int 0, .ref h1, .ref h2, .ref h3, .ref h4, .ref h5, .ref h6, .ref h7, .ref h8, .ref h9, .ref h10, .ref h11, .ref h12, .ref h13, .int 0, .ref h14]))] gE0 (gQi D cT (fun (r : Int32) (u : gS) => r = 0) (fun u : gS => [(h0, .inr (7, [.int 1, .int 0, .int 0, .int 0, .ref h1, .ref h2, .ref h3, .ref h4, .ref h5, .ref h6, .ref h7, .ref h8, .ref h9, .ref h10, .ref h11, .ref h12, .ref h13, .int 0, .ref h14]))])) := by
  refine gMet.of "StorksLet$Town" rfl (by decide +kernel) (Nat.le_of_ble_eq_true rfl) [(0, .ref h0)] rfl ?_
  intro p e s m below meth c A ls X hr hlk hnm hA hG hE hl
  refine lv_iconst (v := 0) X.x X.b dX8_movesOfAll_0 (by decide +kernel) ?_
  refine lv_istore_n (lv' := [(1, .int 0), (0, .ref h0)]) X.x X.b dX8_movesOfAll_1 rfl hl (Nat.le_of_ble_eq_true rfl) rfl (fun ls hl => ?_)
  refine lv_iconst (v := 0) X.x X.b dX8_movesOfAll_2 (by decide +kernel) ?_
  refine lv_istore_n (lv' := [(2, .int 0), (1, .int 0), (0, .ref h0)]) X.x X.b dX8_movesOfAll_3 rfl hl (Nat.le_of_ble_eq_true rfl) rfl (fun ls hl => ?_)
  refine lv_iload_n X.x X.b dX8_movesOfAll_4 rfl (lv_at hl 0 rfl) ?_
  refine lv_aload_n X.x X.b dX8_movesOfAll_5 rfl (lv_at hl 2 rfl) ?_
  refine gg_X8_21 X hG 0 rfl rfl dX8_movesOfAll_6 ?_
  refine b_icmp_ge_t (tgt := 27) X.x X.b dX8_movesOfAll_9 (by decide) (by decide +kernel) ?_
  refine lv_iload_n X.x X.b dX8_movesOfAll_27 rfl (lv_at hl 1 rfl) ?_
  exact g_iret X hr hlk hG rfl gS0 rfl [0] rfl rfl (Nat.le_of_ble_eq_true rfl) (Nat.le_of_ble_eq_true rfl) dX8_movesOfAll_28
set_option maxHeartbeats 4000000 in
set_option maxRecDepth 100000 in
theorem k50_livingOn (l : Launch) (D : va_G) (cT : Nat → ClassId) (h0 h1 h2 h3 h4 h5 h6 h7 h8 h9 h10 h11 h12 h13 h14 : Nat) : gMet l D cT yX8_livingOn cX8_livingOn 4 (some .int) 0 0 0 0 [.ref h0, .int (-1)] [(h0, .inr (7, [.int 1, .int 0, .int 0, .int 0, .ref h1, .ref h2, .ref h3, .ref h4, .ref h5, .ref h6, .ref h7, .ref h8, .ref h9, .ref h10, .ref h11, .ref h12, .ref h13, .int 0, .ref h14]))] gE0 (gQi D cT (fun (r : Int32) (u : gS) => r = 0) (fun u : gS => [(h0, .inr (7, [.int 1, .int 0, .int 0, .int 0, .ref h1, .ref h2, .ref h3, .ref h4, .ref h5, .ref h6, .ref h7, .ref h8, .ref h9, .ref h10, .ref h11, .ref h12, .ref h13, .int 0, .ref h14]))])) := by
  refine gMet.of "StorksLet$Town" rfl (by decide +kernel) (Nat.le_of_ble_eq_true rfl) [(0, .ref h0), (1, .int (-1))] rfl ?_
  intro p e s m below meth c A ls X hr hlk hnm hA hG hE hl
  refine lv_iconst (v := 0) X.x X.b dX8_livingOn_0 (by decide +kernel) ?_
  refine lv_istore_n (lv' := [(2, .int 0), (0, .ref h0), (1, .int (-1))]) X.x X.b dX8_livingOn_1 rfl hl (Nat.le_of_ble_eq_true rfl) rfl (fun ls hl => ?_)
  refine lv_iconst (v := 0) X.x X.b dX8_livingOn_2 (by decide +kernel) ?_
  refine lv_istore_n (lv' := [(3, .int 0), (2, .int 0), (0, .ref h0), (1, .int (-1))]) X.x X.b dX8_livingOn_3 rfl hl (Nat.le_of_ble_eq_true rfl) rfl (fun ls hl => ?_)
  refine lv_iload_n X.x X.b dX8_livingOn_4 rfl (lv_at hl 0 rfl) ?_
  refine lv_aload_n X.x X.b dX8_livingOn_5 rfl (lv_at hl 2 rfl) ?_
  refine gg_X8_21 X hG 0 rfl rfl dX8_livingOn_6 ?_
  refine b_icmp_ge_t (tgt := 31) X.x X.b dX8_livingOn_9 (by decide) (by decide +kernel) ?_
  refine lv_iload_n X.x X.b dX8_livingOn_31 rfl (lv_at hl 1 rfl) ?_
  exact g_iret X hr hlk hG rfl gS0 rfl [0] rfl rfl (Nat.le_of_ble_eq_true rfl) (Nat.le_of_ble_eq_true rfl) dX8_livingOn_32
set_option maxHeartbeats 4000000 in
set_option maxRecDepth 100000 in
theorem k51_nowhere (l : Launch) (D : va_G) (cT : Nat → ClassId) (h0 h1 h2 h3 h4 h5 h6 h7 h8 h9 h10 h11 h12 h13 h14 : Nat) : gMet l D cT yX8_nowhere cX8_nowhere 1 (some .int) 1 23 0 0 [.ref h0] [(h0, .inr (7, [.int 1, .int 0, .int 0, .int 0, .ref h1, .ref h2, .ref h3, .ref h4, .ref h5, .ref h6, .ref h7, .ref h8, .ref h9, .ref h10, .ref h11, .ref h12, .ref h13, .int 0, .ref h14]))] gE0 (gQi D cT (fun (r : Int32) (u : gS) => r = 0) (fun u : gS => [(h0, .inr (7, [.int 1, .int 0, .int 0, .int 0, .ref h1, .ref h2, .ref h3, .ref h4, .ref h5, .ref h6, .ref h7, .ref h8, .ref h9, .ref h10, .ref h11, .ref h12, .ref h13, .int 0, .ref h14]))])) := by
  refine gMet.of "StorksLet$Town" rfl (by decide +kernel) (Nat.le_of_ble_eq_true rfl) [(0, .ref h0)] rfl ?_
  intro p e s m below meth c A ls X hr hlk hnm hA hG hE hl
  refine lv_aload_n X.x X.b dX8_nowhere_0 rfl (lv_at hl 0 rfl) ?_
  refine lv_iconst (v := (-1)) X.x X.b dX8_nowhere_1 (by decide +kernel) ?_
  refine g_ki (g_rV (As := [.int (-1)]) (rest := []) X hl hG (k50_livingOn l D cT h0 h1 h2 h3 h4 h5 h6 h7 h8 h9 h10 h11 h12 h13 h14) gw_X8_105 g_E01 g_E02 [0] rfl rfl 0 rfl rfl rfl rfl rfl (Nat.le_of_ble_eq_true rfl) ⟨(Nat.le_of_ble_eq_true rfl), (Nat.le_of_ble_eq_true rfl)⟩ ⟨(Nat.le_of_ble_eq_true rfl), (Nat.le_of_ble_eq_true rfl)⟩ dX8_nowhere_2) hG hA [0] [] rfl rfl rfl rfl (c1 := 0) (s1 := 0) rfl rfl (fun r_1 u_1 H locs (hu : r_1 = 0) (hG : gG D A s.heap [(h0, .inr (7, [.int 1, .int 0, .int 0, .int 0, .ref h1, .ref h2, .ref h3, .ref h4, .ref h5, .ref h6, .ref h7, .ref h8, .ref h9, .ref h10, .ref h11, .ref h12, .ref h13, .int 0, .ref h14]))] H locs) => ?_)
  have hu := hu.symm
  subst hu
  exact g_iret X hr hlk hG rfl gS0 rfl [0] rfl rfl (Nat.le_of_ble_eq_true rfl) (Nat.le_of_ble_eq_true rfl) dX8_nowhere_5
set_option maxHeartbeats 4000000 in
set_option maxRecDepth 100000 in
theorem k52_clear (l : Launch) (D : va_G) (cT : Nat → ClassId) (h0 h1 : Nat) : gMet l D cT yX2_clear cX2_clear 1 none 0 0 0 0 [.ref h0] [(h0, .inr (1, [.ref h1, .int 0]))] gE0 (gQv D cT (fun _ : gS => True) (fun u : gS => [(h0, .inr (1, [.ref h1, .int 0]))])) := by
  refine gMet.of "StorksLet$Row" rfl (by decide +kernel) (Nat.le_of_ble_eq_true rfl) [(0, .ref h0)] rfl ?_
  intro p e s m below meth c A ls X hr hlk hnm hA hG hE hl
  refine lv_aload_n X.x X.b dX2_clear_0 rfl (lv_at hl 0 rfl) ?_
  refine lv_iconst (v := 0) X.x X.b dX2_clear_1 (by decide +kernel) ?_
  refine gp_X2_13 X hG 0 rfl rfl rfl (Nat.le_of_ble_eq_true rfl) dX2_clear_2 (fun H locs (hG : gG D A s.heap [(h0, .inr (1, [.ref h1, .int 0]))] H locs) => ?_)
  exact g_vret X hr hlk hG gS0 trivial [0] rfl rfl (Nat.le_of_ble_eq_true rfl) (Nat.le_of_ble_eq_true rfl) dX2_clear_5
set_option maxHeartbeats 4000000 in
set_option maxRecDepth 100000 in
theorem k53_add (l : Launch) (D : va_G) (cT : Nat → ClassId) (h0 h1 : Nat) (f0 : Nat → Int32) : gMet l D cT yX2_add cX2_add 2 none 0 0 0 0 [.ref h0, .int 0] [(h0, .inr (1, [.ref h1, .int 0])), (h1, .inl (cT 0, 10, .inl f0))] gE0 (gQv D cT (fun _ : gS => True) (fun u : gS => [(h0, .inr (1, [.ref h1, .int 1])), (h1, .inl (cT 0, 10, .inl (u.2.1 0)))])) := by
  refine gMet.of "StorksLet$Row" rfl (by decide +kernel) (Nat.le_of_ble_eq_true rfl) [(0, .ref h0), (1, .int 0)] rfl ?_
  intro p e s m below meth c A ls X hr hlk hnm hA hG hE hl
  refine lv_aload_n X.x X.b dX2_add_0 rfl (lv_at hl 0 rfl) ?_
  refine gg_X2_13 X hG 0 rfl rfl dX2_add_1 ?_
  refine lv_bipush (v := 10) X.x X.b dX2_add_4 (by decide +kernel) ?_
  refine b_icmp_ge_f (tgt := 29) X.x X.b dX2_add_6 (by decide) (by decide +kernel) ?_
  refine lv_aload_n X.x X.b dX2_add_9 rfl (lv_at hl 0 rfl) ?_
  refine gg_X2_9 X hG 0 rfl rfl dX2_add_10 ?_
  refine lv_aload_n X.x X.b dX2_add_13 rfl (lv_at hl 0 rfl) ?_
  refine gg_X2_13 X hG 0 rfl rfl dX2_add_14 ?_
  refine lv_iload_n X.x X.b dX2_add_17 rfl (lv_at hl 1 rfl) ?_
  refine g_iast X hG 1 rfl (g_in (by decide +kernel)) (f' := (upd f0 0 0)) rfl dX2_add_18 (fun H locs (hG : gG D A s.heap [(h0, .inr (1, [.ref h1, .int 0])), (h1, .inl (cT 0, 10, .inl (upd f0 0 0)))] H locs) => ?_)
  refine lv_aload_n X.x X.b dX2_add_19 rfl (lv_at hl 0 rfl) ?_
  refine lv_dup X.x X.b dX2_add_20 rfl ?_
  refine gg_X2_13 X hG 0 rfl rfl dX2_add_21 ?_
  refine lv_iconst (v := 1) X.x X.b dX2_add_24 (by decide +kernel) ?_
  refine lv_iadd X.x X.b dX2_add_25 ?_
  refine g_top (v' := 1) (by decide +kernel) ?_
  refine gp_X2_13 X hG 0 rfl rfl rfl (Nat.le_of_ble_eq_true rfl) dX2_add_26 (fun H locs (hG : gG D A s.heap [(h0, .inr (1, [.ref h1, .int 1])), (h1, .inl (cT 0, 10, .inl (upd f0 0 0)))] H locs) => ?_)
  exact g_vret X hr hlk hG (⟨fun k => ([] : List Nat).getD k 0, fun k => ([(upd f0 0 0)] : List (Nat → Int32)).getD k (fun _ => 0), fun k => ([] : List Int32).getD k 0, fun k => ([] : List (Nat → Option Nat)).getD k (fun _ => none)⟩ : gS) trivial [0, 1] rfl rfl (Nat.le_of_ble_eq_true rfl) (Nat.le_of_ble_eq_true rfl) dX2_add_29
set_option maxHeartbeats 4000000 in
set_option maxRecDepth 100000 in
theorem k54_add (l : Launch) (D : va_G) (cT : Nat → ClassId) (h0 h1 : Nat) (f0 : Nat → Int32) : gMet l D cT yX2_add cX2_add 2 none 0 0 0 0 [.ref h0, .int 0] [(h0, .inr (1, [.ref h1, .int 1])), (h1, .inl (cT 0, 10, .inl f0))] gE0 (gQv D cT (fun _ : gS => True) (fun u : gS => [(h0, .inr (1, [.ref h1, .int 2])), (h1, .inl (cT 0, 10, .inl (u.2.1 0)))])) := by
  refine gMet.of "StorksLet$Row" rfl (by decide +kernel) (Nat.le_of_ble_eq_true rfl) [(0, .ref h0), (1, .int 0)] rfl ?_
  intro p e s m below meth c A ls X hr hlk hnm hA hG hE hl
  refine lv_aload_n X.x X.b dX2_add_0 rfl (lv_at hl 0 rfl) ?_
  refine gg_X2_13 X hG 0 rfl rfl dX2_add_1 ?_
  refine lv_bipush (v := 10) X.x X.b dX2_add_4 (by decide +kernel) ?_
  refine b_icmp_ge_f (tgt := 29) X.x X.b dX2_add_6 (by decide) (by decide +kernel) ?_
  refine lv_aload_n X.x X.b dX2_add_9 rfl (lv_at hl 0 rfl) ?_
  refine gg_X2_9 X hG 0 rfl rfl dX2_add_10 ?_
  refine lv_aload_n X.x X.b dX2_add_13 rfl (lv_at hl 0 rfl) ?_
  refine gg_X2_13 X hG 0 rfl rfl dX2_add_14 ?_
  refine lv_iload_n X.x X.b dX2_add_17 rfl (lv_at hl 1 rfl) ?_
  refine g_iast X hG 1 rfl (g_in (by decide +kernel)) (f' := (upd f0 1 0)) rfl dX2_add_18 (fun H locs (hG : gG D A s.heap [(h0, .inr (1, [.ref h1, .int 1])), (h1, .inl (cT 0, 10, .inl (upd f0 1 0)))] H locs) => ?_)
  refine lv_aload_n X.x X.b dX2_add_19 rfl (lv_at hl 0 rfl) ?_
  refine lv_dup X.x X.b dX2_add_20 rfl ?_
  refine gg_X2_13 X hG 0 rfl rfl dX2_add_21 ?_
  refine lv_iconst (v := 1) X.x X.b dX2_add_24 (by decide +kernel) ?_
  refine lv_iadd X.x X.b dX2_add_25 ?_
  refine g_top (v' := 2) (by decide +kernel) ?_
  refine gp_X2_13 X hG 0 rfl rfl rfl (Nat.le_of_ble_eq_true rfl) dX2_add_26 (fun H locs (hG : gG D A s.heap [(h0, .inr (1, [.ref h1, .int 2])), (h1, .inl (cT 0, 10, .inl (upd f0 1 0)))] H locs) => ?_)
  exact g_vret X hr hlk hG (⟨fun k => ([] : List Nat).getD k 0, fun k => ([(upd f0 1 0)] : List (Nat → Int32)).getD k (fun _ => 0), fun k => ([] : List Int32).getD k 0, fun k => ([] : List (Nat → Option Nat)).getD k (fun _ => none)⟩ : gS) trivial [0, 1] rfl rfl (Nat.le_of_ble_eq_true rfl) (Nat.le_of_ble_eq_true rfl) dX2_add_29
set_option maxHeartbeats 4000000 in
set_option maxRecDepth 100000 in
theorem k55_putTwo (l : Launch) (D : va_G) (cT : Nat → ClassId) (h0 h1 : Nat) (f0 : Nat → Int32) : gMet l D cT yX2_putTwo cX2_putTwo 3 none 1 21 0 0 [.ref h0, .int 0, .int 0] [(h0, .inr (1, [.ref h1, .int 0])), (h1, .inl (cT 0, 10, .inl f0))] gE0 (gQv D cT (fun _ : gS => True) (fun u : gS => [(h0, .inr (1, [.ref h1, .int 2])), (h1, .inl (cT 0, 10, .inl (u.2.1 0)))])) := by
  refine gMet.of "StorksLet$Row" rfl (by decide +kernel) (Nat.le_of_ble_eq_true rfl) [(0, .ref h0), (1, .int 0), (2, .int 0)] rfl ?_
  intro p e s m below meth c A ls X hr hlk hnm hA hG hE hl
  refine lv_aload_n X.x X.b dX2_putTwo_0 rfl (lv_at hl 0 rfl) ?_
  refine g_kv (g_rV (As := []) (rest := []) X hl hG (k52_clear l D cT h0 h1) gw_X2_17 g_E01 g_E02 [0] rfl rfl 0 rfl rfl rfl rfl rfl (Nat.le_of_ble_eq_true rfl) ⟨(Nat.le_of_ble_eq_true rfl), (Nat.le_of_ble_eq_true rfl)⟩ ⟨(Nat.le_of_ble_eq_true rfl), (Nat.le_of_ble_eq_true rfl)⟩ dX2_putTwo_1) hG hA [0] [1] rfl rfl rfl rfl (c1 := 0) (s1 := 0) rfl rfl (fun u_1 H locs hu_1 (hG : gG D A s.heap [(h1, .inl (cT 0, 10, .inl f0)), (h0, .inr (1, [.ref h1, .int 0]))] H locs) => ?_)
  refine lv_aload_n X.x X.b dX2_putTwo_4 rfl (lv_at hl 0 rfl) ?_
  refine lv_iload_n X.x X.b dX2_putTwo_5 rfl (lv_at hl 1 rfl) ?_
  refine g_kv (g_rV (As := [.int 0]) (rest := []) X hl hG (k53_add l D cT h0 h1 f0) gw_X2_20 g_E01 g_E02 [1, 0] rfl rfl 1 rfl rfl rfl rfl rfl (Nat.le_of_ble_eq_true rfl) ⟨(Nat.le_of_ble_eq_true rfl), (Nat.le_of_ble_eq_true rfl)⟩ ⟨(Nat.le_of_ble_eq_true rfl), (Nat.le_of_ble_eq_true rfl)⟩ dX2_putTwo_6) hG hA [1, 0] [] rfl rfl rfl rfl (c1 := 0) (s1 := 0) rfl rfl (fun u_2 H locs hu_2 (hG : gG D A s.heap [(h0, .inr (1, [.ref h1, .int 1])), (h1, .inl (cT 0, 10, .inl (u_2.2.1 0)))] H locs) => ?_)
  refine lv_aload_n X.x X.b dX2_putTwo_9 rfl (lv_at hl 0 rfl) ?_
  refine lv_iload_n X.x X.b dX2_putTwo_10 rfl (lv_at hl 2 rfl) ?_
  refine g_kv (g_rV (As := [.int 0]) (rest := []) X hl hG (k54_add l D cT h0 h1 (u_2.2.1 0)) gw_X2_20 g_E01 g_E02 [0, 1] rfl rfl 0 rfl rfl rfl rfl rfl (Nat.le_of_ble_eq_true rfl) ⟨(Nat.le_of_ble_eq_true rfl), (Nat.le_of_ble_eq_true rfl)⟩ ⟨(Nat.le_of_ble_eq_true rfl), (Nat.le_of_ble_eq_true rfl)⟩ dX2_putTwo_11) hG hA [0, 1] [] rfl rfl rfl rfl (c1 := 0) (s1 := 0) rfl rfl (fun u_3 H locs hu_3 (hG : gG D A s.heap [(h0, .inr (1, [.ref h1, .int 2])), (h1, .inl (cT 0, 10, .inl (u_3.2.1 0)))] H locs) => ?_)
  exact g_vret X hr hlk hG (⟨fun k => ([] : List Nat).getD k 0, fun k => ([(u_3.2.1 0)] : List (Nat → Int32)).getD k (fun _ => 0), fun k => ([] : List Int32).getD k 0, fun k => ([] : List (Nat → Option Nat)).getD k (fun _ => none)⟩ : gS) trivial [0, 1] rfl rfl (Nat.le_of_ble_eq_true rfl) (Nat.le_of_ble_eq_true rfl) dX2_putTwo_14
set_option maxHeartbeats 4000000 in
set_option maxRecDepth 100000 in
theorem k56_changedNests (l : Launch) (D : va_G) (cT : Nat → ClassId) (h0 h1 h2 h3 h4 h5 h6 h7 h8 h9 h10 h11 h12 h13 h14 : Nat) : gMet l D cT yX8_changedNests cX8_changedNests 3 (some .int) 0 0 0 0 [.ref h0] [(h0, .inr (7, [.int 1, .int 0, .int 0, .int 0, .ref h1, .ref h2, .ref h3, .ref h4, .ref h5, .ref h6, .ref h7, .ref h8, .ref h9, .ref h10, .ref h11, .ref h12, .ref h13, .int 0, .ref h14]))] gE0 (gQi D cT (fun (r : Int32) (u : gS) => r = 0) (fun u : gS => [(h0, .inr (7, [.int 1, .int 0, .int 0, .int 0, .ref h1, .ref h2, .ref h3, .ref h4, .ref h5, .ref h6, .ref h7, .ref h8, .ref h9, .ref h10, .ref h11, .ref h12, .ref h13, .int 0, .ref h14]))])) := by
  refine gMet.of "StorksLet$Town" rfl (by decide +kernel) (Nat.le_of_ble_eq_true rfl) [(0, .ref h0)] rfl ?_
  intro p e s m below meth c A ls X hr hlk hnm hA hG hE hl
  refine lv_iconst (v := 0) X.x X.b dX8_changedNests_0 (by decide +kernel) ?_
  refine lv_istore_n (lv' := [(1, .int 0), (0, .ref h0)]) X.x X.b dX8_changedNests_1 rfl hl (Nat.le_of_ble_eq_true rfl) rfl (fun ls hl => ?_)
  refine lv_iconst (v := 0) X.x X.b dX8_changedNests_2 (by decide +kernel) ?_
  refine lv_istore_n (lv' := [(2, .int 0), (1, .int 0), (0, .ref h0)]) X.x X.b dX8_changedNests_3 rfl hl (Nat.le_of_ble_eq_true rfl) rfl (fun ls hl => ?_)
  refine lv_iload_n X.x X.b dX8_changedNests_4 rfl (lv_at hl 0 rfl) ?_
  refine lv_aload_n X.x X.b dX8_changedNests_5 rfl (lv_at hl 2 rfl) ?_
  refine gg_X8_18 X hG 0 rfl rfl dX8_changedNests_6 ?_
  refine b_icmp_ge_t (tgt := 36) X.x X.b dX8_changedNests_9 (by decide) (by decide +kernel) ?_
  refine lv_iload_n X.x X.b dX8_changedNests_36 rfl (lv_at hl 1 rfl) ?_
  exact g_iret X hr hlk hG rfl gS0 rfl [0] rfl rfl (Nat.le_of_ble_eq_true rfl) (Nat.le_of_ble_eq_true rfl) dX8_changedNests_37
set_option maxHeartbeats 4000000 in
set_option maxRecDepth 100000 in
theorem k57_day (l : Launch) (D : va_G) (cT : Nat → ClassId) (h0 h1 h2 h3 h4 h5 h6 h7 h8 h9 h10 h11 h12 h13 h14 h15 h16 h17 h18 h19 h20 h21 h22 h23 h24 h25 h26 h27 h28 h29 h30 h31 h32 h33 h34 h35 h36 : Nat) (g0 : Nat → Option Nat) (hg0 : g0 0 = some h4) (f1 : Nat → Int32) (f2 : Nat → Int32) (f3 : Nat → Int32) (f4 : Nat → Int32) (f5 : Nat → Int32) (f6 : Nat → Int32) (f7 : Nat → Int32) (f8 : Nat → Int32) (f9 : Nat → Int32) (f10 : Nat → Int32) : gMet l D cT yX11_day cX11_day 2 (some .int) 3 87 0 0 [.ref h0] [(h0, .inr (10, [.ref h16, .ref h14, .ref h3, .ref h17, .ref h18, .ref h19, .ref h20, .ref h21, .ref h22, .ref h1, .ref h23, .ref h24, .ref h25, .null, .ref h26, .ref h27])), (h1, .inr (0, [.ref h2, .int 0, .int 0])), (h2, .inl (cT 4, 13, .inr (.inr (.inr (.inr g0))))), (h3, .inr (7, [.int 0, .int 0, .int 0, .int 0, .ref h9, .ref h28, .ref h29, .ref h5, .ref h30, .ref h13, .ref h10, .ref h31, .ref h6, .ref h7, .ref h8, .ref h32, .ref h33, .int 0, .ref h11])), (h4, .inl (cT 0, 76, .inl f1)), (h5, .inl (cT 0, 6, .inl f2)), (h6, .inl (cT 0, 8, .inl f3)), (h7, .inl (cT 0, 8, .inl f4)), (h8, .inl (cT 0, 32, .inl f5)), (h9, .inl (cT 0, 30, .inl f6)), (h10, .inl (cT 0, 8, .inl f7)), (h11, .inr (9, [.ref h34, .ref h35, .ref h36, .ref h12, .int 0, .int 0])), (h12, .inl (cT 0, 10, .inl f8)), (h13, .inl (cT 0, 6, .inl f9)), (h14, .inr (1, [.ref h15, .int 0])), (h15, .inl (cT 0, 10, .inl f10))] gE0 (gQi D cT (fun (r : Int32) (u : gS) => r = 0) (fun u : gS => [(h0, .inr (10, [.ref h16, .ref h14, .ref h3, .ref h17, .ref h18, .ref h19, .ref h20, .ref h21, .ref h22, .ref h1, .ref h23, .ref h24, .ref h25, .null, .ref h26, .ref h27])), (h1, .inr (0, [.ref h2, .int 0, .int 1])), (h2, .inl (cT 4, 13, .inr (.inr (.inr (.inr g0))))), (h3, .inr (7, [.int 1, .int 0, .int 0, .int 0, .ref h9, .ref h28, .ref h29, .ref h5, .ref h30, .ref h13, .ref h10, .ref h31, .ref h6, .ref h7, .ref h8, .ref h32, .ref h33, .int 0, .ref h11])), (h4, .inl (cT 0, 76, .inl (u.2.1 0))), (h5, .inl (cT 0, 6, .inl f2)), (h6, .inl (cT 0, 8, .inl f3)), (h7, .inl (cT 0, 8, .inl f4)), (h8, .inl (cT 0, 32, .inl f5)), (h9, .inl (cT 0, 30, .inl f6)), (h10, .inl (cT 0, 8, .inl f7)), (h11, .inr (9, [.ref h34, .ref h35, .ref h36, .ref h12, .int 1, .int 0])), (h12, .inl (cT 0, 10, .inl (u.2.1 1))), (h13, .inl (cT 0, 6, .inl (u.2.1 2))), (h14, .inr (1, [.ref h15, .int 2])), (h15, .inl (cT 0, 10, .inl (u.2.1 3)))])) := by
  refine gMet.of "StorksLet" rfl (by decide +kernel) (Nat.le_of_ble_eq_true rfl) [(0, .ref h0)] rfl ?_
  intro p e s m below meth c A ls X hr hlk hnm hA hG hE hl
  refine lv_aload_n X.x X.b dX11_day_0 rfl (lv_at hl 0 rfl) ?_
  refine gg_X11_26 X hG 0 rfl rfl dX11_day_1 ?_
  refine lv_aload_n X.x X.b dX11_day_4 rfl (lv_at hl 0 rfl) ?_
  refine gg_X11_60 X hG 0 rfl rfl dX11_day_5 ?_
  refine g_kr (g_rV (As := []) (rest := [.ref h3]) X hl hG (k35_slot l D cT h1 h2 h4 g0 hg0) gw_X11_244 g_E01 g_E02 [1, 2] rfl rfl 1 rfl rfl rfl rfl rfl (Nat.le_of_ble_eq_true rfl) ⟨(Nat.le_of_ble_eq_true rfl), (Nat.le_of_ble_eq_true rfl)⟩ ⟨(Nat.le_of_ble_eq_true rfl), (Nat.le_of_ble_eq_true rfl)⟩ dX11_day_8) hG hA [1, 2] [0, 3, 4, 5, 6, 7, 8, 9, 10, 11, 12, 13, 14, 15] rfl rfl rfl rfl (c1 := 0) (s1 := 0) rfl rfl (fun r_1 u_1 H locs (hu : r_1 = h4) (hG : gG D A s.heap [(h0, .inr (10, [.ref h16, .ref h14, .ref h3, .ref h17, .ref h18, .ref h19, .ref h20, .ref h21, .ref h22, .ref h1, .ref h23, .ref h24, .ref h25, .null, .ref h26, .ref h27])), (h3, .inr (7, [.int 0, .int 0, .int 0, .int 0, .ref h9, .ref h28, .ref h29, .ref h5, .ref h30, .ref h13, .ref h10, .ref h31, .ref h6, .ref h7, .ref h8, .ref h32, .ref h33, .int 0, .ref h11])), (h4, .inl (cT 0, 76, .inl f1)), (h5, .inl (cT 0, 6, .inl f2)), (h6, .inl (cT 0, 8, .inl f3)), (h7, .inl (cT 0, 8, .inl f4)), (h8, .inl (cT 0, 32, .inl f5)), (h9, .inl (cT 0, 30, .inl f6)), (h10, .inl (cT 0, 8, .inl f7)), (h11, .inr (9, [.ref h34, .ref h35, .ref h36, .ref h12, .int 0, .int 0])), (h12, .inl (cT 0, 10, .inl f8)), (h13, .inl (cT 0, 6, .inl f9)), (h14, .inr (1, [.ref h15, .int 0])), (h15, .inl (cT 0, 10, .inl f10)), (h1, .inr (0, [.ref h2, .int 0, .int 0])), (h2, .inl (cT 4, 13, .inr (.inr (.inr (.inr g0)))))] H locs) => ?_)
  have hu := hu.symm
  subst hu
  refine lv_iconst (v := 0) X.x X.b dX11_day_11 (by decide +kernel) ?_
  refine g_kv (g_rV (As := [.ref h4, .int 0]) (rest := []) X hl hG (k43_saveTo l D cT h3 h4 h5 h6 h7 h8 h9 h10 h28 h29 h30 h13 h31 h32 h33 h11 f1 f2 f3 f4 f5 f6 f7) gw_X11_248 g_E01 g_E02 [1, 2, 3, 4, 5, 6, 7, 8] rfl rfl 1 rfl rfl rfl rfl rfl (Nat.le_of_ble_eq_true rfl) ⟨(Nat.le_of_ble_eq_true rfl), (Nat.le_of_ble_eq_true rfl)⟩ ⟨(Nat.le_of_ble_eq_true rfl), (Nat.le_of_ble_eq_true rfl)⟩ dX11_day_12) hG hA [1, 2, 3, 4, 5, 6, 7, 8] [0, 9, 10, 11, 12, 13, 14, 15] rfl rfl rfl rfl (c1 := 0) (s1 := 0) rfl rfl (fun u_2 H locs hu_2 (hG : gG D A s.heap [(h0, .inr (10, [.ref h16, .ref h14, .ref h3, .ref h17, .ref h18, .ref h19, .ref h20, .ref h21, .ref h22, .ref h1, .ref h23, .ref h24, .ref h25, .null, .ref h26, .ref h27])), (h11, .inr (9, [.ref h34, .ref h35, .ref h36, .ref h12, .int 0, .int 0])), (h12, .inl (cT 0, 10, .inl f8)), (h13, .inl (cT 0, 6, .inl f9)), (h14, .inr (1, [.ref h15, .int 0])), (h15, .inl (cT 0, 10, .inl f10)), (h1, .inr (0, [.ref h2, .int 0, .int 0])), (h2, .inl (cT 4, 13, .inr (.inr (.inr (.inr g0))))), (h3, .inr (7, [.int 0, .int 0, .int 0, .int 0, .ref h9, .ref h28, .ref h29, .ref h5, .ref h30, .ref h13, .ref h10, .ref h31, .ref h6, .ref h7, .ref h8, .ref h32, .ref h33, .int 0, .ref h11])), (h4, .inl (cT 0, 76, .inl (u_2.2.1 0))), (h5, .inl (cT 0, 6, .inl f2)), (h6, .inl (cT 0, 8, .inl f3)), (h7, .inl (cT 0, 8, .inl f4)), (h8, .inl (cT 0, 32, .inl f5)), (h9, .inl (cT 0, 30, .inl f6)), (h10, .inl (cT 0, 8, .inl f7))] H locs) => ?_)
  refine lv_aload_n X.x X.b dX11_day_15 rfl (lv_at hl 0 rfl) ?_
  refine gg_X11_60 X hG 0 rfl rfl dX11_day_16 ?_
  refine g_kv (g_rV (As := []) (rest := []) X hl hG (k44_commit l D cT h1 h2) gw_X11_252 g_E01 g_E02 [6] rfl rfl 6 rfl rfl rfl rfl rfl (Nat.le_of_ble_eq_true rfl) ⟨(Nat.le_of_ble_eq_true rfl), (Nat.le_of_ble_eq_true rfl)⟩ ⟨(Nat.le_of_ble_eq_true rfl), (Nat.le_of_ble_eq_true rfl)⟩ dX11_day_19) hG hA [6] [0, 1, 2, 3, 4, 5, 7, 8, 9, 10, 11, 12, 13, 14, 15] rfl rfl rfl rfl (c1 := 0) (s1 := 0) rfl rfl (fun u_3 H locs hu_3 (hG : gG D A s.heap [(h0, .inr (10, [.ref h16, .ref h14, .ref h3, .ref h17, .ref h18, .ref h19, .ref h20, .ref h21, .ref h22, .ref h1, .ref h23, .ref h24, .ref h25, .null, .ref h26, .ref h27])), (h11, .inr (9, [.ref h34, .ref h35, .ref h36, .ref h12, .int 0, .int 0])), (h12, .inl (cT 0, 10, .inl f8)), (h13, .inl (cT 0, 6, .inl f9)), (h14, .inr (1, [.ref h15, .int 0])), (h15, .inl (cT 0, 10, .inl f10)), (h2, .inl (cT 4, 13, .inr (.inr (.inr (.inr g0))))), (h3, .inr (7, [.int 0, .int 0, .int 0, .int 0, .ref h9, .ref h28, .ref h29, .ref h5, .ref h30, .ref h13, .ref h10, .ref h31, .ref h6, .ref h7, .ref h8, .ref h32, .ref h33, .int 0, .ref h11])), (h4, .inl (cT 0, 76, .inl (u_2.2.1 0))), (h5, .inl (cT 0, 6, .inl f2)), (h6, .inl (cT 0, 8, .inl f3)), (h7, .inl (cT 0, 8, .inl f4)), (h8, .inl (cT 0, 32, .inl f5)), (h9, .inl (cT 0, 30, .inl f6)), (h10, .inl (cT 0, 8, .inl f7)), (h1, .inr (0, [.ref h2, .int 0, .int 1]))] H locs) => ?_)
  refine lv_aload_n X.x X.b dX11_day_22 rfl (lv_at hl 0 rfl) ?_
  refine gg_X11_26 X hG 0 rfl rfl dX11_day_23 ?_
  refine g_ki (g_rV (As := []) (rest := []) X hl hG (k45_movesOfAll l D cT h3 h9 h28 h29 h5 h30 h13 h10 h31 h6 h7 h8 h32 h33 h11) gw_X11_255 g_E01 g_E02 [7] rfl rfl 7 rfl rfl rfl rfl rfl (Nat.le_of_ble_eq_true rfl) ⟨(Nat.le_of_ble_eq_true rfl), (Nat.le_of_ble_eq_true rfl)⟩ ⟨(Nat.le_of_ble_eq_true rfl), (Nat.le_of_ble_eq_true rfl)⟩ dX11_day_26) hG hA [7] [0, 1, 2, 3, 4, 5, 6, 8, 9, 10, 11, 12, 13, 14, 15] rfl rfl rfl rfl (c1 := 0) (s1 := 0) rfl rfl (fun r_4 u_4 H locs (hu : r_4 = 0) (hG : gG D A s.heap [(h0, .inr (10, [.ref h16, .ref h14, .ref h3, .ref h17, .ref h18, .ref h19, .ref h20, .ref h21, .ref h22, .ref h1, .ref h23, .ref h24, .ref h25, .null, .ref h26, .ref h27])), (h11, .inr (9, [.ref h34, .ref h35, .ref h36, .ref h12, .int 0, .int 0])), (h12, .inl (cT 0, 10, .inl f8)), (h13, .inl (cT 0, 6, .inl f9)), (h14, .inr (1, [.ref h15, .int 0])), (h15, .inl (cT 0, 10, .inl f10)), (h2, .inl (cT 4, 13, .inr (.inr (.inr (.inr g0))))), (h4, .inl (cT 0, 76, .inl (u_2.2.1 0))), (h5, .inl (cT 0, 6, .inl f2)), (h6, .inl (cT 0, 8, .inl f3)), (h7, .inl (cT 0, 8, .inl f4)), (h8, .inl (cT 0, 32, .inl f5)), (h9, .inl (cT 0, 30, .inl f6)), (h10, .inl (cT 0, 8, .inl f7)), (h1, .inr (0, [.ref h2, .int 0, .int 1])), (h3, .inr (7, [.int 0, .int 0, .int 0, .int 0, .ref h9, .ref h28, .ref h29, .ref h5, .ref h30, .ref h13, .ref h10, .ref h31, .ref h6, .ref h7, .ref h8, .ref h32, .ref h33, .int 0, .ref h11]))] H locs) => ?_)
  have hu := hu.symm
  subst hu
  refine lv_istore_n (lv' := [(1, .int 0), (0, .ref h0)]) X.x X.b dX11_day_29 rfl hl (Nat.le_of_ble_eq_true rfl) rfl (fun ls hl => ?_)
  refine lv_aload_n X.x X.b dX11_day_30 rfl (lv_at hl 1 rfl) ?_
  refine gg_X11_26 X hG 0 rfl rfl dX11_day_31 ?_
  refine lv_iconst (v := 1) X.x X.b dX11_day_34 (by decide +kernel) ?_
  refine g_kv (g_rV (As := [.int 1]) (rest := []) X hl hG (k48_passDays l D cT h3 h11 h12 h5 h13 h9 h28 h29 h30 h10 h31 h6 h7 h8 h32 h33 h34 h35 h36 f8 f2 f9) gw_X11_259 g_E01 g_E02 [15, 1, 2, 8, 3] rfl rfl 15 rfl rfl rfl rfl rfl (Nat.le_of_ble_eq_true rfl) ⟨(Nat.le_of_ble_eq_true rfl), (Nat.le_of_ble_eq_true rfl)⟩ ⟨(Nat.le_of_ble_eq_true rfl), (Nat.le_of_ble_eq_true rfl)⟩ dX11_day_35) hG hA [15, 1, 2, 8, 3] [0, 4, 5, 6, 7, 9, 10, 11, 12, 13, 14] rfl rfl rfl rfl (c1 := 0) (s1 := 0) rfl rfl (fun u_5 H locs hu_5 (hG : gG D A s.heap [(h0, .inr (10, [.ref h16, .ref h14, .ref h3, .ref h17, .ref h18, .ref h19, .ref h20, .ref h21, .ref h22, .ref h1, .ref h23, .ref h24, .ref h25, .null, .ref h26, .ref h27])), (h14, .inr (1, [.ref h15, .int 0])), (h15, .inl (cT 0, 10, .inl f10)), (h2, .inl (cT 4, 13, .inr (.inr (.inr (.inr g0))))), (h4, .inl (cT 0, 76, .inl (u_2.2.1 0))), (h6, .inl (cT 0, 8, .inl f3)), (h7, .inl (cT 0, 8, .inl f4)), (h8, .inl (cT 0, 32, .inl f5)), (h9, .inl (cT 0, 30, .inl f6)), (h10, .inl (cT 0, 8, .inl f7)), (h1, .inr (0, [.ref h2, .int 0, .int 1])), (h3, .inr (7, [.int 1, .int 0, .int 0, .int 0, .ref h9, .ref h28, .ref h29, .ref h5, .ref h30, .ref h13, .ref h10, .ref h31, .ref h6, .ref h7, .ref h8, .ref h32, .ref h33, .int 0, .ref h11])), (h11, .inr (9, [.ref h34, .ref h35, .ref h36, .ref h12, .int 1, .int 0])), (h12, .inl (cT 0, 10, .inl (u_5.2.1 0))), (h5, .inl (cT 0, 6, .inl f2)), (h13, .inl (cT 0, 6, .inl (u_5.2.1 1)))] H locs) => ?_)
  refine lv_aload_n X.x X.b dX11_day_38 rfl (lv_at hl 1 rfl) ?_
  refine gg_X11_19 X hG 0 rfl rfl dX11_day_39 ?_
  refine lv_aload_n X.x X.b dX11_day_42 rfl (lv_at hl 1 rfl) ?_
  refine gg_X11_26 X hG 0 rfl rfl dX11_day_43 ?_
  refine g_ki (g_rV (As := []) (rest := [.ref h14]) X hl hG (k49_movesOfAll l D cT h3 h9 h28 h29 h5 h30 h13 h10 h31 h6 h7 h8 h32 h33 h11) gw_X11_255 g_E01 g_E02 [11] rfl rfl 11 rfl rfl rfl rfl rfl (Nat.le_of_ble_eq_true rfl) ⟨(Nat.le_of_ble_eq_true rfl), (Nat.le_of_ble_eq_true rfl)⟩ ⟨(Nat.le_of_ble_eq_true rfl), (Nat.le_of_ble_eq_true rfl)⟩ dX11_day_46) hG hA [11] [0, 1, 2, 3, 4, 5, 6, 7, 8, 9, 10, 12, 13, 14, 15] rfl rfl rfl rfl (c1 := 0) (s1 := 0) rfl rfl (fun r_6 u_6 H locs (hu : r_6 = 0) (hG : gG D A s.heap [(h0, .inr (10, [.ref h16, .ref h14, .ref h3, .ref h17, .ref h18, .ref h19, .ref h20, .ref h21, .ref h22, .ref h1, .ref h23, .ref h24, .ref h25, .null, .ref h26, .ref h27])), (h14, .inr (1, [.ref h15, .int 0])), (h15, .inl (cT 0, 10, .inl f10)), (h2, .inl (cT 4, 13, .inr (.inr (.inr (.inr g0))))), (h4, .inl (cT 0, 76, .inl (u_2.2.1 0))), (h6, .inl (cT 0, 8, .inl f3)), (h7, .inl (cT 0, 8, .inl f4)), (h8, .inl (cT 0, 32, .inl f5)), (h9, .inl (cT 0, 30, .inl f6)), (h10, .inl (cT 0, 8, .inl f7)), (h1, .inr (0, [.ref h2, .int 0, .int 1])), (h11, .inr (9, [.ref h34, .ref h35, .ref h36, .ref h12, .int 1, .int 0])), (h12, .inl (cT 0, 10, .inl (u_5.2.1 0))), (h5, .inl (cT 0, 6, .inl f2)), (h13, .inl (cT 0, 6, .inl (u_5.2.1 1))), (h3, .inr (7, [.int 1, .int 0, .int 0, .int 0, .ref h9, .ref h28, .ref h29, .ref h5, .ref h30, .ref h13, .ref h10, .ref h31, .ref h6, .ref h7, .ref h8, .ref h32, .ref h33, .int 0, .ref h11]))] H locs) => ?_)
  have hu := hu.symm
  subst hu
  refine lv_iload_n X.x X.b dX11_day_49 rfl (lv_at hl 0 rfl) ?_
  refine lv_isub X.x X.b dX11_day_50 ?_
  refine g_top (v' := 0) (by decide +kernel) ?_
  refine lv_aload_n X.x X.b dX11_day_51 rfl (lv_at hl 1 rfl) ?_
  refine gg_X11_26 X hG 0 rfl rfl dX11_day_52 ?_
  refine g_ki (g_rV (As := []) (rest := [.int 0, .ref h14]) X hl hG (k51_nowhere l D cT h3 h9 h28 h29 h5 h30 h13 h10 h31 h6 h7 h8 h32 h33 h11) gw_X11_263 g_E01 g_E02 [15] rfl rfl 15 rfl rfl rfl rfl rfl (Nat.le_of_ble_eq_true rfl) ⟨(Nat.le_of_ble_eq_true rfl), (Nat.le_of_ble_eq_true rfl)⟩ ⟨(Nat.le_of_ble_eq_true rfl), (Nat.le_of_ble_eq_true rfl)⟩ dX11_day_55) hG hA [15] [0, 1, 2, 3, 4, 5, 6, 7, 8, 9, 10, 11, 12, 13, 14] rfl rfl rfl rfl (c1 := 0) (s1 := 0) rfl rfl (fun r_7 u_7 H locs (hu : r_7 = 0) (hG : gG D A s.heap [(h0, .inr (10, [.ref h16, .ref h14, .ref h3, .ref h17, .ref h18, .ref h19, .ref h20, .ref h21, .ref h22, .ref h1, .ref h23, .ref h24, .ref h25, .null, .ref h26, .ref h27])), (h14, .inr (1, [.ref h15, .int 0])), (h15, .inl (cT 0, 10, .inl f10)), (h2, .inl (cT 4, 13, .inr (.inr (.inr (.inr g0))))), (h4, .inl (cT 0, 76, .inl (u_2.2.1 0))), (h6, .inl (cT 0, 8, .inl f3)), (h7, .inl (cT 0, 8, .inl f4)), (h8, .inl (cT 0, 32, .inl f5)), (h9, .inl (cT 0, 30, .inl f6)), (h10, .inl (cT 0, 8, .inl f7)), (h1, .inr (0, [.ref h2, .int 0, .int 1])), (h11, .inr (9, [.ref h34, .ref h35, .ref h36, .ref h12, .int 1, .int 0])), (h12, .inl (cT 0, 10, .inl (u_5.2.1 0))), (h5, .inl (cT 0, 6, .inl f2)), (h13, .inl (cT 0, 6, .inl (u_5.2.1 1))), (h3, .inr (7, [.int 1, .int 0, .int 0, .int 0, .ref h9, .ref h28, .ref h29, .ref h5, .ref h30, .ref h13, .ref h10, .ref h31, .ref h6, .ref h7, .ref h8, .ref h32, .ref h33, .int 0, .ref h11]))] H locs) => ?_)
  have hu := hu.symm
  subst hu
  refine g_kv (g_rV (As := [.int 0, .int 0]) (rest := []) X hl hG (k55_putTwo l D cT h14 h15 f10) gw_X11_266 g_E01 g_E02 [1, 2] rfl rfl 1 rfl rfl rfl rfl rfl (Nat.le_of_ble_eq_true rfl) ⟨(Nat.le_of_ble_eq_true rfl), (Nat.le_of_ble_eq_true rfl)⟩ ⟨(Nat.le_of_ble_eq_true rfl), (Nat.le_of_ble_eq_true rfl)⟩ dX11_day_58) hG hA [1, 2] [0, 3, 4, 5, 6, 7, 8, 9, 10, 11, 12, 13, 14, 15] rfl rfl rfl rfl (c1 := 0) (s1 := 0) rfl rfl (fun u_8 H locs hu_8 (hG : gG D A s.heap [(h0, .inr (10, [.ref h16, .ref h14, .ref h3, .ref h17, .ref h18, .ref h19, .ref h20, .ref h21, .ref h22, .ref h1, .ref h23, .ref h24, .ref h25, .null, .ref h26, .ref h27])), (h2, .inl (cT 4, 13, .inr (.inr (.inr (.inr g0))))), (h4, .inl (cT 0, 76, .inl (u_2.2.1 0))), (h6, .inl (cT 0, 8, .inl f3)), (h7, .inl (cT 0, 8, .inl f4)), (h8, .inl (cT 0, 32, .inl f5)), (h9, .inl (cT 0, 30, .inl f6)), (h10, .inl (cT 0, 8, .inl f7)), (h1, .inr (0, [.ref h2, .int 0, .int 1])), (h11, .inr (9, [.ref h34, .ref h35, .ref h36, .ref h12, .int 1, .int 0])), (h12, .inl (cT 0, 10, .inl (u_5.2.1 0))), (h5, .inl (cT 0, 6, .inl f2)), (h13, .inl (cT 0, 6, .inl (u_5.2.1 1))), (h3, .inr (7, [.int 1, .int 0, .int 0, .int 0, .ref h9, .ref h28, .ref h29, .ref h5, .ref h30, .ref h13, .ref h10, .ref h31, .ref h6, .ref h7, .ref h8, .ref h32, .ref h33, .int 0, .ref h11])), (h14, .inr (1, [.ref h15, .int 2])), (h15, .inl (cT 0, 10, .inl (u_8.2.1 0)))] H locs) => ?_)
  refine lv_aload_n X.x X.b dX11_day_61 rfl (lv_at hl 1 rfl) ?_
  refine gg_X11_26 X hG 0 rfl rfl dX11_day_62 ?_
  refine g_ki (g_rV (As := []) (rest := []) X hl hG (k56_changedNests l D cT h3 h9 h28 h29 h5 h30 h13 h10 h31 h6 h7 h8 h32 h33 h11) gw_X11_269 g_E01 g_E02 [13] rfl rfl 13 rfl rfl rfl rfl rfl (Nat.le_of_ble_eq_true rfl) ⟨(Nat.le_of_ble_eq_true rfl), (Nat.le_of_ble_eq_true rfl)⟩ ⟨(Nat.le_of_ble_eq_true rfl), (Nat.le_of_ble_eq_true rfl)⟩ dX11_day_65) hG hA [13] [0, 1, 2, 3, 4, 5, 6, 7, 8, 9, 10, 11, 12, 14, 15] rfl rfl rfl rfl (c1 := 0) (s1 := 0) rfl rfl (fun r_9 u_9 H locs (hu : r_9 = 0) (hG : gG D A s.heap [(h0, .inr (10, [.ref h16, .ref h14, .ref h3, .ref h17, .ref h18, .ref h19, .ref h20, .ref h21, .ref h22, .ref h1, .ref h23, .ref h24, .ref h25, .null, .ref h26, .ref h27])), (h2, .inl (cT 4, 13, .inr (.inr (.inr (.inr g0))))), (h4, .inl (cT 0, 76, .inl (u_2.2.1 0))), (h6, .inl (cT 0, 8, .inl f3)), (h7, .inl (cT 0, 8, .inl f4)), (h8, .inl (cT 0, 32, .inl f5)), (h9, .inl (cT 0, 30, .inl f6)), (h10, .inl (cT 0, 8, .inl f7)), (h1, .inr (0, [.ref h2, .int 0, .int 1])), (h11, .inr (9, [.ref h34, .ref h35, .ref h36, .ref h12, .int 1, .int 0])), (h12, .inl (cT 0, 10, .inl (u_5.2.1 0))), (h5, .inl (cT 0, 6, .inl f2)), (h13, .inl (cT 0, 6, .inl (u_5.2.1 1))), (h14, .inr (1, [.ref h15, .int 2])), (h15, .inl (cT 0, 10, .inl (u_8.2.1 0))), (h3, .inr (7, [.int 1, .int 0, .int 0, .int 0, .ref h9, .ref h28, .ref h29, .ref h5, .ref h30, .ref h13, .ref h10, .ref h31, .ref h6, .ref h7, .ref h8, .ref h32, .ref h33, .int 0, .ref h11]))] H locs) => ?_)
  have hu := hu.symm
  subst hu
  exact g_iret X hr hlk hG rfl (⟨fun k => ([] : List Nat).getD k 0, fun k => ([(u_2.2.1 0), (u_5.2.1 0), (u_5.2.1 1), (u_8.2.1 0)] : List (Nat → Int32)).getD k (fun _ => 0), fun k => ([] : List Int32).getD k 0, fun k => ([] : List (Nat → Option Nat)).getD k (fun _ => none)⟩ : gS) rfl [0, 8, 1, 15, 2, 11, 3, 4, 5, 6, 7, 9, 10, 12, 13, 14] rfl rfl (Nat.le_of_ble_eq_true rfl) (Nat.le_of_ble_eq_true rfl) dX11_day_68
set_option maxHeartbeats 4000000 in
set_option maxRecDepth 100000 in
theorem k58_lay (l : Launch) (D : va_G) (cT : Nat → ClassId) (h0 h1 : Nat) (f0 : Nat → Int32) (f1 : Nat → Int32) : gMet l D cT yX12_lay cX12_lay 4 none 0 0 0 0 [.ref h0, .ref h1, .int 0] [(h0, .inl (cT 0, 55, .inl f0)), (h1, .inl (cT 0, 76, .inl f1))] gE0 (gQv D cT (fun _ : gS => True) (fun u : gS => [(h0, .inl (cT 0, 55, .inl f0)), (h1, .inl (cT 0, 76, .inl (u.2.1 0)))])) := by
  refine gMet.of "StorksLetModel" rfl (by decide +kernel) (Nat.le_of_ble_eq_true rfl) [(0, .ref h0), (1, .ref h1), (2, .int 0)] rfl ?_
  intro p e s m below meth c A ls X hr hlk hnm hA hG hE hl
  generalize hQ9 : MQ below _ _ s _ _ A = Q9
  refine lv_iconst (v := 0) X.x X.b dX12_lay_0 (by decide +kernel) ?_
  refine lv_istore_n (lv' := [(3, .int 0), (0, .ref h0), (1, .ref h1), (2, .int 0)]) X.x X.b dX12_lay_1 rfl hl (Nat.le_of_ble_eq_true rfl) rfl (fun ls hl => ?_)
  have LOOP_2 : ∀ (fu k_2 : Nat) (g_1 : Nat → Int32), k_2 ≤ 55 → 55 < k_2 + fu → ∀ (H : Heap) (locs : List Loc), gG D A s.heap [(h0, .inl (cT 0, 55, .inl f0)), (h1, .inl (cT 0, 76, .inl g_1))] H locs → ∀ (ls : Array Slot), lv_has ls 4 [(3, .int (nI k_2)), (0, .ref h0), (1, .ref h1), (2, .int 0)] → W p l e { frames := 0, cells := 0, slots := 0, locals := 0 } s m ([.ref h0, .ref h1, .int 0] : List Value).toArray below meth c H locs 0 0 Q9 (F0 m 2 ls []) := by
    intro fu
    induction fu with
    | zero => intro k_2 g_1 hk1 hk2; exact absurd hk2 (by omega)
    | succ fu ih_2 =>
      intro k_2 g_1 hk1_2 hk2_2 H locs hG ls hl
      refine lv_iload_n X.x X.b dX12_lay_2 rfl (lv_at hl 0 rfl) ?_
      refine lv_bipush (v := 55) X.x X.b dX12_lay_3 (by decide +kernel) ?_
      refine lv_icmp_ge (tgt := 22) X.x X.b dX12_lay_5 (by decide) (fun c_2 => ?_) (fun c_2 => ?_)
      · skip
        have f_2 : 55 ≤ k_2 := (nI_leI (a := 55) (b := k_2) (by omega) (by omega)).mp c_2
        subst hQ9
        exact g_vret X hr hlk hG (⟨fun k => ([] : List Nat).getD k 0, fun k => ([g_1] : List (Nat → Int32)).getD k (fun _ => 0), fun k => ([] : List Int32).getD k 0, fun k => ([] : List (Nat → Option Nat)).getD k (fun _ => none)⟩ : gS) trivial [0, 1] rfl rfl (Nat.le_of_ble_eq_true rfl) (Nat.le_of_ble_eq_true rfl) dX12_lay_22
      · skip
        have f_2 : ¬ 55 ≤ k_2 := fun z => c_2 ((nI_leI (a := 55) (b := k_2) (by omega) (by omega)).mpr z)
        refine lv_aload_n X.x X.b dX12_lay_8 rfl (lv_at hl 2 rfl) ?_
        refine lv_iload_n X.x X.b dX12_lay_9 rfl (lv_at hl 3 rfl) ?_
        refine lv_iload_n X.x X.b dX12_lay_10 rfl (lv_at hl 0 rfl) ?_
        refine lv_iadd X.x X.b dX12_lay_11 ?_
        refine g_top (v' := (nI (0 + k_2))) (nI_add 0 _) ?_
        refine lv_aload_n X.x X.b dX12_lay_12 rfl (lv_at hl 1 rfl) ?_
        refine lv_iload_n X.x X.b dX12_lay_13 rfl (lv_at hl 0 rfl) ?_
        refine g_iald X hG 0 rfl (g_inN (k := k_2) rfl (by omega) (by decide)) (v := (f0 k_2)) (by rw [nI_clamp (by omega)]) dX12_lay_14 ?_
        refine g_iast X hG 1 rfl (g_inN (k := 0 + k_2) rfl (by omega) (by decide)) (f' := (upd g_1 (0 + k_2) (f0 k_2))) (by rw [nI_clamp (by omega)]) dX12_lay_15 (fun H locs (hG : gG D A s.heap [(h0, .inl (cT 0, 55, .inl f0)), (h1, .inl (cT 0, 76, .inl (upd g_1 (0 + k_2) (f0 k_2))))] H locs) => ?_)
        refine lv_iinc (v := (nI (k_2 + 1))) (lv' := [(3, .int (nI (k_2 + 1))), (0, .ref h0), (1, .ref h1), (2, .int 0)]) X.x X.b dX12_lay_16 hl (k := 0) rfl (nI_1 _) (Nat.le_of_ble_eq_true rfl) rfl (fun ls hl => ?_)
        refine lv_goto (tgt := 2) X.x X.b dX12_lay_19 (by decide) ?_
        exact ih_2 (k_2 + 1) ((upd g_1 (0 + k_2) (f0 k_2))) (by omega) (by omega) _ _ hG _ (lv_sub hl [0, 1, 2, 3] rfl)
  exact LOOP_2 56 0 f1 (by omega) (by omega) _ _ hG _ (lv_sub hl [0, 1, 2, 3] rfl)
set_option maxHeartbeats 4000000 in
set_option maxRecDepth 100000 in
theorem k59_laySide (l : Launch) (D : va_G) (cT : Nat → ClassId) (h0 h1 h2 h3 h4 h5 h6 h7 h8 h9 h10 h11 h12 h13 h14 h15 h16 h17 h18 h19 h20 h21 h22 h23 h24 h25 h26 h27 h28 h29 h30 h31 h32 h33 h34 h35 : Nat) (f0 : Nat → Int32) (f1 : Nat → Int32) (f2 : Nat → Int32) (f3 : Nat → Int32) (f4 : Nat → Int32) : gMet l D cT yX12_laySide cX12_laySide 3 none 1 23 0 0 [.ref h0, .int 0] [(h0, .inr (11, (.ref h1 :: .int 0 :: .ref h6 :: .ref h5 :: .ref h7 :: .ref h4 :: .ref h8 :: .int 0 :: .ref h9 :: .ref h10 :: .int 0 :: .ref h3 :: .ref h11 :: .ref h12 :: .int 0 :: .int (-1) :: .int 0 :: .ref h13 :: .int 0 :: .ref h14 :: .int 0 :: .int 0 :: .null :: .int 0 :: .int 0 :: .int 0 :: .int 0 :: .ref h15 :: .ref h16 :: .ref h17 :: .ref h18 :: .int 0 :: .null :: .int 0 :: .int 0 :: .int 0 :: .ref h19 :: .int 0 :: .int (-1) :: .int 0 :: .ref h20 :: .int 0 :: .ref h2 :: .ref h21 :: .int 0 :: .ref h22 :: .ref h23 :: .ref h24 :: .ref h25 :: .int 0 :: .int 0 :: .int 0 :: .ref h26 :: .int 0 :: .int 0 :: .ref h27 :: .ref h28 :: .ref h29 :: .ref h30 :: .int 0 :: .ref h31 :: .int 0 :: .ref h32 :: .int 0 :: .int 0 :: .ref h33 :: .ref h34 :: .ref h35 :: []))), (h1, .inl (cT 0, 55, .inl f0)), (h2, .inl (cT 0, 76, .inl f1)), (h3, .inl (cT 0, 8, .inl f2)), (h4, .inl (cT 0, 6, .inl f3)), (h5, .inl (cT 0, 6, .inl f4))] gE0 (gQv D cT (fun _ : gS => True) (fun u : gS => [(h0, .inr (11, (.ref h1 :: .int 0 :: .ref h6 :: .ref h5 :: .ref h7 :: .ref h4 :: .ref h8 :: .int 0 :: .ref h9 :: .ref h10 :: .int 0 :: .ref h3 :: .ref h11 :: .ref h12 :: .int 0 :: .int (-1) :: .int 0 :: .ref h13 :: .int 0 :: .ref h14 :: .int 0 :: .int 0 :: .null :: .int 0 :: .int 0 :: .int 0 :: .int 0 :: .ref h15 :: .ref h16 :: .ref h17 :: .ref h18 :: .int 0 :: .null :: .int 0 :: .int 0 :: .int 0 :: .ref h19 :: .int 0 :: .int (-1) :: .int 0 :: .ref h20 :: .int 0 :: .ref h2 :: .ref h21 :: .int 0 :: .ref h22 :: .ref h23 :: .ref h24 :: .ref h25 :: .int 0 :: .int 0 :: .int 0 :: .ref h26 :: .int 0 :: .int 0 :: .ref h27 :: .ref h28 :: .ref h29 :: .ref h30 :: .int 0 :: .ref h31 :: .int 0 :: .ref h32 :: .int 0 :: .int 0 :: .ref h33 :: .ref h34 :: .ref h35 :: []))), (h1, .inl (cT 0, 55, .inl f0)), (h2, .inl (cT 0, 76, .inl (u.2.1 0))), (h3, .inl (cT 0, 8, .inl f2)), (h4, .inl (cT 0, 6, .inl f3)), (h5, .inl (cT 0, 6, .inl f4))])) := by
  refine gMet.of "StorksLetModel" rfl (by decide +kernel) (Nat.le_of_ble_eq_true rfl) [(0, .ref h0), (1, .int 0)] rfl ?_
  intro p e s m below meth c A ls X hr hlk hnm hA hG hE hl
  generalize hQ9 : MQ below _ _ s _ _ A = Q9
  refine lv_aload_n X.x X.b dX12_laySide_0 rfl (lv_at hl 0 rfl) ?_
  refine gg_X12_9 X hG 0 rfl rfl dX12_laySide_1 ?_
  refine lv_aload_n X.x X.b dX12_laySide_4 rfl (lv_at hl 0 rfl) ?_
  refine gg_X12_75 X hG 0 rfl rfl dX12_laySide_5 ?_
  refine lv_iconst (v := 0) X.x X.b dX12_laySide_8 (by decide +kernel) ?_
  refine g_kv (g_rS (As := [.ref h1, .ref h2, .int 0]) (rest := []) X hl hG (k58_lay l D cT h1 h2 f0 f1) gw_X12_309 g_E01 g_E02 [1, 2] rfl rfl rfl rfl (Nat.le_of_ble_eq_true rfl) ⟨(Nat.le_of_ble_eq_true rfl), (Nat.le_of_ble_eq_true rfl)⟩ ⟨(Nat.le_of_ble_eq_true rfl), (Nat.le_of_ble_eq_true rfl)⟩ dX12_laySide_9) hG hA [1, 2] [0, 3, 4, 5] rfl rfl rfl rfl (c1 := 0) (s1 := 0) rfl rfl (fun u_1 H locs hu_1 (hG : gG D A s.heap [(h0, .inr (11, (.ref h1 :: .int 0 :: .ref h6 :: .ref h5 :: .ref h7 :: .ref h4 :: .ref h8 :: .int 0 :: .ref h9 :: .ref h10 :: .int 0 :: .ref h3 :: .ref h11 :: .ref h12 :: .int 0 :: .int (-1) :: .int 0 :: .ref h13 :: .int 0 :: .ref h14 :: .int 0 :: .int 0 :: .null :: .int 0 :: .int 0 :: .int 0 :: .int 0 :: .ref h15 :: .ref h16 :: .ref h17 :: .ref h18 :: .int 0 :: .null :: .int 0 :: .int 0 :: .int 0 :: .ref h19 :: .int 0 :: .int (-1) :: .int 0 :: .ref h20 :: .int 0 :: .ref h2 :: .ref h21 :: .int 0 :: .ref h22 :: .ref h23 :: .ref h24 :: .ref h25 :: .int 0 :: .int 0 :: .int 0 :: .ref h26 :: .int 0 :: .int 0 :: .ref h27 :: .ref h28 :: .ref h29 :: .ref h30 :: .int 0 :: .ref h31 :: .int 0 :: .ref h32 :: .int 0 :: .int 0 :: .ref h33 :: .ref h34 :: .ref h35 :: []))), (h3, .inl (cT 0, 8, .inl f2)), (h4, .inl (cT 0, 6, .inl f3)), (h5, .inl (cT 0, 6, .inl f4)), (h1, .inl (cT 0, 55, .inl f0)), (h2, .inl (cT 0, 76, .inl (u_1.2.1 0)))] H locs) => ?_)
  refine lv_aload_n X.x X.b dX12_laySide_12 rfl (lv_at hl 0 rfl) ?_
  refine gg_X12_75 X hG 0 rfl rfl dX12_laySide_13 ?_
  refine lv_bipush (v := 55) X.x X.b dX12_laySide_16 (by decide +kernel) ?_
  refine lv_iload_n X.x X.b dX12_laySide_18 rfl (lv_at hl 1 rfl) ?_
  refine b_if_eq_t (tgt := 26) X.x X.b dX12_laySide_19 (by decide) (by decide +kernel) ?_
  refine lv_iconst (v := 0) X.x X.b dX12_laySide_26 (by decide +kernel) ?_
  refine g_iast X hG 5 rfl (g_in (by decide +kernel)) (f' := (upd (u_1.2.1 0) 55 0)) rfl dX12_laySide_27 (fun H locs (hG : gG D A s.heap [(h0, .inr (11, (.ref h1 :: .int 0 :: .ref h6 :: .ref h5 :: .ref h7 :: .ref h4 :: .ref h8 :: .int 0 :: .ref h9 :: .ref h10 :: .int 0 :: .ref h3 :: .ref h11 :: .ref h12 :: .int 0 :: .int (-1) :: .int 0 :: .ref h13 :: .int 0 :: .ref h14 :: .int 0 :: .int 0 :: .null :: .int 0 :: .int 0 :: .int 0 :: .int 0 :: .ref h15 :: .ref h16 :: .ref h17 :: .ref h18 :: .int 0 :: .null :: .int 0 :: .int 0 :: .int 0 :: .ref h19 :: .int 0 :: .int (-1) :: .int 0 :: .ref h20 :: .int 0 :: .ref h2 :: .ref h21 :: .int 0 :: .ref h22 :: .ref h23 :: .ref h24 :: .ref h25 :: .int 0 :: .int 0 :: .int 0 :: .ref h26 :: .int 0 :: .int 0 :: .ref h27 :: .ref h28 :: .ref h29 :: .ref h30 :: .int 0 :: .ref h31 :: .int 0 :: .ref h32 :: .int 0 :: .int 0 :: .ref h33 :: .ref h34 :: .ref h35 :: []))), (h3, .inl (cT 0, 8, .inl f2)), (h4, .inl (cT 0, 6, .inl f3)), (h5, .inl (cT 0, 6, .inl f4)), (h1, .inl (cT 0, 55, .inl f0)), (h2, .inl (cT 0, 76, .inl (upd (u_1.2.1 0) 55 0)))] H locs) => ?_)
  refine lv_iconst (v := 0) X.x X.b dX12_laySide_28 (by decide +kernel) ?_
  refine lv_istore_n (lv' := [(2, .int 0), (0, .ref h0), (1, .int 0)]) X.x X.b dX12_laySide_29 rfl hl (Nat.le_of_ble_eq_true rfl) rfl (fun ls hl => ?_)
  have LOOP_30 : ∀ (fu k_30 : Nat) (g_2 : Nat → Int32), k_30 ≤ 6 → 6 < k_30 + fu → ∀ (H : Heap) (locs : List Loc), gG D A s.heap [(h0, .inr (11, (.ref h1 :: .int 0 :: .ref h6 :: .ref h5 :: .ref h7 :: .ref h4 :: .ref h8 :: .int 0 :: .ref h9 :: .ref h10 :: .int 0 :: .ref h3 :: .ref h11 :: .ref h12 :: .int 0 :: .int (-1) :: .int 0 :: .ref h13 :: .int 0 :: .ref h14 :: .int 0 :: .int 0 :: .null :: .int 0 :: .int 0 :: .int 0 :: .int 0 :: .ref h15 :: .ref h16 :: .ref h17 :: .ref h18 :: .int 0 :: .null :: .int 0 :: .int 0 :: .int 0 :: .ref h19 :: .int 0 :: .int (-1) :: .int 0 :: .ref h20 :: .int 0 :: .ref h2 :: .ref h21 :: .int 0 :: .ref h22 :: .ref h23 :: .ref h24 :: .ref h25 :: .int 0 :: .int 0 :: .int 0 :: .ref h26 :: .int 0 :: .int 0 :: .ref h27 :: .ref h28 :: .ref h29 :: .ref h30 :: .int 0 :: .ref h31 :: .int 0 :: .ref h32 :: .int 0 :: .int 0 :: .ref h33 :: .ref h34 :: .ref h35 :: []))), (h3, .inl (cT 0, 8, .inl f2)), (h4, .inl (cT 0, 6, .inl f3)), (h5, .inl (cT 0, 6, .inl f4)), (h1, .inl (cT 0, 55, .inl f0)), (h2, .inl (cT 0, 76, .inl g_2))] H locs → ∀ (ls : Array Slot), lv_has ls 3 [(2, .int (nI k_30)), (0, .ref h0), (1, .int 0)] → W p l e { frames := 1, cells := 0, slots := 0, locals := 23 } s m ([.ref h0, .int 0] : List Value).toArray below meth c H locs 0 0 Q9 (F0 m 30 ls []) := by
    intro fu
    induction fu with
    | zero => intro k_30 g_2 hk1 hk2; exact absurd hk2 (by omega)
    | succ fu ih_30 =>
      intro k_30 g_2 hk1_30 hk2_30 H locs hG ls hl
      refine lv_iload_n X.x X.b dX12_laySide_30 rfl (lv_at hl 0 rfl) ?_
      refine lv_bipush (v := 6) X.x X.b dX12_laySide_31 (by decide +kernel) ?_
      refine lv_icmp_ge (tgt := 72) X.x X.b dX12_laySide_33 (by decide) (fun c_3 => ?_) (fun c_3 => ?_)
      · skip
        have f_3 : 6 ≤ k_30 := (nI_leI (a := 6) (b := k_30) (by omega) (by omega)).mp c_3
        refine lv_iconst (v := 0) X.x X.b dX12_laySide_72 (by decide +kernel) ?_
        refine lv_istore_n (lv' := [(2, .int 0), (0, .ref h0), (1, .int 0)]) X.x X.b dX12_laySide_73 rfl hl (Nat.le_of_ble_eq_true rfl) rfl (fun ls hl => ?_)
        have LOOP_74 : ∀ (fu k_74 : Nat) (g_4 : Nat → Int32), k_74 ≤ 8 → 8 < k_74 + fu → ∀ (H : Heap) (locs : List Loc), gG D A s.heap [(h0, .inr (11, (.ref h1 :: .int 0 :: .ref h6 :: .ref h5 :: .ref h7 :: .ref h4 :: .ref h8 :: .int 0 :: .ref h9 :: .ref h10 :: .int 0 :: .ref h3 :: .ref h11 :: .ref h12 :: .int 0 :: .int (-1) :: .int 0 :: .ref h13 :: .int 0 :: .ref h14 :: .int 0 :: .int 0 :: .null :: .int 0 :: .int 0 :: .int 0 :: .int 0 :: .ref h15 :: .ref h16 :: .ref h17 :: .ref h18 :: .int 0 :: .null :: .int 0 :: .int 0 :: .int 0 :: .ref h19 :: .int 0 :: .int (-1) :: .int 0 :: .ref h20 :: .int 0 :: .ref h2 :: .ref h21 :: .int 0 :: .ref h22 :: .ref h23 :: .ref h24 :: .ref h25 :: .int 0 :: .int 0 :: .int 0 :: .ref h26 :: .int 0 :: .int 0 :: .ref h27 :: .ref h28 :: .ref h29 :: .ref h30 :: .int 0 :: .ref h31 :: .int 0 :: .ref h32 :: .int 0 :: .int 0 :: .ref h33 :: .ref h34 :: .ref h35 :: []))), (h3, .inl (cT 0, 8, .inl f2)), (h4, .inl (cT 0, 6, .inl f3)), (h5, .inl (cT 0, 6, .inl f4)), (h1, .inl (cT 0, 55, .inl f0)), (h2, .inl (cT 0, 76, .inl g_4))] H locs → ∀ (ls : Array Slot), lv_has ls 3 [(2, .int (nI k_74)), (0, .ref h0), (1, .int 0)] → W p l e { frames := 1, cells := 0, slots := 0, locals := 23 } s m ([.ref h0, .int 0] : List Value).toArray below meth c H locs 0 0 Q9 (F0 m 74 ls []) := by
          intro fu
          induction fu with
          | zero => intro k_74 g_4 hk1 hk2; exact absurd hk2 (by omega)
          | succ fu ih_74 =>
            intro k_74 g_4 hk1_74 hk2_74 H locs hG ls hl
            refine lv_iload_n X.x X.b dX12_laySide_74 rfl (lv_at hl 0 rfl) ?_
            refine lv_bipush (v := 8) X.x X.b dX12_laySide_75 (by decide +kernel) ?_
            refine lv_icmp_ge (tgt := 101) X.x X.b dX12_laySide_77 (by decide) (fun c_5 => ?_) (fun c_5 => ?_)
            · skip
              have f_5 : 8 ≤ k_74 := (nI_leI (a := 8) (b := k_74) (by omega) (by omega)).mp c_5
              subst hQ9
              exact g_vret X hr hlk hG (⟨fun k => ([] : List Nat).getD k 0, fun k => ([g_4] : List (Nat → Int32)).getD k (fun _ => 0), fun k => ([] : List Int32).getD k 0, fun k => ([] : List (Nat → Option Nat)).getD k (fun _ => none)⟩ : gS) trivial [0, 4, 5, 1, 2, 3] rfl rfl (Nat.le_of_ble_eq_true rfl) (Nat.le_of_ble_eq_true rfl) dX12_laySide_101
            · skip
              have f_5 : ¬ 8 ≤ k_74 := fun z => c_5 ((nI_leI (a := 8) (b := k_74) (by omega) (by omega)).mpr z)
              refine lv_aload_n X.x X.b dX12_laySide_80 rfl (lv_at hl 1 rfl) ?_
              refine gg_X12_75 X hG 0 rfl rfl dX12_laySide_81 ?_
              refine lv_bipush (v := 68) X.x X.b dX12_laySide_84 (by decide +kernel) ?_
              refine lv_iload_n X.x X.b dX12_laySide_86 rfl (lv_at hl 0 rfl) ?_
              refine lv_iadd X.x X.b dX12_laySide_87 ?_
              refine g_top (v' := (nI (68 + k_74))) (nI_add 68 _) ?_
              refine lv_aload_n X.x X.b dX12_laySide_88 rfl (lv_at hl 1 rfl) ?_
              refine gg_X12_34 X hG 0 rfl rfl dX12_laySide_89 ?_
              refine lv_iload_n X.x X.b dX12_laySide_92 rfl (lv_at hl 0 rfl) ?_
              refine g_iald X hG 1 rfl (g_inN (k := k_74) rfl (by omega) (by decide)) (v := (f2 k_74)) (by rw [nI_clamp (by omega)]) dX12_laySide_93 ?_
              refine g_iast X hG 5 rfl (g_inN (k := 68 + k_74) rfl (by omega) (by decide)) (f' := (upd g_4 (68 + k_74) (f2 k_74))) (by rw [nI_clamp (by omega)]) dX12_laySide_94 (fun H locs (hG : gG D A s.heap [(h0, .inr (11, (.ref h1 :: .int 0 :: .ref h6 :: .ref h5 :: .ref h7 :: .ref h4 :: .ref h8 :: .int 0 :: .ref h9 :: .ref h10 :: .int 0 :: .ref h3 :: .ref h11 :: .ref h12 :: .int 0 :: .int (-1) :: .int 0 :: .ref h13 :: .int 0 :: .ref h14 :: .int 0 :: .int 0 :: .null :: .int 0 :: .int 0 :: .int 0 :: .int 0 :: .ref h15 :: .ref h16 :: .ref h17 :: .ref h18 :: .int 0 :: .null :: .int 0 :: .int 0 :: .int 0 :: .ref h19 :: .int 0 :: .int (-1) :: .int 0 :: .ref h20 :: .int 0 :: .ref h2 :: .ref h21 :: .int 0 :: .ref h22 :: .ref h23 :: .ref h24 :: .ref h25 :: .int 0 :: .int 0 :: .int 0 :: .ref h26 :: .int 0 :: .int 0 :: .ref h27 :: .ref h28 :: .ref h29 :: .ref h30 :: .int 0 :: .ref h31 :: .int 0 :: .ref h32 :: .int 0 :: .int 0 :: .ref h33 :: .ref h34 :: .ref h35 :: []))), (h3, .inl (cT 0, 8, .inl f2)), (h4, .inl (cT 0, 6, .inl f3)), (h5, .inl (cT 0, 6, .inl f4)), (h1, .inl (cT 0, 55, .inl f0)), (h2, .inl (cT 0, 76, .inl (upd g_4 (68 + k_74) (f2 k_74))))] H locs) => ?_)
              refine lv_iinc (v := (nI (k_74 + 1))) (lv' := [(2, .int (nI (k_74 + 1))), (0, .ref h0), (1, .int 0)]) X.x X.b dX12_laySide_95 hl (k := 0) rfl (nI_1 _) (Nat.le_of_ble_eq_true rfl) rfl (fun ls hl => ?_)
              refine lv_goto (tgt := 74) X.x X.b dX12_laySide_98 (by decide) ?_
              exact ih_74 (k_74 + 1) ((upd g_4 (68 + k_74) (f2 k_74))) (by omega) (by omega) _ _ hG _ (lv_sub hl [0, 1, 2] rfl)
        exact LOOP_74 9 0 g_2 (by omega) (by omega) _ _ hG _ (lv_sub hl [0, 1, 2] rfl)
      · skip
        have f_3 : ¬ 6 ≤ k_30 := fun z => c_3 ((nI_leI (a := 6) (b := k_30) (by omega) (by omega)).mpr z)
        refine lv_aload_n X.x X.b dX12_laySide_36 rfl (lv_at hl 1 rfl) ?_
        refine gg_X12_75 X hG 0 rfl rfl dX12_laySide_37 ?_
        refine lv_bipush (v := 56) X.x X.b dX12_laySide_40 (by decide +kernel) ?_
        refine lv_iload_n X.x X.b dX12_laySide_42 rfl (lv_at hl 0 rfl) ?_
        refine lv_iadd X.x X.b dX12_laySide_43 ?_
        refine g_top (v' := (nI (56 + k_30))) (nI_add 56 _) ?_
        refine lv_aload_n X.x X.b dX12_laySide_44 rfl (lv_at hl 1 rfl) ?_
        refine gg_X12_22 X hG 0 rfl rfl dX12_laySide_45 ?_
        refine lv_iload_n X.x X.b dX12_laySide_48 rfl (lv_at hl 0 rfl) ?_
        refine g_iald X hG 2 rfl (g_inN (k := k_30) rfl (by omega) (by decide)) (v := (f3 k_30)) (by rw [nI_clamp (by omega)]) dX12_laySide_49 ?_
        refine g_iast X hG 5 rfl (g_inN (k := 56 + k_30) rfl (by omega) (by decide)) (f' := (upd g_2 (56 + k_30) (f3 k_30))) (by rw [nI_clamp (by omega)]) dX12_laySide_50 (fun H locs (hG : gG D A s.heap [(h0, .inr (11, (.ref h1 :: .int 0 :: .ref h6 :: .ref h5 :: .ref h7 :: .ref h4 :: .ref h8 :: .int 0 :: .ref h9 :: .ref h10 :: .int 0 :: .ref h3 :: .ref h11 :: .ref h12 :: .int 0 :: .int (-1) :: .int 0 :: .ref h13 :: .int 0 :: .ref h14 :: .int 0 :: .int 0 :: .null :: .int 0 :: .int 0 :: .int 0 :: .int 0 :: .ref h15 :: .ref h16 :: .ref h17 :: .ref h18 :: .int 0 :: .null :: .int 0 :: .int 0 :: .int 0 :: .ref h19 :: .int 0 :: .int (-1) :: .int 0 :: .ref h20 :: .int 0 :: .ref h2 :: .ref h21 :: .int 0 :: .ref h22 :: .ref h23 :: .ref h24 :: .ref h25 :: .int 0 :: .int 0 :: .int 0 :: .ref h26 :: .int 0 :: .int 0 :: .ref h27 :: .ref h28 :: .ref h29 :: .ref h30 :: .int 0 :: .ref h31 :: .int 0 :: .ref h32 :: .int 0 :: .int 0 :: .ref h33 :: .ref h34 :: .ref h35 :: []))), (h3, .inl (cT 0, 8, .inl f2)), (h4, .inl (cT 0, 6, .inl f3)), (h5, .inl (cT 0, 6, .inl f4)), (h1, .inl (cT 0, 55, .inl f0)), (h2, .inl (cT 0, 76, .inl (upd g_2 (56 + k_30) (f3 k_30))))] H locs) => ?_)
        refine lv_aload_n X.x X.b dX12_laySide_51 rfl (lv_at hl 1 rfl) ?_
        refine gg_X12_75 X hG 0 rfl rfl dX12_laySide_52 ?_
        refine lv_bipush (v := 62) X.x X.b dX12_laySide_55 (by decide +kernel) ?_
        refine lv_iload_n X.x X.b dX12_laySide_57 rfl (lv_at hl 0 rfl) ?_
        refine lv_iadd X.x X.b dX12_laySide_58 ?_
        refine g_top (v' := (nI (62 + k_30))) (nI_add 62 _) ?_
        refine lv_aload_n X.x X.b dX12_laySide_59 rfl (lv_at hl 1 rfl) ?_
        refine gg_X12_16 X hG 0 rfl rfl dX12_laySide_60 ?_
        refine lv_iload_n X.x X.b dX12_laySide_63 rfl (lv_at hl 0 rfl) ?_
        refine g_iald X hG 3 rfl (g_inN (k := k_30) rfl (by omega) (by decide)) (v := (f4 k_30)) (by rw [nI_clamp (by omega)]) dX12_laySide_64 ?_
        refine g_iast X hG 5 rfl (g_inN (k := 62 + k_30) rfl (by omega) (by decide)) (f' := (upd (upd g_2 (56 + k_30) (f3 k_30)) (62 + k_30) (f4 k_30))) (by rw [nI_clamp (by omega)]) dX12_laySide_65 (fun H locs (hG : gG D A s.heap [(h0, .inr (11, (.ref h1 :: .int 0 :: .ref h6 :: .ref h5 :: .ref h7 :: .ref h4 :: .ref h8 :: .int 0 :: .ref h9 :: .ref h10 :: .int 0 :: .ref h3 :: .ref h11 :: .ref h12 :: .int 0 :: .int (-1) :: .int 0 :: .ref h13 :: .int 0 :: .ref h14 :: .int 0 :: .int 0 :: .null :: .int 0 :: .int 0 :: .int 0 :: .int 0 :: .ref h15 :: .ref h16 :: .ref h17 :: .ref h18 :: .int 0 :: .null :: .int 0 :: .int 0 :: .int 0 :: .ref h19 :: .int 0 :: .int (-1) :: .int 0 :: .ref h20 :: .int 0 :: .ref h2 :: .ref h21 :: .int 0 :: .ref h22 :: .ref h23 :: .ref h24 :: .ref h25 :: .int 0 :: .int 0 :: .int 0 :: .ref h26 :: .int 0 :: .int 0 :: .ref h27 :: .ref h28 :: .ref h29 :: .ref h30 :: .int 0 :: .ref h31 :: .int 0 :: .ref h32 :: .int 0 :: .int 0 :: .ref h33 :: .ref h34 :: .ref h35 :: []))), (h3, .inl (cT 0, 8, .inl f2)), (h4, .inl (cT 0, 6, .inl f3)), (h5, .inl (cT 0, 6, .inl f4)), (h1, .inl (cT 0, 55, .inl f0)), (h2, .inl (cT 0, 76, .inl (upd (upd g_2 (56 + k_30) (f3 k_30)) (62 + k_30) (f4 k_30))))] H locs) => ?_)
        refine lv_iinc (v := (nI (k_30 + 1))) (lv' := [(2, .int (nI (k_30 + 1))), (0, .ref h0), (1, .int 0)]) X.x X.b dX12_laySide_66 hl (k := 0) rfl (nI_1 _) (Nat.le_of_ble_eq_true rfl) rfl (fun ls hl => ?_)
        refine lv_goto (tgt := 30) X.x X.b dX12_laySide_69 (by decide) ?_
        exact ih_30 (k_30 + 1) ((upd (upd g_2 (56 + k_30) (f3 k_30)) (62 + k_30) (f4 k_30))) (by omega) (by omega) _ _ hG _ (lv_sub hl [0, 1, 2] rfl)
  exact LOOP_30 7 0 ((upd (u_1.2.1 0) 55 0)) (by omega) (by omega) _ _ hG _ (lv_sub hl [0, 1, 2] rfl)

set_option maxHeartbeats 4000000 in
set_option maxRecDepth 100000 in
theorem k127_tell (l : Launch) (D : va_G) (cT : Nat → ClassId) (h0 h1 h2 h3 h4 h5 h6 h7 h8 h9 h10 h11 h12 h13 h14 h15 h16 h17 h18 h19 h20 h21 h22 h23 h24 h25 h26 h27 h28 h29 h30 h31 h32 h33 h34 h35 : Nat) (f0 : Nat → Int32) : gMet l D cT yX12_tell cX12_tell 2 none 0 0 0 0 [.ref h0, .int 1] [(h0, .inr (11, (.ref h2 :: .int 0 :: .ref h3 :: .ref h4 :: .ref h5 :: .ref h6 :: .ref h7 :: .int 0 :: .ref h8 :: .ref h9 :: .int 0 :: .ref h10 :: .ref h11 :: .ref h12 :: .int 0 :: .int (-1) :: .int 0 :: .ref h13 :: .int 0 :: .ref h1 :: .int 0 :: .int 0 :: .null :: .int 0 :: .int 0 :: .int 0 :: .int 0 :: .ref h14 :: .ref h15 :: .ref h16 :: .ref h17 :: .int 0 :: .null :: .int 0 :: .int 0 :: .int 0 :: .ref h18 :: .int 0 :: .int (-1) :: .int 0 :: .ref h19 :: .int 0 :: .ref h20 :: .ref h21 :: .int 0 :: .ref h22 :: .ref h23 :: .ref h24 :: .ref h25 :: .int 0 :: .int 0 :: .int 0 :: .ref h26 :: .int 0 :: .int 0 :: .ref h27 :: .ref h28 :: .ref h29 :: .ref h30 :: .int 0 :: .ref h31 :: .int 0 :: .ref h32 :: .int 0 :: .int 0 :: .ref h33 :: .ref h34 :: .ref h35 :: []))), (h1, .inl (cT 0, 16, .inl f0))] gE0 (gQv D cT (fun _ : gS => True) (fun u : gS => [(h0, .inr (11, (.ref h2 :: .int 0 :: .ref h3 :: .ref h4 :: .ref h5 :: .ref h6 :: .ref h7 :: .int 0 :: .ref h8 :: .ref h9 :: .int 0 :: .ref h10 :: .ref h11 :: .ref h12 :: .int 0 :: .int (-1) :: .int 0 :: .ref h13 :: .int 0 :: .ref h1 :: .int 1 :: .int 0 :: .null :: .int 0 :: .int 0 :: .int 0 :: .int 0 :: .ref h14 :: .ref h15 :: .ref h16 :: .ref h17 :: .int 0 :: .null :: .int 0 :: .int 0 :: .int 0 :: .ref h18 :: .int 0 :: .int (-1) :: .int 0 :: .ref h19 :: .int 0 :: .ref h20 :: .ref h21 :: .int 0 :: .ref h22 :: .ref h23 :: .ref h24 :: .ref h25 :: .int 0 :: .int 0 :: .int 0 :: .ref h26 :: .int 0 :: .int 0 :: .ref h27 :: .ref h28 :: .ref h29 :: .ref h30 :: .int 0 :: .ref h31 :: .int 0 :: .ref h32 :: .int 0 :: .int 0 :: .ref h33 :: .ref h34 :: .ref h35 :: []))), (h1, .inl (cT 0, 16, .inl (u.2.1 0)))])) := by
  refine gMet.of "StorksLetModel" rfl (by decide +kernel) (Nat.le_of_ble_eq_true rfl) [(0, .ref h0), (1, .int 1)] rfl ?_
  intro p e s m below meth c A ls X hr hlk hnm hA hG hE hl
  refine lv_aload_n X.x X.b dX12_tell_0 rfl (lv_at hl 0 rfl) ?_
  refine gg_X12_51 X hG 0 rfl rfl dX12_tell_1 ?_
  refine lv_aload_n X.x X.b dX12_tell_4 rfl (lv_at hl 0 rfl) ?_
  refine gg_X12_127 X hG 0 rfl rfl dX12_tell_5 ?_
  refine lv_iload_n X.x X.b dX12_tell_8 rfl (lv_at hl 1 rfl) ?_
  refine g_iast X hG 1 rfl (g_in (by decide +kernel)) (f' := (upd f0 0 1)) rfl dX12_tell_9 (fun H locs (hG : gG D A s.heap [(h0, .inr (11, (.ref h2 :: .int 0 :: .ref h3 :: .ref h4 :: .ref h5 :: .ref h6 :: .ref h7 :: .int 0 :: .ref h8 :: .ref h9 :: .int 0 :: .ref h10 :: .ref h11 :: .ref h12 :: .int 0 :: .int (-1) :: .int 0 :: .ref h13 :: .int 0 :: .ref h1 :: .int 0 :: .int 0 :: .null :: .int 0 :: .int 0 :: .int 0 :: .int 0 :: .ref h14 :: .ref h15 :: .ref h16 :: .ref h17 :: .int 0 :: .null :: .int 0 :: .int 0 :: .int 0 :: .ref h18 :: .int 0 :: .int (-1) :: .int 0 :: .ref h19 :: .int 0 :: .ref h20 :: .ref h21 :: .int 0 :: .ref h22 :: .ref h23 :: .ref h24 :: .ref h25 :: .int 0 :: .int 0 :: .int 0 :: .ref h26 :: .int 0 :: .int 0 :: .ref h27 :: .ref h28 :: .ref h29 :: .ref h30 :: .int 0 :: .ref h31 :: .int 0 :: .ref h32 :: .int 0 :: .int 0 :: .ref h33 :: .ref h34 :: .ref h35 :: []))), (h1, .inl (cT 0, 16, .inl (upd f0 0 1)))] H locs) => ?_)
  refine lv_aload_n X.x X.b dX12_tell_10 rfl (lv_at hl 0 rfl) ?_
  refine lv_dup X.x X.b dX12_tell_11 rfl ?_
  refine gg_X12_127 X hG 0 rfl rfl dX12_tell_12 ?_
  refine lv_iconst (v := 1) X.x X.b dX12_tell_15 (by decide +kernel) ?_
  refine lv_iadd X.x X.b dX12_tell_16 ?_
  refine g_top (v' := 1) (by decide +kernel) ?_
  refine gp_X12_127 X hG 0 rfl rfl rfl (Nat.le_of_ble_eq_true rfl) dX12_tell_17 (fun H locs (hG : gG D A s.heap [(h0, .inr (11, (.ref h2 :: .int 0 :: .ref h3 :: .ref h4 :: .ref h5 :: .ref h6 :: .ref h7 :: .int 0 :: .ref h8 :: .ref h9 :: .int 0 :: .ref h10 :: .ref h11 :: .ref h12 :: .int 0 :: .int (-1) :: .int 0 :: .ref h13 :: .int 0 :: .ref h1 :: .int 1 :: .int 0 :: .null :: .int 0 :: .int 0 :: .int 0 :: .int 0 :: .ref h14 :: .ref h15 :: .ref h16 :: .ref h17 :: .int 0 :: .null :: .int 0 :: .int 0 :: .int 0 :: .ref h18 :: .int 0 :: .int (-1) :: .int 0 :: .ref h19 :: .int 0 :: .ref h20 :: .ref h21 :: .int 0 :: .ref h22 :: .ref h23 :: .ref h24 :: .ref h25 :: .int 0 :: .int 0 :: .int 0 :: .ref h26 :: .int 0 :: .int 0 :: .ref h27 :: .ref h28 :: .ref h29 :: .ref h30 :: .int 0 :: .ref h31 :: .int 0 :: .ref h32 :: .int 0 :: .int 0 :: .ref h33 :: .ref h34 :: .ref h35 :: []))), (h1, .inl (cT 0, 16, .inl (upd f0 0 1)))] H locs) => ?_)
  exact g_vret X hr hlk hG (⟨fun k => ([] : List Nat).getD k 0, fun k => ([(upd f0 0 1)] : List (Nat → Int32)).getD k (fun _ => 0), fun k => ([] : List Int32).getD k 0, fun k => ([] : List (Nat → Option Nat)).getD k (fun _ => none)⟩ : gS) trivial [0, 1] rfl rfl (Nat.le_of_ble_eq_true rfl) (Nat.le_of_ble_eq_true rfl) dX12_tell_20
set_option maxHeartbeats 4000000 in
set_option maxRecDepth 100000 in
theorem k128_absent (l : Launch) (D : va_G) (cT : Nat → ClassId) (h0 h1 h2 h3 h4 h5 h6 h7 h8 h9 h10 h11 h12 h13 h14 h15 h16 h17 h18 h19 h20 h21 h22 h23 h24 h25 h26 h27 h28 h29 h30 h31 h32 h33 h34 h35 : Nat) (f0 : Nat → Int32) (f1 : Nat → Int32) (f2 : Nat → Int32) : gMet l D cT yX12_absent cX12_absent 3 (some .int) 3 67 0 0 [.ref h0] [(h0, .inr (11, (.ref h1 :: .int 0 :: .ref h4 :: .ref h5 :: .ref h6 :: .ref h7 :: .ref h8 :: .int 0 :: .ref h9 :: .ref h10 :: .int 0 :: .ref h11 :: .ref h12 :: .ref h13 :: .int 0 :: .int (-1) :: .int 0 :: .ref h14 :: .int 0 :: .ref h3 :: .int 0 :: .int 0 :: .null :: .int 0 :: .int 0 :: .int 0 :: .int 0 :: .ref h15 :: .ref h16 :: .ref h17 :: .ref h18 :: .int 0 :: .null :: .int 0 :: .int 0 :: .int 0 :: .ref h19 :: .int 0 :: .int (-1) :: .int 0 :: .ref h20 :: .int 0 :: .ref h21 :: .ref h22 :: .int 0 :: .ref h2 :: .ref h23 :: .ref h24 :: .ref h25 :: .int 0 :: .int 0 :: .int 0 :: .ref h26 :: .int 0 :: .int 0 :: .ref h27 :: .ref h28 :: .ref h29 :: .ref h30 :: .int 0 :: .ref h31 :: .int 0 :: .ref h32 :: .int 0 :: .int 0 :: .ref h33 :: .ref h34 :: .ref h35 :: []))), (h1, .inl (cT 0, 55, .inl f0)), (h2, .inl (cT 0, 55, .inl f1)), (h3, .inl (cT 0, 16, .inl f2))] gE0 (gQi D cT (fun (r : Int32) (u : gS) => r = 0) (fun u : gS => [(h0, .inr (11, (.ref h1 :: .int 0 :: .ref h4 :: .ref h5 :: .ref h6 :: .ref h7 :: .ref h8 :: .int 0 :: .ref h9 :: .ref h10 :: .int 0 :: .ref h11 :: .ref h12 :: .ref h13 :: .int 0 :: .int (-1) :: .int 0 :: .ref h14 :: .int 0 :: .ref h3 :: .int 1 :: .int 0 :: .null :: .int 0 :: .int 0 :: .int 0 :: .int 0 :: .ref h15 :: .ref h16 :: .ref h17 :: .ref h18 :: .int 0 :: .null :: .int 0 :: .int 0 :: .int 0 :: .ref h19 :: .int 0 :: .int (-1) :: .int 0 :: .ref h20 :: .int 0 :: .ref h21 :: .ref h22 :: .int 0 :: .ref h2 :: .ref h23 :: .ref h24 :: .ref h25 :: .int 0 :: .int 0 :: .int 0 :: .ref h26 :: .int 0 :: .int 0 :: .ref h27 :: .ref h28 :: .ref h29 :: .ref h30 :: .int 0 :: .ref h31 :: .int 0 :: .ref h32 :: .int 0 :: .int 0 :: .ref h33 :: .ref h34 :: .ref h35 :: []))), (h1, .inl (cT 0, 55, .inl f0)), (h2, .inl (cT 0, 55, .inl (u.2.1 0))), (h3, .inl (cT 0, 16, .inl (u.2.1 1)))])) := by
  refine gMet.of "StorksLetModel" rfl (by decide +kernel) (Nat.le_of_ble_eq_true rfl) [(0, .ref h0)] rfl ?_
  intro p e s m below meth c A ls X hr hlk hnm hA hG hE hl
  refine lv_aload_n X.x X.b dX12_absent_0 rfl (lv_at hl 0 rfl) ?_
  refine lv_iconst (v := 0) X.x X.b dX12_absent_1 (by decide +kernel) ?_
  refine gp_X12_124 X hG 0 rfl rfl rfl (Nat.le_of_ble_eq_true rfl) dX12_absent_2 (fun H locs (hG : gG D A s.heap [(h0, .inr (11, (.ref h1 :: .int 0 :: .ref h4 :: .ref h5 :: .ref h6 :: .ref h7 :: .ref h8 :: .int 0 :: .ref h9 :: .ref h10 :: .int 0 :: .ref h11 :: .ref h12 :: .ref h13 :: .int 0 :: .int (-1) :: .int 0 :: .ref h14 :: .int 0 :: .ref h3 :: .int 0 :: .int 0 :: .null :: .int 0 :: .int 0 :: .int 0 :: .int 0 :: .ref h15 :: .ref h16 :: .ref h17 :: .ref h18 :: .int 0 :: .null :: .int 0 :: .int 0 :: .int 0 :: .ref h19 :: .int 0 :: .int (-1) :: .int 0 :: .ref h20 :: .int 0 :: .ref h21 :: .ref h22 :: .int 0 :: .ref h2 :: .ref h23 :: .ref h24 :: .ref h25 :: .int 0 :: .int 0 :: .int 0 :: .ref h26 :: .int 0 :: .int 0 :: .ref h27 :: .ref h28 :: .ref h29 :: .ref h30 :: .int 0 :: .ref h31 :: .int 0 :: .ref h32 :: .int 0 :: .int 0 :: .ref h33 :: .ref h34 :: .ref h35 :: []))), (h1, .inl (cT 0, 55, .inl f0)), (h2, .inl (cT 0, 55, .inl f1)), (h3, .inl (cT 0, 16, .inl f2))] H locs) => ?_)
  refine lv_iconst (v := 0) X.x X.b dX12_absent_5 (by decide +kernel) ?_
  refine lv_istore_n (lv' := [(1, .int 0), (0, .ref h0)]) X.x X.b dX12_absent_6 rfl hl (Nat.le_of_ble_eq_true rfl) rfl (fun ls hl => ?_)
  refine lv_iconst (v := 0) X.x X.b dX12_absent_7 (by decide +kernel) ?_
  refine lv_istore_n (lv' := [(2, .int 0), (1, .int 0), (0, .ref h0)]) X.x X.b dX12_absent_8 rfl hl (Nat.le_of_ble_eq_true rfl) rfl (fun ls hl => ?_)
  refine lv_iload_n X.x X.b dX12_absent_9 rfl (lv_at hl 0 rfl) ?_
  refine lv_aload_n X.x X.b dX12_absent_10 rfl (lv_at hl 2 rfl) ?_
  refine gg_X12_137 X hG 0 rfl rfl dX12_absent_11 ?_
  refine b_icmp_ge_t (tgt := 47) X.x X.b dX12_absent_14 (by decide) (by decide +kernel) ?_
  refine lv_aload_n X.x X.b dX12_absent_47 rfl (lv_at hl 2 rfl) ?_
  refine lv_iconst (v := 0) X.x X.b dX12_absent_48 (by decide +kernel) ?_
  refine gp_X12_281 X hG 0 rfl rfl rfl (Nat.le_of_ble_eq_true rfl) dX12_absent_49 (fun H locs (hG : gG D A s.heap [(h0, .inr (11, (.ref h1 :: .int 0 :: .ref h4 :: .ref h5 :: .ref h6 :: .ref h7 :: .ref h8 :: .int 0 :: .ref h9 :: .ref h10 :: .int 0 :: .ref h11 :: .ref h12 :: .ref h13 :: .int 0 :: .int (-1) :: .int 0 :: .ref h14 :: .int 0 :: .ref h3 :: .int 0 :: .int 0 :: .null :: .int 0 :: .int 0 :: .int 0 :: .int 0 :: .ref h15 :: .ref h16 :: .ref h17 :: .ref h18 :: .int 0 :: .null :: .int 0 :: .int 0 :: .int 0 :: .ref h19 :: .int 0 :: .int (-1) :: .int 0 :: .ref h20 :: .int 0 :: .ref h21 :: .ref h22 :: .int 0 :: .ref h2 :: .ref h23 :: .ref h24 :: .ref h25 :: .int 0 :: .int 0 :: .int 0 :: .ref h26 :: .int 0 :: .int 0 :: .ref h27 :: .ref h28 :: .ref h29 :: .ref h30 :: .int 0 :: .ref h31 :: .int 0 :: .ref h32 :: .int 0 :: .int 0 :: .ref h33 :: .ref h34 :: .ref h35 :: []))), (h1, .inl (cT 0, 55, .inl f0)), (h2, .inl (cT 0, 55, .inl f1)), (h3, .inl (cT 0, 16, .inl f2))] H locs) => ?_)
  refine lv_aload_n X.x X.b dX12_absent_52 rfl (lv_at hl 2 rfl) ?_
  refine lv_iconst (v := 0) X.x X.b dX12_absent_53 (by decide +kernel) ?_
  refine gp_X12_127 X hG 0 rfl rfl rfl (Nat.le_of_ble_eq_true rfl) dX12_absent_54 (fun H locs (hG : gG D A s.heap [(h0, .inr (11, (.ref h1 :: .int 0 :: .ref h4 :: .ref h5 :: .ref h6 :: .ref h7 :: .ref h8 :: .int 0 :: .ref h9 :: .ref h10 :: .int 0 :: .ref h11 :: .ref h12 :: .ref h13 :: .int 0 :: .int (-1) :: .int 0 :: .ref h14 :: .int 0 :: .ref h3 :: .int 0 :: .int 0 :: .null :: .int 0 :: .int 0 :: .int 0 :: .int 0 :: .ref h15 :: .ref h16 :: .ref h17 :: .ref h18 :: .int 0 :: .null :: .int 0 :: .int 0 :: .int 0 :: .ref h19 :: .int 0 :: .int (-1) :: .int 0 :: .ref h20 :: .int 0 :: .ref h21 :: .ref h22 :: .int 0 :: .ref h2 :: .ref h23 :: .ref h24 :: .ref h25 :: .int 0 :: .int 0 :: .int 0 :: .ref h26 :: .int 0 :: .int 0 :: .ref h27 :: .ref h28 :: .ref h29 :: .ref h30 :: .int 0 :: .ref h31 :: .int 0 :: .ref h32 :: .int 0 :: .int 0 :: .ref h33 :: .ref h34 :: .ref h35 :: []))), (h1, .inl (cT 0, 55, .inl f0)), (h2, .inl (cT 0, 55, .inl f1)), (h3, .inl (cT 0, 16, .inl f2))] H locs) => ?_)
  refine lv_aload_n X.x X.b dX12_absent_57 rfl (lv_at hl 2 rfl) ?_
  refine lv_aload_n X.x X.b dX12_absent_58 rfl (lv_at hl 2 rfl) ?_
  refine g_ki (g_rV (As := []) (rest := [.ref h0]) X hl hG (k126_isSo l D cT h0 h1 h2 h4 h5 h6 h7 h8 h9 h10 h11 h12 h13 h14 h3 h15 h16 h17 h18 h19 h20 h21 h22 h23 h24 h25 h26 h27 h28 h29 h30 h31 h32 h33 h34 h35 f0 f1) gw_X12_423 g_E01 g_E02 [0, 1, 2] rfl rfl 0 rfl rfl rfl rfl rfl (Nat.le_of_ble_eq_true rfl) ⟨(Nat.le_of_ble_eq_true rfl), (Nat.le_of_ble_eq_true rfl)⟩ ⟨(Nat.le_of_ble_eq_true rfl), (Nat.le_of_ble_eq_true rfl)⟩ dX12_absent_59) hG hA [0, 1, 2] [3] rfl rfl rfl rfl (c1 := 0) (s1 := 0) rfl rfl (fun r_1 u_1 H locs (hu : r_1 = 1) (hG : gG D A s.heap [(h3, .inl (cT 0, 16, .inl f2)), (h0, .inr (11, (.ref h1 :: .int 0 :: .ref h4 :: .ref h5 :: .ref h6 :: .ref h7 :: .ref h8 :: .int 0 :: .ref h9 :: .ref h10 :: .int 0 :: .ref h11 :: .ref h12 :: .ref h13 :: .int 0 :: .int (-1) :: .int 0 :: .ref h14 :: .int 0 :: .ref h3 :: .int 0 :: .int 0 :: .null :: .int 0 :: .int 0 :: .int 0 :: .int 0 :: .ref h15 :: .ref h16 :: .ref h17 :: .ref h18 :: .int 0 :: .null :: .int 0 :: .int 0 :: .int 0 :: .ref h19 :: .int 0 :: .int (-1) :: .int 0 :: .ref h20 :: .int 0 :: .ref h21 :: .ref h22 :: .int 0 :: .ref h2 :: .ref h23 :: .ref h24 :: .ref h25 :: .int 0 :: .int 0 :: .int 0 :: .ref h26 :: .int 0 :: .int 0 :: .ref h27 :: .ref h28 :: .ref h29 :: .ref h30 :: .int 0 :: .ref h31 :: .int 0 :: .ref h32 :: .int 0 :: .int 0 :: .ref h33 :: .ref h34 :: .ref h35 :: []))), (h1, .inl (cT 0, 55, .inl f0)), (h2, .inl (cT 0, 55, .inl (u_1.2.1 0)))] H locs) => ?_)
  have hu := hu.symm
  subst hu
  refine b_if_eq_f (tgt := 69) X.x X.b dX12_absent_62 (by decide) (by decide +kernel) ?_
  refine lv_iconst (v := 1) X.x X.b dX12_absent_65 (by decide +kernel) ?_
  refine lv_goto (tgt := 70) X.x X.b dX12_absent_66 (by decide) ?_
  refine g_kv (g_rV (As := [.int 1]) (rest := []) X hl hG (k127_tell l D cT h0 h3 h1 h4 h5 h6 h7 h8 h9 h10 h11 h12 h13 h14 h15 h16 h17 h18 h19 h20 h21 h22 h2 h23 h24 h25 h26 h27 h28 h29 h30 h31 h32 h33 h34 h35 f2) gw_X12_324 g_E01 g_E02 [1, 0] rfl rfl 1 rfl rfl rfl rfl rfl (Nat.le_of_ble_eq_true rfl) ⟨(Nat.le_of_ble_eq_true rfl), (Nat.le_of_ble_eq_true rfl)⟩ ⟨(Nat.le_of_ble_eq_true rfl), (Nat.le_of_ble_eq_true rfl)⟩ dX12_absent_70) hG hA [1, 0] [2, 3] rfl rfl rfl rfl (c1 := 0) (s1 := 0) rfl rfl (fun u_2 H locs hu_2 (hG : gG D A s.heap [(h1, .inl (cT 0, 55, .inl f0)), (h2, .inl (cT 0, 55, .inl (u_1.2.1 0))), (h0, .inr (11, (.ref h1 :: .int 0 :: .ref h4 :: .ref h5 :: .ref h6 :: .ref h7 :: .ref h8 :: .int 0 :: .ref h9 :: .ref h10 :: .int 0 :: .ref h11 :: .ref h12 :: .ref h13 :: .int 0 :: .int (-1) :: .int 0 :: .ref h14 :: .int 0 :: .ref h3 :: .int 1 :: .int 0 :: .null :: .int 0 :: .int 0 :: .int 0 :: .int 0 :: .ref h15 :: .ref h16 :: .ref h17 :: .ref h18 :: .int 0 :: .null :: .int 0 :: .int 0 :: .int 0 :: .ref h19 :: .int 0 :: .int (-1) :: .int 0 :: .ref h20 :: .int 0 :: .ref h21 :: .ref h22 :: .int 0 :: .ref h2 :: .ref h23 :: .ref h24 :: .ref h25 :: .int 0 :: .int 0 :: .int 0 :: .ref h26 :: .int 0 :: .int 0 :: .ref h27 :: .ref h28 :: .ref h29 :: .ref h30 :: .int 0 :: .ref h31 :: .int 0 :: .ref h32 :: .int 0 :: .int 0 :: .ref h33 :: .ref h34 :: .ref h35 :: []))), (h3, .inl (cT 0, 16, .inl (u_2.2.1 0)))] H locs) => ?_)
  refine lv_iload_n X.x X.b dX12_absent_73 rfl (lv_at hl 1 rfl) ?_
  exact g_iret X hr hlk hG rfl (⟨fun k => ([] : List Nat).getD k 0, fun k => ([(u_1.2.1 0), (u_2.2.1 0)] : List (Nat → Int32)).getD k (fun _ => 0), fun k => ([] : List Int32).getD k 0, fun k => ([] : List (Nat → Option Nat)).getD k (fun _ => none)⟩ : gS) rfl [2, 0, 1, 3] rfl rfl (Nat.le_of_ble_eq_true rfl) (Nat.le_of_ble_eq_true rfl) dX12_absent_74
set_option maxHeartbeats 4000000 in
set_option maxRecDepth 100000 in
theorem k129_isRoof (l : Launch) (D : va_G) (cT : Nat → ClassId) (h0 h1 h2 h3 h4 h5 h6 h7 h8 h9 h10 h11 h12 h13 h14 : Nat) (x0 : Int32) : gMet l D cT yX8_isRoof cX8_isRoof 2 (some .boolean) 0 0 0 0 [.ref h0, .int x0] [(h0, .inr (7, [.int 0, .int 0, .int 0, .int 0, .ref h1, .ref h2, .ref h3, .ref h4, .ref h5, .ref h6, .ref h7, .ref h8, .ref h9, .ref h10, .ref h11, .ref h12, .ref h13, .int 0, .ref h14]))] gE0 (gQi D cT (fun (r : Int32) (u : gS) => r = 0) (fun u : gS => [(h0, .inr (7, [.int 0, .int 0, .int 0, .int 0, .ref h1, .ref h2, .ref h3, .ref h4, .ref h5, .ref h6, .ref h7, .ref h8, .ref h9, .ref h10, .ref h11, .ref h12, .ref h13, .int 0, .ref h14]))])) := by
  refine gMet.of "StorksLet$Town" rfl (by decide +kernel) (Nat.le_of_ble_eq_true rfl) [(0, .ref h0), (1, .int x0)] rfl ?_
  intro p e s m below meth c A ls X hr hlk hnm hA hG hE hl
  refine lv_iload_n X.x X.b dX8_isRoof_0 rfl (lv_at hl 1 rfl) ?_
  refine lv_if_lt (tgt := 16) X.x X.b dX8_isRoof_1 (by decide) (fun c_1 => ?_) (fun c_1 => ?_)
  · skip
    have f_1 : x0 < 0 := c_1
    simp only [Int32.lt_iff_toInt_lt, Int32.le_iff_toInt_le, ← Int32.toInt_inj, Int32.not_lt, Int32.not_le, show (0 : Int32).toInt = 0 from by decide +kernel] at f_1
    refine lv_iconst (v := 0) X.x X.b dX8_isRoof_16 (by decide +kernel) ?_
    exact g_iret X hr hlk hG rfl gS0 rfl [0] rfl rfl (Nat.le_of_ble_eq_true rfl) (Nat.le_of_ble_eq_true rfl) dX8_isRoof_17
  · skip
    have f_1 : ¬ x0 < 0 := c_1
    simp only [Int32.lt_iff_toInt_lt, Int32.le_iff_toInt_le, ← Int32.toInt_inj, Int32.not_lt, Int32.not_le, show (0 : Int32).toInt = 0 from by decide +kernel] at f_1
    refine lv_iload_n X.x X.b dX8_isRoof_4 rfl (lv_at hl 1 rfl) ?_
    refine lv_aload_n X.x X.b dX8_isRoof_5 rfl (lv_at hl 0 rfl) ?_
    refine gg_X8_15 X hG 0 rfl rfl dX8_isRoof_6 ?_
    refine b_icmp_ge_t (tgt := 16) X.x X.b dX8_isRoof_9 (by decide) (by simp only [Int32.lt_iff_toInt_lt, Int32.le_iff_toInt_le, ← Int32.toInt_inj, show (0 : Int32).toInt = 0 from by decide +kernel]; omega) ?_
    refine lv_iconst (v := 0) X.x X.b dX8_isRoof_16 (by decide +kernel) ?_
    exact g_iret X hr hlk hG rfl gS0 rfl [0] rfl rfl (Nat.le_of_ble_eq_true rfl) (Nat.le_of_ble_eq_true rfl) dX8_isRoof_17
set_option maxHeartbeats 4000000 in
set_option maxRecDepth 100000 in
theorem k130_build (l : Launch) (D : va_G) (cT : Nat → ClassId) (h0 h1 h2 h3 h4 h5 h6 h7 h8 h9 h10 h11 h12 h13 h14 h15 h16 h17 h18 h19 h20 h21 h22 h23 h24 h25 h26 h27 h28 h29 : Nat) (x0 x1 x2 : Int32) : gMet l D cT yX11_build cX11_build 5 (some .int) 1 21 0 0 [.ref h0, .int x0, .int x1, .int x2] [(h0, .inr (10, [.ref h2, .ref h3, .ref h1, .ref h4, .ref h5, .ref h6, .ref h7, .ref h8, .ref h9, .ref h10, .ref h11, .ref h12, .ref h13, .null, .ref h14, .ref h15])), (h1, .inr (7, [.int 0, .int 0, .int 0, .int 0, .ref h16, .ref h17, .ref h18, .ref h19, .ref h20, .ref h21, .ref h22, .ref h23, .ref h24, .ref h25, .ref h26, .ref h27, .ref h28, .int 0, .ref h29]))] gE0 (gQi D cT (fun (r : Int32) (u : gS) => r = (-1)) (fun u : gS => [(h0, .inr (10, [.ref h2, .ref h3, .ref h1, .ref h4, .ref h5, .ref h6, .ref h7, .ref h8, .ref h9, .ref h10, .ref h11, .ref h12, .ref h13, .null, .ref h14, .ref h15])), (h1, .inr (7, [.int 0, .int 0, .int 0, .int 0, .ref h16, .ref h17, .ref h18, .ref h19, .ref h20, .ref h21, .ref h22, .ref h23, .ref h24, .ref h25, .ref h26, .ref h27, .ref h28, .int 0, .ref h29]))])) := by
  refine gMet.of "StorksLet" rfl (by decide +kernel) (Nat.le_of_ble_eq_true rfl) [(0, .ref h0), (1, .int x0), (2, .int x1), (3, .int x2)] rfl ?_
  intro p e s m below meth c A ls X hr hlk hnm hA hG hE hl
  refine lv_aload_n X.x X.b dX11_build_0 rfl (lv_at hl 0 rfl) ?_
  refine gg_X11_26 X hG 0 rfl rfl dX11_build_1 ?_
  refine lv_iload_n X.x X.b dX11_build_4 rfl (lv_at hl 1 rfl) ?_
  refine g_ki (g_rV (As := [.int x0]) (rest := []) X hl hG (k129_isRoof l D cT h1 h16 h17 h18 h19 h20 h21 h22 h23 h24 h25 h26 h27 h28 h29 x0) gw_X11_152 g_E01 g_E02 [1] rfl rfl 1 rfl rfl rfl rfl rfl (Nat.le_of_ble_eq_true rfl) ⟨(Nat.le_of_ble_eq_true rfl), (Nat.le_of_ble_eq_true rfl)⟩ ⟨(Nat.le_of_ble_eq_true rfl), (Nat.le_of_ble_eq_true rfl)⟩ dX11_build_5) hG hA [1] [0] rfl rfl rfl rfl (c1 := 0) (s1 := 0) rfl rfl (fun r_1 u_1 H locs (hu : r_1 = 0) (hG : gG D A s.heap [(h0, .inr (10, [.ref h2, .ref h3, .ref h1, .ref h4, .ref h5, .ref h6, .ref h7, .ref h8, .ref h9, .ref h10, .ref h11, .ref h12, .ref h13, .null, .ref h14, .ref h15])), (h1, .inr (7, [.int 0, .int 0, .int 0, .int 0, .ref h16, .ref h17, .ref h18, .ref h19, .ref h20, .ref h21, .ref h22, .ref h23, .ref h24, .ref h25, .ref h26, .ref h27, .ref h28, .int 0, .ref h29]))] H locs) => ?_)
  have hu := hu.symm
  subst hu
  refine b_if_eq_t (tgt := 32) X.x X.b dX11_build_8 (by decide) (by decide +kernel) ?_
  refine lv_iconst (v := (-1)) X.x X.b dX11_build_32 (by decide +kernel) ?_
  exact g_iret X hr hlk hG rfl gS0 rfl [0, 1] rfl rfl (Nat.le_of_ble_eq_true rfl) (Nat.le_of_ble_eq_true rfl) dX11_build_33
set_option maxHeartbeats 4000000 in
set_option maxRecDepth 100000 in
theorem k131_in (l : Launch) (D : va_G) (cT : Nat → ClassId) (x0 : Int32) : gMet l D cT yX12_in cX12_in 3 (some .boolean) 0 0 0 0 [.int x0, .int 0, .int (-1)] [] gE0 (gQi D cT (fun (r : Int32) (u : gS) => r = 0) (fun u : gS => [])) := by
  refine gMet.of "StorksLetModel" rfl (by decide +kernel) (Nat.le_of_ble_eq_true rfl) [(0, .int x0), (1, .int 0), (2, .int (-1))] rfl ?_
  intro p e s m below meth c A ls X hr hlk hnm hA hG hE hl
  refine lv_iload_n X.x X.b dX12_in_0 rfl (lv_at hl 0 rfl) ?_
  refine lv_iload_n X.x X.b dX12_in_1 rfl (lv_at hl 1 rfl) ?_
  refine lv_icmp_lt (tgt := 14) X.x X.b dX12_in_2 (by decide) (fun c_1 => ?_) (fun c_1 => ?_)
  · skip
    have f_1 : x0 < 0 := c_1
    simp only [Int32.lt_iff_toInt_lt, Int32.le_iff_toInt_le, ← Int32.toInt_inj, Int32.not_lt, Int32.not_le, show (0 : Int32).toInt = 0 from by decide +kernel] at f_1
    refine lv_iconst (v := 0) X.x X.b dX12_in_14 (by decide +kernel) ?_
    exact g_iret X hr hlk hG rfl gS0 rfl [] rfl rfl (Nat.le_of_ble_eq_true rfl) (Nat.le_of_ble_eq_true rfl) dX12_in_15
  · skip
    have f_1 : ¬ x0 < 0 := c_1
    simp only [Int32.lt_iff_toInt_lt, Int32.le_iff_toInt_le, ← Int32.toInt_inj, Int32.not_lt, Int32.not_le, show (0 : Int32).toInt = 0 from by decide +kernel] at f_1
    refine lv_iload_n X.x X.b dX12_in_5 rfl (lv_at hl 0 rfl) ?_
    refine lv_iload_n X.x X.b dX12_in_6 rfl (lv_at hl 2 rfl) ?_
    refine b_icmp_gt_t (tgt := 14) X.x X.b dX12_in_7 (by decide) (by simp only [Int32.lt_iff_toInt_lt, Int32.le_iff_toInt_le, ← Int32.toInt_inj, show ((-1) : Int32).toInt = (-1) from by decide +kernel]; omega) ?_
    refine lv_iconst (v := 0) X.x X.b dX12_in_14 (by decide +kernel) ?_
    exact g_iret X hr hlk hG rfl gS0 rfl [] rfl rfl (Nat.le_of_ble_eq_true rfl) (Nat.le_of_ble_eq_true rfl) dX12_in_15
set_option maxHeartbeats 4000000 in
set_option maxRecDepth 100000 in
theorem k132_isRoof (l : Launch) (D : va_G) (cT : Nat → ClassId) (h0 h1 h2 h3 h4 h5 h6 h7 h8 h9 h10 h11 h12 h13 h14 h15 h16 h17 h18 h19 h20 h21 h22 h23 h24 h25 h26 h27 h28 h29 h30 h31 h32 h33 h34 h35 : Nat) (x0 : Int32) : gMet l D cT yX12_isRoof cX12_isRoof 2 (some .boolean) 1 22 0 0 [.ref h0, .int x0] [(h0, .inr (11, (.ref h1 :: .int 0 :: .ref h2 :: .ref h3 :: .ref h4 :: .ref h5 :: .ref h6 :: .int 0 :: .ref h7 :: .ref h8 :: .int 0 :: .ref h9 :: .ref h10 :: .ref h11 :: .int 0 :: .int (-1) :: .int 0 :: .ref h12 :: .int 0 :: .ref h13 :: .int 0 :: .int 0 :: .null :: .int 0 :: .int 0 :: .int 0 :: .int 0 :: .ref h14 :: .ref h15 :: .ref h16 :: .ref h17 :: .int 0 :: .null :: .int 0 :: .int 0 :: .int 0 :: .ref h18 :: .int 0 :: .int (-1) :: .int 0 :: .ref h19 :: .int 0 :: .ref h20 :: .ref h21 :: .int 0 :: .ref h22 :: .ref h23 :: .ref h24 :: .ref h25 :: .int 0 :: .int 0 :: .int 0 :: .ref h26 :: .int 0 :: .int 0 :: .ref h27 :: .ref h28 :: .ref h29 :: .ref h30 :: .int 0 :: .ref h31 :: .int 0 :: .ref h32 :: .int 0 :: .int 0 :: .ref h33 :: .ref h34 :: .ref h35 :: [])))] gE0 (gQi D cT (fun (r : Int32) (u : gS) => r = 0) (fun u : gS => [(h0, .inr (11, (.ref h1 :: .int 0 :: .ref h2 :: .ref h3 :: .ref h4 :: .ref h5 :: .ref h6 :: .int 0 :: .ref h7 :: .ref h8 :: .int 0 :: .ref h9 :: .ref h10 :: .ref h11 :: .int 0 :: .int (-1) :: .int 0 :: .ref h12 :: .int 0 :: .ref h13 :: .int 0 :: .int 0 :: .null :: .int 0 :: .int 0 :: .int 0 :: .int 0 :: .ref h14 :: .ref h15 :: .ref h16 :: .ref h17 :: .int 0 :: .null :: .int 0 :: .int 0 :: .int 0 :: .ref h18 :: .int 0 :: .int (-1) :: .int 0 :: .ref h19 :: .int 0 :: .ref h20 :: .ref h21 :: .int 0 :: .ref h22 :: .ref h23 :: .ref h24 :: .ref h25 :: .int 0 :: .int 0 :: .int 0 :: .ref h26 :: .int 0 :: .int 0 :: .ref h27 :: .ref h28 :: .ref h29 :: .ref h30 :: .int 0 :: .ref h31 :: .int 0 :: .ref h32 :: .int 0 :: .int 0 :: .ref h33 :: .ref h34 :: .ref h35 :: [])))])) := by
  refine gMet.of "StorksLetModel" rfl (by decide +kernel) (Nat.le_of_ble_eq_true rfl) [(0, .ref h0), (1, .int x0)] rfl ?_
  intro p e s m below meth c A ls X hr hlk hnm hA hG hE hl
  refine lv_iload_n X.x X.b dX12_isRoof_0 rfl (lv_at hl 1 rfl) ?_
  refine lv_iconst (v := 0) X.x X.b dX12_isRoof_1 (by decide +kernel) ?_
  refine lv_aload_n X.x X.b dX12_isRoof_2 rfl (lv_at hl 0 rfl) ?_
  refine gg_X12_130 X hG 0 rfl rfl dX12_isRoof_3 ?_
  refine lv_iconst (v := 1) X.x X.b dX12_isRoof_6 (by decide +kernel) ?_
  refine lv_isub X.x X.b dX12_isRoof_7 ?_
  refine g_top (v' := (-1)) (by decide +kernel) ?_
  refine g_ki (g_rS (As := [.int x0, .int 0, .int (-1)]) (rest := []) X hl hG (k131_in l D cT x0) gw_X12_133 g_E01 g_E02 [] rfl rfl rfl rfl (Nat.le_of_ble_eq_true rfl) ⟨(Nat.le_of_ble_eq_true rfl), (Nat.le_of_ble_eq_true rfl)⟩ ⟨(Nat.le_of_ble_eq_true rfl), (Nat.le_of_ble_eq_true rfl)⟩ dX12_isRoof_8) hG hA [] [0] rfl rfl rfl rfl (c1 := 0) (s1 := 0) rfl rfl (fun r_1 u_1 H locs (hu : r_1 = 0) (hG : gG D A s.heap [(h0, .inr (11, (.ref h1 :: .int 0 :: .ref h2 :: .ref h3 :: .ref h4 :: .ref h5 :: .ref h6 :: .int 0 :: .ref h7 :: .ref h8 :: .int 0 :: .ref h9 :: .ref h10 :: .ref h11 :: .int 0 :: .int (-1) :: .int 0 :: .ref h12 :: .int 0 :: .ref h13 :: .int 0 :: .int 0 :: .null :: .int 0 :: .int 0 :: .int 0 :: .int 0 :: .ref h14 :: .ref h15 :: .ref h16 :: .ref h17 :: .int 0 :: .null :: .int 0 :: .int 0 :: .int 0 :: .ref h18 :: .int 0 :: .int (-1) :: .int 0 :: .ref h19 :: .int 0 :: .ref h20 :: .ref h21 :: .int 0 :: .ref h22 :: .ref h23 :: .ref h24 :: .ref h25 :: .int 0 :: .int 0 :: .int 0 :: .ref h26 :: .int 0 :: .int 0 :: .ref h27 :: .ref h28 :: .ref h29 :: .ref h30 :: .int 0 :: .ref h31 :: .int 0 :: .ref h32 :: .int 0 :: .int 0 :: .ref h33 :: .ref h34 :: .ref h35 :: [])))] H locs) => ?_)
  have hu := hu.symm
  subst hu
  exact g_iret X hr hlk hG rfl gS0 rfl [0] rfl rfl (Nat.le_of_ble_eq_true rfl) (Nat.le_of_ble_eq_true rfl) dX12_isRoof_11
set_option maxHeartbeats 4000000 in
set_option maxRecDepth 100000 in
theorem k133_build (l : Launch) (D : va_G) (cT : Nat → ClassId) (h0 h1 h2 h3 h4 h5 h6 h7 h8 h9 h10 h11 h12 h13 h14 h15 h16 h17 h18 h19 h20 h21 h22 h23 h24 h25 h26 h27 h28 h29 h30 h31 h32 h33 h34 h35 : Nat) (x0 x1 x2 : Int32) : gMet l D cT yX12_build cX12_build 5 (some .int) 2 43 0 0 [.ref h0, .int x0, .int x1, .int x2] [(h0, .inr (11, (.ref h1 :: .int 0 :: .ref h2 :: .ref h3 :: .ref h4 :: .ref h5 :: .ref h6 :: .int 0 :: .ref h7 :: .ref h8 :: .int 0 :: .ref h9 :: .ref h10 :: .ref h11 :: .int 0 :: .int (-1) :: .int 0 :: .ref h12 :: .int 0 :: .ref h13 :: .int 0 :: .int 0 :: .null :: .int 0 :: .int 0 :: .int 0 :: .int 0 :: .ref h14 :: .ref h15 :: .ref h16 :: .ref h17 :: .int 0 :: .null :: .int 0 :: .int 0 :: .int 0 :: .ref h18 :: .int 0 :: .int (-1) :: .int 0 :: .ref h19 :: .int 0 :: .ref h20 :: .ref h21 :: .int 0 :: .ref h22 :: .ref h23 :: .ref h24 :: .ref h25 :: .int 0 :: .int 0 :: .int 0 :: .ref h26 :: .int 0 :: .int 0 :: .ref h27 :: .ref h28 :: .ref h29 :: .ref h30 :: .int 0 :: .ref h31 :: .int 0 :: .ref h32 :: .int 0 :: .int 0 :: .ref h33 :: .ref h34 :: .ref h35 :: [])))] gE0 (gQi D cT (fun (r : Int32) (u : gS) => r = (-1)) (fun u : gS => [(h0, .inr (11, (.ref h1 :: .int 0 :: .ref h2 :: .ref h3 :: .ref h4 :: .ref h5 :: .ref h6 :: .int 0 :: .ref h7 :: .ref h8 :: .int 0 :: .ref h9 :: .ref h10 :: .ref h11 :: .int 0 :: .int (-1) :: .int 0 :: .ref h12 :: .int 0 :: .ref h13 :: .int 0 :: .int 0 :: .null :: .int 0 :: .int 0 :: .int 0 :: .int 0 :: .ref h14 :: .ref h15 :: .ref h16 :: .ref h17 :: .int 0 :: .null :: .int 0 :: .int 0 :: .int 0 :: .ref h18 :: .int 0 :: .int (-1) :: .int 0 :: .ref h19 :: .int 0 :: .ref h20 :: .ref h21 :: .int 0 :: .ref h22 :: .ref h23 :: .ref h24 :: .ref h25 :: .int 0 :: .int 0 :: .int 0 :: .ref h26 :: .int 0 :: .int 0 :: .ref h27 :: .ref h28 :: .ref h29 :: .ref h30 :: .int 0 :: .ref h31 :: .int 0 :: .ref h32 :: .int 0 :: .int 0 :: .ref h33 :: .ref h34 :: .ref h35 :: [])))])) := by
  refine gMet.of "StorksLetModel" rfl (by decide +kernel) (Nat.le_of_ble_eq_true rfl) [(0, .ref h0), (1, .int x0), (2, .int x1), (3, .int x2)] rfl ?_
  intro p e s m below meth c A ls X hr hlk hnm hA hG hE hl
  refine lv_aload_n X.x X.b dX12_build_0 rfl (lv_at hl 0 rfl) ?_
  refine lv_iconst (v := 0) X.x X.b dX12_build_1 (by decide +kernel) ?_
  refine gp_X12_124 X hG 0 rfl rfl rfl (Nat.le_of_ble_eq_true rfl) dX12_build_2 (fun H locs (hG : gG D A s.heap [(h0, .inr (11, (.ref h1 :: .int 0 :: .ref h2 :: .ref h3 :: .ref h4 :: .ref h5 :: .ref h6 :: .int 0 :: .ref h7 :: .ref h8 :: .int 0 :: .ref h9 :: .ref h10 :: .ref h11 :: .int 0 :: .int (-1) :: .int 0 :: .ref h12 :: .int 0 :: .ref h13 :: .int 0 :: .int 0 :: .null :: .int 0 :: .int 0 :: .int 0 :: .int 0 :: .ref h14 :: .ref h15 :: .ref h16 :: .ref h17 :: .int 0 :: .null :: .int 0 :: .int 0 :: .int 0 :: .ref h18 :: .int 0 :: .int (-1) :: .int 0 :: .ref h19 :: .int 0 :: .ref h20 :: .ref h21 :: .int 0 :: .ref h22 :: .ref h23 :: .ref h24 :: .ref h25 :: .int 0 :: .int 0 :: .int 0 :: .ref h26 :: .int 0 :: .int 0 :: .ref h27 :: .ref h28 :: .ref h29 :: .ref h30 :: .int 0 :: .ref h31 :: .int 0 :: .ref h32 :: .int 0 :: .int 0 :: .ref h33 :: .ref h34 :: .ref h35 :: [])))] H locs) => ?_)
  refine lv_aload_n X.x X.b dX12_build_5 rfl (lv_at hl 0 rfl) ?_
  refine lv_iload_n X.x X.b dX12_build_6 rfl (lv_at hl 1 rfl) ?_
  refine g_ki (g_rV (As := [.int x0]) (rest := []) X hl hG (k132_isRoof l D cT h0 h1 h2 h3 h4 h5 h6 h7 h8 h9 h10 h11 h12 h13 h14 h15 h16 h17 h18 h19 h20 h21 h22 h23 h24 h25 h26 h27 h28 h29 h30 h31 h32 h33 h34 h35 x0) gw_X12_247 g_E01 g_E02 [0] rfl rfl 0 rfl rfl rfl rfl rfl (Nat.le_of_ble_eq_true rfl) ⟨(Nat.le_of_ble_eq_true rfl), (Nat.le_of_ble_eq_true rfl)⟩ ⟨(Nat.le_of_ble_eq_true rfl), (Nat.le_of_ble_eq_true rfl)⟩ dX12_build_7) hG hA [0] [] rfl rfl rfl rfl (c1 := 0) (s1 := 0) rfl rfl (fun r_1 u_1 H locs (hu : r_1 = 0) (hG : gG D A s.heap [(h0, .inr (11, (.ref h1 :: .int 0 :: .ref h2 :: .ref h3 :: .ref h4 :: .ref h5 :: .ref h6 :: .int 0 :: .ref h7 :: .ref h8 :: .int 0 :: .ref h9 :: .ref h10 :: .ref h11 :: .int 0 :: .int (-1) :: .int 0 :: .ref h12 :: .int 0 :: .ref h13 :: .int 0 :: .int 0 :: .null :: .int 0 :: .int 0 :: .int 0 :: .int 0 :: .ref h14 :: .ref h15 :: .ref h16 :: .ref h17 :: .int 0 :: .null :: .int 0 :: .int 0 :: .int 0 :: .ref h18 :: .int 0 :: .int (-1) :: .int 0 :: .ref h19 :: .int 0 :: .ref h20 :: .ref h21 :: .int 0 :: .ref h22 :: .ref h23 :: .ref h24 :: .ref h25 :: .int 0 :: .int 0 :: .int 0 :: .ref h26 :: .int 0 :: .int 0 :: .ref h27 :: .ref h28 :: .ref h29 :: .ref h30 :: .int 0 :: .ref h31 :: .int 0 :: .ref h32 :: .int 0 :: .int 0 :: .ref h33 :: .ref h34 :: .ref h35 :: [])))] H locs) => ?_)
  have hu := hu.symm
  subst hu
  refine b_if_eq_t (tgt := 50) X.x X.b dX12_build_10 (by decide) (by decide +kernel) ?_
  refine lv_iconst (v := (-1)) X.x X.b dX12_build_50 (by decide +kernel) ?_
  exact g_iret X hr hlk hG rfl gS0 rfl [0] rfl rfl (Nat.le_of_ble_eq_true rfl) (Nat.le_of_ble_eq_true rfl) dX12_build_51
set_option maxHeartbeats 4000000 in
set_option maxRecDepth 100000 in
theorem k134_isBird (l : Launch) (D : va_G) (cT : Nat → ClassId) (h0 h1 h2 h3 h4 h5 h6 h7 h8 h9 h10 h11 h12 h13 h14 : Nat) (x0 : Int32) : gMet l D cT yX8_isBird cX8_isBird 2 (some .boolean) 0 0 0 0 [.ref h0, .int x0] [(h0, .inr (7, [.int 0, .int 0, .int 0, .int 0, .ref h1, .ref h2, .ref h3, .ref h4, .ref h5, .ref h6, .ref h7, .ref h8, .ref h9, .ref h10, .ref h11, .ref h12, .ref h13, .int 0, .ref h14]))] gE0 (gQi D cT (fun (r : Int32) (u : gS) => r = 0) (fun u : gS => [(h0, .inr (7, [.int 0, .int 0, .int 0, .int 0, .ref h1, .ref h2, .ref h3, .ref h4, .ref h5, .ref h6, .ref h7, .ref h8, .ref h9, .ref h10, .ref h11, .ref h12, .ref h13, .int 0, .ref h14]))])) := by
  refine gMet.of "StorksLet$Town" rfl (by decide +kernel) (Nat.le_of_ble_eq_true rfl) [(0, .ref h0), (1, .int x0)] rfl ?_
  intro p e s m below meth c A ls X hr hlk hnm hA hG hE hl
  refine lv_iload_n X.x X.b dX8_isBird_0 rfl (lv_at hl 1 rfl) ?_
  refine lv_if_lt (tgt := 16) X.x X.b dX8_isBird_1 (by decide) (fun c_1 => ?_) (fun c_1 => ?_)
  · skip
    have f_1 : x0 < 0 := c_1
    simp only [Int32.lt_iff_toInt_lt, Int32.le_iff_toInt_le, ← Int32.toInt_inj, Int32.not_lt, Int32.not_le, show (0 : Int32).toInt = 0 from by decide +kernel] at f_1
    refine lv_iconst (v := 0) X.x X.b dX8_isBird_16 (by decide +kernel) ?_
    exact g_iret X hr hlk hG rfl gS0 rfl [0] rfl rfl (Nat.le_of_ble_eq_true rfl) (Nat.le_of_ble_eq_true rfl) dX8_isBird_17
  · skip
    have f_1 : ¬ x0 < 0 := c_1
    simp only [Int32.lt_iff_toInt_lt, Int32.le_iff_toInt_le, ← Int32.toInt_inj, Int32.not_lt, Int32.not_le, show (0 : Int32).toInt = 0 from by decide +kernel] at f_1
    refine lv_iload_n X.x X.b dX8_isBird_4 rfl (lv_at hl 1 rfl) ?_
    refine lv_aload_n X.x X.b dX8_isBird_5 rfl (lv_at hl 0 rfl) ?_
    refine gg_X8_18 X hG 0 rfl rfl dX8_isBird_6 ?_
    refine b_icmp_ge_t (tgt := 16) X.x X.b dX8_isBird_9 (by decide) (by simp only [Int32.lt_iff_toInt_lt, Int32.le_iff_toInt_le, ← Int32.toInt_inj, show (0 : Int32).toInt = 0 from by decide +kernel]; omega) ?_
    refine lv_iconst (v := 0) X.x X.b dX8_isBird_16 (by decide +kernel) ?_
    exact g_iret X hr hlk hG rfl gS0 rfl [0] rfl rfl (Nat.le_of_ble_eq_true rfl) (Nat.le_of_ble_eq_true rfl) dX8_isBird_17
set_option maxHeartbeats 4000000 in
set_option maxRecDepth 100000 in
theorem k135_ring (l : Launch) (D : va_G) (cT : Nat → ClassId) (h0 h1 h2 h3 h4 h5 h6 h7 h8 h9 h10 h11 h12 h13 h14 h15 h16 h17 h18 h19 h20 h21 h22 h23 h24 h25 h26 h27 h28 h29 : Nat) (x0 x1 x2 : Int32) : gMet l D cT yX11_ring cX11_ring 5 (some .int) 1 21 0 0 [.ref h0, .int x0, .int x1, .int x2] [(h0, .inr (10, [.ref h2, .ref h3, .ref h1, .ref h4, .ref h5, .ref h6, .ref h7, .ref h8, .ref h9, .ref h10, .ref h11, .ref h12, .ref h13, .null, .ref h14, .ref h15])), (h1, .inr (7, [.int 0, .int 0, .int 0, .int 0, .ref h16, .ref h17, .ref h18, .ref h19, .ref h20, .ref h21, .ref h22, .ref h23, .ref h24, .ref h25, .ref h26, .ref h27, .ref h28, .int 0, .ref h29]))] gE0 (gQi D cT (fun (r : Int32) (u : gS) => r = (-1)) (fun u : gS => [(h0, .inr (10, [.ref h2, .ref h3, .ref h1, .ref h4, .ref h5, .ref h6, .ref h7, .ref h8, .ref h9, .ref h10, .ref h11, .ref h12, .ref h13, .null, .ref h14, .ref h15])), (h1, .inr (7, [.int 0, .int 0, .int 0, .int 0, .ref h16, .ref h17, .ref h18, .ref h19, .ref h20, .ref h21, .ref h22, .ref h23, .ref h24, .ref h25, .ref h26, .ref h27, .ref h28, .int 0, .ref h29]))])) := by
  refine gMet.of "StorksLet" rfl (by decide +kernel) (Nat.le_of_ble_eq_true rfl) [(0, .ref h0), (1, .int x0), (2, .int x1), (3, .int x2)] rfl ?_
  intro p e s m below meth c A ls X hr hlk hnm hA hG hE hl
  refine lv_aload_n X.x X.b dX11_ring_0 rfl (lv_at hl 0 rfl) ?_
  refine gg_X11_26 X hG 0 rfl rfl dX11_ring_1 ?_
  refine lv_iload_n X.x X.b dX11_ring_4 rfl (lv_at hl 1 rfl) ?_
  refine g_ki (g_rV (As := [.int x0]) (rest := []) X hl hG (k134_isBird l D cT h1 h16 h17 h18 h19 h20 h21 h22 h23 h24 h25 h26 h27 h28 h29 x0) gw_X11_175 g_E01 g_E02 [1] rfl rfl 1 rfl rfl rfl rfl rfl (Nat.le_of_ble_eq_true rfl) ⟨(Nat.le_of_ble_eq_true rfl), (Nat.le_of_ble_eq_true rfl)⟩ ⟨(Nat.le_of_ble_eq_true rfl), (Nat.le_of_ble_eq_true rfl)⟩ dX11_ring_5) hG hA [1] [0] rfl rfl rfl rfl (c1 := 0) (s1 := 0) rfl rfl (fun r_1 u_1 H locs (hu : r_1 = 0) (hG : gG D A s.heap [(h0, .inr (10, [.ref h2, .ref h3, .ref h1, .ref h4, .ref h5, .ref h6, .ref h7, .ref h8, .ref h9, .ref h10, .ref h11, .ref h12, .ref h13, .null, .ref h14, .ref h15])), (h1, .inr (7, [.int 0, .int 0, .int 0, .int 0, .ref h16, .ref h17, .ref h18, .ref h19, .ref h20, .ref h21, .ref h22, .ref h23, .ref h24, .ref h25, .ref h26, .ref h27, .ref h28, .int 0, .ref h29]))] H locs) => ?_)
  have hu := hu.symm
  subst hu
  refine b_if_ne_f (tgt := 13) X.x X.b dX11_ring_8 (by decide) (by decide +kernel) ?_
  refine lv_iconst (v := (-1)) X.x X.b dX11_ring_11 (by decide +kernel) ?_
  exact g_iret X hr hlk hG rfl gS0 rfl [0, 1] rfl rfl (Nat.le_of_ble_eq_true rfl) (Nat.le_of_ble_eq_true rfl) dX11_ring_12
set_option maxHeartbeats 4000000 in
set_option maxRecDepth 100000 in
theorem k136_isBird (l : Launch) (D : va_G) (cT : Nat → ClassId) (h0 h1 h2 h3 h4 h5 h6 h7 h8 h9 h10 h11 h12 h13 h14 h15 h16 h17 h18 h19 h20 h21 h22 h23 h24 h25 h26 h27 h28 h29 h30 h31 h32 h33 h34 h35 : Nat) (x0 : Int32) : gMet l D cT yX12_isBird cX12_isBird 2 (some .boolean) 1 22 0 0 [.ref h0, .int x0] [(h0, .inr (11, (.ref h1 :: .int 0 :: .ref h2 :: .ref h3 :: .ref h4 :: .ref h5 :: .ref h6 :: .int 0 :: .ref h7 :: .ref h8 :: .int 0 :: .ref h9 :: .ref h10 :: .ref h11 :: .int 0 :: .int (-1) :: .int 0 :: .ref h12 :: .int 0 :: .ref h13 :: .int 0 :: .int 0 :: .null :: .int 0 :: .int 0 :: .int 0 :: .int 0 :: .ref h14 :: .ref h15 :: .ref h16 :: .ref h17 :: .int 0 :: .null :: .int 0 :: .int 0 :: .int 0 :: .ref h18 :: .int 0 :: .int (-1) :: .int 0 :: .ref h19 :: .int 0 :: .ref h20 :: .ref h21 :: .int 0 :: .ref h22 :: .ref h23 :: .ref h24 :: .ref h25 :: .int 0 :: .int 0 :: .int 0 :: .ref h26 :: .int 0 :: .int 0 :: .ref h27 :: .ref h28 :: .ref h29 :: .ref h30 :: .int 0 :: .ref h31 :: .int 0 :: .ref h32 :: .int 0 :: .int 0 :: .ref h33 :: .ref h34 :: .ref h35 :: [])))] gE0 (gQi D cT (fun (r : Int32) (u : gS) => r = 0) (fun u : gS => [(h0, .inr (11, (.ref h1 :: .int 0 :: .ref h2 :: .ref h3 :: .ref h4 :: .ref h5 :: .ref h6 :: .int 0 :: .ref h7 :: .ref h8 :: .int 0 :: .ref h9 :: .ref h10 :: .ref h11 :: .int 0 :: .int (-1) :: .int 0 :: .ref h12 :: .int 0 :: .ref h13 :: .int 0 :: .int 0 :: .null :: .int 0 :: .int 0 :: .int 0 :: .int 0 :: .ref h14 :: .ref h15 :: .ref h16 :: .ref h17 :: .int 0 :: .null :: .int 0 :: .int 0 :: .int 0 :: .ref h18 :: .int 0 :: .int (-1) :: .int 0 :: .ref h19 :: .int 0 :: .ref h20 :: .ref h21 :: .int 0 :: .ref h22 :: .ref h23 :: .ref h24 :: .ref h25 :: .int 0 :: .int 0 :: .int 0 :: .ref h26 :: .int 0 :: .int 0 :: .ref h27 :: .ref h28 :: .ref h29 :: .ref h30 :: .int 0 :: .ref h31 :: .int 0 :: .ref h32 :: .int 0 :: .int 0 :: .ref h33 :: .ref h34 :: .ref h35 :: [])))])) := by
  refine gMet.of "StorksLetModel" rfl (by decide +kernel) (Nat.le_of_ble_eq_true rfl) [(0, .ref h0), (1, .int x0)] rfl ?_
  intro p e s m below meth c A ls X hr hlk hnm hA hG hE hl
  refine lv_iload_n X.x X.b dX12_isBird_0 rfl (lv_at hl 1 rfl) ?_
  refine lv_iconst (v := 0) X.x X.b dX12_isBird_1 (by decide +kernel) ?_
  refine lv_aload_n X.x X.b dX12_isBird_2 rfl (lv_at hl 0 rfl) ?_
  refine gg_X12_137 X hG 0 rfl rfl dX12_isBird_3 ?_
  refine lv_iconst (v := 1) X.x X.b dX12_isBird_6 (by decide +kernel) ?_
  refine lv_isub X.x X.b dX12_isBird_7 ?_
  refine g_top (v' := (-1)) (by decide +kernel) ?_
  refine g_ki (g_rS (As := [.int x0, .int 0, .int (-1)]) (rest := []) X hl hG (k131_in l D cT x0) gw_X12_133 g_E01 g_E02 [] rfl rfl rfl rfl (Nat.le_of_ble_eq_true rfl) ⟨(Nat.le_of_ble_eq_true rfl), (Nat.le_of_ble_eq_true rfl)⟩ ⟨(Nat.le_of_ble_eq_true rfl), (Nat.le_of_ble_eq_true rfl)⟩ dX12_isBird_8) hG hA [] [0] rfl rfl rfl rfl (c1 := 0) (s1 := 0) rfl rfl (fun r_1 u_1 H locs (hu : r_1 = 0) (hG : gG D A s.heap [(h0, .inr (11, (.ref h1 :: .int 0 :: .ref h2 :: .ref h3 :: .ref h4 :: .ref h5 :: .ref h6 :: .int 0 :: .ref h7 :: .ref h8 :: .int 0 :: .ref h9 :: .ref h10 :: .ref h11 :: .int 0 :: .int (-1) :: .int 0 :: .ref h12 :: .int 0 :: .ref h13 :: .int 0 :: .int 0 :: .null :: .int 0 :: .int 0 :: .int 0 :: .int 0 :: .ref h14 :: .ref h15 :: .ref h16 :: .ref h17 :: .int 0 :: .null :: .int 0 :: .int 0 :: .int 0 :: .ref h18 :: .int 0 :: .int (-1) :: .int 0 :: .ref h19 :: .int 0 :: .ref h20 :: .ref h21 :: .int 0 :: .ref h22 :: .ref h23 :: .ref h24 :: .ref h25 :: .int 0 :: .int 0 :: .int 0 :: .ref h26 :: .int 0 :: .int 0 :: .ref h27 :: .ref h28 :: .ref h29 :: .ref h30 :: .int 0 :: .ref h31 :: .int 0 :: .ref h32 :: .int 0 :: .int 0 :: .ref h33 :: .ref h34 :: .ref h35 :: [])))] H locs) => ?_)
  have hu := hu.symm
  subst hu
  exact g_iret X hr hlk hG rfl gS0 rfl [0] rfl rfl (Nat.le_of_ble_eq_true rfl) (Nat.le_of_ble_eq_true rfl) dX12_isBird_11
set_option maxHeartbeats 4000000 in
set_option maxRecDepth 100000 in
theorem k137_ring (l : Launch) (D : va_G) (cT : Nat → ClassId) (h0 h1 h2 h3 h4 h5 h6 h7 h8 h9 h10 h11 h12 h13 h14 h15 h16 h17 h18 h19 h20 h21 h22 h23 h24 h25 h26 h27 h28 h29 h30 h31 h32 h33 h34 h35 : Nat) (x0 x1 x2 : Int32) : gMet l D cT yX12_ring cX12_ring 5 (some .int) 2 43 0 0 [.ref h0, .int x0, .int x1, .int x2] [(h0, .inr (11, (.ref h1 :: .int 0 :: .ref h2 :: .ref h3 :: .ref h4 :: .ref h5 :: .ref h6 :: .int 0 :: .ref h7 :: .ref h8 :: .int 0 :: .ref h9 :: .ref h10 :: .ref h11 :: .int 0 :: .int (-1) :: .int 0 :: .ref h12 :: .int 0 :: .ref h13 :: .int 0 :: .int 0 :: .null :: .int 0 :: .int 0 :: .int 0 :: .int 0 :: .ref h14 :: .ref h15 :: .ref h16 :: .ref h17 :: .int 0 :: .null :: .int 0 :: .int 0 :: .int 0 :: .ref h18 :: .int 0 :: .int (-1) :: .int 0 :: .ref h19 :: .int 0 :: .ref h20 :: .ref h21 :: .int 0 :: .ref h22 :: .ref h23 :: .ref h24 :: .ref h25 :: .int 0 :: .int 0 :: .int 0 :: .ref h26 :: .int 0 :: .int 0 :: .ref h27 :: .ref h28 :: .ref h29 :: .ref h30 :: .int 0 :: .ref h31 :: .int 0 :: .ref h32 :: .int 0 :: .int 0 :: .ref h33 :: .ref h34 :: .ref h35 :: [])))] gE0 (gQi D cT (fun (r : Int32) (u : gS) => r = (-1)) (fun u : gS => [(h0, .inr (11, (.ref h1 :: .int 0 :: .ref h2 :: .ref h3 :: .ref h4 :: .ref h5 :: .ref h6 :: .int 0 :: .ref h7 :: .ref h8 :: .int 0 :: .ref h9 :: .ref h10 :: .ref h11 :: .int 0 :: .int (-1) :: .int 0 :: .ref h12 :: .int 0 :: .ref h13 :: .int 0 :: .int 0 :: .null :: .int 0 :: .int 0 :: .int 0 :: .int 0 :: .ref h14 :: .ref h15 :: .ref h16 :: .ref h17 :: .int 0 :: .null :: .int 0 :: .int 0 :: .int 0 :: .ref h18 :: .int 0 :: .int (-1) :: .int 0 :: .ref h19 :: .int 0 :: .ref h20 :: .ref h21 :: .int 0 :: .ref h22 :: .ref h23 :: .ref h24 :: .ref h25 :: .int 0 :: .int 0 :: .int 0 :: .ref h26 :: .int 0 :: .int 0 :: .ref h27 :: .ref h28 :: .ref h29 :: .ref h30 :: .int 0 :: .ref h31 :: .int 0 :: .ref h32 :: .int 0 :: .int 0 :: .ref h33 :: .ref h34 :: .ref h35 :: [])))])) := by
  refine gMet.of "StorksLetModel" rfl (by decide +kernel) (Nat.le_of_ble_eq_true rfl) [(0, .ref h0), (1, .int x0), (2, .int x1), (3, .int x2)] rfl ?_
  intro p e s m below meth c A ls X hr hlk hnm hA hG hE hl
  refine lv_aload_n X.x X.b dX12_ring_0 rfl (lv_at hl 0 rfl) ?_
  refine lv_iconst (v := 0) X.x X.b dX12_ring_1 (by decide +kernel) ?_
  refine gp_X12_124 X hG 0 rfl rfl rfl (Nat.le_of_ble_eq_true rfl) dX12_ring_2 (fun H locs (hG : gG D A s.heap [(h0, .inr (11, (.ref h1 :: .int 0 :: .ref h2 :: .ref h3 :: .ref h4 :: .ref h5 :: .ref h6 :: .int 0 :: .ref h7 :: .ref h8 :: .int 0 :: .ref h9 :: .ref h10 :: .ref h11 :: .int 0 :: .int (-1) :: .int 0 :: .ref h12 :: .int 0 :: .ref h13 :: .int 0 :: .int 0 :: .null :: .int 0 :: .int 0 :: .int 0 :: .int 0 :: .ref h14 :: .ref h15 :: .ref h16 :: .ref h17 :: .int 0 :: .null :: .int 0 :: .int 0 :: .int 0 :: .ref h18 :: .int 0 :: .int (-1) :: .int 0 :: .ref h19 :: .int 0 :: .ref h20 :: .ref h21 :: .int 0 :: .ref h22 :: .ref h23 :: .ref h24 :: .ref h25 :: .int 0 :: .int 0 :: .int 0 :: .ref h26 :: .int 0 :: .int 0 :: .ref h27 :: .ref h28 :: .ref h29 :: .ref h30 :: .int 0 :: .ref h31 :: .int 0 :: .ref h32 :: .int 0 :: .int 0 :: .ref h33 :: .ref h34 :: .ref h35 :: [])))] H locs) => ?_)
  refine lv_aload_n X.x X.b dX12_ring_5 rfl (lv_at hl 0 rfl) ?_
  refine lv_iload_n X.x X.b dX12_ring_6 rfl (lv_at hl 1 rfl) ?_
  refine g_ki (g_rV (As := [.int x0]) (rest := []) X hl hG (k136_isBird l D cT h0 h1 h2 h3 h4 h5 h6 h7 h8 h9 h10 h11 h12 h13 h14 h15 h16 h17 h18 h19 h20 h21 h22 h23 h24 h25 h26 h27 h28 h29 h30 h31 h32 h33 h34 h35 x0) gw_X12_261 g_E01 g_E02 [0] rfl rfl 0 rfl rfl rfl rfl rfl (Nat.le_of_ble_eq_true rfl) ⟨(Nat.le_of_ble_eq_true rfl), (Nat.le_of_ble_eq_true rfl)⟩ ⟨(Nat.le_of_ble_eq_true rfl), (Nat.le_of_ble_eq_true rfl)⟩ dX12_ring_7) hG hA [0] [] rfl rfl rfl rfl (c1 := 0) (s1 := 0) rfl rfl (fun r_1 u_1 H locs (hu : r_1 = 0) (hG : gG D A s.heap [(h0, .inr (11, (.ref h1 :: .int 0 :: .ref h2 :: .ref h3 :: .ref h4 :: .ref h5 :: .ref h6 :: .int 0 :: .ref h7 :: .ref h8 :: .int 0 :: .ref h9 :: .ref h10 :: .ref h11 :: .int 0 :: .int (-1) :: .int 0 :: .ref h12 :: .int 0 :: .ref h13 :: .int 0 :: .int 0 :: .null :: .int 0 :: .int 0 :: .int 0 :: .int 0 :: .ref h14 :: .ref h15 :: .ref h16 :: .ref h17 :: .int 0 :: .null :: .int 0 :: .int 0 :: .int 0 :: .ref h18 :: .int 0 :: .int (-1) :: .int 0 :: .ref h19 :: .int 0 :: .ref h20 :: .ref h21 :: .int 0 :: .ref h22 :: .ref h23 :: .ref h24 :: .ref h25 :: .int 0 :: .int 0 :: .int 0 :: .ref h26 :: .int 0 :: .int 0 :: .ref h27 :: .ref h28 :: .ref h29 :: .ref h30 :: .int 0 :: .ref h31 :: .int 0 :: .ref h32 :: .int 0 :: .int 0 :: .ref h33 :: .ref h34 :: .ref h35 :: [])))] H locs) => ?_)
  have hu := hu.symm
  subst hu
  refine b_if_eq_t (tgt := 49) X.x X.b dX12_ring_10 (by decide) (by decide +kernel) ?_
  refine lv_iconst (v := (-1)) X.x X.b dX12_ring_49 (by decide +kernel) ?_
  exact g_iret X hr hlk hG rfl gS0 rfl [0] rfl rfl (Nat.le_of_ble_eq_true rfl) (Nat.le_of_ble_eq_true rfl) dX12_ring_50
set_option maxHeartbeats 4000000 in
set_option maxRecDepth 100000 in
theorem k138_isFamily (l : Launch) (D : va_G) (cT : Nat → ClassId) (h0 h1 h2 h3 h4 h5 h6 h7 h8 h9 h10 h11 h12 h13 h14 : Nat) (x0 : Int32) : gMet l D cT yX8_isFamily cX8_isFamily 2 (some .boolean) 0 0 0 0 [.ref h0, .int x0] [(h0, .inr (7, [.int 0, .int 0, .int 0, .int 0, .ref h1, .ref h2, .ref h3, .ref h4, .ref h5, .ref h6, .ref h7, .ref h8, .ref h9, .ref h10, .ref h11, .ref h12, .ref h13, .int 0, .ref h14]))] gE0 (gQi D cT (fun (r : Int32) (u : gS) => r = 0) (fun u : gS => [(h0, .inr (7, [.int 0, .int 0, .int 0, .int 0, .ref h1, .ref h2, .ref h3, .ref h4, .ref h5, .ref h6, .ref h7, .ref h8, .ref h9, .ref h10, .ref h11, .ref h12, .ref h13, .int 0, .ref h14]))])) := by
  refine gMet.of "StorksLet$Town" rfl (by decide +kernel) (Nat.le_of_ble_eq_true rfl) [(0, .ref h0), (1, .int x0)] rfl ?_
  intro p e s m below meth c A ls X hr hlk hnm hA hG hE hl
  refine lv_iload_n X.x X.b dX8_isFamily_0 rfl (lv_at hl 1 rfl) ?_
  refine lv_if_lt (tgt := 16) X.x X.b dX8_isFamily_1 (by decide) (fun c_1 => ?_) (fun c_1 => ?_)
  · skip
    have f_1 : x0 < 0 := c_1
    simp only [Int32.lt_iff_toInt_lt, Int32.le_iff_toInt_le, ← Int32.toInt_inj, Int32.not_lt, Int32.not_le, show (0 : Int32).toInt = 0 from by decide +kernel] at f_1
    refine lv_iconst (v := 0) X.x X.b dX8_isFamily_16 (by decide +kernel) ?_
    exact g_iret X hr hlk hG rfl gS0 rfl [0] rfl rfl (Nat.le_of_ble_eq_true rfl) (Nat.le_of_ble_eq_true rfl) dX8_isFamily_17
  · skip
    have f_1 : ¬ x0 < 0 := c_1
    simp only [Int32.lt_iff_toInt_lt, Int32.le_iff_toInt_le, ← Int32.toInt_inj, Int32.not_lt, Int32.not_le, show (0 : Int32).toInt = 0 from by decide +kernel] at f_1
    refine lv_iload_n X.x X.b dX8_isFamily_4 rfl (lv_at hl 1 rfl) ?_
    refine lv_aload_n X.x X.b dX8_isFamily_5 rfl (lv_at hl 0 rfl) ?_
    refine gg_X8_21 X hG 0 rfl rfl dX8_isFamily_6 ?_
    refine b_icmp_ge_t (tgt := 16) X.x X.b dX8_isFamily_9 (by decide) (by simp only [Int32.lt_iff_toInt_lt, Int32.le_iff_toInt_le, ← Int32.toInt_inj, show (0 : Int32).toInt = 0 from by decide +kernel]; omega) ?_
    refine lv_iconst (v := 0) X.x X.b dX8_isFamily_16 (by decide +kernel) ?_
    exact g_iret X hr hlk hG rfl gS0 rfl [0] rfl rfl (Nat.le_of_ble_eq_true rfl) (Nat.le_of_ble_eq_true rfl) dX8_isFamily_17
set_option maxHeartbeats 4000000 in
set_option maxRecDepth 100000 in
theorem k139_swear (l : Launch) (D : va_G) (cT : Nat → ClassId) (h0 h1 h2 h3 h4 h5 h6 h7 h8 h9 h10 h11 h12 h13 h14 h15 h16 h17 h18 h19 h20 h21 h22 h23 h24 h25 h26 h27 h28 h29 : Nat) (x0 x1 : Int32) : gMet l D cT yX11_swear cX11_swear 4 (some .int) 1 21 0 0 [.ref h0, .int x0, .int x1] [(h0, .inr (10, [.ref h2, .ref h3, .ref h1, .ref h4, .ref h5, .ref h6, .ref h7, .ref h8, .ref h9, .ref h10, .ref h11, .ref h12, .ref h13, .null, .ref h14, .ref h15])), (h1, .inr (7, [.int 0, .int 0, .int 0, .int 0, .ref h16, .ref h17, .ref h18, .ref h19, .ref h20, .ref h21, .ref h22, .ref h23, .ref h24, .ref h25, .ref h26, .ref h27, .ref h28, .int 0, .ref h29]))] gE0 (gQi D cT (fun (r : Int32) (u : gS) => r = (-1)) (fun u : gS => [(h0, .inr (10, [.ref h2, .ref h3, .ref h1, .ref h4, .ref h5, .ref h6, .ref h7, .ref h8, .ref h9, .ref h10, .ref h11, .ref h12, .ref h13, .null, .ref h14, .ref h15])), (h1, .inr (7, [.int 0, .int 0, .int 0, .int 0, .ref h16, .ref h17, .ref h18, .ref h19, .ref h20, .ref h21, .ref h22, .ref h23, .ref h24, .ref h25, .ref h26, .ref h27, .ref h28, .int 0, .ref h29]))])) := by
  refine gMet.of "StorksLet" rfl (by decide +kernel) (Nat.le_of_ble_eq_true rfl) [(0, .ref h0), (1, .int x0), (2, .int x1)] rfl ?_
  intro p e s m below meth c A ls X hr hlk hnm hA hG hE hl
  refine lv_aload_n X.x X.b dX11_swear_0 rfl (lv_at hl 0 rfl) ?_
  refine gg_X11_26 X hG 0 rfl rfl dX11_swear_1 ?_
  refine lv_iload_n X.x X.b dX11_swear_4 rfl (lv_at hl 1 rfl) ?_
  refine g_ki (g_rV (As := [.int x0]) (rest := []) X hl hG (k138_isFamily l D cT h1 h16 h17 h18 h19 h20 h21 h22 h23 h24 h25 h26 h27 h28 h29 x0) gw_X11_200 g_E01 g_E02 [1] rfl rfl 1 rfl rfl rfl rfl rfl (Nat.le_of_ble_eq_true rfl) ⟨(Nat.le_of_ble_eq_true rfl), (Nat.le_of_ble_eq_true rfl)⟩ ⟨(Nat.le_of_ble_eq_true rfl), (Nat.le_of_ble_eq_true rfl)⟩ dX11_swear_5) hG hA [1] [0] rfl rfl rfl rfl (c1 := 0) (s1 := 0) rfl rfl (fun r_1 u_1 H locs (hu : r_1 = 0) (hG : gG D A s.heap [(h0, .inr (10, [.ref h2, .ref h3, .ref h1, .ref h4, .ref h5, .ref h6, .ref h7, .ref h8, .ref h9, .ref h10, .ref h11, .ref h12, .ref h13, .null, .ref h14, .ref h15])), (h1, .inr (7, [.int 0, .int 0, .int 0, .int 0, .ref h16, .ref h17, .ref h18, .ref h19, .ref h20, .ref h21, .ref h22, .ref h23, .ref h24, .ref h25, .ref h26, .ref h27, .ref h28, .int 0, .ref h29]))] H locs) => ?_)
  have hu := hu.symm
  subst hu
  refine b_if_eq_t (tgt := 22) X.x X.b dX11_swear_8 (by decide) (by decide +kernel) ?_
  refine lv_iconst (v := (-1)) X.x X.b dX11_swear_22 (by decide +kernel) ?_
  exact g_iret X hr hlk hG rfl gS0 rfl [0, 1] rfl rfl (Nat.le_of_ble_eq_true rfl) (Nat.le_of_ble_eq_true rfl) dX11_swear_23
set_option maxHeartbeats 4000000 in
set_option maxRecDepth 100000 in
theorem k140_isFamily (l : Launch) (D : va_G) (cT : Nat → ClassId) (h0 h1 h2 h3 h4 h5 h6 h7 h8 h9 h10 h11 h12 h13 h14 h15 h16 h17 h18 h19 h20 h21 h22 h23 h24 h25 h26 h27 h28 h29 h30 h31 h32 h33 h34 h35 : Nat) (x0 : Int32) : gMet l D cT yX12_isFamily cX12_isFamily 2 (some .boolean) 1 22 0 0 [.ref h0, .int x0] [(h0, .inr (11, (.ref h1 :: .int 0 :: .ref h2 :: .ref h3 :: .ref h4 :: .ref h5 :: .ref h6 :: .int 0 :: .ref h7 :: .ref h8 :: .int 0 :: .ref h9 :: .ref h10 :: .ref h11 :: .int 0 :: .int (-1) :: .int 0 :: .ref h12 :: .int 0 :: .ref h13 :: .int 0 :: .int 0 :: .null :: .int 0 :: .int 0 :: .int 0 :: .int 0 :: .ref h14 :: .ref h15 :: .ref h16 :: .ref h17 :: .int 0 :: .null :: .int 0 :: .int 0 :: .int 0 :: .ref h18 :: .int 0 :: .int (-1) :: .int 0 :: .ref h19 :: .int 0 :: .ref h20 :: .ref h21 :: .int 0 :: .ref h22 :: .ref h23 :: .ref h24 :: .ref h25 :: .int 0 :: .int 0 :: .int 0 :: .ref h26 :: .int 0 :: .int 0 :: .ref h27 :: .ref h28 :: .ref h29 :: .ref h30 :: .int 0 :: .ref h31 :: .int 0 :: .ref h32 :: .int 0 :: .int 0 :: .ref h33 :: .ref h34 :: .ref h35 :: [])))] gE0 (gQi D cT (fun (r : Int32) (u : gS) => r = 0) (fun u : gS => [(h0, .inr (11, (.ref h1 :: .int 0 :: .ref h2 :: .ref h3 :: .ref h4 :: .ref h5 :: .ref h6 :: .int 0 :: .ref h7 :: .ref h8 :: .int 0 :: .ref h9 :: .ref h10 :: .ref h11 :: .int 0 :: .int (-1) :: .int 0 :: .ref h12 :: .int 0 :: .ref h13 :: .int 0 :: .int 0 :: .null :: .int 0 :: .int 0 :: .int 0 :: .int 0 :: .ref h14 :: .ref h15 :: .ref h16 :: .ref h17 :: .int 0 :: .null :: .int 0 :: .int 0 :: .int 0 :: .ref h18 :: .int 0 :: .int (-1) :: .int 0 :: .ref h19 :: .int 0 :: .ref h20 :: .ref h21 :: .int 0 :: .ref h22 :: .ref h23 :: .ref h24 :: .ref h25 :: .int 0 :: .int 0 :: .int 0 :: .ref h26 :: .int 0 :: .int 0 :: .ref h27 :: .ref h28 :: .ref h29 :: .ref h30 :: .int 0 :: .ref h31 :: .int 0 :: .ref h32 :: .int 0 :: .int 0 :: .ref h33 :: .ref h34 :: .ref h35 :: [])))])) := by
  refine gMet.of "StorksLetModel" rfl (by decide +kernel) (Nat.le_of_ble_eq_true rfl) [(0, .ref h0), (1, .int x0)] rfl ?_
  intro p e s m below meth c A ls X hr hlk hnm hA hG hE hl
  refine lv_iload_n X.x X.b dX12_isFamily_0 rfl (lv_at hl 1 rfl) ?_
  refine lv_iconst (v := 0) X.x X.b dX12_isFamily_1 (by decide +kernel) ?_
  refine lv_aload_n X.x X.b dX12_isFamily_2 rfl (lv_at hl 0 rfl) ?_
  refine gg_X12_140 X hG 0 rfl rfl dX12_isFamily_3 ?_
  refine lv_iconst (v := 1) X.x X.b dX12_isFamily_6 (by decide +kernel) ?_
  refine lv_isub X.x X.b dX12_isFamily_7 ?_
  refine g_top (v' := (-1)) (by decide +kernel) ?_
  refine g_ki (g_rS (As := [.int x0, .int 0, .int (-1)]) (rest := []) X hl hG (k131_in l D cT x0) gw_X12_133 g_E01 g_E02 [] rfl rfl rfl rfl (Nat.le_of_ble_eq_true rfl) ⟨(Nat.le_of_ble_eq_true rfl), (Nat.le_of_ble_eq_true rfl)⟩ ⟨(Nat.le_of_ble_eq_true rfl), (Nat.le_of_ble_eq_true rfl)⟩ dX12_isFamily_8) hG hA [] [0] rfl rfl rfl rfl (c1 := 0) (s1 := 0) rfl rfl (fun r_1 u_1 H locs (hu : r_1 = 0) (hG : gG D A s.heap [(h0, .inr (11, (.ref h1 :: .int 0 :: .ref h2 :: .ref h3 :: .ref h4 :: .ref h5 :: .ref h6 :: .int 0 :: .ref h7 :: .ref h8 :: .int 0 :: .ref h9 :: .ref h10 :: .ref h11 :: .int 0 :: .int (-1) :: .int 0 :: .ref h12 :: .int 0 :: .ref h13 :: .int 0 :: .int 0 :: .null :: .int 0 :: .int 0 :: .int 0 :: .int 0 :: .ref h14 :: .ref h15 :: .ref h16 :: .ref h17 :: .int 0 :: .null :: .int 0 :: .int 0 :: .int 0 :: .ref h18 :: .int 0 :: .int (-1) :: .int 0 :: .ref h19 :: .int 0 :: .ref h20 :: .ref h21 :: .int 0 :: .ref h22 :: .ref h23 :: .ref h24 :: .ref h25 :: .int 0 :: .int 0 :: .int 0 :: .ref h26 :: .int 0 :: .int 0 :: .ref h27 :: .ref h28 :: .ref h29 :: .ref h30 :: .int 0 :: .ref h31 :: .int 0 :: .ref h32 :: .int 0 :: .int 0 :: .ref h33 :: .ref h34 :: .ref h35 :: [])))] H locs) => ?_)
  have hu := hu.symm
  subst hu
  exact g_iret X hr hlk hG rfl gS0 rfl [0] rfl rfl (Nat.le_of_ble_eq_true rfl) (Nat.le_of_ble_eq_true rfl) dX12_isFamily_11
set_option maxHeartbeats 4000000 in
set_option maxRecDepth 100000 in
theorem k141_swear (l : Launch) (D : va_G) (cT : Nat → ClassId) (h0 h1 h2 h3 h4 h5 h6 h7 h8 h9 h10 h11 h12 h13 h14 h15 h16 h17 h18 h19 h20 h21 h22 h23 h24 h25 h26 h27 h28 h29 h30 h31 h32 h33 h34 h35 : Nat) (x0 x1 : Int32) : gMet l D cT yX12_swear cX12_swear 4 (some .int) 2 43 0 0 [.ref h0, .int x0, .int x1] [(h0, .inr (11, (.ref h1 :: .int 0 :: .ref h2 :: .ref h3 :: .ref h4 :: .ref h5 :: .ref h6 :: .int 0 :: .ref h7 :: .ref h8 :: .int 0 :: .ref h9 :: .ref h10 :: .ref h11 :: .int 0 :: .int (-1) :: .int 0 :: .ref h12 :: .int 0 :: .ref h13 :: .int 0 :: .int 0 :: .null :: .int 0 :: .int 0 :: .int 0 :: .int 0 :: .ref h14 :: .ref h15 :: .ref h16 :: .ref h17 :: .int 0 :: .null :: .int 0 :: .int 0 :: .int 0 :: .ref h18 :: .int 0 :: .int (-1) :: .int 0 :: .ref h19 :: .int 0 :: .ref h20 :: .ref h21 :: .int 0 :: .ref h22 :: .ref h23 :: .ref h24 :: .ref h25 :: .int 0 :: .int 0 :: .int 0 :: .ref h26 :: .int 0 :: .int 0 :: .ref h27 :: .ref h28 :: .ref h29 :: .ref h30 :: .int 0 :: .ref h31 :: .int 0 :: .ref h32 :: .int 0 :: .int 0 :: .ref h33 :: .ref h34 :: .ref h35 :: [])))] gE0 (gQi D cT (fun (r : Int32) (u : gS) => r = (-1)) (fun u : gS => [(h0, .inr (11, (.ref h1 :: .int 0 :: .ref h2 :: .ref h3 :: .ref h4 :: .ref h5 :: .ref h6 :: .int 0 :: .ref h7 :: .ref h8 :: .int 0 :: .ref h9 :: .ref h10 :: .ref h11 :: .int 0 :: .int (-1) :: .int 0 :: .ref h12 :: .int 0 :: .ref h13 :: .int 0 :: .int 0 :: .null :: .int 0 :: .int 0 :: .int 0 :: .int 0 :: .ref h14 :: .ref h15 :: .ref h16 :: .ref h17 :: .int 0 :: .null :: .int 0 :: .int 0 :: .int 0 :: .ref h18 :: .int 0 :: .int (-1) :: .int 0 :: .ref h19 :: .int 0 :: .ref h20 :: .ref h21 :: .int 0 :: .ref h22 :: .ref h23 :: .ref h24 :: .ref h25 :: .int 0 :: .int 0 :: .int 0 :: .ref h26 :: .int 0 :: .int 0 :: .ref h27 :: .ref h28 :: .ref h29 :: .ref h30 :: .int 0 :: .ref h31 :: .int 0 :: .ref h32 :: .int 0 :: .int 0 :: .ref h33 :: .ref h34 :: .ref h35 :: [])))])) := by
  refine gMet.of "StorksLetModel" rfl (by decide +kernel) (Nat.le_of_ble_eq_true rfl) [(0, .ref h0), (1, .int x0), (2, .int x1)] rfl ?_
  intro p e s m below meth c A ls X hr hlk hnm hA hG hE hl
  refine lv_aload_n X.x X.b dX12_swear_0 rfl (lv_at hl 0 rfl) ?_
  refine lv_iconst (v := 0) X.x X.b dX12_swear_1 (by decide +kernel) ?_
  refine gp_X12_124 X hG 0 rfl rfl rfl (Nat.le_of_ble_eq_true rfl) dX12_swear_2 (fun H locs (hG : gG D A s.heap [(h0, .inr (11, (.ref h1 :: .int 0 :: .ref h2 :: .ref h3 :: .ref h4 :: .ref h5 :: .ref h6 :: .int 0 :: .ref h7 :: .ref h8 :: .int 0 :: .ref h9 :: .ref h10 :: .ref h11 :: .int 0 :: .int (-1) :: .int 0 :: .ref h12 :: .int 0 :: .ref h13 :: .int 0 :: .int 0 :: .null :: .int 0 :: .int 0 :: .int 0 :: .int 0 :: .ref h14 :: .ref h15 :: .ref h16 :: .ref h17 :: .int 0 :: .null :: .int 0 :: .int 0 :: .int 0 :: .ref h18 :: .int 0 :: .int (-1) :: .int 0 :: .ref h19 :: .int 0 :: .ref h20 :: .ref h21 :: .int 0 :: .ref h22 :: .ref h23 :: .ref h24 :: .ref h25 :: .int 0 :: .int 0 :: .int 0 :: .ref h26 :: .int 0 :: .int 0 :: .ref h27 :: .ref h28 :: .ref h29 :: .ref h30 :: .int 0 :: .ref h31 :: .int 0 :: .ref h32 :: .int 0 :: .int 0 :: .ref h33 :: .ref h34 :: .ref h35 :: [])))] H locs) => ?_)
  refine lv_aload_n X.x X.b dX12_swear_5 rfl (lv_at hl 0 rfl) ?_
  refine lv_iload_n X.x X.b dX12_swear_6 rfl (lv_at hl 1 rfl) ?_
  refine g_ki (g_rV (As := [.int x0]) (rest := []) X hl hG (k140_isFamily l D cT h0 h1 h2 h3 h4 h5 h6 h7 h8 h9 h10 h11 h12 h13 h14 h15 h16 h17 h18 h19 h20 h21 h22 h23 h24 h25 h26 h27 h28 h29 h30 h31 h32 h33 h34 h35 x0) gw_X12_268 g_E01 g_E02 [0] rfl rfl 0 rfl rfl rfl rfl rfl (Nat.le_of_ble_eq_true rfl) ⟨(Nat.le_of_ble_eq_true rfl), (Nat.le_of_ble_eq_true rfl)⟩ ⟨(Nat.le_of_ble_eq_true rfl), (Nat.le_of_ble_eq_true rfl)⟩ dX12_swear_7) hG hA [0] [] rfl rfl rfl rfl (c1 := 0) (s1 := 0) rfl rfl (fun r_1 u_1 H locs (hu : r_1 = 0) (hG : gG D A s.heap [(h0, .inr (11, (.ref h1 :: .int 0 :: .ref h2 :: .ref h3 :: .ref h4 :: .ref h5 :: .ref h6 :: .int 0 :: .ref h7 :: .ref h8 :: .int 0 :: .ref h9 :: .ref h10 :: .ref h11 :: .int 0 :: .int (-1) :: .int 0 :: .ref h12 :: .int 0 :: .ref h13 :: .int 0 :: .int 0 :: .null :: .int 0 :: .int 0 :: .int 0 :: .int 0 :: .ref h14 :: .ref h15 :: .ref h16 :: .ref h17 :: .int 0 :: .null :: .int 0 :: .int 0 :: .int 0 :: .ref h18 :: .int 0 :: .int (-1) :: .int 0 :: .ref h19 :: .int 0 :: .ref h20 :: .ref h21 :: .int 0 :: .ref h22 :: .ref h23 :: .ref h24 :: .ref h25 :: .int 0 :: .int 0 :: .int 0 :: .ref h26 :: .int 0 :: .int 0 :: .ref h27 :: .ref h28 :: .ref h29 :: .ref h30 :: .int 0 :: .ref h31 :: .int 0 :: .ref h32 :: .int 0 :: .int 0 :: .ref h33 :: .ref h34 :: .ref h35 :: [])))] H locs) => ?_)
  have hu := hu.symm
  subst hu
  refine b_if_eq_t (tgt := 21) X.x X.b dX12_swear_10 (by decide) (by decide +kernel) ?_
  refine lv_iconst (v := (-1)) X.x X.b dX12_swear_21 (by decide +kernel) ?_
  exact g_iret X hr hlk hG rfl gS0 rfl [0] rfl rfl (Nat.le_of_ble_eq_true rfl) (Nat.le_of_ble_eq_true rfl) dX12_swear_22
set_option maxHeartbeats 4000000 in
set_option maxRecDepth 100000 in
theorem k142_sheet (l : Launch) (D : va_G) (cT : Nat → ClassId) (h0 h1 h2 h3 h4 h5 h6 h7 h8 h9 h10 h11 h12 h13 h14 h15 : Nat) (x0 x1 x2 x3 : Int32) (u_x0 : x0.toInt ≤ -1) : gMet l D cT yX11_sheet cX11_sheet 10 (some .int) 0 0 0 0 [.ref h0, .int x0, .int x1, .int x2, .int x3] [(h0, .inr (10, [.ref h1, .ref h2, .ref h3, .ref h4, .ref h5, .ref h6, .ref h7, .ref h8, .ref h9, .ref h10, .ref h11, .ref h12, .ref h13, .null, .ref h14, .ref h15]))] gE0 (gQi D cT (fun (r : Int32) (u : gS) => r = (-1)) (fun u : gS => [(h0, .inr (10, [.ref h1, .ref h2, .ref h3, .ref h4, .ref h5, .ref h6, .ref h7, .ref h8, .ref h9, .ref h10, .ref h11, .ref h12, .ref h13, .null, .ref h14, .ref h15]))])) := by
  refine gMet.of "StorksLet" rfl (by decide +kernel) (Nat.le_of_ble_eq_true rfl) [(0, .ref h0), (1, .int x0), (2, .int x1), (3, .int x2), (4, .int x3)] rfl ?_
  intro p e s m below meth c A ls X hr hlk hnm hA hG hE hl
  refine lv_iload_n X.x X.b dX11_sheet_0 rfl (lv_at hl 1 rfl) ?_
  refine b_if_lt_t (tgt := 15) X.x X.b dX11_sheet_1 (by decide) (by simp only [Int32.lt_iff_toInt_lt, Int32.le_iff_toInt_le, ← Int32.toInt_inj, show (0 : Int32).toInt = 0 from by decide +kernel]; omega) ?_
  refine lv_iconst (v := (-1)) X.x X.b dX11_sheet_15 (by decide +kernel) ?_
  exact g_iret X hr hlk hG rfl gS0 rfl [0] rfl rfl (Nat.le_of_ble_eq_true rfl) (Nat.le_of_ble_eq_true rfl) dX11_sheet_16
set_option maxHeartbeats 4000000 in
set_option maxRecDepth 100000 in
theorem k143_in (l : Launch) (D : va_G) (cT : Nat → ClassId) (x0 : Int32) (u_x0 : x0.toInt ≤ -1) : gMet l D cT yX12_in cX12_in 3 (some .boolean) 0 0 0 0 [.int x0, .int 0, .int 3] [] gE0 (gQi D cT (fun (r : Int32) (u : gS) => r = 0) (fun u : gS => [])) := by
  refine gMet.of "StorksLetModel" rfl (by decide +kernel) (Nat.le_of_ble_eq_true rfl) [(0, .int x0), (1, .int 0), (2, .int 3)] rfl ?_
  intro p e s m below meth c A ls X hr hlk hnm hA hG hE hl
  refine lv_iload_n X.x X.b dX12_in_0 rfl (lv_at hl 0 rfl) ?_
  refine lv_iload_n X.x X.b dX12_in_1 rfl (lv_at hl 1 rfl) ?_
  refine b_icmp_lt_t (tgt := 14) X.x X.b dX12_in_2 (by decide) (by simp only [Int32.lt_iff_toInt_lt, Int32.le_iff_toInt_le, ← Int32.toInt_inj, show (0 : Int32).toInt = 0 from by decide +kernel]; omega) ?_
  refine lv_iconst (v := 0) X.x X.b dX12_in_14 (by decide +kernel) ?_
  exact g_iret X hr hlk hG rfl gS0 rfl [] rfl rfl (Nat.le_of_ble_eq_true rfl) (Nat.le_of_ble_eq_true rfl) dX12_in_15
set_option maxHeartbeats 4000000 in
set_option maxRecDepth 100000 in
theorem k144_sheet (l : Launch) (D : va_G) (cT : Nat → ClassId) (h0 h1 h2 h3 h4 h5 h6 h7 h8 h9 h10 h11 h12 h13 h14 h15 h16 h17 h18 h19 h20 h21 h22 h23 h24 h25 h26 h27 h28 h29 h30 h31 h32 h33 h34 h35 : Nat) (x0 x1 x2 x3 : Int32) (u_x0 : x0.toInt ≤ -1) : gMet l D cT yX12_sheet cX12_sheet 9 (some .int) 1 22 0 0 [.ref h0, .int x0, .int x1, .int x2, .int x3] [(h0, .inr (11, (.ref h1 :: .int 0 :: .ref h2 :: .ref h3 :: .ref h4 :: .ref h5 :: .ref h6 :: .int 0 :: .ref h7 :: .ref h8 :: .int 0 :: .ref h9 :: .ref h10 :: .ref h11 :: .int 0 :: .int (-1) :: .int 0 :: .ref h12 :: .int 0 :: .ref h13 :: .int 0 :: .int 0 :: .null :: .int 0 :: .int 0 :: .int 0 :: .int 0 :: .ref h14 :: .ref h15 :: .ref h16 :: .ref h17 :: .int 0 :: .null :: .int 0 :: .int 0 :: .int 0 :: .ref h18 :: .int 0 :: .int (-1) :: .int 0 :: .ref h19 :: .int 0 :: .ref h20 :: .ref h21 :: .int 0 :: .ref h22 :: .ref h23 :: .ref h24 :: .ref h25 :: .int 0 :: .int 0 :: .int 0 :: .ref h26 :: .int 0 :: .int 0 :: .ref h27 :: .ref h28 :: .ref h29 :: .ref h30 :: .int 0 :: .ref h31 :: .int 0 :: .ref h32 :: .int 0 :: .int 0 :: .ref h33 :: .ref h34 :: .ref h35 :: [])))] gE0 (gQi D cT (fun (r : Int32) (u : gS) => r = (-1)) (fun u : gS => [(h0, .inr (11, (.ref h1 :: .int 0 :: .ref h2 :: .ref h3 :: .ref h4 :: .ref h5 :: .ref h6 :: .int 0 :: .ref h7 :: .ref h8 :: .int 0 :: .ref h9 :: .ref h10 :: .ref h11 :: .int 0 :: .int (-1) :: .int 0 :: .ref h12 :: .int 0 :: .ref h13 :: .int 0 :: .int 0 :: .null :: .int 0 :: .int 0 :: .int 0 :: .int 0 :: .ref h14 :: .ref h15 :: .ref h16 :: .ref h17 :: .int 0 :: .null :: .int 0 :: .int 0 :: .int 0 :: .ref h18 :: .int 0 :: .int (-1) :: .int 0 :: .ref h19 :: .int 0 :: .ref h20 :: .ref h21 :: .int 0 :: .ref h22 :: .ref h23 :: .ref h24 :: .ref h25 :: .int 0 :: .int 0 :: .int 0 :: .ref h26 :: .int 0 :: .int 0 :: .ref h27 :: .ref h28 :: .ref h29 :: .ref h30 :: .int 0 :: .ref h31 :: .int 0 :: .ref h32 :: .int 0 :: .int 0 :: .ref h33 :: .ref h34 :: .ref h35 :: [])))])) := by
  refine gMet.of "StorksLetModel" rfl (by decide +kernel) (Nat.le_of_ble_eq_true rfl) [(0, .ref h0), (1, .int x0), (2, .int x1), (3, .int x2), (4, .int x3)] rfl ?_
  intro p e s m below meth c A ls X hr hlk hnm hA hG hE hl
  refine lv_aload_n X.x X.b dX12_sheet_0 rfl (lv_at hl 0 rfl) ?_
  refine lv_iconst (v := 0) X.x X.b dX12_sheet_1 (by decide +kernel) ?_
  refine gp_X12_124 X hG 0 rfl rfl rfl (Nat.le_of_ble_eq_true rfl) dX12_sheet_2 (fun H locs (hG : gG D A s.heap [(h0, .inr (11, (.ref h1 :: .int 0 :: .ref h2 :: .ref h3 :: .ref h4 :: .ref h5 :: .ref h6 :: .int 0 :: .ref h7 :: .ref h8 :: .int 0 :: .ref h9 :: .ref h10 :: .ref h11 :: .int 0 :: .int (-1) :: .int 0 :: .ref h12 :: .int 0 :: .ref h13 :: .int 0 :: .int 0 :: .null :: .int 0 :: .int 0 :: .int 0 :: .int 0 :: .ref h14 :: .ref h15 :: .ref h16 :: .ref h17 :: .int 0 :: .null :: .int 0 :: .int 0 :: .int 0 :: .ref h18 :: .int 0 :: .int (-1) :: .int 0 :: .ref h19 :: .int 0 :: .ref h20 :: .ref h21 :: .int 0 :: .ref h22 :: .ref h23 :: .ref h24 :: .ref h25 :: .int 0 :: .int 0 :: .int 0 :: .ref h26 :: .int 0 :: .int 0 :: .ref h27 :: .ref h28 :: .ref h29 :: .ref h30 :: .int 0 :: .ref h31 :: .int 0 :: .ref h32 :: .int 0 :: .int 0 :: .ref h33 :: .ref h34 :: .ref h35 :: [])))] H locs) => ?_)
  refine lv_iload_n X.x X.b dX12_sheet_5 rfl (lv_at hl 1 rfl) ?_
  refine lv_iconst (v := 0) X.x X.b dX12_sheet_6 (by decide +kernel) ?_
  refine lv_iconst (v := 3) X.x X.b dX12_sheet_7 (by decide +kernel) ?_
  refine g_ki (g_rS (As := [.int x0, .int 0, .int 3]) (rest := []) X hl hG (k143_in l D cT x0 (by omega)) gw_X12_133 g_E01 g_E02 [] rfl rfl rfl rfl (Nat.le_of_ble_eq_true rfl) ⟨(Nat.le_of_ble_eq_true rfl), (Nat.le_of_ble_eq_true rfl)⟩ ⟨(Nat.le_of_ble_eq_true rfl), (Nat.le_of_ble_eq_true rfl)⟩ dX12_sheet_8) hG hA [] [0] rfl rfl rfl rfl (c1 := 0) (s1 := 0) rfl rfl (fun r_1 u_1 H locs (hu : r_1 = 0) (hG : gG D A s.heap [(h0, .inr (11, (.ref h1 :: .int 0 :: .ref h2 :: .ref h3 :: .ref h4 :: .ref h5 :: .ref h6 :: .int 0 :: .ref h7 :: .ref h8 :: .int 0 :: .ref h9 :: .ref h10 :: .ref h11 :: .int 0 :: .int (-1) :: .int 0 :: .ref h12 :: .int 0 :: .ref h13 :: .int 0 :: .int 0 :: .null :: .int 0 :: .int 0 :: .int 0 :: .int 0 :: .ref h14 :: .ref h15 :: .ref h16 :: .ref h17 :: .int 0 :: .null :: .int 0 :: .int 0 :: .int 0 :: .ref h18 :: .int 0 :: .int (-1) :: .int 0 :: .ref h19 :: .int 0 :: .ref h20 :: .ref h21 :: .int 0 :: .ref h22 :: .ref h23 :: .ref h24 :: .ref h25 :: .int 0 :: .int 0 :: .int 0 :: .ref h26 :: .int 0 :: .int 0 :: .ref h27 :: .ref h28 :: .ref h29 :: .ref h30 :: .int 0 :: .ref h31 :: .int 0 :: .ref h32 :: .int 0 :: .int 0 :: .ref h33 :: .ref h34 :: .ref h35 :: [])))] H locs) => ?_)
  have hu := hu.symm
  subst hu
  refine b_if_eq_t (tgt := 20) X.x X.b dX12_sheet_11 (by decide) (by decide +kernel) ?_
  refine lv_iconst (v := (-1)) X.x X.b dX12_sheet_20 (by decide +kernel) ?_
  exact g_iret X hr hlk hG rfl gS0 rfl [0] rfl rfl (Nat.le_of_ble_eq_true rfl) (Nat.le_of_ble_eq_true rfl) dX12_sheet_21
set_option maxHeartbeats 4000000 in
set_option maxRecDepth 100000 in
theorem k145_sheet (l : Launch) (D : va_G) (cT : Nat → ClassId) (h0 h1 h2 h3 h4 h5 h6 h7 h8 h9 h10 h11 h12 h13 h14 h15 : Nat) (x0 x1 x2 x3 : Int32) (l_x0 : 4 ≤ x0.toInt) : gMet l D cT yX11_sheet cX11_sheet 10 (some .int) 0 0 0 0 [.ref h0, .int x0, .int x1, .int x2, .int x3] [(h0, .inr (10, [.ref h1, .ref h2, .ref h3, .ref h4, .ref h5, .ref h6, .ref h7, .ref h8, .ref h9, .ref h10, .ref h11, .ref h12, .ref h13, .null, .ref h14, .ref h15]))] gE0 (gQi D cT (fun (r : Int32) (u : gS) => r = (-1)) (fun u : gS => [(h0, .inr (10, [.ref h1, .ref h2, .ref h3, .ref h4, .ref h5, .ref h6, .ref h7, .ref h8, .ref h9, .ref h10, .ref h11, .ref h12, .ref h13, .null, .ref h14, .ref h15]))])) := by
  refine gMet.of "StorksLet" rfl (by decide +kernel) (Nat.le_of_ble_eq_true rfl) [(0, .ref h0), (1, .int x0), (2, .int x1), (3, .int x2), (4, .int x3)] rfl ?_
  intro p e s m below meth c A ls X hr hlk hnm hA hG hE hl
  refine lv_iload_n X.x X.b dX11_sheet_0 rfl (lv_at hl 1 rfl) ?_
  refine b_if_lt_f (tgt := 15) X.x X.b dX11_sheet_1 (by decide) (by simp only [Int32.lt_iff_toInt_lt, Int32.le_iff_toInt_le, ← Int32.toInt_inj, show (0 : Int32).toInt = 0 from by decide +kernel]; omega) ?_
  refine lv_iload_n X.x X.b dX11_sheet_4 rfl (lv_at hl 1 rfl) ?_
  refine lv_iconst (v := 3) X.x X.b dX11_sheet_5 (by decide +kernel) ?_
  refine b_icmp_gt_t (tgt := 15) X.x X.b dX11_sheet_6 (by decide) (by simp only [Int32.lt_iff_toInt_lt, Int32.le_iff_toInt_le, ← Int32.toInt_inj, show (3 : Int32).toInt = 3 from by decide +kernel]; omega) ?_
  refine lv_iconst (v := (-1)) X.x X.b dX11_sheet_15 (by decide +kernel) ?_
  exact g_iret X hr hlk hG rfl gS0 rfl [0] rfl rfl (Nat.le_of_ble_eq_true rfl) (Nat.le_of_ble_eq_true rfl) dX11_sheet_16
set_option maxHeartbeats 4000000 in
set_option maxRecDepth 100000 in
theorem k146_in (l : Launch) (D : va_G) (cT : Nat → ClassId) (x0 : Int32) (l_x0 : 4 ≤ x0.toInt) : gMet l D cT yX12_in cX12_in 3 (some .boolean) 0 0 0 0 [.int x0, .int 0, .int 3] [] gE0 (gQi D cT (fun (r : Int32) (u : gS) => r = 0) (fun u : gS => [])) := by
  refine gMet.of "StorksLetModel" rfl (by decide +kernel) (Nat.le_of_ble_eq_true rfl) [(0, .int x0), (1, .int 0), (2, .int 3)] rfl ?_
  intro p e s m below meth c A ls X hr hlk hnm hA hG hE hl
  refine lv_iload_n X.x X.b dX12_in_0 rfl (lv_at hl 0 rfl) ?_
  refine lv_iload_n X.x X.b dX12_in_1 rfl (lv_at hl 1 rfl) ?_
  refine b_icmp_lt_f (tgt := 14) X.x X.b dX12_in_2 (by decide) (by simp only [Int32.lt_iff_toInt_lt, Int32.le_iff_toInt_le, ← Int32.toInt_inj, show (0 : Int32).toInt = 0 from by decide +kernel]; omega) ?_
  refine lv_iload_n X.x X.b dX12_in_5 rfl (lv_at hl 0 rfl) ?_
  refine lv_iload_n X.x X.b dX12_in_6 rfl (lv_at hl 2 rfl) ?_
  refine b_icmp_gt_t (tgt := 14) X.x X.b dX12_in_7 (by decide) (by simp only [Int32.lt_iff_toInt_lt, Int32.le_iff_toInt_le, ← Int32.toInt_inj, show (3 : Int32).toInt = 3 from by decide +kernel]; omega) ?_
  refine lv_iconst (v := 0) X.x X.b dX12_in_14 (by decide +kernel) ?_
  exact g_iret X hr hlk hG rfl gS0 rfl [] rfl rfl (Nat.le_of_ble_eq_true rfl) (Nat.le_of_ble_eq_true rfl) dX12_in_15
set_option maxHeartbeats 4000000 in
set_option maxRecDepth 100000 in
theorem k147_sheet (l : Launch) (D : va_G) (cT : Nat → ClassId) (h0 h1 h2 h3 h4 h5 h6 h7 h8 h9 h10 h11 h12 h13 h14 h15 h16 h17 h18 h19 h20 h21 h22 h23 h24 h25 h26 h27 h28 h29 h30 h31 h32 h33 h34 h35 : Nat) (x0 x1 x2 x3 : Int32) (l_x0 : 4 ≤ x0.toInt) : gMet l D cT yX12_sheet cX12_sheet 9 (some .int) 1 22 0 0 [.ref h0, .int x0, .int x1, .int x2, .int x3] [(h0, .inr (11, (.ref h1 :: .int 0 :: .ref h2 :: .ref h3 :: .ref h4 :: .ref h5 :: .ref h6 :: .int 0 :: .ref h7 :: .ref h8 :: .int 0 :: .ref h9 :: .ref h10 :: .ref h11 :: .int 0 :: .int (-1) :: .int 0 :: .ref h12 :: .int 0 :: .ref h13 :: .int 0 :: .int 0 :: .null :: .int 0 :: .int 0 :: .int 0 :: .int 0 :: .ref h14 :: .ref h15 :: .ref h16 :: .ref h17 :: .int 0 :: .null :: .int 0 :: .int 0 :: .int 0 :: .ref h18 :: .int 0 :: .int (-1) :: .int 0 :: .ref h19 :: .int 0 :: .ref h20 :: .ref h21 :: .int 0 :: .ref h22 :: .ref h23 :: .ref h24 :: .ref h25 :: .int 0 :: .int 0 :: .int 0 :: .ref h26 :: .int 0 :: .int 0 :: .ref h27 :: .ref h28 :: .ref h29 :: .ref h30 :: .int 0 :: .ref h31 :: .int 0 :: .ref h32 :: .int 0 :: .int 0 :: .ref h33 :: .ref h34 :: .ref h35 :: [])))] gE0 (gQi D cT (fun (r : Int32) (u : gS) => r = (-1)) (fun u : gS => [(h0, .inr (11, (.ref h1 :: .int 0 :: .ref h2 :: .ref h3 :: .ref h4 :: .ref h5 :: .ref h6 :: .int 0 :: .ref h7 :: .ref h8 :: .int 0 :: .ref h9 :: .ref h10 :: .ref h11 :: .int 0 :: .int (-1) :: .int 0 :: .ref h12 :: .int 0 :: .ref h13 :: .int 0 :: .int 0 :: .null :: .int 0 :: .int 0 :: .int 0 :: .int 0 :: .ref h14 :: .ref h15 :: .ref h16 :: .ref h17 :: .int 0 :: .null :: .int 0 :: .int 0 :: .int 0 :: .ref h18 :: .int 0 :: .int (-1) :: .int 0 :: .ref h19 :: .int 0 :: .ref h20 :: .ref h21 :: .int 0 :: .ref h22 :: .ref h23 :: .ref h24 :: .ref h25 :: .int 0 :: .int 0 :: .int 0 :: .ref h26 :: .int 0 :: .int 0 :: .ref h27 :: .ref h28 :: .ref h29 :: .ref h30 :: .int 0 :: .ref h31 :: .int 0 :: .ref h32 :: .int 0 :: .int 0 :: .ref h33 :: .ref h34 :: .ref h35 :: [])))])) := by
  refine gMet.of "StorksLetModel" rfl (by decide +kernel) (Nat.le_of_ble_eq_true rfl) [(0, .ref h0), (1, .int x0), (2, .int x1), (3, .int x2), (4, .int x3)] rfl ?_
  intro p e s m below meth c A ls X hr hlk hnm hA hG hE hl
  refine lv_aload_n X.x X.b dX12_sheet_0 rfl (lv_at hl 0 rfl) ?_
  refine lv_iconst (v := 0) X.x X.b dX12_sheet_1 (by decide +kernel) ?_
  refine gp_X12_124 X hG 0 rfl rfl rfl (Nat.le_of_ble_eq_true rfl) dX12_sheet_2 (fun H locs (hG : gG D A s.heap [(h0, .inr (11, (.ref h1 :: .int 0 :: .ref h2 :: .ref h3 :: .ref h4 :: .ref h5 :: .ref h6 :: .int 0 :: .ref h7 :: .ref h8 :: .int 0 :: .ref h9 :: .ref h10 :: .ref h11 :: .int 0 :: .int (-1) :: .int 0 :: .ref h12 :: .int 0 :: .ref h13 :: .int 0 :: .int 0 :: .null :: .int 0 :: .int 0 :: .int 0 :: .int 0 :: .ref h14 :: .ref h15 :: .ref h16 :: .ref h17 :: .int 0 :: .null :: .int 0 :: .int 0 :: .int 0 :: .ref h18 :: .int 0 :: .int (-1) :: .int 0 :: .ref h19 :: .int 0 :: .ref h20 :: .ref h21 :: .int 0 :: .ref h22 :: .ref h23 :: .ref h24 :: .ref h25 :: .int 0 :: .int 0 :: .int 0 :: .ref h26 :: .int 0 :: .int 0 :: .ref h27 :: .ref h28 :: .ref h29 :: .ref h30 :: .int 0 :: .ref h31 :: .int 0 :: .ref h32 :: .int 0 :: .int 0 :: .ref h33 :: .ref h34 :: .ref h35 :: [])))] H locs) => ?_)
  refine lv_iload_n X.x X.b dX12_sheet_5 rfl (lv_at hl 1 rfl) ?_
  refine lv_iconst (v := 0) X.x X.b dX12_sheet_6 (by decide +kernel) ?_
  refine lv_iconst (v := 3) X.x X.b dX12_sheet_7 (by decide +kernel) ?_
  refine g_ki (g_rS (As := [.int x0, .int 0, .int 3]) (rest := []) X hl hG (k146_in l D cT x0 (by omega)) gw_X12_133 g_E01 g_E02 [] rfl rfl rfl rfl (Nat.le_of_ble_eq_true rfl) ⟨(Nat.le_of_ble_eq_true rfl), (Nat.le_of_ble_eq_true rfl)⟩ ⟨(Nat.le_of_ble_eq_true rfl), (Nat.le_of_ble_eq_true rfl)⟩ dX12_sheet_8) hG hA [] [0] rfl rfl rfl rfl (c1 := 0) (s1 := 0) rfl rfl (fun r_1 u_1 H locs (hu : r_1 = 0) (hG : gG D A s.heap [(h0, .inr (11, (.ref h1 :: .int 0 :: .ref h2 :: .ref h3 :: .ref h4 :: .ref h5 :: .ref h6 :: .int 0 :: .ref h7 :: .ref h8 :: .int 0 :: .ref h9 :: .ref h10 :: .ref h11 :: .int 0 :: .int (-1) :: .int 0 :: .ref h12 :: .int 0 :: .ref h13 :: .int 0 :: .int 0 :: .null :: .int 0 :: .int 0 :: .int 0 :: .int 0 :: .ref h14 :: .ref h15 :: .ref h16 :: .ref h17 :: .int 0 :: .null :: .int 0 :: .int 0 :: .int 0 :: .ref h18 :: .int 0 :: .int (-1) :: .int 0 :: .ref h19 :: .int 0 :: .ref h20 :: .ref h21 :: .int 0 :: .ref h22 :: .ref h23 :: .ref h24 :: .ref h25 :: .int 0 :: .int 0 :: .int 0 :: .ref h26 :: .int 0 :: .int 0 :: .ref h27 :: .ref h28 :: .ref h29 :: .ref h30 :: .int 0 :: .ref h31 :: .int 0 :: .ref h32 :: .int 0 :: .int 0 :: .ref h33 :: .ref h34 :: .ref h35 :: [])))] H locs) => ?_)
  have hu := hu.symm
  subst hu
  refine b_if_eq_t (tgt := 20) X.x X.b dX12_sheet_11 (by decide) (by decide +kernel) ?_
  refine lv_iconst (v := (-1)) X.x X.b dX12_sheet_20 (by decide +kernel) ?_
  exact g_iret X hr hlk hG rfl gS0 rfl [0] rfl rfl (Nat.le_of_ble_eq_true rfl) (Nat.le_of_ble_eq_true rfl) dX12_sheet_21
set_option maxHeartbeats 4000000 in
set_option maxRecDepth 100000 in
theorem k148_sheet (l : Launch) (D : va_G) (cT : Nat → ClassId) (h0 h1 h2 h3 h4 h5 h6 h7 h8 h9 h10 h11 h12 h13 h14 h15 : Nat) (x0 x1 x2 x3 : Int32) (l_x0 : 0 ≤ x0.toInt) (u_x0 : x0.toInt ≤ 2) (u_x1 : x1.toInt ≤ -1) : gMet l D cT yX11_sheet cX11_sheet 10 (some .int) 0 0 0 0 [.ref h0, .int x0, .int x1, .int x2, .int x3] [(h0, .inr (10, [.ref h1, .ref h2, .ref h3, .ref h4, .ref h5, .ref h6, .ref h7, .ref h8, .ref h9, .ref h10, .ref h11, .ref h12, .ref h13, .null, .ref h14, .ref h15]))] gE0 (gQi D cT (fun (r : Int32) (u : gS) => r = (-2)) (fun u : gS => [(h0, .inr (10, [.ref h1, .ref h2, .ref h3, .ref h4, .ref h5, .ref h6, .ref h7, .ref h8, .ref h9, .ref h10, .ref h11, .ref h12, .ref h13, .null, .ref h14, .ref h15]))])) := by
  refine gMet.of "StorksLet" rfl (by decide +kernel) (Nat.le_of_ble_eq_true rfl) [(0, .ref h0), (1, .int x0), (2, .int x1), (3, .int x2), (4, .int x3)] rfl ?_
  intro p e s m below meth c A ls X hr hlk hnm hA hG hE hl
  refine lv_iload_n X.x X.b dX11_sheet_0 rfl (lv_at hl 1 rfl) ?_
  refine b_if_lt_f (tgt := 15) X.x X.b dX11_sheet_1 (by decide) (by simp only [Int32.lt_iff_toInt_lt, Int32.le_iff_toInt_le, ← Int32.toInt_inj, show (0 : Int32).toInt = 0 from by decide +kernel]; omega) ?_
  refine lv_iload_n X.x X.b dX11_sheet_4 rfl (lv_at hl 1 rfl) ?_
  refine lv_iconst (v := 3) X.x X.b dX11_sheet_5 (by decide +kernel) ?_
  refine b_icmp_gt_f (tgt := 15) X.x X.b dX11_sheet_6 (by decide) (by simp only [Int32.lt_iff_toInt_lt, Int32.le_iff_toInt_le, ← Int32.toInt_inj, show (3 : Int32).toInt = 3 from by decide +kernel]; omega) ?_
  refine lv_iload_n X.x X.b dX11_sheet_9 rfl (lv_at hl 2 rfl) ?_
  refine lv_bipush (v := 6) X.x X.b dX11_sheet_10 (by decide +kernel) ?_
  refine b_icmp_le_t (tgt := 17) X.x X.b dX11_sheet_12 (by decide) (by simp only [Int32.lt_iff_toInt_lt, Int32.le_iff_toInt_le, ← Int32.toInt_inj, show (6 : Int32).toInt = 6 from by decide +kernel]; omega) ?_
  refine lv_iload_n X.x X.b dX11_sheet_17 rfl (lv_at hl 1 rfl) ?_
  refine lv_iconst (v := 3) X.x X.b dX11_sheet_18 (by decide +kernel) ?_
  refine b_icmp_ne_t (tgt := 26) X.x X.b dX11_sheet_19 (by decide) (by simp only [Int32.lt_iff_toInt_lt, Int32.le_iff_toInt_le, ← Int32.toInt_inj, show (3 : Int32).toInt = 3 from by decide +kernel]; omega) ?_
  refine lv_iconst (v := 0) X.x X.b dX11_sheet_26 (by decide +kernel) ?_
  refine lv_istore (lv' := [(5, .int 0), (0, .ref h0), (1, .int x0), (2, .int x1), (3, .int x2), (4, .int x3)]) X.x X.b dX11_sheet_27 hl (Nat.le_of_ble_eq_true rfl) rfl (fun ls hl => ?_)
  refine lv_iload X.x X.b dX11_sheet_29 (lv_at hl 0 rfl) ?_
  refine b_if_ne_f (tgt := 41) X.x X.b dX11_sheet_31 (by decide) (by decide +kernel) ?_
  refine lv_iload_n X.x X.b dX11_sheet_34 rfl (lv_at hl 3 rfl) ?_
  refine b_if_ge_f (tgt := 41) X.x X.b dX11_sheet_35 (by decide) (by simp only [Int32.lt_iff_toInt_lt, Int32.le_iff_toInt_le, ← Int32.toInt_inj, show (0 : Int32).toInt = 0 from by decide +kernel]; omega) ?_
  refine lv_bipush (v := (-2)) X.x X.b dX11_sheet_38 (by decide +kernel) ?_
  exact g_iret X hr hlk hG rfl gS0 rfl [0] rfl rfl (Nat.le_of_ble_eq_true rfl) (Nat.le_of_ble_eq_true rfl) dX11_sheet_40
set_option maxHeartbeats 4000000 in
set_option maxRecDepth 100000 in
theorem k149_in (l : Launch) (D : va_G) (cT : Nat → ClassId) (x0 : Int32) (l_x0 : 0 ≤ x0.toInt) (u_x0 : x0.toInt ≤ 2) : gMet l D cT yX12_in cX12_in 3 (some .boolean) 0 0 0 0 [.int x0, .int 0, .int 3] [] gE0 (gQi D cT (fun (r : Int32) (u : gS) => r = 1) (fun u : gS => [])) := by
  refine gMet.of "StorksLetModel" rfl (by decide +kernel) (Nat.le_of_ble_eq_true rfl) [(0, .int x0), (1, .int 0), (2, .int 3)] rfl ?_
  intro p e s m below meth c A ls X hr hlk hnm hA hG hE hl
  refine lv_iload_n X.x X.b dX12_in_0 rfl (lv_at hl 0 rfl) ?_
  refine lv_iload_n X.x X.b dX12_in_1 rfl (lv_at hl 1 rfl) ?_
  refine b_icmp_lt_f (tgt := 14) X.x X.b dX12_in_2 (by decide) (by simp only [Int32.lt_iff_toInt_lt, Int32.le_iff_toInt_le, ← Int32.toInt_inj, show (0 : Int32).toInt = 0 from by decide +kernel]; omega) ?_
  refine lv_iload_n X.x X.b dX12_in_5 rfl (lv_at hl 0 rfl) ?_
  refine lv_iload_n X.x X.b dX12_in_6 rfl (lv_at hl 2 rfl) ?_
  refine b_icmp_gt_f (tgt := 14) X.x X.b dX12_in_7 (by decide) (by simp only [Int32.lt_iff_toInt_lt, Int32.le_iff_toInt_le, ← Int32.toInt_inj, show (3 : Int32).toInt = 3 from by decide +kernel]; omega) ?_
  refine lv_iconst (v := 1) X.x X.b dX12_in_10 (by decide +kernel) ?_
  refine lv_goto (tgt := 15) X.x X.b dX12_in_11 (by decide) ?_
  exact g_iret X hr hlk hG rfl gS0 rfl [] rfl rfl (Nat.le_of_ble_eq_true rfl) (Nat.le_of_ble_eq_true rfl) dX12_in_15
set_option maxHeartbeats 4000000 in
set_option maxRecDepth 100000 in
theorem k150_sheet (l : Launch) (D : va_G) (cT : Nat → ClassId) (h0 h1 h2 h3 h4 h5 h6 h7 h8 h9 h10 h11 h12 h13 h14 h15 h16 h17 h18 h19 h20 h21 h22 h23 h24 h25 h26 h27 h28 h29 h30 h31 h32 h33 h34 h35 : Nat) (x0 x1 x2 x3 : Int32) (l_x0 : 0 ≤ x0.toInt) (u_x0 : x0.toInt ≤ 2) (u_x1 : x1.toInt ≤ -1) : gMet l D cT yX12_sheet cX12_sheet 9 (some .int) 1 22 0 0 [.ref h0, .int x0, .int x1, .int x2, .int x3] [(h0, .inr (11, (.ref h1 :: .int 0 :: .ref h2 :: .ref h3 :: .ref h4 :: .ref h5 :: .ref h6 :: .int 0 :: .ref h7 :: .ref h8 :: .int 0 :: .ref h9 :: .ref h10 :: .ref h11 :: .int 0 :: .int (-1) :: .int 0 :: .ref h12 :: .int 0 :: .ref h13 :: .int 0 :: .int 0 :: .null :: .int 0 :: .int 0 :: .int 0 :: .int 0 :: .ref h14 :: .ref h15 :: .ref h16 :: .ref h17 :: .int 0 :: .null :: .int 0 :: .int 0 :: .int 0 :: .ref h18 :: .int 0 :: .int (-1) :: .int 0 :: .ref h19 :: .int 0 :: .ref h20 :: .ref h21 :: .int 0 :: .ref h22 :: .ref h23 :: .ref h24 :: .ref h25 :: .int 0 :: .int 0 :: .int 0 :: .ref h26 :: .int 0 :: .int 0 :: .ref h27 :: .ref h28 :: .ref h29 :: .ref h30 :: .int 0 :: .ref h31 :: .int 0 :: .ref h32 :: .int 0 :: .int 0 :: .ref h33 :: .ref h34 :: .ref h35 :: [])))] gE0 (gQi D cT (fun (r : Int32) (u : gS) => r = (-2)) (fun u : gS => [(h0, .inr (11, (.ref h1 :: .int 0 :: .ref h2 :: .ref h3 :: .ref h4 :: .ref h5 :: .ref h6 :: .int 0 :: .ref h7 :: .ref h8 :: .int 0 :: .ref h9 :: .ref h10 :: .ref h11 :: .int 0 :: .int (-1) :: .int 0 :: .ref h12 :: .int 0 :: .ref h13 :: .int 0 :: .int 0 :: .null :: .int 0 :: .int 0 :: .int 0 :: .int 0 :: .ref h14 :: .ref h15 :: .ref h16 :: .ref h17 :: .int 0 :: .null :: .int 0 :: .int 0 :: .int 0 :: .ref h18 :: .int 0 :: .int (-1) :: .int 0 :: .ref h19 :: .int 0 :: .ref h20 :: .ref h21 :: .int 0 :: .ref h22 :: .ref h23 :: .ref h24 :: .ref h25 :: .int 0 :: .int 0 :: .int 0 :: .ref h26 :: .int 0 :: .int 0 :: .ref h27 :: .ref h28 :: .ref h29 :: .ref h30 :: .int 0 :: .ref h31 :: .int 0 :: .ref h32 :: .int 0 :: .int 0 :: .ref h33 :: .ref h34 :: .ref h35 :: [])))])) := by
  refine gMet.of "StorksLetModel" rfl (by decide +kernel) (Nat.le_of_ble_eq_true rfl) [(0, .ref h0), (1, .int x0), (2, .int x1), (3, .int x2), (4, .int x3)] rfl ?_
  intro p e s m below meth c A ls X hr hlk hnm hA hG hE hl
  refine lv_aload_n X.x X.b dX12_sheet_0 rfl (lv_at hl 0 rfl) ?_
  refine lv_iconst (v := 0) X.x X.b dX12_sheet_1 (by decide +kernel) ?_
  refine gp_X12_124 X hG 0 rfl rfl rfl (Nat.le_of_ble_eq_true rfl) dX12_sheet_2 (fun H locs (hG : gG D A s.heap [(h0, .inr (11, (.ref h1 :: .int 0 :: .ref h2 :: .ref h3 :: .ref h4 :: .ref h5 :: .ref h6 :: .int 0 :: .ref h7 :: .ref h8 :: .int 0 :: .ref h9 :: .ref h10 :: .ref h11 :: .int 0 :: .int (-1) :: .int 0 :: .ref h12 :: .int 0 :: .ref h13 :: .int 0 :: .int 0 :: .null :: .int 0 :: .int 0 :: .int 0 :: .int 0 :: .ref h14 :: .ref h15 :: .ref h16 :: .ref h17 :: .int 0 :: .null :: .int 0 :: .int 0 :: .int 0 :: .ref h18 :: .int 0 :: .int (-1) :: .int 0 :: .ref h19 :: .int 0 :: .ref h20 :: .ref h21 :: .int 0 :: .ref h22 :: .ref h23 :: .ref h24 :: .ref h25 :: .int 0 :: .int 0 :: .int 0 :: .ref h26 :: .int 0 :: .int 0 :: .ref h27 :: .ref h28 :: .ref h29 :: .ref h30 :: .int 0 :: .ref h31 :: .int 0 :: .ref h32 :: .int 0 :: .int 0 :: .ref h33 :: .ref h34 :: .ref h35 :: [])))] H locs) => ?_)
  refine lv_iload_n X.x X.b dX12_sheet_5 rfl (lv_at hl 1 rfl) ?_
  refine lv_iconst (v := 0) X.x X.b dX12_sheet_6 (by decide +kernel) ?_
  refine lv_iconst (v := 3) X.x X.b dX12_sheet_7 (by decide +kernel) ?_
  refine g_ki (g_rS (As := [.int x0, .int 0, .int 3]) (rest := []) X hl hG (k149_in l D cT x0 (by omega) (by omega)) gw_X12_133 g_E01 g_E02 [] rfl rfl rfl rfl (Nat.le_of_ble_eq_true rfl) ⟨(Nat.le_of_ble_eq_true rfl), (Nat.le_of_ble_eq_true rfl)⟩ ⟨(Nat.le_of_ble_eq_true rfl), (Nat.le_of_ble_eq_true rfl)⟩ dX12_sheet_8) hG hA [] [0] rfl rfl rfl rfl (c1 := 0) (s1 := 0) rfl rfl (fun r_1 u_1 H locs (hu : r_1 = 1) (hG : gG D A s.heap [(h0, .inr (11, (.ref h1 :: .int 0 :: .ref h2 :: .ref h3 :: .ref h4 :: .ref h5 :: .ref h6 :: .int 0 :: .ref h7 :: .ref h8 :: .int 0 :: .ref h9 :: .ref h10 :: .ref h11 :: .int 0 :: .int (-1) :: .int 0 :: .ref h12 :: .int 0 :: .ref h13 :: .int 0 :: .int 0 :: .null :: .int 0 :: .int 0 :: .int 0 :: .int 0 :: .ref h14 :: .ref h15 :: .ref h16 :: .ref h17 :: .int 0 :: .null :: .int 0 :: .int 0 :: .int 0 :: .ref h18 :: .int 0 :: .int (-1) :: .int 0 :: .ref h19 :: .int 0 :: .ref h20 :: .ref h21 :: .int 0 :: .ref h22 :: .ref h23 :: .ref h24 :: .ref h25 :: .int 0 :: .int 0 :: .int 0 :: .ref h26 :: .int 0 :: .int 0 :: .ref h27 :: .ref h28 :: .ref h29 :: .ref h30 :: .int 0 :: .ref h31 :: .int 0 :: .ref h32 :: .int 0 :: .int 0 :: .ref h33 :: .ref h34 :: .ref h35 :: [])))] H locs) => ?_)
  have hu := hu.symm
  subst hu
  refine b_if_eq_f (tgt := 20) X.x X.b dX12_sheet_11 (by decide) (by decide +kernel) ?_
  refine lv_iload_n X.x X.b dX12_sheet_14 rfl (lv_at hl 2 rfl) ?_
  refine lv_bipush (v := 6) X.x X.b dX12_sheet_15 (by decide +kernel) ?_
  refine b_icmp_le_t (tgt := 22) X.x X.b dX12_sheet_17 (by decide) (by simp only [Int32.lt_iff_toInt_lt, Int32.le_iff_toInt_le, ← Int32.toInt_inj, show (6 : Int32).toInt = 6 from by decide +kernel]; omega) ?_
  refine lv_iload_n X.x X.b dX12_sheet_22 rfl (lv_at hl 1 rfl) ?_
  refine lv_iconst (v := 3) X.x X.b dX12_sheet_23 (by decide +kernel) ?_
  refine b_icmp_ge_f (tgt := 34) X.x X.b dX12_sheet_24 (by decide) (by simp only [Int32.lt_iff_toInt_lt, Int32.le_iff_toInt_le, ← Int32.toInt_inj, show (3 : Int32).toInt = 3 from by decide +kernel]; omega) ?_
  refine lv_iload_n X.x X.b dX12_sheet_27 rfl (lv_at hl 2 rfl) ?_
  refine b_if_ge_f (tgt := 34) X.x X.b dX12_sheet_28 (by decide) (by simp only [Int32.lt_iff_toInt_lt, Int32.le_iff_toInt_le, ← Int32.toInt_inj, show (0 : Int32).toInt = 0 from by decide +kernel]; omega) ?_
  refine lv_bipush (v := (-2)) X.x X.b dX12_sheet_31 (by decide +kernel) ?_
  exact g_iret X hr hlk hG rfl gS0 rfl [0] rfl rfl (Nat.le_of_ble_eq_true rfl) (Nat.le_of_ble_eq_true rfl) dX12_sheet_33
set_option maxHeartbeats 4000000 in
set_option maxRecDepth 100000 in
theorem k151_sheet (l : Launch) (D : va_G) (cT : Nat → ClassId) (h0 h1 h2 h3 h4 h5 h6 h7 h8 h9 h10 h11 h12 h13 h14 h15 h16 h17 h18 h19 h20 h21 h22 h23 h24 h25 h26 h27 h28 h29 : Nat) (x0 x1 x2 x3 : Int32) (l_x0 : 0 ≤ x0.toInt) (u_x0 : x0.toInt ≤ 2) (l_x1 : 0 ≤ x1.toInt) (u_x1 : x1.toInt ≤ 6) : gMet l D cT yX11_sheet cX11_sheet 10 (some .int) 0 0 0 0 [.ref h0, .int x0, .int x1, .int x2, .int x3] [(h0, .inr (10, [.ref h2, .ref h3, .ref h1, .ref h4, .ref h5, .ref h6, .ref h7, .ref h8, .ref h9, .ref h10, .ref h11, .ref h12, .ref h13, .null, .ref h14, .ref h15])), (h1, .inr (7, [.int 0, .int 0, .int 0, .int 0, .ref h16, .ref h17, .ref h18, .ref h19, .ref h20, .ref h21, .ref h22, .ref h23, .ref h24, .ref h25, .ref h26, .ref h27, .ref h28, .int 0, .ref h29]))] gE0 (gQi D cT (fun (r : Int32) (u : gS) => r = 0) (fun u : gS => [(h0, .inr (10, [.ref h2, .ref h3, .ref h1, .ref h4, .ref h5, .ref h6, .ref h7, .ref h8, .ref h9, .ref h10, .ref h11, .ref h12, .ref h13, .null, .ref h14, .ref h15])), (h1, .inr (7, [.int 0, .int 0, .int 0, .int 0, .ref h16, .ref h17, .ref h18, .ref h19, .ref h20, .ref h21, .ref h22, .ref h23, .ref h24, .ref h25, .ref h26, .ref h27, .ref h28, .int 0, .ref h29]))])) := by
  refine gMet.of "StorksLet" rfl (by decide +kernel) (Nat.le_of_ble_eq_true rfl) [(0, .ref h0), (1, .int x0), (2, .int x1), (3, .int x2), (4, .int x3)] rfl ?_
  intro p e s m below meth c A ls X hr hlk hnm hA hG hE hl
  refine lv_iload_n X.x X.b dX11_sheet_0 rfl (lv_at hl 1 rfl) ?_
  refine b_if_lt_f (tgt := 15) X.x X.b dX11_sheet_1 (by decide) (by simp only [Int32.lt_iff_toInt_lt, Int32.le_iff_toInt_le, ← Int32.toInt_inj, show (0 : Int32).toInt = 0 from by decide +kernel]; omega) ?_
  refine lv_iload_n X.x X.b dX11_sheet_4 rfl (lv_at hl 1 rfl) ?_
  refine lv_iconst (v := 3) X.x X.b dX11_sheet_5 (by decide +kernel) ?_
  refine b_icmp_gt_f (tgt := 15) X.x X.b dX11_sheet_6 (by decide) (by simp only [Int32.lt_iff_toInt_lt, Int32.le_iff_toInt_le, ← Int32.toInt_inj, show (3 : Int32).toInt = 3 from by decide +kernel]; omega) ?_
  refine lv_iload_n X.x X.b dX11_sheet_9 rfl (lv_at hl 2 rfl) ?_
  refine lv_bipush (v := 6) X.x X.b dX11_sheet_10 (by decide +kernel) ?_
  refine b_icmp_le_t (tgt := 17) X.x X.b dX11_sheet_12 (by decide) (by simp only [Int32.lt_iff_toInt_lt, Int32.le_iff_toInt_le, ← Int32.toInt_inj, show (6 : Int32).toInt = 6 from by decide +kernel]; omega) ?_
  refine lv_iload_n X.x X.b dX11_sheet_17 rfl (lv_at hl 1 rfl) ?_
  refine lv_iconst (v := 3) X.x X.b dX11_sheet_18 (by decide +kernel) ?_
  refine b_icmp_ne_t (tgt := 26) X.x X.b dX11_sheet_19 (by decide) (by simp only [Int32.lt_iff_toInt_lt, Int32.le_iff_toInt_le, ← Int32.toInt_inj, show (3 : Int32).toInt = 3 from by decide +kernel]; omega) ?_
  refine lv_iconst (v := 0) X.x X.b dX11_sheet_26 (by decide +kernel) ?_
  refine lv_istore (lv' := [(5, .int 0), (0, .ref h0), (1, .int x0), (2, .int x1), (3, .int x2), (4, .int x3)]) X.x X.b dX11_sheet_27 hl (Nat.le_of_ble_eq_true rfl) rfl (fun ls hl => ?_)
  refine lv_iload X.x X.b dX11_sheet_29 (lv_at hl 0 rfl) ?_
  refine b_if_ne_f (tgt := 41) X.x X.b dX11_sheet_31 (by decide) (by decide +kernel) ?_
  refine lv_iload_n X.x X.b dX11_sheet_34 rfl (lv_at hl 3 rfl) ?_
  refine b_if_ge_t (tgt := 41) X.x X.b dX11_sheet_35 (by decide) (by simp only [Int32.lt_iff_toInt_lt, Int32.le_iff_toInt_le, ← Int32.toInt_inj, show (0 : Int32).toInt = 0 from by decide +kernel]; omega) ?_
  refine lv_iload X.x X.b dX11_sheet_41 (lv_at hl 0 rfl) ?_
  refine b_if_eq_t (tgt := 50) X.x X.b dX11_sheet_43 (by decide) (by decide +kernel) ?_
  refine lv_iload_n X.x X.b dX11_sheet_50 rfl (lv_at hl 3 rfl) ?_
  refine lv_istore (lv' := [(6, .int x1), (5, .int 0), (0, .ref h0), (1, .int x0), (2, .int x1), (3, .int x2), (4, .int x3)]) X.x X.b dX11_sheet_51 hl (Nat.le_of_ble_eq_true rfl) rfl (fun ls hl => ?_)
  refine lv_iconst (v := 0) X.x X.b dX11_sheet_53 (by decide +kernel) ?_
  refine lv_istore (lv' := [(7, .int 0), (6, .int x1), (5, .int 0), (0, .ref h0), (1, .int x0), (2, .int x1), (3, .int x2), (4, .int x3)]) X.x X.b dX11_sheet_54 hl (Nat.le_of_ble_eq_true rfl) rfl (fun ls hl => ?_)
  refine lv_iconst (v := 0) X.x X.b dX11_sheet_56 (by decide +kernel) ?_
  refine lv_istore (lv' := [(8, .int 0), (7, .int 0), (6, .int x1), (5, .int 0), (0, .ref h0), (1, .int x0), (2, .int x1), (3, .int x2), (4, .int x3)]) X.x X.b dX11_sheet_57 hl (Nat.le_of_ble_eq_true rfl) rfl (fun ls hl => ?_)
  refine lv_iload X.x X.b dX11_sheet_59 (lv_at hl 0 rfl) ?_
  refine lv_aload_n X.x X.b dX11_sheet_61 rfl (lv_at hl 4 rfl) ?_
  refine gg_X11_26 X hG 0 rfl rfl dX11_sheet_62 ?_
  refine gg_X11_238 X hG 1 rfl rfl dX11_sheet_65 ?_
  refine b_icmp_ge_t (tgt := 120) X.x X.b dX11_sheet_68 (by decide) (by decide +kernel) ?_
  refine lv_iload X.x X.b dX11_sheet_120 (lv_at hl 3 rfl) ?_
  refine b_if_eq_t (tgt := 130) X.x X.b dX11_sheet_122 (by decide) (by decide +kernel) ?_
  refine lv_iload X.x X.b dX11_sheet_130 (lv_at hl 1 rfl) ?_
  exact g_iret X hr hlk hG rfl gS0 rfl [0, 1] rfl rfl (Nat.le_of_ble_eq_true rfl) (Nat.le_of_ble_eq_true rfl) dX11_sheet_132
set_option maxHeartbeats 4000000 in
set_option maxRecDepth 100000 in
theorem k152_sheet (l : Launch) (D : va_G) (cT : Nat → ClassId) (h0 h1 h2 h3 h4 h5 h6 h7 h8 h9 h10 h11 h12 h13 h14 h15 h16 h17 h18 h19 h20 h21 h22 h23 h24 h25 h26 h27 h28 h29 h30 h31 h32 h33 h34 h35 : Nat) (x0 x1 x2 x3 : Int32) (l_x0 : 0 ≤ x0.toInt) (u_x0 : x0.toInt ≤ 2) (l_x1 : 0 ≤ x1.toInt) (u_x1 : x1.toInt ≤ 6) : gMet l D cT yX12_sheet cX12_sheet 9 (some .int) 1 22 0 0 [.ref h0, .int x0, .int x1, .int x2, .int x3] [(h0, .inr (11, (.ref h1 :: .int 0 :: .ref h2 :: .ref h3 :: .ref h4 :: .ref h5 :: .ref h6 :: .int 0 :: .ref h7 :: .ref h8 :: .int 0 :: .ref h9 :: .ref h10 :: .ref h11 :: .int 0 :: .int (-1) :: .int 0 :: .ref h12 :: .int 0 :: .ref h13 :: .int 0 :: .int 0 :: .null :: .int 0 :: .int 0 :: .int 0 :: .int 0 :: .ref h14 :: .ref h15 :: .ref h16 :: .ref h17 :: .int 0 :: .null :: .int 0 :: .int 0 :: .int 0 :: .ref h18 :: .int 0 :: .int (-1) :: .int 0 :: .ref h19 :: .int 0 :: .ref h20 :: .ref h21 :: .int 0 :: .ref h22 :: .ref h23 :: .ref h24 :: .ref h25 :: .int 0 :: .int 0 :: .int 0 :: .ref h26 :: .int 0 :: .int 0 :: .ref h27 :: .ref h28 :: .ref h29 :: .ref h30 :: .int 0 :: .ref h31 :: .int 0 :: .ref h32 :: .int 0 :: .int 0 :: .ref h33 :: .ref h34 :: .ref h35 :: [])))] gE0 (gQi D cT (fun (r : Int32) (u : gS) => r = 0) (fun u : gS => [(h0, .inr (11, (.ref h1 :: .int 0 :: .ref h2 :: .ref h3 :: .ref h4 :: .ref h5 :: .ref h6 :: .int 0 :: .ref h7 :: .ref h8 :: .int 0 :: .ref h9 :: .ref h10 :: .ref h11 :: .int 0 :: .int (-1) :: .int 0 :: .ref h12 :: .int 0 :: .ref h13 :: .int 0 :: .int 0 :: .null :: .int 0 :: .int 0 :: .int 0 :: .int 0 :: .ref h14 :: .ref h15 :: .ref h16 :: .ref h17 :: .int 0 :: .null :: .int 0 :: .int 0 :: .int 0 :: .ref h18 :: .int 0 :: .int (-1) :: .int 0 :: .ref h19 :: .int 0 :: .ref h20 :: .ref h21 :: .int 0 :: .ref h22 :: .ref h23 :: .ref h24 :: .ref h25 :: .int 0 :: .int 0 :: .int 0 :: .ref h26 :: .int 0 :: .int 0 :: .ref h27 :: .ref h28 :: .ref h29 :: .ref h30 :: .int 0 :: .ref h31 :: .int 0 :: .ref h32 :: .int 0 :: .int 0 :: .ref h33 :: .ref h34 :: .ref h35 :: [])))])) := by
  refine gMet.of "StorksLetModel" rfl (by decide +kernel) (Nat.le_of_ble_eq_true rfl) [(0, .ref h0), (1, .int x0), (2, .int x1), (3, .int x2), (4, .int x3)] rfl ?_
  intro p e s m below meth c A ls X hr hlk hnm hA hG hE hl
  refine lv_aload_n X.x X.b dX12_sheet_0 rfl (lv_at hl 0 rfl) ?_
  refine lv_iconst (v := 0) X.x X.b dX12_sheet_1 (by decide +kernel) ?_
  refine gp_X12_124 X hG 0 rfl rfl rfl (Nat.le_of_ble_eq_true rfl) dX12_sheet_2 (fun H locs (hG : gG D A s.heap [(h0, .inr (11, (.ref h1 :: .int 0 :: .ref h2 :: .ref h3 :: .ref h4 :: .ref h5 :: .ref h6 :: .int 0 :: .ref h7 :: .ref h8 :: .int 0 :: .ref h9 :: .ref h10 :: .ref h11 :: .int 0 :: .int (-1) :: .int 0 :: .ref h12 :: .int 0 :: .ref h13 :: .int 0 :: .int 0 :: .null :: .int 0 :: .int 0 :: .int 0 :: .int 0 :: .ref h14 :: .ref h15 :: .ref h16 :: .ref h17 :: .int 0 :: .null :: .int 0 :: .int 0 :: .int 0 :: .ref h18 :: .int 0 :: .int (-1) :: .int 0 :: .ref h19 :: .int 0 :: .ref h20 :: .ref h21 :: .int 0 :: .ref h22 :: .ref h23 :: .ref h24 :: .ref h25 :: .int 0 :: .int 0 :: .int 0 :: .ref h26 :: .int 0 :: .int 0 :: .ref h27 :: .ref h28 :: .ref h29 :: .ref h30 :: .int 0 :: .ref h31 :: .int 0 :: .ref h32 :: .int 0 :: .int 0 :: .ref h33 :: .ref h34 :: .ref h35 :: [])))] H locs) => ?_)
  refine lv_iload_n X.x X.b dX12_sheet_5 rfl (lv_at hl 1 rfl) ?_
  refine lv_iconst (v := 0) X.x X.b dX12_sheet_6 (by decide +kernel) ?_
  refine lv_iconst (v := 3) X.x X.b dX12_sheet_7 (by decide +kernel) ?_
  refine g_ki (g_rS (As := [.int x0, .int 0, .int 3]) (rest := []) X hl hG (k149_in l D cT x0 (by omega) (by omega)) gw_X12_133 g_E01 g_E02 [] rfl rfl rfl rfl (Nat.le_of_ble_eq_true rfl) ⟨(Nat.le_of_ble_eq_true rfl), (Nat.le_of_ble_eq_true rfl)⟩ ⟨(Nat.le_of_ble_eq_true rfl), (Nat.le_of_ble_eq_true rfl)⟩ dX12_sheet_8) hG hA [] [0] rfl rfl rfl rfl (c1 := 0) (s1 := 0) rfl rfl (fun r_1 u_1 H locs (hu : r_1 = 1) (hG : gG D A s.heap [(h0, .inr (11, (.ref h1 :: .int 0 :: .ref h2 :: .ref h3 :: .ref h4 :: .ref h5 :: .ref h6 :: .int 0 :: .ref h7 :: .ref h8 :: .int 0 :: .ref h9 :: .ref h10 :: .ref h11 :: .int 0 :: .int (-1) :: .int 0 :: .ref h12 :: .int 0 :: .ref h13 :: .int 0 :: .int 0 :: .null :: .int 0 :: .int 0 :: .int 0 :: .int 0 :: .ref h14 :: .ref h15 :: .ref h16 :: .ref h17 :: .int 0 :: .null :: .int 0 :: .int 0 :: .int 0 :: .ref h18 :: .int 0 :: .int (-1) :: .int 0 :: .ref h19 :: .int 0 :: .ref h20 :: .ref h21 :: .int 0 :: .ref h22 :: .ref h23 :: .ref h24 :: .ref h25 :: .int 0 :: .int 0 :: .int 0 :: .ref h26 :: .int 0 :: .int 0 :: .ref h27 :: .ref h28 :: .ref h29 :: .ref h30 :: .int 0 :: .ref h31 :: .int 0 :: .ref h32 :: .int 0 :: .int 0 :: .ref h33 :: .ref h34 :: .ref h35 :: [])))] H locs) => ?_)
  have hu := hu.symm
  subst hu
  refine b_if_eq_f (tgt := 20) X.x X.b dX12_sheet_11 (by decide) (by decide +kernel) ?_
  refine lv_iload_n X.x X.b dX12_sheet_14 rfl (lv_at hl 2 rfl) ?_
  refine lv_bipush (v := 6) X.x X.b dX12_sheet_15 (by decide +kernel) ?_
  refine b_icmp_le_t (tgt := 22) X.x X.b dX12_sheet_17 (by decide) (by simp only [Int32.lt_iff_toInt_lt, Int32.le_iff_toInt_le, ← Int32.toInt_inj, show (6 : Int32).toInt = 6 from by decide +kernel]; omega) ?_
  refine lv_iload_n X.x X.b dX12_sheet_22 rfl (lv_at hl 1 rfl) ?_
  refine lv_iconst (v := 3) X.x X.b dX12_sheet_23 (by decide +kernel) ?_
  refine b_icmp_ge_f (tgt := 34) X.x X.b dX12_sheet_24 (by decide) (by simp only [Int32.lt_iff_toInt_lt, Int32.le_iff_toInt_le, ← Int32.toInt_inj, show (3 : Int32).toInt = 3 from by decide +kernel]; omega) ?_
  refine lv_iload_n X.x X.b dX12_sheet_27 rfl (lv_at hl 2 rfl) ?_
  refine b_if_ge_t (tgt := 34) X.x X.b dX12_sheet_28 (by decide) (by simp only [Int32.lt_iff_toInt_lt, Int32.le_iff_toInt_le, ← Int32.toInt_inj, show (0 : Int32).toInt = 0 from by decide +kernel]; omega) ?_
  refine lv_iconst (v := 0) X.x X.b dX12_sheet_34 (by decide +kernel) ?_
  refine lv_istore (lv' := [(5, .int 0), (0, .ref h0), (1, .int x0), (2, .int x1), (3, .int x2), (4, .int x3)]) X.x X.b dX12_sheet_35 hl (Nat.le_of_ble_eq_true rfl) rfl (fun ls hl => ?_)
  refine lv_iload_n X.x X.b dX12_sheet_37 rfl (lv_at hl 4 rfl) ?_
  refine lv_istore (lv' := [(6, .int x2), (5, .int 0), (0, .ref h0), (1, .int x0), (2, .int x1), (3, .int x2), (4, .int x3)]) X.x X.b dX12_sheet_38 hl (Nat.le_of_ble_eq_true rfl) rfl (fun ls hl => ?_)
  refine lv_iconst (v := 0) X.x X.b dX12_sheet_40 (by decide +kernel) ?_
  refine lv_istore (lv' := [(7, .int 0), (6, .int x2), (5, .int 0), (0, .ref h0), (1, .int x0), (2, .int x1), (3, .int x2), (4, .int x3)]) X.x X.b dX12_sheet_41 hl (Nat.le_of_ble_eq_true rfl) rfl (fun ls hl => ?_)
  refine lv_iload X.x X.b dX12_sheet_43 (lv_at hl 0 rfl) ?_
  refine lv_aload_n X.x X.b dX12_sheet_45 rfl (lv_at hl 3 rfl) ?_
  refine gg_X12_130 X hG 0 rfl rfl dX12_sheet_46 ?_
  refine b_icmp_ge_t (tgt := 135) X.x X.b dX12_sheet_49 (by decide) (by decide +kernel) ?_
  refine lv_iload_n X.x X.b dX12_sheet_135 rfl (lv_at hl 4 rfl) ?_
  refine lv_iconst (v := 3) X.x X.b dX12_sheet_136 (by decide +kernel) ?_
  refine b_icmp_ne_t (tgt := 145) X.x X.b dX12_sheet_137 (by decide) (by simp only [Int32.lt_iff_toInt_lt, Int32.le_iff_toInt_le, ← Int32.toInt_inj, show (3 : Int32).toInt = 3 from by decide +kernel]; omega) ?_
  refine lv_iload X.x X.b dX12_sheet_145 (lv_at hl 2 rfl) ?_
  exact g_iret X hr hlk hG rfl gS0 rfl [0] rfl rfl (Nat.le_of_ble_eq_true rfl) (Nat.le_of_ble_eq_true rfl) dX12_sheet_147
set_option maxHeartbeats 4000000 in
set_option maxRecDepth 100000 in
theorem k153_sheet (l : Launch) (D : va_G) (cT : Nat → ClassId) (h0 h1 h2 h3 h4 h5 h6 h7 h8 h9 h10 h11 h12 h13 h14 h15 : Nat) (x0 x1 x2 x3 : Int32) (l_x0 : 0 ≤ x0.toInt) (u_x0 : x0.toInt ≤ 2) (l_x1 : 7 ≤ x1.toInt) : gMet l D cT yX11_sheet cX11_sheet 10 (some .int) 0 0 0 0 [.ref h0, .int x0, .int x1, .int x2, .int x3] [(h0, .inr (10, [.ref h1, .ref h2, .ref h3, .ref h4, .ref h5, .ref h6, .ref h7, .ref h8, .ref h9, .ref h10, .ref h11, .ref h12, .ref h13, .null, .ref h14, .ref h15]))] gE0 (gQi D cT (fun (r : Int32) (u : gS) => r = (-1)) (fun u : gS => [(h0, .inr (10, [.ref h1, .ref h2, .ref h3, .ref h4, .ref h5, .ref h6, .ref h7, .ref h8, .ref h9, .ref h10, .ref h11, .ref h12, .ref h13, .null, .ref h14, .ref h15]))])) := by
  refine gMet.of "StorksLet" rfl (by decide +kernel) (Nat.le_of_ble_eq_true rfl) [(0, .ref h0), (1, .int x0), (2, .int x1), (3, .int x2), (4, .int x3)] rfl ?_
  intro p e s m below meth c A ls X hr hlk hnm hA hG hE hl
  refine lv_iload_n X.x X.b dX11_sheet_0 rfl (lv_at hl 1 rfl) ?_
  refine b_if_lt_f (tgt := 15) X.x X.b dX11_sheet_1 (by decide) (by simp only [Int32.lt_iff_toInt_lt, Int32.le_iff_toInt_le, ← Int32.toInt_inj, show (0 : Int32).toInt = 0 from by decide +kernel]; omega) ?_
  refine lv_iload_n X.x X.b dX11_sheet_4 rfl (lv_at hl 1 rfl) ?_
  refine lv_iconst (v := 3) X.x X.b dX11_sheet_5 (by decide +kernel) ?_
  refine b_icmp_gt_f (tgt := 15) X.x X.b dX11_sheet_6 (by decide) (by simp only [Int32.lt_iff_toInt_lt, Int32.le_iff_toInt_le, ← Int32.toInt_inj, show (3 : Int32).toInt = 3 from by decide +kernel]; omega) ?_
  refine lv_iload_n X.x X.b dX11_sheet_9 rfl (lv_at hl 2 rfl) ?_
  refine lv_bipush (v := 6) X.x X.b dX11_sheet_10 (by decide +kernel) ?_
  refine b_icmp_le_f (tgt := 17) X.x X.b dX11_sheet_12 (by decide) (by simp only [Int32.lt_iff_toInt_lt, Int32.le_iff_toInt_le, ← Int32.toInt_inj, show (6 : Int32).toInt = 6 from by decide +kernel]; omega) ?_
  refine lv_iconst (v := (-1)) X.x X.b dX11_sheet_15 (by decide +kernel) ?_
  exact g_iret X hr hlk hG rfl gS0 rfl [0] rfl rfl (Nat.le_of_ble_eq_true rfl) (Nat.le_of_ble_eq_true rfl) dX11_sheet_16
set_option maxHeartbeats 4000000 in
set_option maxRecDepth 100000 in
theorem k154_sheet (l : Launch) (D : va_G) (cT : Nat → ClassId) (h0 h1 h2 h3 h4 h5 h6 h7 h8 h9 h10 h11 h12 h13 h14 h15 h16 h17 h18 h19 h20 h21 h22 h23 h24 h25 h26 h27 h28 h29 h30 h31 h32 h33 h34 h35 : Nat) (x0 x1 x2 x3 : Int32) (l_x0 : 0 ≤ x0.toInt) (u_x0 : x0.toInt ≤ 2) (l_x1 : 7 ≤ x1.toInt) : gMet l D cT yX12_sheet cX12_sheet 9 (some .int) 1 22 0 0 [.ref h0, .int x0, .int x1, .int x2, .int x3] [(h0, .inr (11, (.ref h1 :: .int 0 :: .ref h2 :: .ref h3 :: .ref h4 :: .ref h5 :: .ref h6 :: .int 0 :: .ref h7 :: .ref h8 :: .int 0 :: .ref h9 :: .ref h10 :: .ref h11 :: .int 0 :: .int (-1) :: .int 0 :: .ref h12 :: .int 0 :: .ref h13 :: .int 0 :: .int 0 :: .null :: .int 0 :: .int 0 :: .int 0 :: .int 0 :: .ref h14 :: .ref h15 :: .ref h16 :: .ref h17 :: .int 0 :: .null :: .int 0 :: .int 0 :: .int 0 :: .ref h18 :: .int 0 :: .int (-1) :: .int 0 :: .ref h19 :: .int 0 :: .ref h20 :: .ref h21 :: .int 0 :: .ref h22 :: .ref h23 :: .ref h24 :: .ref h25 :: .int 0 :: .int 0 :: .int 0 :: .ref h26 :: .int 0 :: .int 0 :: .ref h27 :: .ref h28 :: .ref h29 :: .ref h30 :: .int 0 :: .ref h31 :: .int 0 :: .ref h32 :: .int 0 :: .int 0 :: .ref h33 :: .ref h34 :: .ref h35 :: [])))] gE0 (gQi D cT (fun (r : Int32) (u : gS) => r = (-1)) (fun u : gS => [(h0, .inr (11, (.ref h1 :: .int 0 :: .ref h2 :: .ref h3 :: .ref h4 :: .ref h5 :: .ref h6 :: .int 0 :: .ref h7 :: .ref h8 :: .int 0 :: .ref h9 :: .ref h10 :: .ref h11 :: .int 0 :: .int (-1) :: .int 0 :: .ref h12 :: .int 0 :: .ref h13 :: .int 0 :: .int 0 :: .null :: .int 0 :: .int 0 :: .int 0 :: .int 0 :: .ref h14 :: .ref h15 :: .ref h16 :: .ref h17 :: .int 0 :: .null :: .int 0 :: .int 0 :: .int 0 :: .ref h18 :: .int 0 :: .int (-1) :: .int 0 :: .ref h19 :: .int 0 :: .ref h20 :: .ref h21 :: .int 0 :: .ref h22 :: .ref h23 :: .ref h24 :: .ref h25 :: .int 0 :: .int 0 :: .int 0 :: .ref h26 :: .int 0 :: .int 0 :: .ref h27 :: .ref h28 :: .ref h29 :: .ref h30 :: .int 0 :: .ref h31 :: .int 0 :: .ref h32 :: .int 0 :: .int 0 :: .ref h33 :: .ref h34 :: .ref h35 :: [])))])) := by
  refine gMet.of "StorksLetModel" rfl (by decide +kernel) (Nat.le_of_ble_eq_true rfl) [(0, .ref h0), (1, .int x0), (2, .int x1), (3, .int x2), (4, .int x3)] rfl ?_
  intro p e s m below meth c A ls X hr hlk hnm hA hG hE hl
  refine lv_aload_n X.x X.b dX12_sheet_0 rfl (lv_at hl 0 rfl) ?_
  refine lv_iconst (v := 0) X.x X.b dX12_sheet_1 (by decide +kernel) ?_
  refine gp_X12_124 X hG 0 rfl rfl rfl (Nat.le_of_ble_eq_true rfl) dX12_sheet_2 (fun H locs (hG : gG D A s.heap [(h0, .inr (11, (.ref h1 :: .int 0 :: .ref h2 :: .ref h3 :: .ref h4 :: .ref h5 :: .ref h6 :: .int 0 :: .ref h7 :: .ref h8 :: .int 0 :: .ref h9 :: .ref h10 :: .ref h11 :: .int 0 :: .int (-1) :: .int 0 :: .ref h12 :: .int 0 :: .ref h13 :: .int 0 :: .int 0 :: .null :: .int 0 :: .int 0 :: .int 0 :: .int 0 :: .ref h14 :: .ref h15 :: .ref h16 :: .ref h17 :: .int 0 :: .null :: .int 0 :: .int 0 :: .int 0 :: .ref h18 :: .int 0 :: .int (-1) :: .int 0 :: .ref h19 :: .int 0 :: .ref h20 :: .ref h21 :: .int 0 :: .ref h22 :: .ref h23 :: .ref h24 :: .ref h25 :: .int 0 :: .int 0 :: .int 0 :: .ref h26 :: .int 0 :: .int 0 :: .ref h27 :: .ref h28 :: .ref h29 :: .ref h30 :: .int 0 :: .ref h31 :: .int 0 :: .ref h32 :: .int 0 :: .int 0 :: .ref h33 :: .ref h34 :: .ref h35 :: [])))] H locs) => ?_)
  refine lv_iload_n X.x X.b dX12_sheet_5 rfl (lv_at hl 1 rfl) ?_
  refine lv_iconst (v := 0) X.x X.b dX12_sheet_6 (by decide +kernel) ?_
  refine lv_iconst (v := 3) X.x X.b dX12_sheet_7 (by decide +kernel) ?_
  refine g_ki (g_rS (As := [.int x0, .int 0, .int 3]) (rest := []) X hl hG (k149_in l D cT x0 (by omega) (by omega)) gw_X12_133 g_E01 g_E02 [] rfl rfl rfl rfl (Nat.le_of_ble_eq_true rfl) ⟨(Nat.le_of_ble_eq_true rfl), (Nat.le_of_ble_eq_true rfl)⟩ ⟨(Nat.le_of_ble_eq_true rfl), (Nat.le_of_ble_eq_true rfl)⟩ dX12_sheet_8) hG hA [] [0] rfl rfl rfl rfl (c1 := 0) (s1 := 0) rfl rfl (fun r_1 u_1 H locs (hu : r_1 = 1) (hG : gG D A s.heap [(h0, .inr (11, (.ref h1 :: .int 0 :: .ref h2 :: .ref h3 :: .ref h4 :: .ref h5 :: .ref h6 :: .int 0 :: .ref h7 :: .ref h8 :: .int 0 :: .ref h9 :: .ref h10 :: .ref h11 :: .int 0 :: .int (-1) :: .int 0 :: .ref h12 :: .int 0 :: .ref h13 :: .int 0 :: .int 0 :: .null :: .int 0 :: .int 0 :: .int 0 :: .int 0 :: .ref h14 :: .ref h15 :: .ref h16 :: .ref h17 :: .int 0 :: .null :: .int 0 :: .int 0 :: .int 0 :: .ref h18 :: .int 0 :: .int (-1) :: .int 0 :: .ref h19 :: .int 0 :: .ref h20 :: .ref h21 :: .int 0 :: .ref h22 :: .ref h23 :: .ref h24 :: .ref h25 :: .int 0 :: .int 0 :: .int 0 :: .ref h26 :: .int 0 :: .int 0 :: .ref h27 :: .ref h28 :: .ref h29 :: .ref h30 :: .int 0 :: .ref h31 :: .int 0 :: .ref h32 :: .int 0 :: .int 0 :: .ref h33 :: .ref h34 :: .ref h35 :: [])))] H locs) => ?_)
  have hu := hu.symm
  subst hu
  refine b_if_eq_f (tgt := 20) X.x X.b dX12_sheet_11 (by decide) (by decide +kernel) ?_
  refine lv_iload_n X.x X.b dX12_sheet_14 rfl (lv_at hl 2 rfl) ?_
  refine lv_bipush (v := 6) X.x X.b dX12_sheet_15 (by decide +kernel) ?_
  refine b_icmp_le_f (tgt := 22) X.x X.b dX12_sheet_17 (by decide) (by simp only [Int32.lt_iff_toInt_lt, Int32.le_iff_toInt_le, ← Int32.toInt_inj, show (6 : Int32).toInt = 6 from by decide +kernel]; omega) ?_
  refine lv_iconst (v := (-1)) X.x X.b dX12_sheet_20 (by decide +kernel) ?_
  exact g_iret X hr hlk hG rfl gS0 rfl [0] rfl rfl (Nat.le_of_ble_eq_true rfl) (Nat.le_of_ble_eq_true rfl) dX12_sheet_21
set_option maxHeartbeats 4000000 in
set_option maxRecDepth 100000 in
theorem k155_sheet (l : Launch) (D : va_G) (cT : Nat → ClassId) (h0 h1 h2 h3 h4 h5 h6 h7 h8 h9 h10 h11 h12 h13 h14 h15 h16 h17 h18 h19 h20 h21 h22 h23 h24 h25 h26 h27 h28 h29 : Nat) (x0 x1 x2 : Int32) (u_x0 : x0.toInt ≤ 6) : gMet l D cT yX11_sheet cX11_sheet 10 (some .int) 0 0 0 0 [.ref h0, .int 3, .int x0, .int x1, .int x2] [(h0, .inr (10, [.ref h2, .ref h3, .ref h1, .ref h4, .ref h5, .ref h6, .ref h7, .ref h8, .ref h9, .ref h10, .ref h11, .ref h12, .ref h13, .null, .ref h14, .ref h15])), (h1, .inr (7, [.int 0, .int 0, .int 0, .int 0, .ref h16, .ref h17, .ref h18, .ref h19, .ref h20, .ref h21, .ref h22, .ref h23, .ref h24, .ref h25, .ref h26, .ref h27, .ref h28, .int 0, .ref h29]))] gE0 (gQi D cT (fun (r : Int32) (u : gS) => r = (-3)) (fun u : gS => [(h0, .inr (10, [.ref h2, .ref h3, .ref h1, .ref h4, .ref h5, .ref h6, .ref h7, .ref h8, .ref h9, .ref h10, .ref h11, .ref h12, .ref h13, .null, .ref h14, .ref h15])), (h1, .inr (7, [.int 0, .int 0, .int 0, .int 0, .ref h16, .ref h17, .ref h18, .ref h19, .ref h20, .ref h21, .ref h22, .ref h23, .ref h24, .ref h25, .ref h26, .ref h27, .ref h28, .int 0, .ref h29]))])) := by
  refine gMet.of "StorksLet" rfl (by decide +kernel) (Nat.le_of_ble_eq_true rfl) [(0, .ref h0), (1, .int 3), (2, .int x0), (3, .int x1), (4, .int x2)] rfl ?_
  intro p e s m below meth c A ls X hr hlk hnm hA hG hE hl
  refine lv_iload_n X.x X.b dX11_sheet_0 rfl (lv_at hl 1 rfl) ?_
  refine b_if_lt_f (tgt := 15) X.x X.b dX11_sheet_1 (by decide) (by decide +kernel) ?_
  refine lv_iload_n X.x X.b dX11_sheet_4 rfl (lv_at hl 1 rfl) ?_
  refine lv_iconst (v := 3) X.x X.b dX11_sheet_5 (by decide +kernel) ?_
  refine b_icmp_gt_f (tgt := 15) X.x X.b dX11_sheet_6 (by decide) (by decide +kernel) ?_
  refine lv_iload_n X.x X.b dX11_sheet_9 rfl (lv_at hl 2 rfl) ?_
  refine lv_bipush (v := 6) X.x X.b dX11_sheet_10 (by decide +kernel) ?_
  refine b_icmp_le_t (tgt := 17) X.x X.b dX11_sheet_12 (by decide) (by simp only [Int32.lt_iff_toInt_lt, Int32.le_iff_toInt_le, ← Int32.toInt_inj, show (6 : Int32).toInt = 6 from by decide +kernel]; omega) ?_
  refine lv_iload_n X.x X.b dX11_sheet_17 rfl (lv_at hl 1 rfl) ?_
  refine lv_iconst (v := 3) X.x X.b dX11_sheet_18 (by decide +kernel) ?_
  refine b_icmp_ne_f (tgt := 26) X.x X.b dX11_sheet_19 (by decide) (by decide +kernel) ?_
  refine lv_iconst (v := 1) X.x X.b dX11_sheet_22 (by decide +kernel) ?_
  refine lv_goto (tgt := 27) X.x X.b dX11_sheet_23 (by decide) ?_
  refine lv_istore (lv' := [(5, .int 1), (0, .ref h0), (1, .int 3), (2, .int x0), (3, .int x1), (4, .int x2)]) X.x X.b dX11_sheet_27 hl (Nat.le_of_ble_eq_true rfl) rfl (fun ls hl => ?_)
  refine lv_iload X.x X.b dX11_sheet_29 (lv_at hl 0 rfl) ?_
  refine b_if_ne_t (tgt := 41) X.x X.b dX11_sheet_31 (by decide) (by decide +kernel) ?_
  refine lv_iload X.x X.b dX11_sheet_41 (lv_at hl 0 rfl) ?_
  refine b_if_eq_f (tgt := 50) X.x X.b dX11_sheet_43 (by decide) (by decide +kernel) ?_
  refine lv_iconst (v := 0) X.x X.b dX11_sheet_46 (by decide +kernel) ?_
  refine lv_goto (tgt := 51) X.x X.b dX11_sheet_47 (by decide) ?_
  refine lv_istore (lv' := [(6, .int 0), (5, .int 1), (0, .ref h0), (1, .int 3), (2, .int x0), (3, .int x1), (4, .int x2)]) X.x X.b dX11_sheet_51 hl (Nat.le_of_ble_eq_true rfl) rfl (fun ls hl => ?_)
  refine lv_iconst (v := 0) X.x X.b dX11_sheet_53 (by decide +kernel) ?_
  refine lv_istore (lv' := [(7, .int 0), (6, .int 0), (5, .int 1), (0, .ref h0), (1, .int 3), (2, .int x0), (3, .int x1), (4, .int x2)]) X.x X.b dX11_sheet_54 hl (Nat.le_of_ble_eq_true rfl) rfl (fun ls hl => ?_)
  refine lv_iconst (v := 0) X.x X.b dX11_sheet_56 (by decide +kernel) ?_
  refine lv_istore (lv' := [(8, .int 0), (7, .int 0), (6, .int 0), (5, .int 1), (0, .ref h0), (1, .int 3), (2, .int x0), (3, .int x1), (4, .int x2)]) X.x X.b dX11_sheet_57 hl (Nat.le_of_ble_eq_true rfl) rfl (fun ls hl => ?_)
  refine lv_iload X.x X.b dX11_sheet_59 (lv_at hl 0 rfl) ?_
  refine lv_aload_n X.x X.b dX11_sheet_61 rfl (lv_at hl 4 rfl) ?_
  refine gg_X11_26 X hG 0 rfl rfl dX11_sheet_62 ?_
  refine gg_X11_238 X hG 1 rfl rfl dX11_sheet_65 ?_
  refine b_icmp_ge_t (tgt := 120) X.x X.b dX11_sheet_68 (by decide) (by decide +kernel) ?_
  refine lv_iload X.x X.b dX11_sheet_120 (lv_at hl 3 rfl) ?_
  refine b_if_eq_f (tgt := 130) X.x X.b dX11_sheet_122 (by decide) (by decide +kernel) ?_
  refine lv_bipush (v := (-3)) X.x X.b dX11_sheet_125 (by decide +kernel) ?_
  refine lv_goto (tgt := 132) X.x X.b dX11_sheet_127 (by decide) ?_
  exact g_iret X hr hlk hG rfl gS0 rfl [0, 1] rfl rfl (Nat.le_of_ble_eq_true rfl) (Nat.le_of_ble_eq_true rfl) dX11_sheet_132
set_option maxHeartbeats 4000000 in
set_option maxRecDepth 100000 in
theorem k156_in (l : Launch) (D : va_G) (cT : Nat → ClassId) : gMet l D cT yX12_in cX12_in 3 (some .boolean) 0 0 0 0 [.int 3, .int 0, .int 3] [] gE0 (gQi D cT (fun (r : Int32) (u : gS) => r = 1) (fun u : gS => [])) := by
  refine gMet.of "StorksLetModel" rfl (by decide +kernel) (Nat.le_of_ble_eq_true rfl) [(0, .int 3), (1, .int 0), (2, .int 3)] rfl ?_
  intro p e s m below meth c A ls X hr hlk hnm hA hG hE hl
  refine lv_iload_n X.x X.b dX12_in_0 rfl (lv_at hl 0 rfl) ?_
  refine lv_iload_n X.x X.b dX12_in_1 rfl (lv_at hl 1 rfl) ?_
  refine b_icmp_lt_f (tgt := 14) X.x X.b dX12_in_2 (by decide) (by decide +kernel) ?_
  refine lv_iload_n X.x X.b dX12_in_5 rfl (lv_at hl 0 rfl) ?_
  refine lv_iload_n X.x X.b dX12_in_6 rfl (lv_at hl 2 rfl) ?_
  refine b_icmp_gt_f (tgt := 14) X.x X.b dX12_in_7 (by decide) (by decide +kernel) ?_
  refine lv_iconst (v := 1) X.x X.b dX12_in_10 (by decide +kernel) ?_
  refine lv_goto (tgt := 15) X.x X.b dX12_in_11 (by decide) ?_
  exact g_iret X hr hlk hG rfl gS0 rfl [] rfl rfl (Nat.le_of_ble_eq_true rfl) (Nat.le_of_ble_eq_true rfl) dX12_in_15
set_option maxHeartbeats 4000000 in
set_option maxRecDepth 100000 in
theorem k157_sheet (l : Launch) (D : va_G) (cT : Nat → ClassId) (h0 h1 h2 h3 h4 h5 h6 h7 h8 h9 h10 h11 h12 h13 h14 h15 h16 h17 h18 h19 h20 h21 h22 h23 h24 h25 h26 h27 h28 h29 h30 h31 h32 h33 h34 h35 : Nat) (x0 x1 x2 : Int32) (u_x0 : x0.toInt ≤ 6) : gMet l D cT yX12_sheet cX12_sheet 9 (some .int) 1 22 0 0 [.ref h0, .int 3, .int x0, .int x1, .int x2] [(h0, .inr (11, (.ref h1 :: .int 0 :: .ref h2 :: .ref h3 :: .ref h4 :: .ref h5 :: .ref h6 :: .int 0 :: .ref h7 :: .ref h8 :: .int 0 :: .ref h9 :: .ref h10 :: .ref h11 :: .int 0 :: .int (-1) :: .int 0 :: .ref h12 :: .int 0 :: .ref h13 :: .int 0 :: .int 0 :: .null :: .int 0 :: .int 0 :: .int 0 :: .int 0 :: .ref h14 :: .ref h15 :: .ref h16 :: .ref h17 :: .int 0 :: .null :: .int 0 :: .int 0 :: .int 0 :: .ref h18 :: .int 0 :: .int (-1) :: .int 0 :: .ref h19 :: .int 0 :: .ref h20 :: .ref h21 :: .int 0 :: .ref h22 :: .ref h23 :: .ref h24 :: .ref h25 :: .int 0 :: .int 0 :: .int 0 :: .ref h26 :: .int 0 :: .int 0 :: .ref h27 :: .ref h28 :: .ref h29 :: .ref h30 :: .int 0 :: .ref h31 :: .int 0 :: .ref h32 :: .int 0 :: .int 0 :: .ref h33 :: .ref h34 :: .ref h35 :: [])))] gE0 (gQi D cT (fun (r : Int32) (u : gS) => r = (-3)) (fun u : gS => [(h0, .inr (11, (.ref h1 :: .int 0 :: .ref h2 :: .ref h3 :: .ref h4 :: .ref h5 :: .ref h6 :: .int 0 :: .ref h7 :: .ref h8 :: .int 0 :: .ref h9 :: .ref h10 :: .ref h11 :: .int 0 :: .int (-1) :: .int 0 :: .ref h12 :: .int 0 :: .ref h13 :: .int 0 :: .int 0 :: .null :: .int 0 :: .int 0 :: .int 0 :: .int 0 :: .ref h14 :: .ref h15 :: .ref h16 :: .ref h17 :: .int 0 :: .null :: .int 0 :: .int 0 :: .int 0 :: .ref h18 :: .int 0 :: .int (-1) :: .int 0 :: .ref h19 :: .int 0 :: .ref h20 :: .ref h21 :: .int 0 :: .ref h22 :: .ref h23 :: .ref h24 :: .ref h25 :: .int 0 :: .int 0 :: .int 0 :: .ref h26 :: .int 0 :: .int 0 :: .ref h27 :: .ref h28 :: .ref h29 :: .ref h30 :: .int 0 :: .ref h31 :: .int 0 :: .ref h32 :: .int 0 :: .int 0 :: .ref h33 :: .ref h34 :: .ref h35 :: [])))])) := by
  refine gMet.of "StorksLetModel" rfl (by decide +kernel) (Nat.le_of_ble_eq_true rfl) [(0, .ref h0), (1, .int 3), (2, .int x0), (3, .int x1), (4, .int x2)] rfl ?_
  intro p e s m below meth c A ls X hr hlk hnm hA hG hE hl
  refine lv_aload_n X.x X.b dX12_sheet_0 rfl (lv_at hl 0 rfl) ?_
  refine lv_iconst (v := 0) X.x X.b dX12_sheet_1 (by decide +kernel) ?_
  refine gp_X12_124 X hG 0 rfl rfl rfl (Nat.le_of_ble_eq_true rfl) dX12_sheet_2 (fun H locs (hG : gG D A s.heap [(h0, .inr (11, (.ref h1 :: .int 0 :: .ref h2 :: .ref h3 :: .ref h4 :: .ref h5 :: .ref h6 :: .int 0 :: .ref h7 :: .ref h8 :: .int 0 :: .ref h9 :: .ref h10 :: .ref h11 :: .int 0 :: .int (-1) :: .int 0 :: .ref h12 :: .int 0 :: .ref h13 :: .int 0 :: .int 0 :: .null :: .int 0 :: .int 0 :: .int 0 :: .int 0 :: .ref h14 :: .ref h15 :: .ref h16 :: .ref h17 :: .int 0 :: .null :: .int 0 :: .int 0 :: .int 0 :: .ref h18 :: .int 0 :: .int (-1) :: .int 0 :: .ref h19 :: .int 0 :: .ref h20 :: .ref h21 :: .int 0 :: .ref h22 :: .ref h23 :: .ref h24 :: .ref h25 :: .int 0 :: .int 0 :: .int 0 :: .ref h26 :: .int 0 :: .int 0 :: .ref h27 :: .ref h28 :: .ref h29 :: .ref h30 :: .int 0 :: .ref h31 :: .int 0 :: .ref h32 :: .int 0 :: .int 0 :: .ref h33 :: .ref h34 :: .ref h35 :: [])))] H locs) => ?_)
  refine lv_iload_n X.x X.b dX12_sheet_5 rfl (lv_at hl 1 rfl) ?_
  refine lv_iconst (v := 0) X.x X.b dX12_sheet_6 (by decide +kernel) ?_
  refine lv_iconst (v := 3) X.x X.b dX12_sheet_7 (by decide +kernel) ?_
  refine g_ki (g_rS (As := [.int 3, .int 0, .int 3]) (rest := []) X hl hG (k156_in l D cT) gw_X12_133 g_E01 g_E02 [] rfl rfl rfl rfl (Nat.le_of_ble_eq_true rfl) ⟨(Nat.le_of_ble_eq_true rfl), (Nat.le_of_ble_eq_true rfl)⟩ ⟨(Nat.le_of_ble_eq_true rfl), (Nat.le_of_ble_eq_true rfl)⟩ dX12_sheet_8) hG hA [] [0] rfl rfl rfl rfl (c1 := 0) (s1 := 0) rfl rfl (fun r_1 u_1 H locs (hu : r_1 = 1) (hG : gG D A s.heap [(h0, .inr (11, (.ref h1 :: .int 0 :: .ref h2 :: .ref h3 :: .ref h4 :: .ref h5 :: .ref h6 :: .int 0 :: .ref h7 :: .ref h8 :: .int 0 :: .ref h9 :: .ref h10 :: .ref h11 :: .int 0 :: .int (-1) :: .int 0 :: .ref h12 :: .int 0 :: .ref h13 :: .int 0 :: .int 0 :: .null :: .int 0 :: .int 0 :: .int 0 :: .int 0 :: .ref h14 :: .ref h15 :: .ref h16 :: .ref h17 :: .int 0 :: .null :: .int 0 :: .int 0 :: .int 0 :: .ref h18 :: .int 0 :: .int (-1) :: .int 0 :: .ref h19 :: .int 0 :: .ref h20 :: .ref h21 :: .int 0 :: .ref h22 :: .ref h23 :: .ref h24 :: .ref h25 :: .int 0 :: .int 0 :: .int 0 :: .ref h26 :: .int 0 :: .int 0 :: .ref h27 :: .ref h28 :: .ref h29 :: .ref h30 :: .int 0 :: .ref h31 :: .int 0 :: .ref h32 :: .int 0 :: .int 0 :: .ref h33 :: .ref h34 :: .ref h35 :: [])))] H locs) => ?_)
  have hu := hu.symm
  subst hu
  refine b_if_eq_f (tgt := 20) X.x X.b dX12_sheet_11 (by decide) (by decide +kernel) ?_
  refine lv_iload_n X.x X.b dX12_sheet_14 rfl (lv_at hl 2 rfl) ?_
  refine lv_bipush (v := 6) X.x X.b dX12_sheet_15 (by decide +kernel) ?_
  refine b_icmp_le_t (tgt := 22) X.x X.b dX12_sheet_17 (by decide) (by simp only [Int32.lt_iff_toInt_lt, Int32.le_iff_toInt_le, ← Int32.toInt_inj, show (6 : Int32).toInt = 6 from by decide +kernel]; omega) ?_
  refine lv_iload_n X.x X.b dX12_sheet_22 rfl (lv_at hl 1 rfl) ?_
  refine lv_iconst (v := 3) X.x X.b dX12_sheet_23 (by decide +kernel) ?_
  refine b_icmp_ge_t (tgt := 34) X.x X.b dX12_sheet_24 (by decide) (by decide +kernel) ?_
  refine lv_iconst (v := 0) X.x X.b dX12_sheet_34 (by decide +kernel) ?_
  refine lv_istore (lv' := [(5, .int 0), (0, .ref h0), (1, .int 3), (2, .int x0), (3, .int x1), (4, .int x2)]) X.x X.b dX12_sheet_35 hl (Nat.le_of_ble_eq_true rfl) rfl (fun ls hl => ?_)
  refine lv_iload_n X.x X.b dX12_sheet_37 rfl (lv_at hl 4 rfl) ?_
  refine lv_istore (lv' := [(6, .int x1), (5, .int 0), (0, .ref h0), (1, .int 3), (2, .int x0), (3, .int x1), (4, .int x2)]) X.x X.b dX12_sheet_38 hl (Nat.le_of_ble_eq_true rfl) rfl (fun ls hl => ?_)
  refine lv_iconst (v := 0) X.x X.b dX12_sheet_40 (by decide +kernel) ?_
  refine lv_istore (lv' := [(7, .int 0), (6, .int x1), (5, .int 0), (0, .ref h0), (1, .int 3), (2, .int x0), (3, .int x1), (4, .int x2)]) X.x X.b dX12_sheet_41 hl (Nat.le_of_ble_eq_true rfl) rfl (fun ls hl => ?_)
  refine lv_iload X.x X.b dX12_sheet_43 (lv_at hl 0 rfl) ?_
  refine lv_aload_n X.x X.b dX12_sheet_45 rfl (lv_at hl 3 rfl) ?_
  refine gg_X12_130 X hG 0 rfl rfl dX12_sheet_46 ?_
  refine b_icmp_ge_t (tgt := 135) X.x X.b dX12_sheet_49 (by decide) (by decide +kernel) ?_
  refine lv_iload_n X.x X.b dX12_sheet_135 rfl (lv_at hl 4 rfl) ?_
  refine lv_iconst (v := 3) X.x X.b dX12_sheet_136 (by decide +kernel) ?_
  refine b_icmp_ne_f (tgt := 145) X.x X.b dX12_sheet_137 (by decide) (by decide +kernel) ?_
  refine lv_bipush (v := (-3)) X.x X.b dX12_sheet_140 (by decide +kernel) ?_
  refine lv_goto (tgt := 147) X.x X.b dX12_sheet_142 (by decide) ?_
  exact g_iret X hr hlk hG rfl gS0 rfl [0] rfl rfl (Nat.le_of_ble_eq_true rfl) (Nat.le_of_ble_eq_true rfl) dX12_sheet_147
set_option maxHeartbeats 4000000 in
set_option maxRecDepth 100000 in
theorem k158_sheet (l : Launch) (D : va_G) (cT : Nat → ClassId) (h0 h1 h2 h3 h4 h5 h6 h7 h8 h9 h10 h11 h12 h13 h14 h15 : Nat) (x0 x1 x2 : Int32) (l_x0 : 7 ≤ x0.toInt) : gMet l D cT yX11_sheet cX11_sheet 10 (some .int) 0 0 0 0 [.ref h0, .int 3, .int x0, .int x1, .int x2] [(h0, .inr (10, [.ref h1, .ref h2, .ref h3, .ref h4, .ref h5, .ref h6, .ref h7, .ref h8, .ref h9, .ref h10, .ref h11, .ref h12, .ref h13, .null, .ref h14, .ref h15]))] gE0 (gQi D cT (fun (r : Int32) (u : gS) => r = (-1)) (fun u : gS => [(h0, .inr (10, [.ref h1, .ref h2, .ref h3, .ref h4, .ref h5, .ref h6, .ref h7, .ref h8, .ref h9, .ref h10, .ref h11, .ref h12, .ref h13, .null, .ref h14, .ref h15]))])) := by
  refine gMet.of "StorksLet" rfl (by decide +kernel) (Nat.le_of_ble_eq_true rfl) [(0, .ref h0), (1, .int 3), (2, .int x0), (3, .int x1), (4, .int x2)] rfl ?_
  intro p e s m below meth c A ls X hr hlk hnm hA hG hE hl
  refine lv_iload_n X.x X.b dX11_sheet_0 rfl (lv_at hl 1 rfl) ?_
  refine b_if_lt_f (tgt := 15) X.x X.b dX11_sheet_1 (by decide) (by decide +kernel) ?_
  refine lv_iload_n X.x X.b dX11_sheet_4 rfl (lv_at hl 1 rfl) ?_
  refine lv_iconst (v := 3) X.x X.b dX11_sheet_5 (by decide +kernel) ?_
  refine b_icmp_gt_f (tgt := 15) X.x X.b dX11_sheet_6 (by decide) (by decide +kernel) ?_
  refine lv_iload_n X.x X.b dX11_sheet_9 rfl (lv_at hl 2 rfl) ?_
  refine lv_bipush (v := 6) X.x X.b dX11_sheet_10 (by decide +kernel) ?_
  refine b_icmp_le_f (tgt := 17) X.x X.b dX11_sheet_12 (by decide) (by simp only [Int32.lt_iff_toInt_lt, Int32.le_iff_toInt_le, ← Int32.toInt_inj, show (6 : Int32).toInt = 6 from by decide +kernel]; omega) ?_
  refine lv_iconst (v := (-1)) X.x X.b dX11_sheet_15 (by decide +kernel) ?_
  exact g_iret X hr hlk hG rfl gS0 rfl [0] rfl rfl (Nat.le_of_ble_eq_true rfl) (Nat.le_of_ble_eq_true rfl) dX11_sheet_16
set_option maxHeartbeats 4000000 in
set_option maxRecDepth 100000 in
theorem k159_sheet (l : Launch) (D : va_G) (cT : Nat → ClassId) (h0 h1 h2 h3 h4 h5 h6 h7 h8 h9 h10 h11 h12 h13 h14 h15 h16 h17 h18 h19 h20 h21 h22 h23 h24 h25 h26 h27 h28 h29 h30 h31 h32 h33 h34 h35 : Nat) (x0 x1 x2 : Int32) (l_x0 : 7 ≤ x0.toInt) : gMet l D cT yX12_sheet cX12_sheet 9 (some .int) 1 22 0 0 [.ref h0, .int 3, .int x0, .int x1, .int x2] [(h0, .inr (11, (.ref h1 :: .int 0 :: .ref h2 :: .ref h3 :: .ref h4 :: .ref h5 :: .ref h6 :: .int 0 :: .ref h7 :: .ref h8 :: .int 0 :: .ref h9 :: .ref h10 :: .ref h11 :: .int 0 :: .int (-1) :: .int 0 :: .ref h12 :: .int 0 :: .ref h13 :: .int 0 :: .int 0 :: .null :: .int 0 :: .int 0 :: .int 0 :: .int 0 :: .ref h14 :: .ref h15 :: .ref h16 :: .ref h17 :: .int 0 :: .null :: .int 0 :: .int 0 :: .int 0 :: .ref h18 :: .int 0 :: .int (-1) :: .int 0 :: .ref h19 :: .int 0 :: .ref h20 :: .ref h21 :: .int 0 :: .ref h22 :: .ref h23 :: .ref h24 :: .ref h25 :: .int 0 :: .int 0 :: .int 0 :: .ref h26 :: .int 0 :: .int 0 :: .ref h27 :: .ref h28 :: .ref h29 :: .ref h30 :: .int 0 :: .ref h31 :: .int 0 :: .ref h32 :: .int 0 :: .int 0 :: .ref h33 :: .ref h34 :: .ref h35 :: [])))] gE0 (gQi D cT (fun (r : Int32) (u : gS) => r = (-1)) (fun u : gS => [(h0, .inr (11, (.ref h1 :: .int 0 :: .ref h2 :: .ref h3 :: .ref h4 :: .ref h5 :: .ref h6 :: .int 0 :: .ref h7 :: .ref h8 :: .int 0 :: .ref h9 :: .ref h10 :: .ref h11 :: .int 0 :: .int (-1) :: .int 0 :: .ref h12 :: .int 0 :: .ref h13 :: .int 0 :: .int 0 :: .null :: .int 0 :: .int 0 :: .int 0 :: .int 0 :: .ref h14 :: .ref h15 :: .ref h16 :: .ref h17 :: .int 0 :: .null :: .int 0 :: .int 0 :: .int 0 :: .ref h18 :: .int 0 :: .int (-1) :: .int 0 :: .ref h19 :: .int 0 :: .ref h20 :: .ref h21 :: .int 0 :: .ref h22 :: .ref h23 :: .ref h24 :: .ref h25 :: .int 0 :: .int 0 :: .int 0 :: .ref h26 :: .int 0 :: .int 0 :: .ref h27 :: .ref h28 :: .ref h29 :: .ref h30 :: .int 0 :: .ref h31 :: .int 0 :: .ref h32 :: .int 0 :: .int 0 :: .ref h33 :: .ref h34 :: .ref h35 :: [])))])) := by
  refine gMet.of "StorksLetModel" rfl (by decide +kernel) (Nat.le_of_ble_eq_true rfl) [(0, .ref h0), (1, .int 3), (2, .int x0), (3, .int x1), (4, .int x2)] rfl ?_
  intro p e s m below meth c A ls X hr hlk hnm hA hG hE hl
  refine lv_aload_n X.x X.b dX12_sheet_0 rfl (lv_at hl 0 rfl) ?_
  refine lv_iconst (v := 0) X.x X.b dX12_sheet_1 (by decide +kernel) ?_
  refine gp_X12_124 X hG 0 rfl rfl rfl (Nat.le_of_ble_eq_true rfl) dX12_sheet_2 (fun H locs (hG : gG D A s.heap [(h0, .inr (11, (.ref h1 :: .int 0 :: .ref h2 :: .ref h3 :: .ref h4 :: .ref h5 :: .ref h6 :: .int 0 :: .ref h7 :: .ref h8 :: .int 0 :: .ref h9 :: .ref h10 :: .ref h11 :: .int 0 :: .int (-1) :: .int 0 :: .ref h12 :: .int 0 :: .ref h13 :: .int 0 :: .int 0 :: .null :: .int 0 :: .int 0 :: .int 0 :: .int 0 :: .ref h14 :: .ref h15 :: .ref h16 :: .ref h17 :: .int 0 :: .null :: .int 0 :: .int 0 :: .int 0 :: .ref h18 :: .int 0 :: .int (-1) :: .int 0 :: .ref h19 :: .int 0 :: .ref h20 :: .ref h21 :: .int 0 :: .ref h22 :: .ref h23 :: .ref h24 :: .ref h25 :: .int 0 :: .int 0 :: .int 0 :: .ref h26 :: .int 0 :: .int 0 :: .ref h27 :: .ref h28 :: .ref h29 :: .ref h30 :: .int 0 :: .ref h31 :: .int 0 :: .ref h32 :: .int 0 :: .int 0 :: .ref h33 :: .ref h34 :: .ref h35 :: [])))] H locs) => ?_)
  refine lv_iload_n X.x X.b dX12_sheet_5 rfl (lv_at hl 1 rfl) ?_
  refine lv_iconst (v := 0) X.x X.b dX12_sheet_6 (by decide +kernel) ?_
  refine lv_iconst (v := 3) X.x X.b dX12_sheet_7 (by decide +kernel) ?_
  refine g_ki (g_rS (As := [.int 3, .int 0, .int 3]) (rest := []) X hl hG (k156_in l D cT) gw_X12_133 g_E01 g_E02 [] rfl rfl rfl rfl (Nat.le_of_ble_eq_true rfl) ⟨(Nat.le_of_ble_eq_true rfl), (Nat.le_of_ble_eq_true rfl)⟩ ⟨(Nat.le_of_ble_eq_true rfl), (Nat.le_of_ble_eq_true rfl)⟩ dX12_sheet_8) hG hA [] [0] rfl rfl rfl rfl (c1 := 0) (s1 := 0) rfl rfl (fun r_1 u_1 H locs (hu : r_1 = 1) (hG : gG D A s.heap [(h0, .inr (11, (.ref h1 :: .int 0 :: .ref h2 :: .ref h3 :: .ref h4 :: .ref h5 :: .ref h6 :: .int 0 :: .ref h7 :: .ref h8 :: .int 0 :: .ref h9 :: .ref h10 :: .ref h11 :: .int 0 :: .int (-1) :: .int 0 :: .ref h12 :: .int 0 :: .ref h13 :: .int 0 :: .int 0 :: .null :: .int 0 :: .int 0 :: .int 0 :: .int 0 :: .ref h14 :: .ref h15 :: .ref h16 :: .ref h17 :: .int 0 :: .null :: .int 0 :: .int 0 :: .int 0 :: .ref h18 :: .int 0 :: .int (-1) :: .int 0 :: .ref h19 :: .int 0 :: .ref h20 :: .ref h21 :: .int 0 :: .ref h22 :: .ref h23 :: .ref h24 :: .ref h25 :: .int 0 :: .int 0 :: .int 0 :: .ref h26 :: .int 0 :: .int 0 :: .ref h27 :: .ref h28 :: .ref h29 :: .ref h30 :: .int 0 :: .ref h31 :: .int 0 :: .ref h32 :: .int 0 :: .int 0 :: .ref h33 :: .ref h34 :: .ref h35 :: [])))] H locs) => ?_)
  have hu := hu.symm
  subst hu
  refine b_if_eq_f (tgt := 20) X.x X.b dX12_sheet_11 (by decide) (by decide +kernel) ?_
  refine lv_iload_n X.x X.b dX12_sheet_14 rfl (lv_at hl 2 rfl) ?_
  refine lv_bipush (v := 6) X.x X.b dX12_sheet_15 (by decide +kernel) ?_
  refine b_icmp_le_f (tgt := 22) X.x X.b dX12_sheet_17 (by decide) (by simp only [Int32.lt_iff_toInt_lt, Int32.le_iff_toInt_le, ← Int32.toInt_inj, show (6 : Int32).toInt = 6 from by decide +kernel]; omega) ?_
  refine lv_iconst (v := (-1)) X.x X.b dX12_sheet_20 (by decide +kernel) ?_
  exact g_iret X hr hlk hG rfl gS0 rfl [0] rfl rfl (Nat.le_of_ble_eq_true rfl) (Nat.le_of_ble_eq_true rfl) dX12_sheet_21
set_option maxHeartbeats 4000000 in
set_option maxRecDepth 100000 in
theorem k160_days (l : Launch) (D : va_G) (cT : Nat → ClassId) (h0 h1 h2 h3 h4 h5 h6 h7 h8 h9 h10 h11 h12 h13 h14 h15 : Nat) (x0 : Int32) (u_x0 : x0.toInt ≤ -1) : gMet l D cT yX11_days cX11_days 3 (some .int) 0 0 0 0 [.ref h0, .int x0] [(h0, .inr (10, [.ref h1, .ref h2, .ref h3, .ref h4, .ref h5, .ref h6, .ref h7, .ref h8, .ref h9, .ref h10, .ref h11, .ref h12, .ref h13, .null, .ref h14, .ref h15]))] gE0 (gQi D cT (fun (r : Int32) (u : gS) => r = (-1)) (fun u : gS => [(h0, .inr (10, [.ref h1, .ref h2, .ref h3, .ref h4, .ref h5, .ref h6, .ref h7, .ref h8, .ref h9, .ref h10, .ref h11, .ref h12, .ref h13, .null, .ref h14, .ref h15]))])) := by
  refine gMet.of "StorksLet" rfl (by decide +kernel) (Nat.le_of_ble_eq_true rfl) [(0, .ref h0), (1, .int x0)] rfl ?_
  intro p e s m below meth c A ls X hr hlk hnm hA hG hE hl
  refine lv_iload_n X.x X.b dX11_days_0 rfl (lv_at hl 1 rfl) ?_
  refine b_if_lt_t (tgt := 10) X.x X.b dX11_days_1 (by decide) (by simp only [Int32.lt_iff_toInt_lt, Int32.le_iff_toInt_le, ← Int32.toInt_inj, show (0 : Int32).toInt = 0 from by decide +kernel]; omega) ?_
  refine lv_iconst (v := (-1)) X.x X.b dX11_days_10 (by decide +kernel) ?_
  exact g_iret X hr hlk hG rfl gS0 rfl [0] rfl rfl (Nat.le_of_ble_eq_true rfl) (Nat.le_of_ble_eq_true rfl) dX11_days_11
set_option maxHeartbeats 4000000 in
set_option maxRecDepth 100000 in
theorem k161_in (l : Launch) (D : va_G) (cT : Nat → ClassId) (x0 : Int32) (u_x0 : x0.toInt ≤ -1) : gMet l D cT yX12_in cX12_in 3 (some .boolean) 0 0 0 0 [.int x0, .int 0, .int 60] [] gE0 (gQi D cT (fun (r : Int32) (u : gS) => r = 0) (fun u : gS => [])) := by
  refine gMet.of "StorksLetModel" rfl (by decide +kernel) (Nat.le_of_ble_eq_true rfl) [(0, .int x0), (1, .int 0), (2, .int 60)] rfl ?_
  intro p e s m below meth c A ls X hr hlk hnm hA hG hE hl
  refine lv_iload_n X.x X.b dX12_in_0 rfl (lv_at hl 0 rfl) ?_
  refine lv_iload_n X.x X.b dX12_in_1 rfl (lv_at hl 1 rfl) ?_
  refine b_icmp_lt_t (tgt := 14) X.x X.b dX12_in_2 (by decide) (by simp only [Int32.lt_iff_toInt_lt, Int32.le_iff_toInt_le, ← Int32.toInt_inj, show (0 : Int32).toInt = 0 from by decide +kernel]; omega) ?_
  refine lv_iconst (v := 0) X.x X.b dX12_in_14 (by decide +kernel) ?_
  exact g_iret X hr hlk hG rfl gS0 rfl [] rfl rfl (Nat.le_of_ble_eq_true rfl) (Nat.le_of_ble_eq_true rfl) dX12_in_15
set_option maxHeartbeats 4000000 in
set_option maxRecDepth 100000 in
theorem k162_days (l : Launch) (D : va_G) (cT : Nat → ClassId) (h0 h1 h2 h3 h4 h5 h6 h7 h8 h9 h10 h11 h12 h13 h14 h15 h16 h17 h18 h19 h20 h21 h22 h23 h24 h25 h26 h27 h28 h29 h30 h31 h32 h33 h34 h35 : Nat) (x0 : Int32) (u_x0 : x0.toInt ≤ -1) : gMet l D cT yX12_days cX12_days 5 (some .int) 1 22 0 0 [.ref h0, .int x0] [(h0, .inr (11, (.ref h1 :: .int 0 :: .ref h2 :: .ref h3 :: .ref h4 :: .ref h5 :: .ref h6 :: .int 0 :: .ref h7 :: .ref h8 :: .int 0 :: .ref h9 :: .ref h10 :: .ref h11 :: .int 0 :: .int (-1) :: .int 0 :: .ref h12 :: .int 0 :: .ref h13 :: .int 0 :: .int 0 :: .null :: .int 0 :: .int 0 :: .int 0 :: .int 0 :: .ref h14 :: .ref h15 :: .ref h16 :: .ref h17 :: .int 0 :: .null :: .int 0 :: .int 0 :: .int 0 :: .ref h18 :: .int 0 :: .int (-1) :: .int 0 :: .ref h19 :: .int 0 :: .ref h20 :: .ref h21 :: .int 0 :: .ref h22 :: .ref h23 :: .ref h24 :: .ref h25 :: .int 0 :: .int 0 :: .int 0 :: .ref h26 :: .int 0 :: .int 0 :: .ref h27 :: .ref h28 :: .ref h29 :: .ref h30 :: .int 0 :: .ref h31 :: .int 0 :: .ref h32 :: .int 0 :: .int 0 :: .ref h33 :: .ref h34 :: .ref h35 :: [])))] gE0 (gQi D cT (fun (r : Int32) (u : gS) => r = (-1)) (fun u : gS => [(h0, .inr (11, (.ref h1 :: .int 0 :: .ref h2 :: .ref h3 :: .ref h4 :: .ref h5 :: .ref h6 :: .int 0 :: .ref h7 :: .ref h8 :: .int 0 :: .ref h9 :: .ref h10 :: .ref h11 :: .int 0 :: .int (-1) :: .int 0 :: .ref h12 :: .int 0 :: .ref h13 :: .int 0 :: .int 0 :: .null :: .int 0 :: .int 0 :: .int 0 :: .int 0 :: .ref h14 :: .ref h15 :: .ref h16 :: .ref h17 :: .int 0 :: .null :: .int 0 :: .int 0 :: .int 0 :: .ref h18 :: .int 0 :: .int (-1) :: .int 0 :: .ref h19 :: .int 0 :: .ref h20 :: .ref h21 :: .int 0 :: .ref h22 :: .ref h23 :: .ref h24 :: .ref h25 :: .int 0 :: .int 0 :: .int 0 :: .ref h26 :: .int 0 :: .int 0 :: .ref h27 :: .ref h28 :: .ref h29 :: .ref h30 :: .int 0 :: .ref h31 :: .int 0 :: .ref h32 :: .int 0 :: .int 0 :: .ref h33 :: .ref h34 :: .ref h35 :: [])))])) := by
  refine gMet.of "StorksLetModel" rfl (by decide +kernel) (Nat.le_of_ble_eq_true rfl) [(0, .ref h0), (1, .int x0)] rfl ?_
  intro p e s m below meth c A ls X hr hlk hnm hA hG hE hl
  generalize hQ9 : MQ below _ _ s _ _ A = Q9
  refine lv_aload_n X.x X.b dX12_days_0 rfl (lv_at hl 0 rfl) ?_
  refine lv_iconst (v := 0) X.x X.b dX12_days_1 (by decide +kernel) ?_
  refine gp_X12_124 X hG 0 rfl rfl rfl (Nat.le_of_ble_eq_true rfl) dX12_days_2 (fun H locs (hG : gG D A s.heap [(h0, .inr (11, (.ref h1 :: .int 0 :: .ref h2 :: .ref h3 :: .ref h4 :: .ref h5 :: .ref h6 :: .int 0 :: .ref h7 :: .ref h8 :: .int 0 :: .ref h9 :: .ref h10 :: .ref h11 :: .int 0 :: .int (-1) :: .int 0 :: .ref h12 :: .int 0 :: .ref h13 :: .int 0 :: .int 0 :: .null :: .int 0 :: .int 0 :: .int 0 :: .int 0 :: .ref h14 :: .ref h15 :: .ref h16 :: .ref h17 :: .int 0 :: .null :: .int 0 :: .int 0 :: .int 0 :: .ref h18 :: .int 0 :: .int (-1) :: .int 0 :: .ref h19 :: .int 0 :: .ref h20 :: .ref h21 :: .int 0 :: .ref h22 :: .ref h23 :: .ref h24 :: .ref h25 :: .int 0 :: .int 0 :: .int 0 :: .ref h26 :: .int 0 :: .int 0 :: .ref h27 :: .ref h28 :: .ref h29 :: .ref h30 :: .int 0 :: .ref h31 :: .int 0 :: .ref h32 :: .int 0 :: .int 0 :: .ref h33 :: .ref h34 :: .ref h35 :: [])))] H locs) => ?_)
  refine lv_iload_n X.x X.b dX12_days_5 rfl (lv_at hl 1 rfl) ?_
  refine lv_iconst (v := 0) X.x X.b dX12_days_6 (by decide +kernel) ?_
  refine lv_bipush (v := 60) X.x X.b dX12_days_7 (by decide +kernel) ?_
  refine g_ki (g_rS (As := [.int x0, .int 0, .int 60]) (rest := []) X hl hG (k161_in l D cT x0 (by omega)) gw_X12_133 g_E01 g_E02 [] rfl rfl rfl rfl (Nat.le_of_ble_eq_true rfl) ⟨(Nat.le_of_ble_eq_true rfl), (Nat.le_of_ble_eq_true rfl)⟩ ⟨(Nat.le_of_ble_eq_true rfl), (Nat.le_of_ble_eq_true rfl)⟩ dX12_days_9) hG hA [] [0] rfl rfl rfl rfl (c1 := 0) (s1 := 0) rfl rfl (fun r_1 u_1 H locs (hu : r_1 = 0) (hG : gG D A s.heap [(h0, .inr (11, (.ref h1 :: .int 0 :: .ref h2 :: .ref h3 :: .ref h4 :: .ref h5 :: .ref h6 :: .int 0 :: .ref h7 :: .ref h8 :: .int 0 :: .ref h9 :: .ref h10 :: .ref h11 :: .int 0 :: .int (-1) :: .int 0 :: .ref h12 :: .int 0 :: .ref h13 :: .int 0 :: .int 0 :: .null :: .int 0 :: .int 0 :: .int 0 :: .int 0 :: .ref h14 :: .ref h15 :: .ref h16 :: .ref h17 :: .int 0 :: .null :: .int 0 :: .int 0 :: .int 0 :: .ref h18 :: .int 0 :: .int (-1) :: .int 0 :: .ref h19 :: .int 0 :: .ref h20 :: .ref h21 :: .int 0 :: .ref h22 :: .ref h23 :: .ref h24 :: .ref h25 :: .int 0 :: .int 0 :: .int 0 :: .ref h26 :: .int 0 :: .int 0 :: .ref h27 :: .ref h28 :: .ref h29 :: .ref h30 :: .int 0 :: .ref h31 :: .int 0 :: .ref h32 :: .int 0 :: .int 0 :: .ref h33 :: .ref h34 :: .ref h35 :: [])))] H locs) => ?_)
  have hu := hu.symm
  subst hu
  refine b_if_ne_f (tgt := 17) X.x X.b dX12_days_12 (by decide) (by decide +kernel) ?_
  refine lv_iconst (v := (-1)) X.x X.b dX12_days_15 (by decide +kernel) ?_
  subst hQ9
  exact g_iret X hr hlk hG rfl gS0 rfl [0] rfl rfl (Nat.le_of_ble_eq_true rfl) (Nat.le_of_ble_eq_true rfl) dX12_days_16
set_option maxHeartbeats 4000000 in
set_option maxRecDepth 100000 in
theorem k163_fill (l : Launch) (D : va_G) (cT : Nat → ClassId) (h0 : Nat) : gMet l D cT yJ7_fill_53178 cJ7_fill_53178 4 none 0 0 0 0 [.ref h0, .int 0] [(h0, .inl (cT 0, 4, .inl (fun _ => 0)))] gE0 (gQv D cT (fun _ : gS => True) (fun u : gS => [(h0, .inl (cT 0, 4, .inl (fun _ => 0)))])) := by
  refine gMet.of "java/util/Arrays" rfl (by decide +kernel) (Nat.le_of_ble_eq_true rfl) [(0, .ref h0), (1, .int 0)] rfl ?_
  intro p e s m below meth c A ls X hr hlk hnm hA hG hE hl
  refine lv_iconst (v := 0) X.x X.b dJ7_fill_53178_0 (by decide +kernel) ?_
  refine lv_istore_n (lv' := [(2, .int 0), (0, .ref h0), (1, .int 0)]) X.x X.b dJ7_fill_53178_1 rfl hl (Nat.le_of_ble_eq_true rfl) rfl (fun ls hl => ?_)
  refine lv_aload_n X.x X.b dJ7_fill_53178_2 rfl (lv_at hl 1 rfl) ?_
  refine g_alen X hG 0 0 rfl rfl (v := 4) rfl dJ7_fill_53178_3 ?_
  refine lv_istore_n (lv' := [(3, .int 4), (2, .int 0), (0, .ref h0), (1, .int 0)]) X.x X.b dJ7_fill_53178_4 rfl hl (Nat.le_of_ble_eq_true rfl) rfl (fun ls hl => ?_)
  refine lv_iload_n X.x X.b dJ7_fill_53178_5 rfl (lv_at hl 1 rfl) ?_
  refine lv_iload_n X.x X.b dJ7_fill_53178_6 rfl (lv_at hl 0 rfl) ?_
  refine b_icmp_ge_f (tgt := 20) X.x X.b dJ7_fill_53178_7 (by decide) (by decide +kernel) ?_
  refine lv_aload_n X.x X.b dJ7_fill_53178_10 rfl (lv_at hl 2 rfl) ?_
  refine lv_iload_n X.x X.b dJ7_fill_53178_11 rfl (lv_at hl 1 rfl) ?_
  refine lv_iload_n X.x X.b dJ7_fill_53178_12 rfl (lv_at hl 3 rfl) ?_
  refine g_iast X hG 0 rfl (g_in (by decide +kernel)) (f' := (fun _ => 0)) (g_up0 _) dJ7_fill_53178_13 (fun H locs (hG : gG D A s.heap [(h0, .inl (cT 0, 4, .inl (fun _ => 0)))] H locs) => ?_)
  refine lv_iinc (v := 1) (lv' := [(2, .int 1), (3, .int 4), (0, .ref h0), (1, .int 0)]) X.x X.b dJ7_fill_53178_14 hl (k := 1) rfl (by decide +kernel) (Nat.le_of_ble_eq_true rfl) rfl (fun ls hl => ?_)
  refine lv_goto (tgt := 5) X.x X.b dJ7_fill_53178_17 (by decide) ?_
  refine lv_iload_n X.x X.b dJ7_fill_53178_5 rfl (lv_at hl 0 rfl) ?_
  refine lv_iload_n X.x X.b dJ7_fill_53178_6 rfl (lv_at hl 1 rfl) ?_
  refine b_icmp_ge_f (tgt := 20) X.x X.b dJ7_fill_53178_7 (by decide) (by decide +kernel) ?_
  refine lv_aload_n X.x X.b dJ7_fill_53178_10 rfl (lv_at hl 2 rfl) ?_
  refine lv_iload_n X.x X.b dJ7_fill_53178_11 rfl (lv_at hl 0 rfl) ?_
  refine lv_iload_n X.x X.b dJ7_fill_53178_12 rfl (lv_at hl 3 rfl) ?_
  refine g_iast X hG 0 rfl (g_in (by decide +kernel)) (f' := (fun _ => 0)) (g_up0 _) dJ7_fill_53178_13 (fun H locs (hG : gG D A s.heap [(h0, .inl (cT 0, 4, .inl (fun _ => 0)))] H locs) => ?_)
  refine lv_iinc (v := 2) (lv' := [(2, .int 2), (3, .int 4), (0, .ref h0), (1, .int 0)]) X.x X.b dJ7_fill_53178_14 hl (k := 0) rfl (by decide +kernel) (Nat.le_of_ble_eq_true rfl) rfl (fun ls hl => ?_)
  refine lv_goto (tgt := 5) X.x X.b dJ7_fill_53178_17 (by decide) ?_
  refine lv_iload_n X.x X.b dJ7_fill_53178_5 rfl (lv_at hl 0 rfl) ?_
  refine lv_iload_n X.x X.b dJ7_fill_53178_6 rfl (lv_at hl 1 rfl) ?_
  refine b_icmp_ge_f (tgt := 20) X.x X.b dJ7_fill_53178_7 (by decide) (by decide +kernel) ?_
  refine lv_aload_n X.x X.b dJ7_fill_53178_10 rfl (lv_at hl 2 rfl) ?_
  refine lv_iload_n X.x X.b dJ7_fill_53178_11 rfl (lv_at hl 0 rfl) ?_
  refine lv_iload_n X.x X.b dJ7_fill_53178_12 rfl (lv_at hl 3 rfl) ?_
  refine g_iast X hG 0 rfl (g_in (by decide +kernel)) (f' := (fun _ => 0)) (g_up0 _) dJ7_fill_53178_13 (fun H locs (hG : gG D A s.heap [(h0, .inl (cT 0, 4, .inl (fun _ => 0)))] H locs) => ?_)
  refine lv_iinc (v := 3) (lv' := [(2, .int 3), (3, .int 4), (0, .ref h0), (1, .int 0)]) X.x X.b dJ7_fill_53178_14 hl (k := 0) rfl (by decide +kernel) (Nat.le_of_ble_eq_true rfl) rfl (fun ls hl => ?_)
  refine lv_goto (tgt := 5) X.x X.b dJ7_fill_53178_17 (by decide) ?_
  refine lv_iload_n X.x X.b dJ7_fill_53178_5 rfl (lv_at hl 0 rfl) ?_
  refine lv_iload_n X.x X.b dJ7_fill_53178_6 rfl (lv_at hl 1 rfl) ?_
  refine b_icmp_ge_f (tgt := 20) X.x X.b dJ7_fill_53178_7 (by decide) (by decide +kernel) ?_
  refine lv_aload_n X.x X.b dJ7_fill_53178_10 rfl (lv_at hl 2 rfl) ?_
  refine lv_iload_n X.x X.b dJ7_fill_53178_11 rfl (lv_at hl 0 rfl) ?_
  refine lv_iload_n X.x X.b dJ7_fill_53178_12 rfl (lv_at hl 3 rfl) ?_
  refine g_iast X hG 0 rfl (g_in (by decide +kernel)) (f' := (fun _ => 0)) (g_up0 _) dJ7_fill_53178_13 (fun H locs (hG : gG D A s.heap [(h0, .inl (cT 0, 4, .inl (fun _ => 0)))] H locs) => ?_)
  refine lv_iinc (v := 4) (lv' := [(2, .int 4), (3, .int 4), (0, .ref h0), (1, .int 0)]) X.x X.b dJ7_fill_53178_14 hl (k := 0) rfl (by decide +kernel) (Nat.le_of_ble_eq_true rfl) rfl (fun ls hl => ?_)
  refine lv_goto (tgt := 5) X.x X.b dJ7_fill_53178_17 (by decide) ?_
  refine lv_iload_n X.x X.b dJ7_fill_53178_5 rfl (lv_at hl 0 rfl) ?_
  refine lv_iload_n X.x X.b dJ7_fill_53178_6 rfl (lv_at hl 1 rfl) ?_
  refine b_icmp_ge_t (tgt := 20) X.x X.b dJ7_fill_53178_7 (by decide) (by decide +kernel) ?_
  exact g_vret X hr hlk hG gS0 trivial [0] rfl rfl (Nat.le_of_ble_eq_true rfl) (Nat.le_of_ble_eq_true rfl) dJ7_fill_53178_20
set_option maxHeartbeats 4000000 in
set_option maxRecDepth 100000 in
theorem k164_startDues (l : Launch) (D : va_G) (cT : Nat → ClassId) (h0 h1 h2 h3 h4 h5 h6 h7 h8 h9 h10 h11 h12 h13 h14 : Nat) : gMet l D cT yX8_startDues cX8_startDues 1 none 1 23 0 0 [.ref h0] [(h0, .inr (7, [.int 0, .int 0, .int 0, .int 0, .ref h2, .ref h3, .ref h4, .ref h5, .ref h6, .ref h7, .ref h8, .ref h9, .ref h10, .ref h11, .ref h12, .ref h1, .ref h13, .int 0, .ref h14])), (h1, .inl (cT 0, 4, .inl (fun _ => 0)))] gE0 (gQv D cT (fun _ : gS => True) (fun u : gS => [(h0, .inr (7, [.int 0, .int 0, .int 0, .int 0, .ref h2, .ref h3, .ref h4, .ref h5, .ref h6, .ref h7, .ref h8, .ref h9, .ref h10, .ref h11, .ref h12, .ref h1, .ref h13, .int 0, .ref h14])), (h1, .inl (cT 0, 4, .inl (fun _ => 0)))])) := by
  refine gMet.of "StorksLet$Town" rfl (by decide +kernel) (Nat.le_of_ble_eq_true rfl) [(0, .ref h0)] rfl ?_
  intro p e s m below meth c A ls X hr hlk hnm hA hG hE hl
  refine lv_aload_n X.x X.b dX8_startDues_0 rfl (lv_at hl 0 rfl) ?_
  refine gg_X8_58 X hG 0 rfl rfl dX8_startDues_1 ?_
  refine lv_iconst (v := 0) X.x X.b dX8_startDues_4 (by decide +kernel) ?_
  refine g_kv (g_rS (As := [.ref h1, .int 0]) (rest := []) X hl hG (k163_fill l D cT h1) gw_X8_157 g_E01 g_E02 [1] rfl rfl rfl rfl (Nat.le_of_ble_eq_true rfl) ⟨(Nat.le_of_ble_eq_true rfl), (Nat.le_of_ble_eq_true rfl)⟩ ⟨(Nat.le_of_ble_eq_true rfl), (Nat.le_of_ble_eq_true rfl)⟩ dX8_startDues_5) hG hA [1] [0] rfl rfl rfl rfl (c1 := 0) (s1 := 0) rfl rfl (fun u_1 H locs hu_1 (hG : gG D A s.heap [(h0, .inr (7, [.int 0, .int 0, .int 0, .int 0, .ref h2, .ref h3, .ref h4, .ref h5, .ref h6, .ref h7, .ref h8, .ref h9, .ref h10, .ref h11, .ref h12, .ref h1, .ref h13, .int 0, .ref h14])), (h1, .inl (cT 0, 4, .inl (fun _ => 0)))] H locs) => ?_)
  exact g_vret X hr hlk hG gS0 trivial [0, 1] rfl rfl (Nat.le_of_ble_eq_true rfl) (Nat.le_of_ble_eq_true rfl) dX8_startDues_8
set_option maxHeartbeats 4000000 in
set_option maxRecDepth 100000 in
theorem k165_passDays (l : Launch) (D : va_G) (cT : Nat → ClassId) (h0 h1 h2 h3 h4 h5 h6 h7 h8 h9 h10 h11 h12 h13 h14 : Nat) : gMet l D cT yX8_passDays cX8_passDays 5 none 0 0 0 0 [.ref h0, .int 0] [(h0, .inr (7, [.int 0, .int 0, .int 0, .int 0, .ref h1, .ref h2, .ref h3, .ref h4, .ref h5, .ref h6, .ref h7, .ref h8, .ref h9, .ref h10, .ref h11, .ref h12, .ref h13, .int 0, .ref h14]))] gE0 (gQv D cT (fun _ : gS => True) (fun u : gS => [(h0, .inr (7, [.int 0, .int 0, .int 0, .int 0, .ref h1, .ref h2, .ref h3, .ref h4, .ref h5, .ref h6, .ref h7, .ref h8, .ref h9, .ref h10, .ref h11, .ref h12, .ref h13, .int 0, .ref h14]))])) := by
  refine gMet.of "StorksLet$Town" rfl (by decide +kernel) (Nat.le_of_ble_eq_true rfl) [(0, .ref h0), (1, .int 0)] rfl ?_
  intro p e s m below meth c A ls X hr hlk hnm hA hG hE hl
  generalize hQ9 : MQ below _ _ s _ _ A = Q9
  refine lv_iconst (v := 0) X.x X.b dX8_passDays_0 (by decide +kernel) ?_
  refine lv_istore_n (lv' := [(2, .int 0), (0, .ref h0), (1, .int 0)]) X.x X.b dX8_passDays_1 rfl hl (Nat.le_of_ble_eq_true rfl) rfl (fun ls hl => ?_)
  refine lv_iload_n X.x X.b dX8_passDays_2 rfl (lv_at hl 0 rfl) ?_
  refine lv_iload_n X.x X.b dX8_passDays_3 rfl (lv_at hl 2 rfl) ?_
  refine b_icmp_ge_t (tgt := 159) X.x X.b dX8_passDays_4 (by decide) (by decide +kernel) ?_
  subst hQ9
  exact g_vret X hr hlk hG gS0 trivial [0] rfl rfl (Nat.le_of_ble_eq_true rfl) (Nat.le_of_ble_eq_true rfl) dX8_passDays_159
set_option maxHeartbeats 4000000 in
set_option maxRecDepth 100000 in
theorem k166_duesOfAll (l : Launch) (D : va_G) (cT : Nat → ClassId) (h0 h1 h2 h3 h4 h5 h6 h7 h8 h9 h10 h11 h12 h13 h14 : Nat) : gMet l D cT yX8_duesOfAll cX8_duesOfAll 3 (some .int) 0 0 0 0 [.ref h0] [(h0, .inr (7, [.int 0, .int 0, .int 0, .int 0, .ref h2, .ref h3, .ref h4, .ref h5, .ref h6, .ref h7, .ref h8, .ref h9, .ref h10, .ref h11, .ref h12, .ref h1, .ref h13, .int 0, .ref h14])), (h1, .inl (cT 0, 4, .inl (fun _ => 0)))] gE0 (gQi D cT (fun (r : Int32) (u : gS) => r = 0) (fun u : gS => [(h0, .inr (7, [.int 0, .int 0, .int 0, .int 0, .ref h2, .ref h3, .ref h4, .ref h5, .ref h6, .ref h7, .ref h8, .ref h9, .ref h10, .ref h11, .ref h12, .ref h1, .ref h13, .int 0, .ref h14])), (h1, .inl (cT 0, 4, .inl (fun _ => 0)))])) := by
  refine gMet.of "StorksLet$Town" rfl (by decide +kernel) (Nat.le_of_ble_eq_true rfl) [(0, .ref h0)] rfl ?_
  intro p e s m below meth c A ls X hr hlk hnm hA hG hE hl
  refine lv_iconst (v := 0) X.x X.b dX8_duesOfAll_0 (by decide +kernel) ?_
  refine lv_istore_n (lv' := [(1, .int 0), (0, .ref h0)]) X.x X.b dX8_duesOfAll_1 rfl hl (Nat.le_of_ble_eq_true rfl) rfl (fun ls hl => ?_)
  refine lv_iconst (v := 0) X.x X.b dX8_duesOfAll_2 (by decide +kernel) ?_
  refine lv_istore_n (lv' := [(2, .int 0), (1, .int 0), (0, .ref h0)]) X.x X.b dX8_duesOfAll_3 rfl hl (Nat.le_of_ble_eq_true rfl) rfl (fun ls hl => ?_)
  refine lv_iload_n X.x X.b dX8_duesOfAll_4 rfl (lv_at hl 0 rfl) ?_
  refine lv_iconst (v := 4) X.x X.b dX8_duesOfAll_5 (by decide +kernel) ?_
  refine b_icmp_ge_f (tgt := 24) X.x X.b dX8_duesOfAll_6 (by decide) (by decide +kernel) ?_
  refine lv_iload_n X.x X.b dX8_duesOfAll_9 rfl (lv_at hl 1 rfl) ?_
  refine lv_aload_n X.x X.b dX8_duesOfAll_10 rfl (lv_at hl 2 rfl) ?_
  refine gg_X8_58 X hG 0 rfl rfl dX8_duesOfAll_11 ?_
  refine lv_iload_n X.x X.b dX8_duesOfAll_14 rfl (lv_at hl 0 rfl) ?_
  refine g_iald X hG 1 rfl (g_in (by decide +kernel)) (v := 0) rfl dX8_duesOfAll_15 ?_
  refine lv_iadd X.x X.b dX8_duesOfAll_16 ?_
  refine g_top (v' := 0) (by decide +kernel) ?_
  refine lv_istore_n (lv' := [(1, .int 0), (2, .int 0), (0, .ref h0)]) X.x X.b dX8_duesOfAll_17 rfl hl (Nat.le_of_ble_eq_true rfl) rfl (fun ls hl => ?_)
  refine lv_iinc (v := 1) (lv' := [(2, .int 1), (1, .int 0), (0, .ref h0)]) X.x X.b dX8_duesOfAll_18 hl (k := 1) rfl (by decide +kernel) (Nat.le_of_ble_eq_true rfl) rfl (fun ls hl => ?_)
  refine lv_goto (tgt := 4) X.x X.b dX8_duesOfAll_21 (by decide) ?_
  refine lv_iload_n X.x X.b dX8_duesOfAll_4 rfl (lv_at hl 0 rfl) ?_
  refine lv_iconst (v := 4) X.x X.b dX8_duesOfAll_5 (by decide +kernel) ?_
  refine b_icmp_ge_f (tgt := 24) X.x X.b dX8_duesOfAll_6 (by decide) (by decide +kernel) ?_
  refine lv_iload_n X.x X.b dX8_duesOfAll_9 rfl (lv_at hl 1 rfl) ?_
  refine lv_aload_n X.x X.b dX8_duesOfAll_10 rfl (lv_at hl 2 rfl) ?_
  refine gg_X8_58 X hG 0 rfl rfl dX8_duesOfAll_11 ?_
  refine lv_iload_n X.x X.b dX8_duesOfAll_14 rfl (lv_at hl 0 rfl) ?_
  refine g_iald X hG 1 rfl (g_in (by decide +kernel)) (v := 0) rfl dX8_duesOfAll_15 ?_
  refine lv_iadd X.x X.b dX8_duesOfAll_16 ?_
  refine g_top (v' := 0) (by decide +kernel) ?_
  refine lv_istore_n (lv' := [(1, .int 0), (2, .int 1), (0, .ref h0)]) X.x X.b dX8_duesOfAll_17 rfl hl (Nat.le_of_ble_eq_true rfl) rfl (fun ls hl => ?_)
  refine lv_iinc (v := 2) (lv' := [(2, .int 2), (1, .int 0), (0, .ref h0)]) X.x X.b dX8_duesOfAll_18 hl (k := 1) rfl (by decide +kernel) (Nat.le_of_ble_eq_true rfl) rfl (fun ls hl => ?_)
  refine lv_goto (tgt := 4) X.x X.b dX8_duesOfAll_21 (by decide) ?_
  refine lv_iload_n X.x X.b dX8_duesOfAll_4 rfl (lv_at hl 0 rfl) ?_
  refine lv_iconst (v := 4) X.x X.b dX8_duesOfAll_5 (by decide +kernel) ?_
  refine b_icmp_ge_f (tgt := 24) X.x X.b dX8_duesOfAll_6 (by decide) (by decide +kernel) ?_
  refine lv_iload_n X.x X.b dX8_duesOfAll_9 rfl (lv_at hl 1 rfl) ?_
  refine lv_aload_n X.x X.b dX8_duesOfAll_10 rfl (lv_at hl 2 rfl) ?_
  refine gg_X8_58 X hG 0 rfl rfl dX8_duesOfAll_11 ?_
  refine lv_iload_n X.x X.b dX8_duesOfAll_14 rfl (lv_at hl 0 rfl) ?_
  refine g_iald X hG 1 rfl (g_in (by decide +kernel)) (v := 0) rfl dX8_duesOfAll_15 ?_
  refine lv_iadd X.x X.b dX8_duesOfAll_16 ?_
  refine g_top (v' := 0) (by decide +kernel) ?_
  refine lv_istore_n (lv' := [(1, .int 0), (2, .int 2), (0, .ref h0)]) X.x X.b dX8_duesOfAll_17 rfl hl (Nat.le_of_ble_eq_true rfl) rfl (fun ls hl => ?_)
  refine lv_iinc (v := 3) (lv' := [(2, .int 3), (1, .int 0), (0, .ref h0)]) X.x X.b dX8_duesOfAll_18 hl (k := 1) rfl (by decide +kernel) (Nat.le_of_ble_eq_true rfl) rfl (fun ls hl => ?_)
  refine lv_goto (tgt := 4) X.x X.b dX8_duesOfAll_21 (by decide) ?_
  refine lv_iload_n X.x X.b dX8_duesOfAll_4 rfl (lv_at hl 0 rfl) ?_
  refine lv_iconst (v := 4) X.x X.b dX8_duesOfAll_5 (by decide +kernel) ?_
  refine b_icmp_ge_f (tgt := 24) X.x X.b dX8_duesOfAll_6 (by decide) (by decide +kernel) ?_
  refine lv_iload_n X.x X.b dX8_duesOfAll_9 rfl (lv_at hl 1 rfl) ?_
  refine lv_aload_n X.x X.b dX8_duesOfAll_10 rfl (lv_at hl 2 rfl) ?_
  refine gg_X8_58 X hG 0 rfl rfl dX8_duesOfAll_11 ?_
  refine lv_iload_n X.x X.b dX8_duesOfAll_14 rfl (lv_at hl 0 rfl) ?_
  refine g_iald X hG 1 rfl (g_in (by decide +kernel)) (v := 0) rfl dX8_duesOfAll_15 ?_
  refine lv_iadd X.x X.b dX8_duesOfAll_16 ?_
  refine g_top (v' := 0) (by decide +kernel) ?_
  refine lv_istore_n (lv' := [(1, .int 0), (2, .int 3), (0, .ref h0)]) X.x X.b dX8_duesOfAll_17 rfl hl (Nat.le_of_ble_eq_true rfl) rfl (fun ls hl => ?_)
  refine lv_iinc (v := 4) (lv' := [(2, .int 4), (1, .int 0), (0, .ref h0)]) X.x X.b dX8_duesOfAll_18 hl (k := 1) rfl (by decide +kernel) (Nat.le_of_ble_eq_true rfl) rfl (fun ls hl => ?_)
  refine lv_goto (tgt := 4) X.x X.b dX8_duesOfAll_21 (by decide) ?_
  refine lv_iload_n X.x X.b dX8_duesOfAll_4 rfl (lv_at hl 0 rfl) ?_
  refine lv_iconst (v := 4) X.x X.b dX8_duesOfAll_5 (by decide +kernel) ?_
  refine b_icmp_ge_t (tgt := 24) X.x X.b dX8_duesOfAll_6 (by decide) (by decide +kernel) ?_
  refine lv_iload_n X.x X.b dX8_duesOfAll_24 rfl (lv_at hl 1 rfl) ?_
  exact g_iret X hr hlk hG rfl gS0 rfl [0, 1] rfl rfl (Nat.le_of_ble_eq_true rfl) (Nat.le_of_ble_eq_true rfl) dX8_duesOfAll_25
set_option maxHeartbeats 4000000 in
set_option maxRecDepth 100000 in
theorem k167_livingOn (l : Launch) (D : va_G) (cT : Nat → ClassId) (h0 h1 h2 h3 h4 h5 h6 h7 h8 h9 h10 h11 h12 h13 h14 : Nat) : gMet l D cT yX8_livingOn cX8_livingOn 4 (some .int) 0 0 0 0 [.ref h0, .int (-1)] [(h0, .inr (7, [.int 0, .int 0, .int 0, .int 0, .ref h1, .ref h2, .ref h3, .ref h4, .ref h5, .ref h6, .ref h7, .ref h8, .ref h9, .ref h10, .ref h11, .ref h12, .ref h13, .int 0, .ref h14]))] gE0 (gQi D cT (fun (r : Int32) (u : gS) => r = 0) (fun u : gS => [(h0, .inr (7, [.int 0, .int 0, .int 0, .int 0, .ref h1, .ref h2, .ref h3, .ref h4, .ref h5, .ref h6, .ref h7, .ref h8, .ref h9, .ref h10, .ref h11, .ref h12, .ref h13, .int 0, .ref h14]))])) := by
  refine gMet.of "StorksLet$Town" rfl (by decide +kernel) (Nat.le_of_ble_eq_true rfl) [(0, .ref h0), (1, .int (-1))] rfl ?_
  intro p e s m below meth c A ls X hr hlk hnm hA hG hE hl
  refine lv_iconst (v := 0) X.x X.b dX8_livingOn_0 (by decide +kernel) ?_
  refine lv_istore_n (lv' := [(2, .int 0), (0, .ref h0), (1, .int (-1))]) X.x X.b dX8_livingOn_1 rfl hl (Nat.le_of_ble_eq_true rfl) rfl (fun ls hl => ?_)
  refine lv_iconst (v := 0) X.x X.b dX8_livingOn_2 (by decide +kernel) ?_
  refine lv_istore_n (lv' := [(3, .int 0), (2, .int 0), (0, .ref h0), (1, .int (-1))]) X.x X.b dX8_livingOn_3 rfl hl (Nat.le_of_ble_eq_true rfl) rfl (fun ls hl => ?_)
  refine lv_iload_n X.x X.b dX8_livingOn_4 rfl (lv_at hl 0 rfl) ?_
  refine lv_aload_n X.x X.b dX8_livingOn_5 rfl (lv_at hl 2 rfl) ?_
  refine gg_X8_21 X hG 0 rfl rfl dX8_livingOn_6 ?_
  refine b_icmp_ge_t (tgt := 31) X.x X.b dX8_livingOn_9 (by decide) (by decide +kernel) ?_
  refine lv_iload_n X.x X.b dX8_livingOn_31 rfl (lv_at hl 1 rfl) ?_
  exact g_iret X hr hlk hG rfl gS0 rfl [0] rfl rfl (Nat.le_of_ble_eq_true rfl) (Nat.le_of_ble_eq_true rfl) dX8_livingOn_32

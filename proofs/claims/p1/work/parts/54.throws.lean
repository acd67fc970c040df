set_option maxHeartbeats 4000000 in
set_option maxRecDepth 100000 in
theorem t_roof (l : Launch) (hfl : l.stackTraces = false) (D : va_G) (cT : Nat → ClassId) (h0 h1 h2 h3 h4 h5 h6 h7 h8 h9 h10 h11 h12 h13 h14 h15 h16 h17 h18 h19 h20 h21 h22 h23 h24 h25 h26 h27 h28 h29 : Nat) (x0 x1 : Int32) : gvMet l D cT yX11_roof cX11_roof 3 (some .int) 8 120 1 6 [.ref h0, .int x0, .int x1] [(h0, .inr (10, [.ref h2, .ref h3, .ref h1, .ref h4, .ref h5, .ref h6, .ref h7, .ref h8, .ref h9, .ref h10, .ref h11, .ref h12, .ref h13, .null, .ref h14, .ref h15])), (h1, .inr (7, [.int 0, .int 0, .int 0, .int 0, .ref h16, .ref h17, .ref h18, .ref h19, .ref h20, .ref h21, .ref h22, .ref h23, .ref h24, .ref h25, .ref h26, .ref h27, .ref h28, .int 0, .ref h29]))] := by
  refine gvMet.of "StorksLet" rfl (by decide +kernel) (Nat.le_of_ble_eq_true rfl) [(0, .ref h0), (1, .int x0), (2, .int x1)] rfl ?_
  intro p e s m below meth c A ls Qc X hlk hex hA hG hE hl
  refine lv_aload_n X.x X.b dX11_roof_0 rfl (lv_at hl 0 rfl) ?_
  refine gg_X11_26 X hG 0 rfl rfl dX11_roof_1 ?_
  refine lv_iload_n X.x X.b dX11_roof_4 rfl (lv_at hl 1 rfl) ?_
  refine g_ki (g_rV (As := [.int x0]) (rest := []) X hl hG (k129_isRoof l D cT h1 h16 h17 h18 h19 h20 h21 h22 h23 h24 h25 h26 h27 h28 h29 x0) gw_X11_152 g_E01 g_E02 [1] rfl rfl 1 rfl rfl rfl rfl rfl (Nat.le_of_ble_eq_true rfl) ⟨(Nat.le_of_ble_eq_true rfl), (Nat.le_of_ble_eq_true rfl)⟩ ⟨(Nat.le_of_ble_eq_true rfl), (Nat.le_of_ble_eq_true rfl)⟩ dX11_roof_5) hG hA [1] [0] rfl rfl rfl rfl (c1 := 0) (s1 := 0) rfl rfl (fun r_1 u_1 H locs (hu : r_1 = 0) (hG : gG D A s.heap [(h0, .inr (10, [.ref h2, .ref h3, .ref h1, .ref h4, .ref h5, .ref h6, .ref h7, .ref h8, .ref h9, .ref h10, .ref h11, .ref h12, .ref h13, .null, .ref h14, .ref h15])), (h1, .inr (7, [.int 0, .int 0, .int 0, .int 0, .ref h16, .ref h17, .ref h18, .ref h19, .ref h20, .ref h21, .ref h22, .ref h23, .ref h24, .ref h25, .ref h26, .ref h27, .ref h28, .int 0, .ref h29]))] H locs) => ?_)
  have hu := hu.symm
  subst hu
  refine b_if_ne_f (tgt := 21) X.x X.b dX11_roof_8 (by decide) (by decide +kernel) ?_
  obtain ⟨sq, hsq⟩ := hE.2.2.1
  exact g_thr X hl hG hfl hE hex hlk hsq dX11_roof_11 dX11_roof_14 dX11_roof_15 dX11_roof_17 dX11_roof_20 (Nat.le_of_ble_eq_true rfl) (Nat.le_of_ble_eq_true rfl) (Nat.le_of_ble_eq_true rfl) (Nat.le_of_ble_eq_true rfl) (Nat.le_of_ble_eq_true rfl) (Nat.le_of_ble_eq_true rfl)
set_option maxHeartbeats 4000000 in
set_option maxRecDepth 100000 in
theorem t_bird (l : Launch) (hfl : l.stackTraces = false) (D : va_G) (cT : Nat → ClassId) (h0 h1 h2 h3 h4 h5 h6 h7 h8 h9 h10 h11 h12 h13 h14 h15 h16 h17 h18 h19 h20 h21 h22 h23 h24 h25 h26 h27 h28 h29 : Nat) (x0 x1 : Int32) : gvMet l D cT yX11_bird cX11_bird 3 (some .int) 8 120 1 6 [.ref h0, .int x0, .int x1] [(h0, .inr (10, [.ref h2, .ref h3, .ref h1, .ref h4, .ref h5, .ref h6, .ref h7, .ref h8, .ref h9, .ref h10, .ref h11, .ref h12, .ref h13, .null, .ref h14, .ref h15])), (h1, .inr (7, [.int 0, .int 0, .int 0, .int 0, .ref h16, .ref h17, .ref h18, .ref h19, .ref h20, .ref h21, .ref h22, .ref h23, .ref h24, .ref h25, .ref h26, .ref h27, .ref h28, .int 0, .ref h29]))] := by
  refine gvMet.of "StorksLet" rfl (by decide +kernel) (Nat.le_of_ble_eq_true rfl) [(0, .ref h0), (1, .int x0), (2, .int x1)] rfl ?_
  intro p e s m below meth c A ls Qc X hlk hex hA hG hE hl
  refine lv_aload_n X.x X.b dX11_bird_0 rfl (lv_at hl 0 rfl) ?_
  refine gg_X11_26 X hG 0 rfl rfl dX11_bird_1 ?_
  refine lv_iload_n X.x X.b dX11_bird_4 rfl (lv_at hl 1 rfl) ?_
  refine g_ki (g_rV (As := [.int x0]) (rest := []) X hl hG (k134_isBird l D cT h1 h16 h17 h18 h19 h20 h21 h22 h23 h24 h25 h26 h27 h28 h29 x0) gw_X11_175 g_E01 g_E02 [1] rfl rfl 1 rfl rfl rfl rfl rfl (Nat.le_of_ble_eq_true rfl) ⟨(Nat.le_of_ble_eq_true rfl), (Nat.le_of_ble_eq_true rfl)⟩ ⟨(Nat.le_of_ble_eq_true rfl), (Nat.le_of_ble_eq_true rfl)⟩ dX11_bird_5) hG hA [1] [0] rfl rfl rfl rfl (c1 := 0) (s1 := 0) rfl rfl (fun r_1 u_1 H locs (hu : r_1 = 0) (hG : gG D A s.heap [(h0, .inr (10, [.ref h2, .ref h3, .ref h1, .ref h4, .ref h5, .ref h6, .ref h7, .ref h8, .ref h9, .ref h10, .ref h11, .ref h12, .ref h13, .null, .ref h14, .ref h15])), (h1, .inr (7, [.int 0, .int 0, .int 0, .int 0, .ref h16, .ref h17, .ref h18, .ref h19, .ref h20, .ref h21, .ref h22, .ref h23, .ref h24, .ref h25, .ref h26, .ref h27, .ref h28, .int 0, .ref h29]))] H locs) => ?_)
  have hu := hu.symm
  subst hu
  refine b_if_ne_f (tgt := 21) X.x X.b dX11_bird_8 (by decide) (by decide +kernel) ?_
  obtain ⟨sq, hsq⟩ := hE.2.2.2.1
  exact g_thr X hl hG hfl hE hex hlk hsq dX11_bird_11 dX11_bird_14 dX11_bird_15 dX11_bird_17 dX11_bird_20 (Nat.le_of_ble_eq_true rfl) (Nat.le_of_ble_eq_true rfl) (Nat.le_of_ble_eq_true rfl) (Nat.le_of_ble_eq_true rfl) (Nat.le_of_ble_eq_true rfl) (Nat.le_of_ble_eq_true rfl)
set_option maxHeartbeats 4000000 in
set_option maxRecDepth 100000 in
theorem t_family (l : Launch) (hfl : l.stackTraces = false) (D : va_G) (cT : Nat → ClassId) (h0 h1 h2 h3 h4 h5 h6 h7 h8 h9 h10 h11 h12 h13 h14 h15 h16 h17 h18 h19 h20 h21 h22 h23 h24 h25 h26 h27 h28 h29 : Nat) (x0 x1 : Int32) : gvMet l D cT yX11_family cX11_family 3 (some .int) 8 120 1 6 [.ref h0, .int x0, .int x1] [(h0, .inr (10, [.ref h2, .ref h3, .ref h1, .ref h4, .ref h5, .ref h6, .ref h7, .ref h8, .ref h9, .ref h10, .ref h11, .ref h12, .ref h13, .null, .ref h14, .ref h15])), (h1, .inr (7, [.int 0, .int 0, .int 0, .int 0, .ref h16, .ref h17, .ref h18, .ref h19, .ref h20, .ref h21, .ref h22, .ref h23, .ref h24, .ref h25, .ref h26, .ref h27, .ref h28, .int 0, .ref h29]))] := by
  refine gvMet.of "StorksLet" rfl (by decide +kernel) (Nat.le_of_ble_eq_true rfl) [(0, .ref h0), (1, .int x0), (2, .int x1)] rfl ?_
  intro p e s m below meth c A ls Qc X hlk hex hA hG hE hl
  refine lv_aload_n X.x X.b dX11_family_0 rfl (lv_at hl 0 rfl) ?_
  refine gg_X11_26 X hG 0 rfl rfl dX11_family_1 ?_
  refine lv_iload_n X.x X.b dX11_family_4 rfl (lv_at hl 1 rfl) ?_
  refine g_ki (g_rV (As := [.int x0]) (rest := []) X hl hG (k138_isFamily l D cT h1 h16 h17 h18 h19 h20 h21 h22 h23 h24 h25 h26 h27 h28 h29 x0) gw_X11_200 g_E01 g_E02 [1] rfl rfl 1 rfl rfl rfl rfl rfl (Nat.le_of_ble_eq_true rfl) ⟨(Nat.le_of_ble_eq_true rfl), (Nat.le_of_ble_eq_true rfl)⟩ ⟨(Nat.le_of_ble_eq_true rfl), (Nat.le_of_ble_eq_true rfl)⟩ dX11_family_5) hG hA [1] [0] rfl rfl rfl rfl (c1 := 0) (s1 := 0) rfl rfl (fun r_1 u_1 H locs (hu : r_1 = 0) (hG : gG D A s.heap [(h0, .inr (10, [.ref h2, .ref h3, .ref h1, .ref h4, .ref h5, .ref h6, .ref h7, .ref h8, .ref h9, .ref h10, .ref h11, .ref h12, .ref h13, .null, .ref h14, .ref h15])), (h1, .inr (7, [.int 0, .int 0, .int 0, .int 0, .ref h16, .ref h17, .ref h18, .ref h19, .ref h20, .ref h21, .ref h22, .ref h23, .ref h24, .ref h25, .ref h26, .ref h27, .ref h28, .int 0, .ref h29]))] H locs) => ?_)
  have hu := hu.symm
  subst hu
  refine b_if_ne_f (tgt := 21) X.x X.b dX11_family_8 (by decide) (by decide +kernel) ?_
  obtain ⟨sq, hsq⟩ := hE.2.2.2.2.1
  exact g_thr X hl hG hfl hE hex hlk hsq dX11_family_11 dX11_family_14 dX11_family_15 dX11_family_17 dX11_family_20 (Nat.le_of_ble_eq_true rfl) (Nat.le_of_ble_eq_true rfl) (Nat.le_of_ble_eq_true rfl) (Nat.le_of_ble_eq_true rfl) (Nat.le_of_ble_eq_true rfl) (Nat.le_of_ble_eq_true rfl)
set_option maxHeartbeats 4000000 in
set_option maxRecDepth 100000 in
theorem t_worth (l : Launch) (hfl : l.stackTraces = false) (D : va_G) (cT : Nat → ClassId) (h0 h1 h2 h3 h4 h5 h6 h7 h8 h9 h10 h11 h12 h13 h14 h15 h16 h17 h18 h19 h20 h21 h22 h23 h24 h25 h26 h27 h28 h29 : Nat) (x0 x1 : Int32) : gvMet l D cT yX11_worth cX11_worth 3 (some .int) 8 120 1 6 [.ref h0, .int x0, .int x1] [(h0, .inr (10, [.ref h2, .ref h3, .ref h1, .ref h4, .ref h5, .ref h6, .ref h7, .ref h8, .ref h9, .ref h10, .ref h11, .ref h12, .ref h13, .null, .ref h14, .ref h15])), (h1, .inr (7, [.int 0, .int 0, .int 0, .int 0, .ref h16, .ref h17, .ref h18, .ref h19, .ref h20, .ref h21, .ref h22, .ref h23, .ref h24, .ref h25, .ref h26, .ref h27, .ref h28, .int 0, .ref h29]))] := by
  refine gvMet.of "StorksLet" rfl (by decide +kernel) (Nat.le_of_ble_eq_true rfl) [(0, .ref h0), (1, .int x0), (2, .int x1)] rfl ?_
  intro p e s m below meth c A ls Qc X hlk hex hA hG hE hl
  refine lv_aload_n X.x X.b dX11_worth_0 rfl (lv_at hl 0 rfl) ?_
  refine gg_X11_26 X hG 0 rfl rfl dX11_worth_1 ?_
  refine lv_iload_n X.x X.b dX11_worth_4 rfl (lv_at hl 1 rfl) ?_
  refine g_ki (g_rV (As := [.int x0]) (rest := []) X hl hG (k129_isRoof l D cT h1 h16 h17 h18 h19 h20 h21 h22 h23 h24 h25 h26 h27 h28 h29 x0) gw_X11_152 g_E01 g_E02 [1] rfl rfl 1 rfl rfl rfl rfl rfl (Nat.le_of_ble_eq_true rfl) ⟨(Nat.le_of_ble_eq_true rfl), (Nat.le_of_ble_eq_true rfl)⟩ ⟨(Nat.le_of_ble_eq_true rfl), (Nat.le_of_ble_eq_true rfl)⟩ dX11_worth_5) hG hA [1] [0] rfl rfl rfl rfl (c1 := 0) (s1 := 0) rfl rfl (fun r_1 u_1 H locs (hu : r_1 = 0) (hG : gG D A s.heap [(h0, .inr (10, [.ref h2, .ref h3, .ref h1, .ref h4, .ref h5, .ref h6, .ref h7, .ref h8, .ref h9, .ref h10, .ref h11, .ref h12, .ref h13, .null, .ref h14, .ref h15])), (h1, .inr (7, [.int 0, .int 0, .int 0, .int 0, .ref h16, .ref h17, .ref h18, .ref h19, .ref h20, .ref h21, .ref h22, .ref h23, .ref h24, .ref h25, .ref h26, .ref h27, .ref h28, .int 0, .ref h29]))] H locs) => ?_)
  have hu := hu.symm
  subst hu
  refine b_if_eq_t (tgt := 22) X.x X.b dX11_worth_8 (by decide) (by decide +kernel) ?_
  obtain ⟨sq, hsq⟩ := hE.2.2.2.2.2.1
  exact g_thr X hl hG hfl hE hex hlk hsq dX11_worth_22 dX11_worth_25 dX11_worth_26 dX11_worth_28 dX11_worth_31 (Nat.le_of_ble_eq_true rfl) (Nat.le_of_ble_eq_true rfl) (Nat.le_of_ble_eq_true rfl) (Nat.le_of_ble_eq_true rfl) (Nat.le_of_ble_eq_true rfl) (Nat.le_of_ble_eq_true rfl)
set_option maxHeartbeats 4000000 in
set_option maxRecDepth 100000 in
theorem t_row (l : Launch) (hfl : l.stackTraces = false) (D : va_G) (cT : Nat → ClassId) (h0 h1 h2 h3 h4 h5 h6 h7 h8 h9 h10 h11 h12 h13 h14 h15 h16 : Nat) (x0 : Int32) : gvMet l D cT yX11_row cX11_row 2 (some .int) 8 120 1 6 [.ref h0, .int x0] [(h0, .inr (10, [.ref h2, .ref h1, .ref h3, .ref h4, .ref h5, .ref h6, .ref h7, .ref h8, .ref h9, .ref h10, .ref h11, .ref h12, .ref h13, .null, .ref h14, .ref h15])), (h1, .inr (1, [.ref h16, .int 0]))] := by
  refine gvMet.of "StorksLet" rfl (by decide +kernel) (Nat.le_of_ble_eq_true rfl) [(0, .ref h0), (1, .int x0)] rfl ?_
  intro p e s m below meth c A ls Qc X hlk hex hA hG hE hl
  refine lv_iload_n X.x X.b dX11_row_0 rfl (lv_at hl 1 rfl) ?_
  refine lv_if_lt (tgt := 15) X.x X.b dX11_row_1 (by decide) (fun c_1 => ?_) (fun c_1 => ?_)
  · skip
    have f_1 : x0 < 0 := c_1
    simp only [Int32.lt_iff_toInt_lt, Int32.le_iff_toInt_le, ← Int32.toInt_inj, Int32.not_lt, Int32.not_le, show (0 : Int32).toInt = 0 from by decide +kernel] at f_1
    obtain ⟨sq, hsq⟩ := hE.2.2.2.2.2.2
    exact g_thrW X hl hG hfl hE hex hlk hsq dX11_row_15 dX11_row_18 dX11_row_19 dX11_row_22 dX11_row_25 (Nat.le_of_ble_eq_true rfl) (Nat.le_of_ble_eq_true rfl) (Nat.le_of_ble_eq_true rfl) (Nat.le_of_ble_eq_true rfl) (Nat.le_of_ble_eq_true rfl) (Nat.le_of_ble_eq_true rfl)
  · skip
    have f_1 : ¬ x0 < 0 := c_1
    simp only [Int32.lt_iff_toInt_lt, Int32.le_iff_toInt_le, ← Int32.toInt_inj, Int32.not_lt, Int32.not_le, show (0 : Int32).toInt = 0 from by decide +kernel] at f_1
    refine lv_iload_n X.x X.b dX11_row_4 rfl (lv_at hl 1 rfl) ?_
    refine lv_aload_n X.x X.b dX11_row_5 rfl (lv_at hl 0 rfl) ?_
    refine gg_X11_19 X hG 0 rfl rfl dX11_row_6 ?_
    refine gg_X11_441 X hG 1 rfl rfl dX11_row_9 ?_
    refine b_icmp_lt_f (tgt := 26) X.x X.b dX11_row_12 (by decide) (by simp only [Int32.lt_iff_toInt_lt, Int32.le_iff_toInt_le, ← Int32.toInt_inj, show (0 : Int32).toInt = 0 from by decide +kernel]; omega) ?_
    obtain ⟨sq, hsq⟩ := hE.2.2.2.2.2.2
    exact g_thrW X hl hG hfl hE hex hlk hsq dX11_row_15 dX11_row_18 dX11_row_19 dX11_row_22 dX11_row_25 (Nat.le_of_ble_eq_true rfl) (Nat.le_of_ble_eq_true rfl) (Nat.le_of_ble_eq_true rfl) (Nat.le_of_ble_eq_true rfl) (Nat.le_of_ble_eq_true rfl) (Nat.le_of_ble_eq_true rfl)
set_option maxHeartbeats 4000000 in
set_option maxRecDepth 100000 in
theorem tL_roof (l : Launch) (hfl : l.stackTraces = false) (D : va_G) (cT : Nat → ClassId) (h0 h1 h2 h3 h4 h5 h6 h7 h8 h9 h10 h11 h12 h13 h14 h15 h16 h17 h18 h19 h20 h21 h22 h23 h24 h25 h26 h27 h28 h29 ho : Nat) (x0 x1 : Int32) : gWMet l D cT yL_roof cL_roof 5 (some .int) [(0, 10, 13, 13)] 9 142 1 6 [.ref h0, .int x0, .int x1, .ref ho] [(h0, .inr (10, [.ref h2, .ref h3, .ref h1, .ref h4, .ref h5, .ref h6, .ref h7, .ref h8, .ref h9, .ref h10, .ref h11, .ref h12, .ref h13, .null, .ref h14, .ref h15])), (h1, .inr (7, [.int 0, .int 0, .int 0, .int 0, .ref h16, .ref h17, .ref h18, .ref h19, .ref h20, .ref h21, .ref h22, .ref h23, .ref h24, .ref h25, .ref h26, .ref h27, .ref h28, .int 0, .ref h29]))] (gQi D cT (fun (r : Int32) (u : gS) => r = 1) (fun u : gS => [])) := by
  refine gWMet.of "StorksLetLaw" rfl (by decide +kernel) (Nat.le_of_ble_eq_true rfl) [(0, .ref h0), (1, .int x0), (2, .int x1), (3, .ref ho)] rfl ?_
  intro p e s m below meth c A ls X hr hlk htab hA hG hE hl
  refine lv_aload_n X.x X.b dL_roof_0 rfl (lv_at hl 3 rfl) ?_
  refine lv_iconst (v := 0) X.x X.b dL_roof_1 (by decide +kernel) ?_
  refine lv_aload_n X.x X.b dL_roof_2 rfl (lv_at hl 0 rfl) ?_
  refine lv_iload_n X.x X.b dL_roof_3 rfl (lv_at hl 1 rfl) ?_
  refine lv_iload_n X.x X.b dL_roof_4 rfl (lv_at hl 2 rfl) ?_
  refine g_cX (As := [.int x0, .int x1]) (rest := [.int 0, .ref ho]) X hl hG hA hE (t_roof l hfl D cT h0 h1 h2 h3 h4 h5 h6 h7 h8 h9 h10 h11 h12 h13 h14 h15 h16 h17 h18 h19 h20 h21 h22 h23 h24 h25 h26 h27 h28 h29 x0 x1) gw_L_7 [0, 1] rfl rfl 0 rfl rfl rfl rfl rfl (Nat.le_of_ble_eq_true rfl) ⟨(Nat.le_of_ble_eq_true rfl), (Nat.le_of_ble_eq_true rfl)⟩ ⟨(Nat.le_of_ble_eq_true rfl), (Nat.le_of_ble_eq_true rfl)⟩ dL_roof_5 (c1 := 1) (s1 := 6) rfl rfl (fun ce q9 H locs hS hce hv hcl => ?_)
  refine vx_catch (own := "StorksLetLaw") (name := "java/util/NoSuchElementException") X.o [] _ [] (by rw [htab]; rfl) (fun z hz => by cases hz) (by decide) (by decide) (X.t _ m_1314) (hE.2.1.1.use rfl) hce hv hcl ?_
  refine W.eq (g2 := F0 m 13 ls [.ref q9]) rfl ?_
  refine lv_astore (lv' := [(4, .ref q9), (0, .ref h0), (1, .int x0), (2, .int x1), (3, .ref ho)]) X.x X.b dL_roof_13 hl (Nat.le_of_ble_eq_true rfl) rfl (fun ls hl => ?_)
  refine lv_iconst (v := 1) X.x X.b dL_roof_15 (by decide +kernel) ?_
  have hG : gG D A s.heap [] H locs := ⟨fun k q h => by simp at h, ⟨fun i j p q h => by simp at h, fun k q h => by simp at h⟩, hS⟩
  exact g_iret X hr hlk hG rfl gS0 rfl [] rfl rfl (Nat.le_of_ble_eq_true rfl) (Nat.le_of_ble_eq_true rfl) dL_roof_16
set_option maxHeartbeats 4000000 in
set_option maxRecDepth 100000 in
theorem tL_bird (l : Launch) (hfl : l.stackTraces = false) (D : va_G) (cT : Nat → ClassId) (h0 h1 h2 h3 h4 h5 h6 h7 h8 h9 h10 h11 h12 h13 h14 h15 h16 h17 h18 h19 h20 h21 h22 h23 h24 h25 h26 h27 h28 h29 ho : Nat) (x0 x1 : Int32) : gWMet l D cT yL_bird cL_bird 5 (some .int) [(0, 10, 13, 13)] 9 142 1 6 [.ref h0, .int x0, .int x1, .ref ho] [(h0, .inr (10, [.ref h2, .ref h3, .ref h1, .ref h4, .ref h5, .ref h6, .ref h7, .ref h8, .ref h9, .ref h10, .ref h11, .ref h12, .ref h13, .null, .ref h14, .ref h15])), (h1, .inr (7, [.int 0, .int 0, .int 0, .int 0, .ref h16, .ref h17, .ref h18, .ref h19, .ref h20, .ref h21, .ref h22, .ref h23, .ref h24, .ref h25, .ref h26, .ref h27, .ref h28, .int 0, .ref h29]))] (gQi D cT (fun (r : Int32) (u : gS) => r = 1) (fun u : gS => [])) := by
  refine gWMet.of "StorksLetLaw" rfl (by decide +kernel) (Nat.le_of_ble_eq_true rfl) [(0, .ref h0), (1, .int x0), (2, .int x1), (3, .ref ho)] rfl ?_
  intro p e s m below meth c A ls X hr hlk htab hA hG hE hl
  refine lv_aload_n X.x X.b dL_bird_0 rfl (lv_at hl 3 rfl) ?_
  refine lv_iconst (v := 0) X.x X.b dL_bird_1 (by decide +kernel) ?_
  refine lv_aload_n X.x X.b dL_bird_2 rfl (lv_at hl 0 rfl) ?_
  refine lv_iload_n X.x X.b dL_bird_3 rfl (lv_at hl 1 rfl) ?_
  refine lv_iload_n X.x X.b dL_bird_4 rfl (lv_at hl 2 rfl) ?_
  refine g_cX (As := [.int x0, .int x1]) (rest := [.int 0, .ref ho]) X hl hG hA hE (t_bird l hfl D cT h0 h1 h2 h3 h4 h5 h6 h7 h8 h9 h10 h11 h12 h13 h14 h15 h16 h17 h18 h19 h20 h21 h22 h23 h24 h25 h26 h27 h28 h29 x0 x1) gw_L_15 [0, 1] rfl rfl 0 rfl rfl rfl rfl rfl (Nat.le_of_ble_eq_true rfl) ⟨(Nat.le_of_ble_eq_true rfl), (Nat.le_of_ble_eq_true rfl)⟩ ⟨(Nat.le_of_ble_eq_true rfl), (Nat.le_of_ble_eq_true rfl)⟩ dL_bird_5 (c1 := 1) (s1 := 6) rfl rfl (fun ce q9 H locs hS hce hv hcl => ?_)
  refine vx_catch (own := "StorksLetLaw") (name := "java/util/NoSuchElementException") X.o [] _ [] (by rw [htab]; rfl) (fun z hz => by cases hz) (by decide) (by decide) (X.t _ m_1314) (hE.2.1.1.use rfl) hce hv hcl ?_
  refine W.eq (g2 := F0 m 13 ls [.ref q9]) rfl ?_
  refine lv_astore (lv' := [(4, .ref q9), (0, .ref h0), (1, .int x0), (2, .int x1), (3, .ref ho)]) X.x X.b dL_bird_13 hl (Nat.le_of_ble_eq_true rfl) rfl (fun ls hl => ?_)
  refine lv_iconst (v := 1) X.x X.b dL_bird_15 (by decide +kernel) ?_
  have hG : gG D A s.heap [] H locs := ⟨fun k q h => by simp at h, ⟨fun i j p q h => by simp at h, fun k q h => by simp at h⟩, hS⟩
  exact g_iret X hr hlk hG rfl gS0 rfl [] rfl rfl (Nat.le_of_ble_eq_true rfl) (Nat.le_of_ble_eq_true rfl) dL_bird_16
set_option maxHeartbeats 4000000 in
set_option maxRecDepth 100000 in
theorem tL_family (l : Launch) (hfl : l.stackTraces = false) (D : va_G) (cT : Nat → ClassId) (h0 h1 h2 h3 h4 h5 h6 h7 h8 h9 h10 h11 h12 h13 h14 h15 h16 h17 h18 h19 h20 h21 h22 h23 h24 h25 h26 h27 h28 h29 ho : Nat) (x0 x1 : Int32) : gWMet l D cT yL_family cL_family 5 (some .int) [(0, 10, 13, 13)] 9 142 1 6 [.ref h0, .int x0, .int x1, .ref ho] [(h0, .inr (10, [.ref h2, .ref h3, .ref h1, .ref h4, .ref h5, .ref h6, .ref h7, .ref h8, .ref h9, .ref h10, .ref h11, .ref h12, .ref h13, .null, .ref h14, .ref h15])), (h1, .inr (7, [.int 0, .int 0, .int 0, .int 0, .ref h16, .ref h17, .ref h18, .ref h19, .ref h20, .ref h21, .ref h22, .ref h23, .ref h24, .ref h25, .ref h26, .ref h27, .ref h28, .int 0, .ref h29]))] (gQi D cT (fun (r : Int32) (u : gS) => r = 1) (fun u : gS => [])) := by
  refine gWMet.of "StorksLetLaw" rfl (by decide +kernel) (Nat.le_of_ble_eq_true rfl) [(0, .ref h0), (1, .int x0), (2, .int x1), (3, .ref ho)] rfl ?_
  intro p e s m below meth c A ls X hr hlk htab hA hG hE hl
  refine lv_aload_n X.x X.b dL_family_0 rfl (lv_at hl 3 rfl) ?_
  refine lv_iconst (v := 0) X.x X.b dL_family_1 (by decide +kernel) ?_
  refine lv_aload_n X.x X.b dL_family_2 rfl (lv_at hl 0 rfl) ?_
  refine lv_iload_n X.x X.b dL_family_3 rfl (lv_at hl 1 rfl) ?_
  refine lv_iload_n X.x X.b dL_family_4 rfl (lv_at hl 2 rfl) ?_
  refine g_cX (As := [.int x0, .int x1]) (rest := [.int 0, .ref ho]) X hl hG hA hE (t_family l hfl D cT h0 h1 h2 h3 h4 h5 h6 h7 h8 h9 h10 h11 h12 h13 h14 h15 h16 h17 h18 h19 h20 h21 h22 h23 h24 h25 h26 h27 h28 h29 x0 x1) gw_L_18 [0, 1] rfl rfl 0 rfl rfl rfl rfl rfl (Nat.le_of_ble_eq_true rfl) ⟨(Nat.le_of_ble_eq_true rfl), (Nat.le_of_ble_eq_true rfl)⟩ ⟨(Nat.le_of_ble_eq_true rfl), (Nat.le_of_ble_eq_true rfl)⟩ dL_family_5 (c1 := 1) (s1 := 6) rfl rfl (fun ce q9 H locs hS hce hv hcl => ?_)
  refine vx_catch (own := "StorksLetLaw") (name := "java/util/NoSuchElementException") X.o [] _ [] (by rw [htab]; rfl) (fun z hz => by cases hz) (by decide) (by decide) (X.t _ m_1314) (hE.2.1.1.use rfl) hce hv hcl ?_
  refine W.eq (g2 := F0 m 13 ls [.ref q9]) rfl ?_
  refine lv_astore (lv' := [(4, .ref q9), (0, .ref h0), (1, .int x0), (2, .int x1), (3, .ref ho)]) X.x X.b dL_family_13 hl (Nat.le_of_ble_eq_true rfl) rfl (fun ls hl => ?_)
  refine lv_iconst (v := 1) X.x X.b dL_family_15 (by decide +kernel) ?_
  have hG : gG D A s.heap [] H locs := ⟨fun k q h => by simp at h, ⟨fun i j p q h => by simp at h, fun k q h => by simp at h⟩, hS⟩
  exact g_iret X hr hlk hG rfl gS0 rfl [] rfl rfl (Nat.le_of_ble_eq_true rfl) (Nat.le_of_ble_eq_true rfl) dL_family_16
set_option maxHeartbeats 4000000 in
set_option maxRecDepth 100000 in
theorem tL_worth (l : Launch) (hfl : l.stackTraces = false) (D : va_G) (cT : Nat → ClassId) (h0 h1 h2 h3 h4 h5 h6 h7 h8 h9 h10 h11 h12 h13 h14 h15 h16 h17 h18 h19 h20 h21 h22 h23 h24 h25 h26 h27 h28 h29 ho : Nat) (x0 x1 : Int32) : gWMet l D cT yL_worth cL_worth 5 (some .int) [(0, 10, 13, 13)] 9 142 1 6 [.ref h0, .int x0, .int x1, .ref ho] [(h0, .inr (10, [.ref h2, .ref h3, .ref h1, .ref h4, .ref h5, .ref h6, .ref h7, .ref h8, .ref h9, .ref h10, .ref h11, .ref h12, .ref h13, .null, .ref h14, .ref h15])), (h1, .inr (7, [.int 0, .int 0, .int 0, .int 0, .ref h16, .ref h17, .ref h18, .ref h19, .ref h20, .ref h21, .ref h22, .ref h23, .ref h24, .ref h25, .ref h26, .ref h27, .ref h28, .int 0, .ref h29]))] (gQi D cT (fun (r : Int32) (u : gS) => r = 1) (fun u : gS => [])) := by
  refine gWMet.of "StorksLetLaw" rfl (by decide +kernel) (Nat.le_of_ble_eq_true rfl) [(0, .ref h0), (1, .int x0), (2, .int x1), (3, .ref ho)] rfl ?_
  intro p e s m below meth c A ls X hr hlk htab hA hG hE hl
  refine lv_aload_n X.x X.b dL_worth_0 rfl (lv_at hl 3 rfl) ?_
  refine lv_iconst (v := 0) X.x X.b dL_worth_1 (by decide +kernel) ?_
  refine lv_aload_n X.x X.b dL_worth_2 rfl (lv_at hl 0 rfl) ?_
  refine lv_iload_n X.x X.b dL_worth_3 rfl (lv_at hl 1 rfl) ?_
  refine lv_iload_n X.x X.b dL_worth_4 rfl (lv_at hl 2 rfl) ?_
  refine g_cX (As := [.int x0, .int x1]) (rest := [.int 0, .ref ho]) X hl hG hA hE (t_worth l hfl D cT h0 h1 h2 h3 h4 h5 h6 h7 h8 h9 h10 h11 h12 h13 h14 h15 h16 h17 h18 h19 h20 h21 h22 h23 h24 h25 h26 h27 h28 h29 x0 x1) gw_L_21 [0, 1] rfl rfl 0 rfl rfl rfl rfl rfl (Nat.le_of_ble_eq_true rfl) ⟨(Nat.le_of_ble_eq_true rfl), (Nat.le_of_ble_eq_true rfl)⟩ ⟨(Nat.le_of_ble_eq_true rfl), (Nat.le_of_ble_eq_true rfl)⟩ dL_worth_5 (c1 := 1) (s1 := 6) rfl rfl (fun ce q9 H locs hS hce hv hcl => ?_)
  refine vx_catch (own := "StorksLetLaw") (name := "java/util/NoSuchElementException") X.o [] _ [] (by rw [htab]; rfl) (fun z hz => by cases hz) (by decide) (by decide) (X.t _ m_1314) (hE.2.1.1.use rfl) hce hv hcl ?_
  refine W.eq (g2 := F0 m 13 ls [.ref q9]) rfl ?_
  refine lv_astore (lv' := [(4, .ref q9), (0, .ref h0), (1, .int x0), (2, .int x1), (3, .ref ho)]) X.x X.b dL_worth_13 hl (Nat.le_of_ble_eq_true rfl) rfl (fun ls hl => ?_)
  refine lv_iconst (v := 1) X.x X.b dL_worth_15 (by decide +kernel) ?_
  have hG : gG D A s.heap [] H locs := ⟨fun k q h => by simp at h, ⟨fun i j p q h => by simp at h, fun k q h => by simp at h⟩, hS⟩
  exact g_iret X hr hlk hG rfl gS0 rfl [] rfl rfl (Nat.le_of_ble_eq_true rfl) (Nat.le_of_ble_eq_true rfl) dL_worth_16
set_option maxHeartbeats 4000000 in
set_option maxRecDepth 100000 in
theorem tL_row (l : Launch) (hfl : l.stackTraces = false) (D : va_G) (cT : Nat → ClassId) (h0 h1 h2 h3 h4 h5 h6 h7 h8 h9 h10 h11 h12 h13 h14 h15 h16 ho : Nat) (x0 : Int32) : gWMet l D cT yL_row cL_row 4 (some .int) [(0, 9, 12, 13)] 9 141 1 6 [.ref h0, .int x0, .ref ho] [(h0, .inr (10, [.ref h2, .ref h1, .ref h3, .ref h4, .ref h5, .ref h6, .ref h7, .ref h8, .ref h9, .ref h10, .ref h11, .ref h12, .ref h13, .null, .ref h14, .ref h15])), (h1, .inr (1, [.ref h16, .int 0]))] (gQi D cT (fun (r : Int32) (u : gS) => r = 1) (fun u : gS => [])) := by
  refine gWMet.of "StorksLetLaw" rfl (by decide +kernel) (Nat.le_of_ble_eq_true rfl) [(0, .ref h0), (1, .int x0), (2, .ref ho)] rfl ?_
  intro p e s m below meth c A ls X hr hlk htab hA hG hE hl
  refine lv_aload_n X.x X.b dL_row_0 rfl (lv_at hl 2 rfl) ?_
  refine lv_iconst (v := 0) X.x X.b dL_row_1 (by decide +kernel) ?_
  refine lv_aload_n X.x X.b dL_row_2 rfl (lv_at hl 0 rfl) ?_
  refine lv_iload_n X.x X.b dL_row_3 rfl (lv_at hl 1 rfl) ?_
  refine g_cX (As := [.int x0]) (rest := [.int 0, .ref ho]) X hl hG hA hE (t_row l hfl D cT h0 h1 h2 h3 h4 h5 h6 h7 h8 h9 h10 h11 h12 h13 h14 h15 h16 x0) gw_L_24 [0, 1] rfl rfl 0 rfl rfl rfl rfl rfl (Nat.le_of_ble_eq_true rfl) ⟨(Nat.le_of_ble_eq_true rfl), (Nat.le_of_ble_eq_true rfl)⟩ ⟨(Nat.le_of_ble_eq_true rfl), (Nat.le_of_ble_eq_true rfl)⟩ dL_row_4 (c1 := 1) (s1 := 6) rfl rfl (fun ce q9 H locs hS hce hv hcl => ?_)
  refine vx_catch (own := "StorksLetLaw") (name := "java/util/NoSuchElementException") X.o [] _ [] (by rw [htab]; rfl) (fun z hz => by cases hz) (by decide) (by decide) (X.t _ m_1314) (hE.2.1.1.use rfl) hce hv hcl ?_
  refine W.eq (g2 := F0 m 12 ls [.ref q9]) rfl ?_
  refine lv_astore_n (lv' := [(3, .ref q9), (0, .ref h0), (1, .int x0), (2, .ref ho)]) X.x X.b dL_row_12 rfl hl (Nat.le_of_ble_eq_true rfl) rfl (fun ls hl => ?_)
  refine lv_iconst (v := 1) X.x X.b dL_row_13 (by decide +kernel) ?_
  have hG : gG D A s.heap [] H locs := ⟨fun k q h => by simp at h, ⟨fun i j p q h => by simp at h, fun k q h => by simp at h⟩, hS⟩
  exact g_iret X hr hlk hG rfl gS0 rfl [] rfl rfl (Nat.le_of_ble_eq_true rfl) (Nat.le_of_ble_eq_true rfl) dL_row_14

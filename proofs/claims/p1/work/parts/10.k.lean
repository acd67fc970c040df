set_option maxHeartbeats 4000000 in
set_option maxRecDepth 100000 in
theorem k1_addFour (l : Launch) (D : va_G) (cT : Nat → ClassId) (h0 h1 : Nat) (x0 : Int32) (f0 : Nat → Int32) : gMet l D cT yX6_addFour cX6_addFour 3 (some .boolean) 0 0 0 0 [.ref h0, .int x0] [(h0, .inr (5, [.ref h1, .int 0, .int 0, .int 0])), (h1, .inl (cT 1, 80, .inl f0))] gE0 (gQi D cT (fun (r : Int32) (u : gS) => r = 1) (fun u : gS => [(h0, .inr (5, [.ref h1, .int 4, .int 0, .int 0])), (h1, .inl (cT 1, 80, .inl (u.2.1 0)))])) := by
  refine gMet.of "StorksLet$Signs" rfl (by decide +kernel) (Nat.le_of_ble_eq_true rfl) [(0, .ref h0), (1, .int x0)] rfl ?_
  intro p e s m below meth c A ls X hr hlk hnm hA hG hE hl
  refine lv_aload_n X.x X.b dX6_addFour_0 rfl (lv_at hl 0 rfl) ?_
  refine gg_X6_15 X hG 0 rfl rfl dX6_addFour_1 ?_
  refine lv_iconst (v := 4) X.x X.b dX6_addFour_4 (by decide +kernel) ?_
  refine lv_iadd X.x X.b dX6_addFour_5 ?_
  refine g_top (v' := 4) (by decide +kernel) ?_
  refine lv_bipush (v := 80) X.x X.b dX6_addFour_6 (by decide +kernel) ?_
  refine b_icmp_le_t (tgt := 13) X.x X.b dX6_addFour_8 (by decide) (by decide +kernel) ?_
  refine lv_bipush (v := 24) X.x X.b dX6_addFour_13 (by decide +kernel) ?_
  refine lv_istore_n (lv' := [(2, .int 24), (0, .ref h0), (1, .int x0)]) X.x X.b dX6_addFour_15 rfl hl (Nat.le_of_ble_eq_true rfl) rfl (fun ls hl => ?_)
  refine lv_iload_n X.x X.b dX6_addFour_16 rfl (lv_at hl 0 rfl) ?_
  refine b_if_lt_f (tgt := 53) X.x X.b dX6_addFour_17 (by decide) (by decide +kernel) ?_
  refine lv_aload_n X.x X.b dX6_addFour_20 rfl (lv_at hl 1 rfl) ?_
  refine gg_X6_9 X hG 0 rfl rfl dX6_addFour_21 ?_
  refine lv_aload_n X.x X.b dX6_addFour_24 rfl (lv_at hl 1 rfl) ?_
  refine gg_X6_15 X hG 0 rfl rfl dX6_addFour_25 ?_
  refine lv_iload_n X.x X.b dX6_addFour_28 rfl (lv_at hl 2 rfl) ?_
  refine lv_iload_n X.x X.b dX6_addFour_29 rfl (lv_at hl 0 rfl) ?_
  refine lv_iushr (v := ((x0).toUInt32 >>> ((24 : Int32).toUInt32 &&& Int32.toUInt32 31)).toInt32) X.x X.b dX6_addFour_30 rfl ?_
  refine lv_sipush (v := 255) X.x X.b dX6_addFour_31 (by decide +kernel) ?_
  refine lv_iand X.x X.b dX6_addFour_34 ?_
  refine lv_i2c (v := ((((((x0).toUInt32 >>> ((24 : Int32).toUInt32 &&& Int32.toUInt32 31)).toInt32) &&& 255)).toUInt32 % 65536).toInt32) X.x X.b dX6_addFour_35 rfl ?_
  refine g_cast X hG 1 rfl (g_in (by decide +kernel)) (f' := (upd f0 0 (vp_nar .char (((((((x0).toUInt32 >>> ((24 : Int32).toUInt32 &&& Int32.toUInt32 31)).toInt32) &&& 255)).toUInt32 % 65536).toInt32)))) rfl dX6_addFour_36 (fun H locs (hG : gG D A s.heap [(h0, .inr (5, [.ref h1, .int 0, .int 0, .int 0])), (h1, .inl (cT 1, 80, .inl (upd f0 0 (vp_nar .char (((((((x0).toUInt32 >>> ((24 : Int32).toUInt32 &&& Int32.toUInt32 31)).toInt32) &&& 255)).toUInt32 % 65536).toInt32)))))] H locs) => ?_)
  refine lv_aload_n X.x X.b dX6_addFour_37 rfl (lv_at hl 1 rfl) ?_
  refine lv_dup X.x X.b dX6_addFour_38 rfl ?_
  refine gg_X6_15 X hG 0 rfl rfl dX6_addFour_39 ?_
  refine lv_iconst (v := 1) X.x X.b dX6_addFour_42 (by decide +kernel) ?_
  refine lv_iadd X.x X.b dX6_addFour_43 ?_
  refine g_top (v' := 1) (by decide +kernel) ?_
  refine gp_X6_15 X hG 0 rfl rfl rfl (Nat.le_of_ble_eq_true rfl) dX6_addFour_44 (fun H locs (hG : gG D A s.heap [(h0, .inr (5, [.ref h1, .int 1, .int 0, .int 0])), (h1, .inl (cT 1, 80, .inl (upd f0 0 (vp_nar .char (((((((x0).toUInt32 >>> ((24 : Int32).toUInt32 &&& Int32.toUInt32 31)).toInt32) &&& 255)).toUInt32 % 65536).toInt32)))))] H locs) => ?_)
  refine lv_iinc (v := 16) (lv' := [(2, .int 16), (0, .ref h0), (1, .int x0)]) X.x X.b dX6_addFour_47 hl (k := 0) rfl (by decide +kernel) (Nat.le_of_ble_eq_true rfl) rfl (fun ls hl => ?_)
  refine lv_goto (tgt := 16) X.x X.b dX6_addFour_50 (by decide) ?_
  refine lv_iload_n X.x X.b dX6_addFour_16 rfl (lv_at hl 0 rfl) ?_
  refine b_if_lt_f (tgt := 53) X.x X.b dX6_addFour_17 (by decide) (by decide +kernel) ?_
  refine lv_aload_n X.x X.b dX6_addFour_20 rfl (lv_at hl 1 rfl) ?_
  refine gg_X6_9 X hG 0 rfl rfl dX6_addFour_21 ?_
  refine lv_aload_n X.x X.b dX6_addFour_24 rfl (lv_at hl 1 rfl) ?_
  refine gg_X6_15 X hG 0 rfl rfl dX6_addFour_25 ?_
  refine lv_iload_n X.x X.b dX6_addFour_28 rfl (lv_at hl 2 rfl) ?_
  refine lv_iload_n X.x X.b dX6_addFour_29 rfl (lv_at hl 0 rfl) ?_
  refine lv_iushr (v := ((x0).toUInt32 >>> ((16 : Int32).toUInt32 &&& Int32.toUInt32 31)).toInt32) X.x X.b dX6_addFour_30 rfl ?_
  refine lv_sipush (v := 255) X.x X.b dX6_addFour_31 (by decide +kernel) ?_
  refine lv_iand X.x X.b dX6_addFour_34 ?_
  refine lv_i2c (v := ((((((x0).toUInt32 >>> ((16 : Int32).toUInt32 &&& Int32.toUInt32 31)).toInt32) &&& 255)).toUInt32 % 65536).toInt32) X.x X.b dX6_addFour_35 rfl ?_
  refine g_cast X hG 1 rfl (g_in (by decide +kernel)) (f' := (upd (upd f0 0 (vp_nar .char (((((((x0).toUInt32 >>> ((24 : Int32).toUInt32 &&& Int32.toUInt32 31)).toInt32) &&& 255)).toUInt32 % 65536).toInt32))) 1 (vp_nar .char (((((((x0).toUInt32 >>> ((16 : Int32).toUInt32 &&& Int32.toUInt32 31)).toInt32) &&& 255)).toUInt32 % 65536).toInt32)))) rfl dX6_addFour_36 (fun H locs (hG : gG D A s.heap [(h0, .inr (5, [.ref h1, .int 1, .int 0, .int 0])), (h1, .inl (cT 1, 80, .inl (upd (upd f0 0 (vp_nar .char (((((((x0).toUInt32 >>> ((24 : Int32).toUInt32 &&& Int32.toUInt32 31)).toInt32) &&& 255)).toUInt32 % 65536).toInt32))) 1 (vp_nar .char (((((((x0).toUInt32 >>> ((16 : Int32).toUInt32 &&& Int32.toUInt32 31)).toInt32) &&& 255)).toUInt32 % 65536).toInt32)))))] H locs) => ?_)
  refine lv_aload_n X.x X.b dX6_addFour_37 rfl (lv_at hl 1 rfl) ?_
  refine lv_dup X.x X.b dX6_addFour_38 rfl ?_
  refine gg_X6_15 X hG 0 rfl rfl dX6_addFour_39 ?_
  refine lv_iconst (v := 1) X.x X.b dX6_addFour_42 (by decide +kernel) ?_
  refine lv_iadd X.x X.b dX6_addFour_43 ?_
  refine g_top (v' := 2) (by decide +kernel) ?_
  refine gp_X6_15 X hG 0 rfl rfl rfl (Nat.le_of_ble_eq_true rfl) dX6_addFour_44 (fun H locs (hG : gG D A s.heap [(h0, .inr (5, [.ref h1, .int 2, .int 0, .int 0])), (h1, .inl (cT 1, 80, .inl (upd (upd f0 0 (vp_nar .char (((((((x0).toUInt32 >>> ((24 : Int32).toUInt32 &&& Int32.toUInt32 31)).toInt32) &&& 255)).toUInt32 % 65536).toInt32))) 1 (vp_nar .char (((((((x0).toUInt32 >>> ((16 : Int32).toUInt32 &&& Int32.toUInt32 31)).toInt32) &&& 255)).toUInt32 % 65536).toInt32)))))] H locs) => ?_)
  refine lv_iinc (v := 8) (lv' := [(2, .int 8), (0, .ref h0), (1, .int x0)]) X.x X.b dX6_addFour_47 hl (k := 0) rfl (by decide +kernel) (Nat.le_of_ble_eq_true rfl) rfl (fun ls hl => ?_)
  refine lv_goto (tgt := 16) X.x X.b dX6_addFour_50 (by decide) ?_
  refine lv_iload_n X.x X.b dX6_addFour_16 rfl (lv_at hl 0 rfl) ?_
  refine b_if_lt_f (tgt := 53) X.x X.b dX6_addFour_17 (by decide) (by decide +kernel) ?_
  refine lv_aload_n X.x X.b dX6_addFour_20 rfl (lv_at hl 1 rfl) ?_
  refine gg_X6_9 X hG 0 rfl rfl dX6_addFour_21 ?_
  refine lv_aload_n X.x X.b dX6_addFour_24 rfl (lv_at hl 1 rfl) ?_
  refine gg_X6_15 X hG 0 rfl rfl dX6_addFour_25 ?_
  refine lv_iload_n X.x X.b dX6_addFour_28 rfl (lv_at hl 2 rfl) ?_
  refine lv_iload_n X.x X.b dX6_addFour_29 rfl (lv_at hl 0 rfl) ?_
  refine lv_iushr (v := ((x0).toUInt32 >>> ((8 : Int32).toUInt32 &&& Int32.toUInt32 31)).toInt32) X.x X.b dX6_addFour_30 rfl ?_
  refine lv_sipush (v := 255) X.x X.b dX6_addFour_31 (by decide +kernel) ?_
  refine lv_iand X.x X.b dX6_addFour_34 ?_
  refine lv_i2c (v := ((((((x0).toUInt32 >>> ((8 : Int32).toUInt32 &&& Int32.toUInt32 31)).toInt32) &&& 255)).toUInt32 % 65536).toInt32) X.x X.b dX6_addFour_35 rfl ?_
  refine g_cast X hG 1 rfl (g_in (by decide +kernel)) (f' := (upd (upd (upd f0 0 (vp_nar .char (((((((x0).toUInt32 >>> ((24 : Int32).toUInt32 &&& Int32.toUInt32 31)).toInt32) &&& 255)).toUInt32 % 65536).toInt32))) 1 (vp_nar .char (((((((x0).toUInt32 >>> ((16 : Int32).toUInt32 &&& Int32.toUInt32 31)).toInt32) &&& 255)).toUInt32 % 65536).toInt32))) 2 (vp_nar .char (((((((x0).toUInt32 >>> ((8 : Int32).toUInt32 &&& Int32.toUInt32 31)).toInt32) &&& 255)).toUInt32 % 65536).toInt32)))) rfl dX6_addFour_36 (fun H locs (hG : gG D A s.heap [(h0, .inr (5, [.ref h1, .int 2, .int 0, .int 0])), (h1, .inl (cT 1, 80, .inl (upd (upd (upd f0 0 (vp_nar .char (((((((x0).toUInt32 >>> ((24 : Int32).toUInt32 &&& Int32.toUInt32 31)).toInt32) &&& 255)).toUInt32 % 65536).toInt32))) 1 (vp_nar .char (((((((x0).toUInt32 >>> ((16 : Int32).toUInt32 &&& Int32.toUInt32 31)).toInt32) &&& 255)).toUInt32 % 65536).toInt32))) 2 (vp_nar .char (((((((x0).toUInt32 >>> ((8 : Int32).toUInt32 &&& Int32.toUInt32 31)).toInt32) &&& 255)).toUInt32 % 65536).toInt32)))))] H locs) => ?_)
  refine lv_aload_n X.x X.b dX6_addFour_37 rfl (lv_at hl 1 rfl) ?_
  refine lv_dup X.x X.b dX6_addFour_38 rfl ?_
  refine gg_X6_15 X hG 0 rfl rfl dX6_addFour_39 ?_
  refine lv_iconst (v := 1) X.x X.b dX6_addFour_42 (by decide +kernel) ?_
  refine lv_iadd X.x X.b dX6_addFour_43 ?_
  refine g_top (v' := 3) (by decide +kernel) ?_
  refine gp_X6_15 X hG 0 rfl rfl rfl (Nat.le_of_ble_eq_true rfl) dX6_addFour_44 (fun H locs (hG : gG D A s.heap [(h0, .inr (5, [.ref h1, .int 3, .int 0, .int 0])), (h1, .inl (cT 1, 80, .inl (upd (upd (upd f0 0 (vp_nar .char (((((((x0).toUInt32 >>> ((24 : Int32).toUInt32 &&& Int32.toUInt32 31)).toInt32) &&& 255)).toUInt32 % 65536).toInt32))) 1 (vp_nar .char (((((((x0).toUInt32 >>> ((16 : Int32).toUInt32 &&& Int32.toUInt32 31)).toInt32) &&& 255)).toUInt32 % 65536).toInt32))) 2 (vp_nar .char (((((((x0).toUInt32 >>> ((8 : Int32).toUInt32 &&& Int32.toUInt32 31)).toInt32) &&& 255)).toUInt32 % 65536).toInt32)))))] H locs) => ?_)
  refine lv_iinc (v := 0) (lv' := [(2, .int 0), (0, .ref h0), (1, .int x0)]) X.x X.b dX6_addFour_47 hl (k := 0) rfl (by decide +kernel) (Nat.le_of_ble_eq_true rfl) rfl (fun ls hl => ?_)
  refine lv_goto (tgt := 16) X.x X.b dX6_addFour_50 (by decide) ?_
  refine lv_iload_n X.x X.b dX6_addFour_16 rfl (lv_at hl 0 rfl) ?_
  refine b_if_lt_f (tgt := 53) X.x X.b dX6_addFour_17 (by decide) (by decide +kernel) ?_
  refine lv_aload_n X.x X.b dX6_addFour_20 rfl (lv_at hl 1 rfl) ?_
  refine gg_X6_9 X hG 0 rfl rfl dX6_addFour_21 ?_
  refine lv_aload_n X.x X.b dX6_addFour_24 rfl (lv_at hl 1 rfl) ?_
  refine gg_X6_15 X hG 0 rfl rfl dX6_addFour_25 ?_
  refine lv_iload_n X.x X.b dX6_addFour_28 rfl (lv_at hl 2 rfl) ?_
  refine lv_iload_n X.x X.b dX6_addFour_29 rfl (lv_at hl 0 rfl) ?_
  refine lv_iushr (v := ((x0).toUInt32 >>> ((0 : Int32).toUInt32 &&& Int32.toUInt32 31)).toInt32) X.x X.b dX6_addFour_30 rfl ?_
  refine lv_sipush (v := 255) X.x X.b dX6_addFour_31 (by decide +kernel) ?_
  refine lv_iand X.x X.b dX6_addFour_34 ?_
  refine lv_i2c (v := ((((((x0).toUInt32 >>> ((0 : Int32).toUInt32 &&& Int32.toUInt32 31)).toInt32) &&& 255)).toUInt32 % 65536).toInt32) X.x X.b dX6_addFour_35 rfl ?_
  refine g_cast X hG 1 rfl (g_in (by decide +kernel)) (f' := (upd (upd (upd (upd f0 0 (vp_nar .char (((((((x0).toUInt32 >>> ((24 : Int32).toUInt32 &&& Int32.toUInt32 31)).toInt32) &&& 255)).toUInt32 % 65536).toInt32))) 1 (vp_nar .char (((((((x0).toUInt32 >>> ((16 : Int32).toUInt32 &&& Int32.toUInt32 31)).toInt32) &&& 255)).toUInt32 % 65536).toInt32))) 2 (vp_nar .char (((((((x0).toUInt32 >>> ((8 : Int32).toUInt32 &&& Int32.toUInt32 31)).toInt32) &&& 255)).toUInt32 % 65536).toInt32))) 3 (vp_nar .char (((((((x0).toUInt32 >>> ((0 : Int32).toUInt32 &&& Int32.toUInt32 31)).toInt32) &&& 255)).toUInt32 % 65536).toInt32)))) rfl dX6_addFour_36 (fun H locs (hG : gG D A s.heap [(h0, .inr (5, [.ref h1, .int 3, .int 0, .int 0])), (h1, .inl (cT 1, 80, .inl (upd (upd (upd (upd f0 0 (vp_nar .char (((((((x0).toUInt32 >>> ((24 : Int32).toUInt32 &&& Int32.toUInt32 31)).toInt32) &&& 255)).toUInt32 % 65536).toInt32))) 1 (vp_nar .char (((((((x0).toUInt32 >>> ((16 : Int32).toUInt32 &&& Int32.toUInt32 31)).toInt32) &&& 255)).toUInt32 % 65536).toInt32))) 2 (vp_nar .char (((((((x0).toUInt32 >>> ((8 : Int32).toUInt32 &&& Int32.toUInt32 31)).toInt32) &&& 255)).toUInt32 % 65536).toInt32))) 3 (vp_nar .char (((((((x0).toUInt32 >>> ((0 : Int32).toUInt32 &&& Int32.toUInt32 31)).toInt32) &&& 255)).toUInt32 % 65536).toInt32)))))] H locs) => ?_)
  refine lv_aload_n X.x X.b dX6_addFour_37 rfl (lv_at hl 1 rfl) ?_
  refine lv_dup X.x X.b dX6_addFour_38 rfl ?_
  refine gg_X6_15 X hG 0 rfl rfl dX6_addFour_39 ?_
  refine lv_iconst (v := 1) X.x X.b dX6_addFour_42 (by decide +kernel) ?_
  refine lv_iadd X.x X.b dX6_addFour_43 ?_
  refine g_top (v' := 4) (by decide +kernel) ?_
  refine gp_X6_15 X hG 0 rfl rfl rfl (Nat.le_of_ble_eq_true rfl) dX6_addFour_44 (fun H locs (hG : gG D A s.heap [(h0, .inr (5, [.ref h1, .int 4, .int 0, .int 0])), (h1, .inl (cT 1, 80, .inl (upd (upd (upd (upd f0 0 (vp_nar .char (((((((x0).toUInt32 >>> ((24 : Int32).toUInt32 &&& Int32.toUInt32 31)).toInt32) &&& 255)).toUInt32 % 65536).toInt32))) 1 (vp_nar .char (((((((x0).toUInt32 >>> ((16 : Int32).toUInt32 &&& Int32.toUInt32 31)).toInt32) &&& 255)).toUInt32 % 65536).toInt32))) 2 (vp_nar .char (((((((x0).toUInt32 >>> ((8 : Int32).toUInt32 &&& Int32.toUInt32 31)).toInt32) &&& 255)).toUInt32 % 65536).toInt32))) 3 (vp_nar .char (((((((x0).toUInt32 >>> ((0 : Int32).toUInt32 &&& Int32.toUInt32 31)).toInt32) &&& 255)).toUInt32 % 65536).toInt32)))))] H locs) => ?_)
  refine lv_iinc (v := (-8)) (lv' := [(2, .int (-8)), (0, .ref h0), (1, .int x0)]) X.x X.b dX6_addFour_47 hl (k := 0) rfl (by decide +kernel) (Nat.le_of_ble_eq_true rfl) rfl (fun ls hl => ?_)
  refine lv_goto (tgt := 16) X.x X.b dX6_addFour_50 (by decide) ?_
  refine lv_iload_n X.x X.b dX6_addFour_16 rfl (lv_at hl 0 rfl) ?_
  refine b_if_lt_t (tgt := 53) X.x X.b dX6_addFour_17 (by decide) (by decide +kernel) ?_
  refine lv_iconst (v := 1) X.x X.b dX6_addFour_53 (by decide +kernel) ?_
  exact g_iret X hr hlk hG rfl (⟨fun k => ([] : List Nat).getD k 0, fun k => ([(upd (upd (upd (upd f0 0 (vp_nar .char (((((((x0).toUInt32 >>> ((24 : Int32).toUInt32 &&& Int32.toUInt32 31)).toInt32) &&& 255)).toUInt32 % 65536).toInt32))) 1 (vp_nar .char (((((((x0).toUInt32 >>> ((16 : Int32).toUInt32 &&& Int32.toUInt32 31)).toInt32) &&& 255)).toUInt32 % 65536).toInt32))) 2 (vp_nar .char (((((((x0).toUInt32 >>> ((8 : Int32).toUInt32 &&& Int32.toUInt32 31)).toInt32) &&& 255)).toUInt32 % 65536).toInt32))) 3 (vp_nar .char (((((((x0).toUInt32 >>> ((0 : Int32).toUInt32 &&& Int32.toUInt32 31)).toInt32) &&& 255)).toUInt32 % 65536).toInt32)))] : List (Nat → Int32)).getD k (fun _ => 0), fun k => ([] : List Int32).getD k 0, fun k => ([] : List (Nat → Option Nat)).getD k (fun _ => none)⟩ : gS) rfl [0, 1] rfl rfl (Nat.le_of_ble_eq_true rfl) (Nat.le_of_ble_eq_true rfl) dX6_addFour_54
set_option maxHeartbeats 4000000 in
set_option maxRecDepth 100000 in
theorem k2_sign (l : Launch) (D : va_G) (cT : Nat → ClassId) (h0 h1 h2 h3 h4 h5 h6 h7 h8 h9 h10 h11 h12 h13 h14 h15 h16 : Nat) (x0 : Int32) (f0 : Nat → Int32) : gMet l D cT yX11_sign cX11_sign 2 (some .int) 1 22 0 0 [.ref h0, .int x0] [(h0, .inr (10, [.ref h1, .ref h3, .ref h4, .ref h5, .ref h6, .ref h7, .ref h8, .ref h9, .ref h10, .ref h11, .ref h12, .ref h13, .ref h14, .null, .ref h15, .ref h16])), (h1, .inr (5, [.ref h2, .int 0, .int 0, .int 0])), (h2, .inl (cT 1, 80, .inl f0))] gE0 (gQi D cT (fun (r : Int32) (u : gS) => r = 4) (fun u : gS => [(h0, .inr (10, [.ref h1, .ref h3, .ref h4, .ref h5, .ref h6, .ref h7, .ref h8, .ref h9, .ref h10, .ref h11, .ref h12, .ref h13, .ref h14, .null, .ref h15, .ref h16])), (h1, .inr (5, [.ref h2, .int 4, .int 0, .int 0])), (h2, .inl (cT 1, 80, .inl (u.2.1 0)))])) := by
  refine gMet.of "StorksLet" rfl (by decide +kernel) (Nat.le_of_ble_eq_true rfl) [(0, .ref h0), (1, .int x0)] rfl ?_
  intro p e s m below meth c A ls X hr hlk hnm hA hG hE hl
  refine lv_aload_n X.x X.b dX11_sign_0 rfl (lv_at hl 0 rfl) ?_
  refine gg_X11_10 X hG 0 rfl rfl dX11_sign_1 ?_
  refine lv_iload_n X.x X.b dX11_sign_4 rfl (lv_at hl 1 rfl) ?_
  refine g_ki (g_rV (As := [.int x0]) (rest := []) X hl hG (k1_addFour l D cT h1 h2 x0 f0) gw_X11_105 g_E01 g_E02 [1, 2] rfl rfl 1 rfl rfl rfl rfl rfl (Nat.le_of_ble_eq_true rfl) ⟨(Nat.le_of_ble_eq_true rfl), (Nat.le_of_ble_eq_true rfl)⟩ ⟨(Nat.le_of_ble_eq_true rfl), (Nat.le_of_ble_eq_true rfl)⟩ dX11_sign_5) hG hA [1, 2] [0] rfl rfl rfl rfl (c1 := 0) (s1 := 0) rfl rfl (fun r_1 u_1 H locs (hu : r_1 = 1) (hG : gG D A s.heap [(h0, .inr (10, [.ref h1, .ref h3, .ref h4, .ref h5, .ref h6, .ref h7, .ref h8, .ref h9, .ref h10, .ref h11, .ref h12, .ref h13, .ref h14, .null, .ref h15, .ref h16])), (h1, .inr (5, [.ref h2, .int 4, .int 0, .int 0])), (h2, .inl (cT 1, 80, .inl (u_1.2.1 0)))] H locs) => ?_)
  have hu := hu.symm
  subst hu
  refine b_if_eq_f (tgt := 21) X.x X.b dX11_sign_8 (by decide) (by decide +kernel) ?_
  refine lv_aload_n X.x X.b dX11_sign_11 rfl (lv_at hl 0 rfl) ?_
  refine gg_X11_10 X hG 0 rfl rfl dX11_sign_12 ?_
  refine gg_X11_109 X hG 1 rfl rfl dX11_sign_15 ?_
  refine lv_goto (tgt := 22) X.x X.b dX11_sign_18 (by decide) ?_
  exact g_iret X hr hlk hG rfl (⟨fun k => ([] : List Nat).getD k 0, fun k => ([(u_1.2.1 0)] : List (Nat → Int32)).getD k (fun _ => 0), fun k => ([] : List Int32).getD k 0, fun k => ([] : List (Nat → Option Nat)).getD k (fun _ => none)⟩ : gS) rfl [0, 1, 2] rfl rfl (Nat.le_of_ble_eq_true rfl) (Nat.le_of_ble_eq_true rfl) dX11_sign_22
set_option maxHeartbeats 4000000 in
set_option maxRecDepth 100000 in
theorem k3_sign (l : Launch) (D : va_G) (cT : Nat → ClassId) (h0 h1 h2 h3 h4 h5 h6 h7 h8 h9 h10 h11 h12 h13 h14 h15 h16 h17 h18 h19 h20 h21 h22 h23 h24 h25 h26 h27 h28 h29 h30 h31 h32 h33 h34 h35 : Nat) (x0 : Int32) (f0 : Nat → Int32) : gMet l D cT yX12_sign cX12_sign 3 (some .int) 0 0 0 0 [.ref h0, .int x0] [(h0, .inr (11, (.ref h2 :: .int 0 :: .ref h3 :: .ref h4 :: .ref h5 :: .ref h6 :: .ref h7 :: .int 0 :: .ref h8 :: .ref h9 :: .int 0 :: .ref h10 :: .ref h11 :: .ref h12 :: .int 0 :: .int (-1) :: .int 0 :: .ref h1 :: .int 0 :: .ref h13 :: .int 0 :: .int 0 :: .null :: .int 0 :: .int 0 :: .int 0 :: .int 0 :: .ref h14 :: .ref h15 :: .ref h16 :: .ref h17 :: .int 0 :: .null :: .int 0 :: .int 0 :: .int 0 :: .ref h18 :: .int 0 :: .int (-1) :: .int 0 :: .ref h19 :: .int 0 :: .ref h20 :: .ref h21 :: .int 0 :: .ref h22 :: .ref h23 :: .ref h24 :: .ref h25 :: .int 0 :: .int 0 :: .int 0 :: .ref h26 :: .int 0 :: .int 0 :: .ref h27 :: .ref h28 :: .ref h29 :: .ref h30 :: .int 0 :: .ref h31 :: .int 0 :: .ref h32 :: .int 0 :: .int 0 :: .ref h33 :: .ref h34 :: .ref h35 :: []))), (h1, .inl (cT 2, 80, .inl f0))] gE0 (gQi D cT (fun (r : Int32) (u : gS) => r = 4) (fun u : gS => [(h0, .inr (11, (.ref h2 :: .int 0 :: .ref h3 :: .ref h4 :: .ref h5 :: .ref h6 :: .ref h7 :: .int 0 :: .ref h8 :: .ref h9 :: .int 0 :: .ref h10 :: .ref h11 :: .ref h12 :: .int 0 :: .int (-1) :: .int 0 :: .ref h1 :: .int 4 :: .ref h13 :: .int 0 :: .int 0 :: .null :: .int 0 :: .int 0 :: .int 0 :: .int 0 :: .ref h14 :: .ref h15 :: .ref h16 :: .ref h17 :: .int 0 :: .null :: .int 0 :: .int 0 :: .int 0 :: .ref h18 :: .int 0 :: .int (-1) :: .int 0 :: .ref h19 :: .int 0 :: .ref h20 :: .ref h21 :: .int 0 :: .ref h22 :: .ref h23 :: .ref h24 :: .ref h25 :: .int 0 :: .int 0 :: .int 0 :: .ref h26 :: .int 0 :: .int 0 :: .ref h27 :: .ref h28 :: .ref h29 :: .ref h30 :: .int 0 :: .ref h31 :: .int 0 :: .ref h32 :: .int 0 :: .int 0 :: .ref h33 :: .ref h34 :: .ref h35 :: []))), (h1, .inl (cT 2, 80, .inl (u.2.1 0)))])) := by
  refine gMet.of "StorksLetModel" rfl (by decide +kernel) (Nat.le_of_ble_eq_true rfl) [(0, .ref h0), (1, .int x0)] rfl ?_
  intro p e s m below meth c A ls X hr hlk hnm hA hG hE hl
  refine lv_aload_n X.x X.b dX12_sign_0 rfl (lv_at hl 0 rfl) ?_
  refine lv_iconst (v := 0) X.x X.b dX12_sign_1 (by decide +kernel) ?_
  refine gp_X12_124 X hG 0 rfl rfl rfl (Nat.le_of_ble_eq_true rfl) dX12_sign_2 (fun H locs (hG : gG D A s.heap [(h0, .inr (11, (.ref h2 :: .int 0 :: .ref h3 :: .ref h4 :: .ref h5 :: .ref h6 :: .ref h7 :: .int 0 :: .ref h8 :: .ref h9 :: .int 0 :: .ref h10 :: .ref h11 :: .ref h12 :: .int 0 :: .int (-1) :: .int 0 :: .ref h1 :: .int 0 :: .ref h13 :: .int 0 :: .int 0 :: .null :: .int 0 :: .int 0 :: .int 0 :: .int 0 :: .ref h14 :: .ref h15 :: .ref h16 :: .ref h17 :: .int 0 :: .null :: .int 0 :: .int 0 :: .int 0 :: .ref h18 :: .int 0 :: .int (-1) :: .int 0 :: .ref h19 :: .int 0 :: .ref h20 :: .ref h21 :: .int 0 :: .ref h22 :: .ref h23 :: .ref h24 :: .ref h25 :: .int 0 :: .int 0 :: .int 0 :: .ref h26 :: .int 0 :: .int 0 :: .ref h27 :: .ref h28 :: .ref h29 :: .ref h30 :: .int 0 :: .ref h31 :: .int 0 :: .ref h32 :: .int 0 :: .int 0 :: .ref h33 :: .ref h34 :: .ref h35 :: []))), (h1, .inl (cT 2, 80, .inl f0))] H locs) => ?_)
  refine lv_aload_n X.x X.b dX12_sign_5 rfl (lv_at hl 0 rfl) ?_
  refine gg_X12_143 X hG 0 rfl rfl dX12_sign_6 ?_
  refine lv_iconst (v := 4) X.x X.b dX12_sign_9 (by decide +kernel) ?_
  refine lv_iadd X.x X.b dX12_sign_10 ?_
  refine g_top (v' := 4) (by decide +kernel) ?_
  refine lv_bipush (v := 80) X.x X.b dX12_sign_11 (by decide +kernel) ?_
  refine b_icmp_le_t (tgt := 18) X.x X.b dX12_sign_13 (by decide) (by decide +kernel) ?_
  refine lv_iconst (v := 3) X.x X.b dX12_sign_18 (by decide +kernel) ?_
  refine lv_istore_n (lv' := [(2, .int 3), (0, .ref h0), (1, .int x0)]) X.x X.b dX12_sign_19 rfl hl (Nat.le_of_ble_eq_true rfl) rfl (fun ls hl => ?_)
  refine lv_iload_n X.x X.b dX12_sign_20 rfl (lv_at hl 0 rfl) ?_
  refine b_if_lt_f (tgt := 53) X.x X.b dX12_sign_21 (by decide) (by decide +kernel) ?_
  refine lv_aload_n X.x X.b dX12_sign_24 rfl (lv_at hl 1 rfl) ?_
  refine gg_X12_47 X hG 0 rfl rfl dX12_sign_25 ?_
  refine lv_aload_n X.x X.b dX12_sign_28 rfl (lv_at hl 1 rfl) ?_
  refine lv_dup X.x X.b dX12_sign_29 rfl ?_
  refine gg_X12_143 X hG 0 rfl rfl dX12_sign_30 ?_
  refine lv_dup_x1 X.x X.b dX12_sign_33 rfl rfl ?_
  refine lv_iconst (v := 1) X.x X.b dX12_sign_34 (by decide +kernel) ?_
  refine lv_iadd X.x X.b dX12_sign_35 ?_
  refine g_top (v' := 1) (by decide +kernel) ?_
  refine gp_X12_143 X hG 0 rfl rfl rfl (Nat.le_of_ble_eq_true rfl) dX12_sign_36 (fun H locs (hG : gG D A s.heap [(h0, .inr (11, (.ref h2 :: .int 0 :: .ref h3 :: .ref h4 :: .ref h5 :: .ref h6 :: .ref h7 :: .int 0 :: .ref h8 :: .ref h9 :: .int 0 :: .ref h10 :: .ref h11 :: .ref h12 :: .int 0 :: .int (-1) :: .int 0 :: .ref h1 :: .int 1 :: .ref h13 :: .int 0 :: .int 0 :: .null :: .int 0 :: .int 0 :: .int 0 :: .int 0 :: .ref h14 :: .ref h15 :: .ref h16 :: .ref h17 :: .int 0 :: .null :: .int 0 :: .int 0 :: .int 0 :: .ref h18 :: .int 0 :: .int (-1) :: .int 0 :: .ref h19 :: .int 0 :: .ref h20 :: .ref h21 :: .int 0 :: .ref h22 :: .ref h23 :: .ref h24 :: .ref h25 :: .int 0 :: .int 0 :: .int 0 :: .ref h26 :: .int 0 :: .int 0 :: .ref h27 :: .ref h28 :: .ref h29 :: .ref h30 :: .int 0 :: .ref h31 :: .int 0 :: .ref h32 :: .int 0 :: .int 0 :: .ref h33 :: .ref h34 :: .ref h35 :: []))), (h1, .inl (cT 2, 80, .inl f0))] H locs) => ?_)
  refine lv_iload_n X.x X.b dX12_sign_39 rfl (lv_at hl 2 rfl) ?_
  refine lv_bipush (v := 8) X.x X.b dX12_sign_40 (by decide +kernel) ?_
  refine lv_iload_n X.x X.b dX12_sign_42 rfl (lv_at hl 0 rfl) ?_
  refine lv_imul X.x X.b dX12_sign_43 ?_
  refine g_top (v' := 24) (by decide +kernel) ?_
  refine lv_ishr X.x X.b dX12_sign_44 ?_
  refine lv_i2b (v := ((x0 >>> (24 &&& 31))).toInt8.toInt32) X.x X.b dX12_sign_45 rfl ?_
  refine g_bast X hG 1 rfl (g_in (by decide +kernel)) (f' := (upd f0 0 (vp_nar .byte (((x0 >>> (24 &&& 31))).toInt8.toInt32)))) rfl dX12_sign_46 (fun H locs (hG : gG D A s.heap [(h0, .inr (11, (.ref h2 :: .int 0 :: .ref h3 :: .ref h4 :: .ref h5 :: .ref h6 :: .ref h7 :: .int 0 :: .ref h8 :: .ref h9 :: .int 0 :: .ref h10 :: .ref h11 :: .ref h12 :: .int 0 :: .int (-1) :: .int 0 :: .ref h1 :: .int 1 :: .ref h13 :: .int 0 :: .int 0 :: .null :: .int 0 :: .int 0 :: .int 0 :: .int 0 :: .ref h14 :: .ref h15 :: .ref h16 :: .ref h17 :: .int 0 :: .null :: .int 0 :: .int 0 :: .int 0 :: .ref h18 :: .int 0 :: .int (-1) :: .int 0 :: .ref h19 :: .int 0 :: .ref h20 :: .ref h21 :: .int 0 :: .ref h22 :: .ref h23 :: .ref h24 :: .ref h25 :: .int 0 :: .int 0 :: .int 0 :: .ref h26 :: .int 0 :: .int 0 :: .ref h27 :: .ref h28 :: .ref h29 :: .ref h30 :: .int 0 :: .ref h31 :: .int 0 :: .ref h32 :: .int 0 :: .int 0 :: .ref h33 :: .ref h34 :: .ref h35 :: []))), (h1, .inl (cT 2, 80, .inl (upd f0 0 (vp_nar .byte (((x0 >>> (24 &&& 31))).toInt8.toInt32)))))] H locs) => ?_)
  refine lv_iinc (v := 2) (lv' := [(2, .int 2), (0, .ref h0), (1, .int x0)]) X.x X.b dX12_sign_47 hl (k := 0) rfl (by decide +kernel) (Nat.le_of_ble_eq_true rfl) rfl (fun ls hl => ?_)
  refine lv_goto (tgt := 20) X.x X.b dX12_sign_50 (by decide) ?_
  refine lv_iload_n X.x X.b dX12_sign_20 rfl (lv_at hl 0 rfl) ?_
  refine b_if_lt_f (tgt := 53) X.x X.b dX12_sign_21 (by decide) (by decide +kernel) ?_
  refine lv_aload_n X.x X.b dX12_sign_24 rfl (lv_at hl 1 rfl) ?_
  refine gg_X12_47 X hG 0 rfl rfl dX12_sign_25 ?_
  refine lv_aload_n X.x X.b dX12_sign_28 rfl (lv_at hl 1 rfl) ?_
  refine lv_dup X.x X.b dX12_sign_29 rfl ?_
  refine gg_X12_143 X hG 0 rfl rfl dX12_sign_30 ?_
  refine lv_dup_x1 X.x X.b dX12_sign_33 rfl rfl ?_
  refine lv_iconst (v := 1) X.x X.b dX12_sign_34 (by decide +kernel) ?_
  refine lv_iadd X.x X.b dX12_sign_35 ?_
  refine g_top (v' := 2) (by decide +kernel) ?_
  refine gp_X12_143 X hG 0 rfl rfl rfl (Nat.le_of_ble_eq_true rfl) dX12_sign_36 (fun H locs (hG : gG D A s.heap [(h0, .inr (11, (.ref h2 :: .int 0 :: .ref h3 :: .ref h4 :: .ref h5 :: .ref h6 :: .ref h7 :: .int 0 :: .ref h8 :: .ref h9 :: .int 0 :: .ref h10 :: .ref h11 :: .ref h12 :: .int 0 :: .int (-1) :: .int 0 :: .ref h1 :: .int 2 :: .ref h13 :: .int 0 :: .int 0 :: .null :: .int 0 :: .int 0 :: .int 0 :: .int 0 :: .ref h14 :: .ref h15 :: .ref h16 :: .ref h17 :: .int 0 :: .null :: .int 0 :: .int 0 :: .int 0 :: .ref h18 :: .int 0 :: .int (-1) :: .int 0 :: .ref h19 :: .int 0 :: .ref h20 :: .ref h21 :: .int 0 :: .ref h22 :: .ref h23 :: .ref h24 :: .ref h25 :: .int 0 :: .int 0 :: .int 0 :: .ref h26 :: .int 0 :: .int 0 :: .ref h27 :: .ref h28 :: .ref h29 :: .ref h30 :: .int 0 :: .ref h31 :: .int 0 :: .ref h32 :: .int 0 :: .int 0 :: .ref h33 :: .ref h34 :: .ref h35 :: []))), (h1, .inl (cT 2, 80, .inl (upd f0 0 (vp_nar .byte (((x0 >>> (24 &&& 31))).toInt8.toInt32)))))] H locs) => ?_)
  refine lv_iload_n X.x X.b dX12_sign_39 rfl (lv_at hl 2 rfl) ?_
  refine lv_bipush (v := 8) X.x X.b dX12_sign_40 (by decide +kernel) ?_
  refine lv_iload_n X.x X.b dX12_sign_42 rfl (lv_at hl 0 rfl) ?_
  refine lv_imul X.x X.b dX12_sign_43 ?_
  refine g_top (v' := 16) (by decide +kernel) ?_
  refine lv_ishr X.x X.b dX12_sign_44 ?_
  refine lv_i2b (v := ((x0 >>> (16 &&& 31))).toInt8.toInt32) X.x X.b dX12_sign_45 rfl ?_
  refine g_bast X hG 1 rfl (g_in (by decide +kernel)) (f' := (upd (upd f0 0 (vp_nar .byte (((x0 >>> (24 &&& 31))).toInt8.toInt32))) 1 (vp_nar .byte (((x0 >>> (16 &&& 31))).toInt8.toInt32)))) rfl dX12_sign_46 (fun H locs (hG : gG D A s.heap [(h0, .inr (11, (.ref h2 :: .int 0 :: .ref h3 :: .ref h4 :: .ref h5 :: .ref h6 :: .ref h7 :: .int 0 :: .ref h8 :: .ref h9 :: .int 0 :: .ref h10 :: .ref h11 :: .ref h12 :: .int 0 :: .int (-1) :: .int 0 :: .ref h1 :: .int 2 :: .ref h13 :: .int 0 :: .int 0 :: .null :: .int 0 :: .int 0 :: .int 0 :: .int 0 :: .ref h14 :: .ref h15 :: .ref h16 :: .ref h17 :: .int 0 :: .null :: .int 0 :: .int 0 :: .int 0 :: .ref h18 :: .int 0 :: .int (-1) :: .int 0 :: .ref h19 :: .int 0 :: .ref h20 :: .ref h21 :: .int 0 :: .ref h22 :: .ref h23 :: .ref h24 :: .ref h25 :: .int 0 :: .int 0 :: .int 0 :: .ref h26 :: .int 0 :: .int 0 :: .ref h27 :: .ref h28 :: .ref h29 :: .ref h30 :: .int 0 :: .ref h31 :: .int 0 :: .ref h32 :: .int 0 :: .int 0 :: .ref h33 :: .ref h34 :: .ref h35 :: []))), (h1, .inl (cT 2, 80, .inl (upd (upd f0 0 (vp_nar .byte (((x0 >>> (24 &&& 31))).toInt8.toInt32))) 1 (vp_nar .byte (((x0 >>> (16 &&& 31))).toInt8.toInt32)))))] H locs) => ?_)
  refine lv_iinc (v := 1) (lv' := [(2, .int 1), (0, .ref h0), (1, .int x0)]) X.x X.b dX12_sign_47 hl (k := 0) rfl (by decide +kernel) (Nat.le_of_ble_eq_true rfl) rfl (fun ls hl => ?_)
  refine lv_goto (tgt := 20) X.x X.b dX12_sign_50 (by decide) ?_
  refine lv_iload_n X.x X.b dX12_sign_20 rfl (lv_at hl 0 rfl) ?_
  refine b_if_lt_f (tgt := 53) X.x X.b dX12_sign_21 (by decide) (by decide +kernel) ?_
  refine lv_aload_n X.x X.b dX12_sign_24 rfl (lv_at hl 1 rfl) ?_
  refine gg_X12_47 X hG 0 rfl rfl dX12_sign_25 ?_
  refine lv_aload_n X.x X.b dX12_sign_28 rfl (lv_at hl 1 rfl) ?_
  refine lv_dup X.x X.b dX12_sign_29 rfl ?_
  refine gg_X12_143 X hG 0 rfl rfl dX12_sign_30 ?_
  refine lv_dup_x1 X.x X.b dX12_sign_33 rfl rfl ?_
  refine lv_iconst (v := 1) X.x X.b dX12_sign_34 (by decide +kernel) ?_
  refine lv_iadd X.x X.b dX12_sign_35 ?_
  refine g_top (v' := 3) (by decide +kernel) ?_
  refine gp_X12_143 X hG 0 rfl rfl rfl (Nat.le_of_ble_eq_true rfl) dX12_sign_36 (fun H locs (hG : gG D A s.heap [(h0, .inr (11, (.ref h2 :: .int 0 :: .ref h3 :: .ref h4 :: .ref h5 :: .ref h6 :: .ref h7 :: .int 0 :: .ref h8 :: .ref h9 :: .int 0 :: .ref h10 :: .ref h11 :: .ref h12 :: .int 0 :: .int (-1) :: .int 0 :: .ref h1 :: .int 3 :: .ref h13 :: .int 0 :: .int 0 :: .null :: .int 0 :: .int 0 :: .int 0 :: .int 0 :: .ref h14 :: .ref h15 :: .ref h16 :: .ref h17 :: .int 0 :: .null :: .int 0 :: .int 0 :: .int 0 :: .ref h18 :: .int 0 :: .int (-1) :: .int 0 :: .ref h19 :: .int 0 :: .ref h20 :: .ref h21 :: .int 0 :: .ref h22 :: .ref h23 :: .ref h24 :: .ref h25 :: .int 0 :: .int 0 :: .int 0 :: .ref h26 :: .int 0 :: .int 0 :: .ref h27 :: .ref h28 :: .ref h29 :: .ref h30 :: .int 0 :: .ref h31 :: .int 0 :: .ref h32 :: .int 0 :: .int 0 :: .ref h33 :: .ref h34 :: .ref h35 :: []))), (h1, .inl (cT 2, 80, .inl (upd (upd f0 0 (vp_nar .byte (((x0 >>> (24 &&& 31))).toInt8.toInt32))) 1 (vp_nar .byte (((x0 >>> (16 &&& 31))).toInt8.toInt32)))))] H locs) => ?_)
  refine lv_iload_n X.x X.b dX12_sign_39 rfl (lv_at hl 2 rfl) ?_
  refine lv_bipush (v := 8) X.x X.b dX12_sign_40 (by decide +kernel) ?_
  refine lv_iload_n X.x X.b dX12_sign_42 rfl (lv_at hl 0 rfl) ?_
  refine lv_imul X.x X.b dX12_sign_43 ?_
  refine g_top (v' := 8) (by decide +kernel) ?_
  refine lv_ishr X.x X.b dX12_sign_44 ?_
  refine lv_i2b (v := ((x0 >>> (8 &&& 31))).toInt8.toInt32) X.x X.b dX12_sign_45 rfl ?_
  refine g_bast X hG 1 rfl (g_in (by decide +kernel)) (f' := (upd (upd (upd f0 0 (vp_nar .byte (((x0 >>> (24 &&& 31))).toInt8.toInt32))) 1 (vp_nar .byte (((x0 >>> (16 &&& 31))).toInt8.toInt32))) 2 (vp_nar .byte (((x0 >>> (8 &&& 31))).toInt8.toInt32)))) rfl dX12_sign_46 (fun H locs (hG : gG D A s.heap [(h0, .inr (11, (.ref h2 :: .int 0 :: .ref h3 :: .ref h4 :: .ref h5 :: .ref h6 :: .ref h7 :: .int 0 :: .ref h8 :: .ref h9 :: .int 0 :: .ref h10 :: .ref h11 :: .ref h12 :: .int 0 :: .int (-1) :: .int 0 :: .ref h1 :: .int 3 :: .ref h13 :: .int 0 :: .int 0 :: .null :: .int 0 :: .int 0 :: .int 0 :: .int 0 :: .ref h14 :: .ref h15 :: .ref h16 :: .ref h17 :: .int 0 :: .null :: .int 0 :: .int 0 :: .int 0 :: .ref h18 :: .int 0 :: .int (-1) :: .int 0 :: .ref h19 :: .int 0 :: .ref h20 :: .ref h21 :: .int 0 :: .ref h22 :: .ref h23 :: .ref h24 :: .ref h25 :: .int 0 :: .int 0 :: .int 0 :: .ref h26 :: .int 0 :: .int 0 :: .ref h27 :: .ref h28 :: .ref h29 :: .ref h30 :: .int 0 :: .ref h31 :: .int 0 :: .ref h32 :: .int 0 :: .int 0 :: .ref h33 :: .ref h34 :: .ref h35 :: []))), (h1, .inl (cT 2, 80, .inl (upd (upd (upd f0 0 (vp_nar .byte (((x0 >>> (24 &&& 31))).toInt8.toInt32))) 1 (vp_nar .byte (((x0 >>> (16 &&& 31))).toInt8.toInt32))) 2 (vp_nar .byte (((x0 >>> (8 &&& 31))).toInt8.toInt32)))))] H locs) => ?_)
  refine lv_iinc (v := 0) (lv' := [(2, .int 0), (0, .ref h0), (1, .int x0)]) X.x X.b dX12_sign_47 hl (k := 0) rfl (by decide +kernel) (Nat.le_of_ble_eq_true rfl) rfl (fun ls hl => ?_)
  refine lv_goto (tgt := 20) X.x X.b dX12_sign_50 (by decide) ?_
  refine lv_iload_n X.x X.b dX12_sign_20 rfl (lv_at hl 0 rfl) ?_
  refine b_if_lt_f (tgt := 53) X.x X.b dX12_sign_21 (by decide) (by decide +kernel) ?_
  refine lv_aload_n X.x X.b dX12_sign_24 rfl (lv_at hl 1 rfl) ?_
  refine gg_X12_47 X hG 0 rfl rfl dX12_sign_25 ?_
  refine lv_aload_n X.x X.b dX12_sign_28 rfl (lv_at hl 1 rfl) ?_
  refine lv_dup X.x X.b dX12_sign_29 rfl ?_
  refine gg_X12_143 X hG 0 rfl rfl dX12_sign_30 ?_
  refine lv_dup_x1 X.x X.b dX12_sign_33 rfl rfl ?_
  refine lv_iconst (v := 1) X.x X.b dX12_sign_34 (by decide +kernel) ?_
  refine lv_iadd X.x X.b dX12_sign_35 ?_
  refine g_top (v' := 4) (by decide +kernel) ?_
  refine gp_X12_143 X hG 0 rfl rfl rfl (Nat.le_of_ble_eq_true rfl) dX12_sign_36 (fun H locs (hG : gG D A s.heap [(h0, .inr (11, (.ref h2 :: .int 0 :: .ref h3 :: .ref h4 :: .ref h5 :: .ref h6 :: .ref h7 :: .int 0 :: .ref h8 :: .ref h9 :: .int 0 :: .ref h10 :: .ref h11 :: .ref h12 :: .int 0 :: .int (-1) :: .int 0 :: .ref h1 :: .int 4 :: .ref h13 :: .int 0 :: .int 0 :: .null :: .int 0 :: .int 0 :: .int 0 :: .int 0 :: .ref h14 :: .ref h15 :: .ref h16 :: .ref h17 :: .int 0 :: .null :: .int 0 :: .int 0 :: .int 0 :: .ref h18 :: .int 0 :: .int (-1) :: .int 0 :: .ref h19 :: .int 0 :: .ref h20 :: .ref h21 :: .int 0 :: .ref h22 :: .ref h23 :: .ref h24 :: .ref h25 :: .int 0 :: .int 0 :: .int 0 :: .ref h26 :: .int 0 :: .int 0 :: .ref h27 :: .ref h28 :: .ref h29 :: .ref h30 :: .int 0 :: .ref h31 :: .int 0 :: .ref h32 :: .int 0 :: .int 0 :: .ref h33 :: .ref h34 :: .ref h35 :: []))), (h1, .inl (cT 2, 80, .inl (upd (upd (upd f0 0 (vp_nar .byte (((x0 >>> (24 &&& 31))).toInt8.toInt32))) 1 (vp_nar .byte (((x0 >>> (16 &&& 31))).toInt8.toInt32))) 2 (vp_nar .byte (((x0 >>> (8 &&& 31))).toInt8.toInt32)))))] H locs) => ?_)
  refine lv_iload_n X.x X.b dX12_sign_39 rfl (lv_at hl 2 rfl) ?_
  refine lv_bipush (v := 8) X.x X.b dX12_sign_40 (by decide +kernel) ?_
  refine lv_iload_n X.x X.b dX12_sign_42 rfl (lv_at hl 0 rfl) ?_
  refine lv_imul X.x X.b dX12_sign_43 ?_
  refine g_top (v' := 0) (by decide +kernel) ?_
  refine lv_ishr X.x X.b dX12_sign_44 ?_
  refine lv_i2b (v := ((x0 >>> (0 &&& 31))).toInt8.toInt32) X.x X.b dX12_sign_45 rfl ?_
  refine g_bast X hG 1 rfl (g_in (by decide +kernel)) (f' := (upd (upd (upd (upd f0 0 (vp_nar .byte (((x0 >>> (24 &&& 31))).toInt8.toInt32))) 1 (vp_nar .byte (((x0 >>> (16 &&& 31))).toInt8.toInt32))) 2 (vp_nar .byte (((x0 >>> (8 &&& 31))).toInt8.toInt32))) 3 (vp_nar .byte (((x0 >>> (0 &&& 31))).toInt8.toInt32)))) rfl dX12_sign_46 (fun H locs (hG : gG D A s.heap [(h0, .inr (11, (.ref h2 :: .int 0 :: .ref h3 :: .ref h4 :: .ref h5 :: .ref h6 :: .ref h7 :: .int 0 :: .ref h8 :: .ref h9 :: .int 0 :: .ref h10 :: .ref h11 :: .ref h12 :: .int 0 :: .int (-1) :: .int 0 :: .ref h1 :: .int 4 :: .ref h13 :: .int 0 :: .int 0 :: .null :: .int 0 :: .int 0 :: .int 0 :: .int 0 :: .ref h14 :: .ref h15 :: .ref h16 :: .ref h17 :: .int 0 :: .null :: .int 0 :: .int 0 :: .int 0 :: .ref h18 :: .int 0 :: .int (-1) :: .int 0 :: .ref h19 :: .int 0 :: .ref h20 :: .ref h21 :: .int 0 :: .ref h22 :: .ref h23 :: .ref h24 :: .ref h25 :: .int 0 :: .int 0 :: .int 0 :: .ref h26 :: .int 0 :: .int 0 :: .ref h27 :: .ref h28 :: .ref h29 :: .ref h30 :: .int 0 :: .ref h31 :: .int 0 :: .ref h32 :: .int 0 :: .int 0 :: .ref h33 :: .ref h34 :: .ref h35 :: []))), (h1, .inl (cT 2, 80, .inl (upd (upd (upd (upd f0 0 (vp_nar .byte (((x0 >>> (24 &&& 31))).toInt8.toInt32))) 1 (vp_nar .byte (((x0 >>> (16 &&& 31))).toInt8.toInt32))) 2 (vp_nar .byte (((x0 >>> (8 &&& 31))).toInt8.toInt32))) 3 (vp_nar .byte (((x0 >>> (0 &&& 31))).toInt8.toInt32)))))] H locs) => ?_)
  refine lv_iinc (v := (-1)) (lv' := [(2, .int (-1)), (0, .ref h0), (1, .int x0)]) X.x X.b dX12_sign_47 hl (k := 0) rfl (by decide +kernel) (Nat.le_of_ble_eq_true rfl) rfl (fun ls hl => ?_)
  refine lv_goto (tgt := 20) X.x X.b dX12_sign_50 (by decide) ?_
  refine lv_iload_n X.x X.b dX12_sign_20 rfl (lv_at hl 0 rfl) ?_
  refine b_if_lt_t (tgt := 53) X.x X.b dX12_sign_21 (by decide) (by decide +kernel) ?_
  refine lv_aload_n X.x X.b dX12_sign_53 rfl (lv_at hl 1 rfl) ?_
  refine gg_X12_143 X hG 0 rfl rfl dX12_sign_54 ?_
  exact g_iret X hr hlk hG rfl (⟨fun k => ([] : List Nat).getD k 0, fun k => ([(upd (upd (upd (upd f0 0 (vp_nar .byte (((x0 >>> (24 &&& 31))).toInt8.toInt32))) 1 (vp_nar .byte (((x0 >>> (16 &&& 31))).toInt8.toInt32))) 2 (vp_nar .byte (((x0 >>> (8 &&& 31))).toInt8.toInt32))) 3 (vp_nar .byte (((x0 >>> (0 &&& 31))).toInt8.toInt32)))] : List (Nat → Int32)).getD k (fun _ => 0), fun k => ([] : List Int32).getD k 0, fun k => ([] : List (Nat → Option Nat)).getD k (fun _ => none)⟩ : gS) rfl [0, 1] rfl rfl (Nat.le_of_ble_eq_true rfl) (Nat.le_of_ble_eq_true rfl) dX12_sign_57
set_option maxHeartbeats 4000000 in
set_option maxRecDepth 100000 in
theorem k4_cutTo (l : Launch) (D : va_G) (cT : Nat → ClassId) (h0 h1 : Nat) (x0 : Int32) (u_x0 : x0.toInt ≤ -1) : gMet l D cT yX6_cutTo cX6_cutTo 2 (some .boolean) 0 0 0 0 [.ref h0, .int x0] [(h0, .inr (5, [.ref h1, .int 0, .int 0, .int 0]))] gE0 (gQi D cT (fun (r : Int32) (u : gS) => r = 0) (fun u : gS => [(h0, .inr (5, [.ref h1, .int 0, .int 0, .int 0]))])) := by
  refine gMet.of "StorksLet$Signs" rfl (by decide +kernel) (Nat.le_of_ble_eq_true rfl) [(0, .ref h0), (1, .int x0)] rfl ?_
  intro p e s m below meth c A ls X hr hlk hnm hA hG hE hl
  refine lv_iload_n X.x X.b dX6_cutTo_0 rfl (lv_at hl 1 rfl) ?_
  refine b_if_lt_t (tgt := 12) X.x X.b dX6_cutTo_1 (by decide) (by simp only [Int32.lt_iff_toInt_lt, Int32.le_iff_toInt_le, ← Int32.toInt_inj, show (0 : Int32).toInt = 0 from by decide +kernel]; omega) ?_
  refine lv_iconst (v := 0) X.x X.b dX6_cutTo_12 (by decide +kernel) ?_
  exact g_iret X hr hlk hG rfl gS0 rfl [0] rfl rfl (Nat.le_of_ble_eq_true rfl) (Nat.le_of_ble_eq_true rfl) dX6_cutTo_13
set_option maxHeartbeats 4000000 in
set_option maxRecDepth 100000 in
theorem k5_end (l : Launch) (D : va_G) (cT : Nat → ClassId) (h0 h1 h2 h3 h4 h5 h6 h7 h8 h9 h10 h11 h12 h13 h14 h15 h16 : Nat) (x0 : Int32) (u_x0 : x0.toInt ≤ -1) : gMet l D cT yX11_end cX11_end 2 (some .boolean) 1 21 0 0 [.ref h0, .int x0] [(h0, .inr (10, [.ref h1, .ref h2, .ref h3, .ref h4, .ref h5, .ref h6, .ref h7, .ref h8, .ref h9, .ref h10, .ref h11, .ref h12, .ref h13, .null, .ref h14, .ref h15])), (h1, .inr (5, [.ref h16, .int 0, .int 0, .int 0]))] gE0 (gQi D cT (fun (r : Int32) (u : gS) => r = 0) (fun u : gS => [(h0, .inr (10, [.ref h1, .ref h2, .ref h3, .ref h4, .ref h5, .ref h6, .ref h7, .ref h8, .ref h9, .ref h10, .ref h11, .ref h12, .ref h13, .null, .ref h14, .ref h15])), (h1, .inr (5, [.ref h16, .int 0, .int 0, .int 0]))])) := by
  refine gMet.of "StorksLet" rfl (by decide +kernel) (Nat.le_of_ble_eq_true rfl) [(0, .ref h0), (1, .int x0)] rfl ?_
  intro p e s m below meth c A ls X hr hlk hnm hA hG hE hl
  refine lv_aload_n X.x X.b dX11_end_0 rfl (lv_at hl 0 rfl) ?_
  refine gg_X11_10 X hG 0 rfl rfl dX11_end_1 ?_
  refine lv_iload_n X.x X.b dX11_end_4 rfl (lv_at hl 1 rfl) ?_
  refine g_ki (g_rV (As := [.int x0]) (rest := []) X hl hG (k4_cutTo l D cT h1 h16 x0 (by omega)) gw_X11_113 g_E01 g_E02 [1] rfl rfl 1 rfl rfl rfl rfl rfl (Nat.le_of_ble_eq_true rfl) ⟨(Nat.le_of_ble_eq_true rfl), (Nat.le_of_ble_eq_true rfl)⟩ ⟨(Nat.le_of_ble_eq_true rfl), (Nat.le_of_ble_eq_true rfl)⟩ dX11_end_5) hG hA [1] [0] rfl rfl rfl rfl (c1 := 0) (s1 := 0) rfl rfl (fun r_1 u_1 H locs (hu : r_1 = 0) (hG : gG D A s.heap [(h0, .inr (10, [.ref h1, .ref h2, .ref h3, .ref h4, .ref h5, .ref h6, .ref h7, .ref h8, .ref h9, .ref h10, .ref h11, .ref h12, .ref h13, .null, .ref h14, .ref h15])), (h1, .inr (5, [.ref h16, .int 0, .int 0, .int 0]))] H locs) => ?_)
  have hu := hu.symm
  subst hu
  exact g_iret X hr hlk hG rfl gS0 rfl [0, 1] rfl rfl (Nat.le_of_ble_eq_true rfl) (Nat.le_of_ble_eq_true rfl) dX11_end_8
set_option maxHeartbeats 4000000 in
set_option maxRecDepth 100000 in
theorem k6_in (l : Launch) (D : va_G) (cT : Nat → ClassId) (x0 : Int32) (u_x0 : x0.toInt ≤ -1) : gMet l D cT yX12_in cX12_in 3 (some .boolean) 0 0 0 0 [.int x0, .int 0, .int 0] [] gE0 (gQi D cT (fun (r : Int32) (u : gS) => r = 0) (fun u : gS => [])) := by
  refine gMet.of "StorksLetModel" rfl (by decide +kernel) (Nat.le_of_ble_eq_true rfl) [(0, .int x0), (1, .int 0), (2, .int 0)] rfl ?_
  intro p e s m below meth c A ls X hr hlk hnm hA hG hE hl
  refine lv_iload_n X.x X.b dX12_in_0 rfl (lv_at hl 0 rfl) ?_
  refine lv_iload_n X.x X.b dX12_in_1 rfl (lv_at hl 1 rfl) ?_
  refine b_icmp_lt_t (tgt := 14) X.x X.b dX12_in_2 (by decide) (by simp only [Int32.lt_iff_toInt_lt, Int32.le_iff_toInt_le, ← Int32.toInt_inj, show (0 : Int32).toInt = 0 from by decide +kernel]; omega) ?_
  refine lv_iconst (v := 0) X.x X.b dX12_in_14 (by decide +kernel) ?_
  exact g_iret X hr hlk hG rfl gS0 rfl [] rfl rfl (Nat.le_of_ble_eq_true rfl) (Nat.le_of_ble_eq_true rfl) dX12_in_15
set_option maxHeartbeats 4000000 in
set_option maxRecDepth 100000 in
theorem k7_end (l : Launch) (D : va_G) (cT : Nat → ClassId) (h0 h1 h2 h3 h4 h5 h6 h7 h8 h9 h10 h11 h12 h13 h14 h15 h16 h17 h18 h19 h20 h21 h22 h23 h24 h25 h26 h27 h28 h29 h30 h31 h32 h33 h34 h35 : Nat) (x0 : Int32) (u_x0 : x0.toInt ≤ -1) : gMet l D cT yX12_end cX12_end 2 (some .boolean) 1 22 0 0 [.ref h0, .int x0] [(h0, .inr (11, (.ref h1 :: .int 0 :: .ref h2 :: .ref h3 :: .ref h4 :: .ref h5 :: .ref h6 :: .int 0 :: .ref h7 :: .ref h8 :: .int 0 :: .ref h9 :: .ref h10 :: .ref h11 :: .int 0 :: .int (-1) :: .int 0 :: .ref h12 :: .int 0 :: .ref h13 :: .int 0 :: .int 0 :: .null :: .int 0 :: .int 0 :: .int 0 :: .int 0 :: .ref h14 :: .ref h15 :: .ref h16 :: .ref h17 :: .int 0 :: .null :: .int 0 :: .int 0 :: .int 0 :: .ref h18 :: .int 0 :: .int (-1) :: .int 0 :: .ref h19 :: .int 0 :: .ref h20 :: .ref h21 :: .int 0 :: .ref h22 :: .ref h23 :: .ref h24 :: .ref h25 :: .int 0 :: .int 0 :: .int 0 :: .ref h26 :: .int 0 :: .int 0 :: .ref h27 :: .ref h28 :: .ref h29 :: .ref h30 :: .int 0 :: .ref h31 :: .int 0 :: .ref h32 :: .int 0 :: .int 0 :: .ref h33 :: .ref h34 :: .ref h35 :: [])))] gE0 (gQi D cT (fun (r : Int32) (u : gS) => r = 0) (fun u : gS => [(h0, .inr (11, (.ref h1 :: .int 0 :: .ref h2 :: .ref h3 :: .ref h4 :: .ref h5 :: .ref h6 :: .int 0 :: .ref h7 :: .ref h8 :: .int 0 :: .ref h9 :: .ref h10 :: .ref h11 :: .int 0 :: .int (-1) :: .int 0 :: .ref h12 :: .int 0 :: .ref h13 :: .int 0 :: .int 0 :: .null :: .int 0 :: .int 0 :: .int 0 :: .int 0 :: .ref h14 :: .ref h15 :: .ref h16 :: .ref h17 :: .int 0 :: .null :: .int 0 :: .int 0 :: .int 0 :: .ref h18 :: .int 0 :: .int (-1) :: .int 0 :: .ref h19 :: .int 0 :: .ref h20 :: .ref h21 :: .int 0 :: .ref h22 :: .ref h23 :: .ref h24 :: .ref h25 :: .int 0 :: .int 0 :: .int 0 :: .ref h26 :: .int 0 :: .int 0 :: .ref h27 :: .ref h28 :: .ref h29 :: .ref h30 :: .int 0 :: .ref h31 :: .int 0 :: .ref h32 :: .int 0 :: .int 0 :: .ref h33 :: .ref h34 :: .ref h35 :: [])))])) := by
  refine gMet.of "StorksLetModel" rfl (by decide +kernel) (Nat.le_of_ble_eq_true rfl) [(0, .ref h0), (1, .int x0)] rfl ?_
  intro p e s m below meth c A ls X hr hlk hnm hA hG hE hl
  refine lv_aload_n X.x X.b dX12_end_0 rfl (lv_at hl 0 rfl) ?_
  refine lv_iconst (v := 0) X.x X.b dX12_end_1 (by decide +kernel) ?_
  refine gp_X12_124 X hG 0 rfl rfl rfl (Nat.le_of_ble_eq_true rfl) dX12_end_2 (fun H locs (hG : gG D A s.heap [(h0, .inr (11, (.ref h1 :: .int 0 :: .ref h2 :: .ref h3 :: .ref h4 :: .ref h5 :: .ref h6 :: .int 0 :: .ref h7 :: .ref h8 :: .int 0 :: .ref h9 :: .ref h10 :: .ref h11 :: .int 0 :: .int (-1) :: .int 0 :: .ref h12 :: .int 0 :: .ref h13 :: .int 0 :: .int 0 :: .null :: .int 0 :: .int 0 :: .int 0 :: .int 0 :: .ref h14 :: .ref h15 :: .ref h16 :: .ref h17 :: .int 0 :: .null :: .int 0 :: .int 0 :: .int 0 :: .ref h18 :: .int 0 :: .int (-1) :: .int 0 :: .ref h19 :: .int 0 :: .ref h20 :: .ref h21 :: .int 0 :: .ref h22 :: .ref h23 :: .ref h24 :: .ref h25 :: .int 0 :: .int 0 :: .int 0 :: .ref h26 :: .int 0 :: .int 0 :: .ref h27 :: .ref h28 :: .ref h29 :: .ref h30 :: .int 0 :: .ref h31 :: .int 0 :: .ref h32 :: .int 0 :: .int 0 :: .ref h33 :: .ref h34 :: .ref h35 :: [])))] H locs) => ?_)
  refine lv_iload_n X.x X.b dX12_end_5 rfl (lv_at hl 1 rfl) ?_
  refine lv_iconst (v := 0) X.x X.b dX12_end_6 (by decide +kernel) ?_
  refine lv_aload_n X.x X.b dX12_end_7 rfl (lv_at hl 0 rfl) ?_
  refine gg_X12_143 X hG 0 rfl rfl dX12_end_8 ?_
  refine g_ki (g_rS (As := [.int x0, .int 0, .int 0]) (rest := []) X hl hG (k6_in l D cT x0 (by omega)) gw_X12_133 g_E01 g_E02 [] rfl rfl rfl rfl (Nat.le_of_ble_eq_true rfl) ⟨(Nat.le_of_ble_eq_true rfl), (Nat.le_of_ble_eq_true rfl)⟩ ⟨(Nat.le_of_ble_eq_true rfl), (Nat.le_of_ble_eq_true rfl)⟩ dX12_end_11) hG hA [] [0] rfl rfl rfl rfl (c1 := 0) (s1 := 0) rfl rfl (fun r_1 u_1 H locs (hu : r_1 = 0) (hG : gG D A s.heap [(h0, .inr (11, (.ref h1 :: .int 0 :: .ref h2 :: .ref h3 :: .ref h4 :: .ref h5 :: .ref h6 :: .int 0 :: .ref h7 :: .ref h8 :: .int 0 :: .ref h9 :: .ref h10 :: .ref h11 :: .int 0 :: .int (-1) :: .int 0 :: .ref h12 :: .int 0 :: .ref h13 :: .int 0 :: .int 0 :: .null :: .int 0 :: .int 0 :: .int 0 :: .int 0 :: .ref h14 :: .ref h15 :: .ref h16 :: .ref h17 :: .int 0 :: .null :: .int 0 :: .int 0 :: .int 0 :: .ref h18 :: .int 0 :: .int (-1) :: .int 0 :: .ref h19 :: .int 0 :: .ref h20 :: .ref h21 :: .int 0 :: .ref h22 :: .ref h23 :: .ref h24 :: .ref h25 :: .int 0 :: .int 0 :: .int 0 :: .ref h26 :: .int 0 :: .int 0 :: .ref h27 :: .ref h28 :: .ref h29 :: .ref h30 :: .int 0 :: .ref h31 :: .int 0 :: .ref h32 :: .int 0 :: .int 0 :: .ref h33 :: .ref h34 :: .ref h35 :: [])))] H locs) => ?_)
  have hu := hu.symm
  subst hu
  refine b_if_ne_f (tgt := 19) X.x X.b dX12_end_14 (by decide) (by decide +kernel) ?_
  refine lv_iconst (v := 0) X.x X.b dX12_end_17 (by decide +kernel) ?_
  exact g_iret X hr hlk hG rfl gS0 rfl [0] rfl rfl (Nat.le_of_ble_eq_true rfl) (Nat.le_of_ble_eq_true rfl) dX12_end_18
set_option maxHeartbeats 4000000 in
set_option maxRecDepth 100000 in
theorem k8_cutTo (l : Launch) (D : va_G) (cT : Nat → ClassId) (h0 h1 : Nat) : gMet l D cT yX6_cutTo cX6_cutTo 2 (some .boolean) 0 0 0 0 [.ref h0, .int 0] [(h0, .inr (5, [.ref h1, .int 0, .int 0, .int 0]))] gE0 (gQi D cT (fun (r : Int32) (u : gS) => r = 1) (fun u : gS => [(h0, .inr (5, [.ref h1, .int 0, .int 0, .int 0]))])) := by
  refine gMet.of "StorksLet$Signs" rfl (by decide +kernel) (Nat.le_of_ble_eq_true rfl) [(0, .ref h0), (1, .int 0)] rfl ?_
  intro p e s m below meth c A ls X hr hlk hnm hA hG hE hl
  refine lv_iload_n X.x X.b dX6_cutTo_0 rfl (lv_at hl 1 rfl) ?_
  refine b_if_lt_f (tgt := 12) X.x X.b dX6_cutTo_1 (by decide) (by decide +kernel) ?_
  refine lv_iload_n X.x X.b dX6_cutTo_4 rfl (lv_at hl 1 rfl) ?_
  refine lv_aload_n X.x X.b dX6_cutTo_5 rfl (lv_at hl 0 rfl) ?_
  refine gg_X6_15 X hG 0 rfl rfl dX6_cutTo_6 ?_
  refine b_icmp_le_t (tgt := 14) X.x X.b dX6_cutTo_9 (by decide) (by decide +kernel) ?_
  refine lv_aload_n X.x X.b dX6_cutTo_14 rfl (lv_at hl 0 rfl) ?_
  refine lv_iload_n X.x X.b dX6_cutTo_15 rfl (lv_at hl 1 rfl) ?_
  refine gp_X6_15 X hG 0 rfl rfl rfl (Nat.le_of_ble_eq_true rfl) dX6_cutTo_16 (fun H locs (hG : gG D A s.heap [(h0, .inr (5, [.ref h1, .int 0, .int 0, .int 0]))] H locs) => ?_)
  refine lv_iconst (v := 1) X.x X.b dX6_cutTo_19 (by decide +kernel) ?_
  exact g_iret X hr hlk hG rfl gS0 rfl [0] rfl rfl (Nat.le_of_ble_eq_true rfl) (Nat.le_of_ble_eq_true rfl) dX6_cutTo_20
set_option maxHeartbeats 4000000 in
set_option maxRecDepth 100000 in
theorem k9_end (l : Launch) (D : va_G) (cT : Nat → ClassId) (h0 h1 h2 h3 h4 h5 h6 h7 h8 h9 h10 h11 h12 h13 h14 h15 h16 : Nat) : gMet l D cT yX11_end cX11_end 2 (some .boolean) 1 21 0 0 [.ref h0, .int 0] [(h0, .inr (10, [.ref h1, .ref h2, .ref h3, .ref h4, .ref h5, .ref h6, .ref h7, .ref h8, .ref h9, .ref h10, .ref h11, .ref h12, .ref h13, .null, .ref h14, .ref h15])), (h1, .inr (5, [.ref h16, .int 0, .int 0, .int 0]))] gE0 (gQi D cT (fun (r : Int32) (u : gS) => r = 1) (fun u : gS => [(h0, .inr (10, [.ref h1, .ref h2, .ref h3, .ref h4, .ref h5, .ref h6, .ref h7, .ref h8, .ref h9, .ref h10, .ref h11, .ref h12, .ref h13, .null, .ref h14, .ref h15])), (h1, .inr (5, [.ref h16, .int 0, .int 0, .int 0]))])) := by
  refine gMet.of "StorksLet" rfl (by decide +kernel) (Nat.le_of_ble_eq_true rfl) [(0, .ref h0), (1, .int 0)] rfl ?_
  intro p e s m below meth c A ls X hr hlk hnm hA hG hE hl
  refine lv_aload_n X.x X.b dX11_end_0 rfl (lv_at hl 0 rfl) ?_
  refine gg_X11_10 X hG 0 rfl rfl dX11_end_1 ?_
  refine lv_iload_n X.x X.b dX11_end_4 rfl (lv_at hl 1 rfl) ?_
  refine g_ki (g_rV (As := [.int 0]) (rest := []) X hl hG (k8_cutTo l D cT h1 h16) gw_X11_113 g_E01 g_E02 [1] rfl rfl 1 rfl rfl rfl rfl rfl (Nat.le_of_ble_eq_true rfl) ⟨(Nat.le_of_ble_eq_true rfl), (Nat.le_of_ble_eq_true rfl)⟩ ⟨(Nat.le_of_ble_eq_true rfl), (Nat.le_of_ble_eq_true rfl)⟩ dX11_end_5) hG hA [1] [0] rfl rfl rfl rfl (c1 := 0) (s1 := 0) rfl rfl (fun r_1 u_1 H locs (hu : r_1 = 1) (hG : gG D A s.heap [(h0, .inr (10, [.ref h1, .ref h2, .ref h3, .ref h4, .ref h5, .ref h6, .ref h7, .ref h8, .ref h9, .ref h10, .ref h11, .ref h12, .ref h13, .null, .ref h14, .ref h15])), (h1, .inr (5, [.ref h16, .int 0, .int 0, .int 0]))] H locs) => ?_)
  have hu := hu.symm
  subst hu
  exact g_iret X hr hlk hG rfl gS0 rfl [0, 1] rfl rfl (Nat.le_of_ble_eq_true rfl) (Nat.le_of_ble_eq_true rfl) dX11_end_8
set_option maxHeartbeats 4000000 in
set_option maxRecDepth 100000 in
theorem k10_in (l : Launch) (D : va_G) (cT : Nat → ClassId) : gMet l D cT yX12_in cX12_in 3 (some .boolean) 0 0 0 0 [.int 0, .int 0, .int 0] [] gE0 (gQi D cT (fun (r : Int32) (u : gS) => r = 1) (fun u : gS => [])) := by
  refine gMet.of "StorksLetModel" rfl (by decide +kernel) (Nat.le_of_ble_eq_true rfl) [(0, .int 0), (1, .int 0), (2, .int 0)] rfl ?_
  intro p e s m below meth c A ls X hr hlk hnm hA hG hE hl
  refine lv_iload_n X.x X.b dX12_in_0 rfl (lv_at hl 0 rfl) ?_
  refine lv_iload_n X.x X.b dX12_in_1 rfl (lv_at hl 1 rfl) ?_
  refine b_icmp_lt_f (tgt := 14) X.x X.b dX12_in_2 (by decide) (by decide +kernel) ?_
  refine lv_iload_n X.x X.b dX12_in_5 rfl (lv_at hl 0 rfl) ?_
  refine lv_iload_n X.x X.b dX12_in_6 rfl (lv_at hl 2 rfl) ?_
  refine b_icmp_gt_f (tgt := 14) X.x X.b dX12_in_7 (by decide) (by decide +kernel) ?_
  refine lv_iconst (v := 1) X.x X.b dX12_in_10 (by decide +kernel) ?_
  refine lv_goto (tgt := 15) X.x X.b dX12_in_11 (by decide) ?_
  exact g_iret X hr hlk hG rfl gS0 rfl [] rfl rfl (Nat.le_of_ble_eq_true rfl) (Nat.le_of_ble_eq_true rfl) dX12_in_15
set_option maxHeartbeats 4000000 in
set_option maxRecDepth 100000 in
theorem k11_end (l : Launch) (D : va_G) (cT : Nat → ClassId) (h0 h1 h2 h3 h4 h5 h6 h7 h8 h9 h10 h11 h12 h13 h14 h15 h16 h17 h18 h19 h20 h21 h22 h23 h24 h25 h26 h27 h28 h29 h30 h31 h32 h33 h34 h35 : Nat) : gMet l D cT yX12_end cX12_end 2 (some .boolean) 1 22 0 0 [.ref h0, .int 0] [(h0, .inr (11, (.ref h1 :: .int 0 :: .ref h2 :: .ref h3 :: .ref h4 :: .ref h5 :: .ref h6 :: .int 0 :: .ref h7 :: .ref h8 :: .int 0 :: .ref h9 :: .ref h10 :: .ref h11 :: .int 0 :: .int (-1) :: .int 0 :: .ref h12 :: .int 0 :: .ref h13 :: .int 0 :: .int 0 :: .null :: .int 0 :: .int 0 :: .int 0 :: .int 0 :: .ref h14 :: .ref h15 :: .ref h16 :: .ref h17 :: .int 0 :: .null :: .int 0 :: .int 0 :: .int 0 :: .ref h18 :: .int 0 :: .int (-1) :: .int 0 :: .ref h19 :: .int 0 :: .ref h20 :: .ref h21 :: .int 0 :: .ref h22 :: .ref h23 :: .ref h24 :: .ref h25 :: .int 0 :: .int 0 :: .int 0 :: .ref h26 :: .int 0 :: .int 0 :: .ref h27 :: .ref h28 :: .ref h29 :: .ref h30 :: .int 0 :: .ref h31 :: .int 0 :: .ref h32 :: .int 0 :: .int 0 :: .ref h33 :: .ref h34 :: .ref h35 :: [])))] gE0 (gQi D cT (fun (r : Int32) (u : gS) => r = 1) (fun u : gS => [(h0, .inr (11, (.ref h1 :: .int 0 :: .ref h2 :: .ref h3 :: .ref h4 :: .ref h5 :: .ref h6 :: .int 0 :: .ref h7 :: .ref h8 :: .int 0 :: .ref h9 :: .ref h10 :: .ref h11 :: .int 0 :: .int (-1) :: .int 0 :: .ref h12 :: .int 0 :: .ref h13 :: .int 0 :: .int 0 :: .null :: .int 0 :: .int 0 :: .int 0 :: .int 0 :: .ref h14 :: .ref h15 :: .ref h16 :: .ref h17 :: .int 0 :: .null :: .int 0 :: .int 0 :: .int 0 :: .ref h18 :: .int 0 :: .int (-1) :: .int 0 :: .ref h19 :: .int 0 :: .ref h20 :: .ref h21 :: .int 0 :: .ref h22 :: .ref h23 :: .ref h24 :: .ref h25 :: .int 0 :: .int 0 :: .int 0 :: .ref h26 :: .int 0 :: .int 0 :: .ref h27 :: .ref h28 :: .ref h29 :: .ref h30 :: .int 0 :: .ref h31 :: .int 0 :: .ref h32 :: .int 0 :: .int 0 :: .ref h33 :: .ref h34 :: .ref h35 :: [])))])) := by
  refine gMet.of "StorksLetModel" rfl (by decide +kernel) (Nat.le_of_ble_eq_true rfl) [(0, .ref h0), (1, .int 0)] rfl ?_
  intro p e s m below meth c A ls X hr hlk hnm hA hG hE hl
  refine lv_aload_n X.x X.b dX12_end_0 rfl (lv_at hl 0 rfl) ?_
  refine lv_iconst (v := 0) X.x X.b dX12_end_1 (by decide +kernel) ?_
  refine gp_X12_124 X hG 0 rfl rfl rfl (Nat.le_of_ble_eq_true rfl) dX12_end_2 (fun H locs (hG : gG D A s.heap [(h0, .inr (11, (.ref h1 :: .int 0 :: .ref h2 :: .ref h3 :: .ref h4 :: .ref h5 :: .ref h6 :: .int 0 :: .ref h7 :: .ref h8 :: .int 0 :: .ref h9 :: .ref h10 :: .ref h11 :: .int 0 :: .int (-1) :: .int 0 :: .ref h12 :: .int 0 :: .ref h13 :: .int 0 :: .int 0 :: .null :: .int 0 :: .int 0 :: .int 0 :: .int 0 :: .ref h14 :: .ref h15 :: .ref h16 :: .ref h17 :: .int 0 :: .null :: .int 0 :: .int 0 :: .int 0 :: .ref h18 :: .int 0 :: .int (-1) :: .int 0 :: .ref h19 :: .int 0 :: .ref h20 :: .ref h21 :: .int 0 :: .ref h22 :: .ref h23 :: .ref h24 :: .ref h25 :: .int 0 :: .int 0 :: .int 0 :: .ref h26 :: .int 0 :: .int 0 :: .ref h27 :: .ref h28 :: .ref h29 :: .ref h30 :: .int 0 :: .ref h31 :: .int 0 :: .ref h32 :: .int 0 :: .int 0 :: .ref h33 :: .ref h34 :: .ref h35 :: [])))] H locs) => ?_)
  refine lv_iload_n X.x X.b dX12_end_5 rfl (lv_at hl 1 rfl) ?_
  refine lv_iconst (v := 0) X.x X.b dX12_end_6 (by decide +kernel) ?_
  refine lv_aload_n X.x X.b dX12_end_7 rfl (lv_at hl 0 rfl) ?_
  refine gg_X12_143 X hG 0 rfl rfl dX12_end_8 ?_
  refine g_ki (g_rS (As := [.int 0, .int 0, .int 0]) (rest := []) X hl hG (k10_in l D cT) gw_X12_133 g_E01 g_E02 [] rfl rfl rfl rfl (Nat.le_of_ble_eq_true rfl) ⟨(Nat.le_of_ble_eq_true rfl), (Nat.le_of_ble_eq_true rfl)⟩ ⟨(Nat.le_of_ble_eq_true rfl), (Nat.le_of_ble_eq_true rfl)⟩ dX12_end_11) hG hA [] [0] rfl rfl rfl rfl (c1 := 0) (s1 := 0) rfl rfl (fun r_1 u_1 H locs (hu : r_1 = 1) (hG : gG D A s.heap [(h0, .inr (11, (.ref h1 :: .int 0 :: .ref h2 :: .ref h3 :: .ref h4 :: .ref h5 :: .ref h6 :: .int 0 :: .ref h7 :: .ref h8 :: .int 0 :: .ref h9 :: .ref h10 :: .ref h11 :: .int 0 :: .int (-1) :: .int 0 :: .ref h12 :: .int 0 :: .ref h13 :: .int 0 :: .int 0 :: .null :: .int 0 :: .int 0 :: .int 0 :: .int 0 :: .ref h14 :: .ref h15 :: .ref h16 :: .ref h17 :: .int 0 :: .null :: .int 0 :: .int 0 :: .int 0 :: .ref h18 :: .int 0 :: .int (-1) :: .int 0 :: .ref h19 :: .int 0 :: .ref h20 :: .ref h21 :: .int 0 :: .ref h22 :: .ref h23 :: .ref h24 :: .ref h25 :: .int 0 :: .int 0 :: .int 0 :: .ref h26 :: .int 0 :: .int 0 :: .ref h27 :: .ref h28 :: .ref h29 :: .ref h30 :: .int 0 :: .ref h31 :: .int 0 :: .ref h32 :: .int 0 :: .int 0 :: .ref h33 :: .ref h34 :: .ref h35 :: [])))] H locs) => ?_)
  have hu := hu.symm
  subst hu
  refine b_if_ne_t (tgt := 19) X.x X.b dX12_end_14 (by decide) (by decide +kernel) ?_
  refine lv_aload_n X.x X.b dX12_end_19 rfl (lv_at hl 0 rfl) ?_
  refine lv_iload_n X.x X.b dX12_end_20 rfl (lv_at hl 1 rfl) ?_
  refine gp_X12_143 X hG 0 rfl rfl rfl (Nat.le_of_ble_eq_true rfl) dX12_end_21 (fun H locs (hG : gG D A s.heap [(h0, .inr (11, (.ref h1 :: .int 0 :: .ref h2 :: .ref h3 :: .ref h4 :: .ref h5 :: .ref h6 :: .int 0 :: .ref h7 :: .ref h8 :: .int 0 :: .ref h9 :: .ref h10 :: .ref h11 :: .int 0 :: .int (-1) :: .int 0 :: .ref h12 :: .int 0 :: .ref h13 :: .int 0 :: .int 0 :: .null :: .int 0 :: .int 0 :: .int 0 :: .int 0 :: .ref h14 :: .ref h15 :: .ref h16 :: .ref h17 :: .int 0 :: .null :: .int 0 :: .int 0 :: .int 0 :: .ref h18 :: .int 0 :: .int (-1) :: .int 0 :: .ref h19 :: .int 0 :: .ref h20 :: .ref h21 :: .int 0 :: .ref h22 :: .ref h23 :: .ref h24 :: .ref h25 :: .int 0 :: .int 0 :: .int 0 :: .ref h26 :: .int 0 :: .int 0 :: .ref h27 :: .ref h28 :: .ref h29 :: .ref h30 :: .int 0 :: .ref h31 :: .int 0 :: .ref h32 :: .int 0 :: .int 0 :: .ref h33 :: .ref h34 :: .ref h35 :: [])))] H locs) => ?_)
  refine lv_iconst (v := 1) X.x X.b dX12_end_24 (by decide +kernel) ?_
  exact g_iret X hr hlk hG rfl gS0 rfl [0] rfl rfl (Nat.le_of_ble_eq_true rfl) (Nat.le_of_ble_eq_true rfl) dX12_end_25
set_option maxHeartbeats 4000000 in
set_option maxRecDepth 100000 in
theorem k12_cutTo (l : Launch) (D : va_G) (cT : Nat → ClassId) (h0 h1 : Nat) (x0 : Int32) (l_x0 : 1 ≤ x0.toInt) : gMet l D cT yX6_cutTo cX6_cutTo 2 (some .boolean) 0 0 0 0 [.ref h0, .int x0] [(h0, .inr (5, [.ref h1, .int 0, .int 0, .int 0]))] gE0 (gQi D cT (fun (r : Int32) (u : gS) => r = 0) (fun u : gS => [(h0, .inr (5, [.ref h1, .int 0, .int 0, .int 0]))])) := by
  refine gMet.of "StorksLet$Signs" rfl (by decide +kernel) (Nat.le_of_ble_eq_true rfl) [(0, .ref h0), (1, .int x0)] rfl ?_
  intro p e s m below meth c A ls X hr hlk hnm hA hG hE hl
  refine lv_iload_n X.x X.b dX6_cutTo_0 rfl (lv_at hl 1 rfl) ?_
  refine b_if_lt_f (tgt := 12) X.x X.b dX6_cutTo_1 (by decide) (by simp only [Int32.lt_iff_toInt_lt, Int32.le_iff_toInt_le, ← Int32.toInt_inj, show (0 : Int32).toInt = 0 from by decide +kernel]; omega) ?_
  refine lv_iload_n X.x X.b dX6_cutTo_4 rfl (lv_at hl 1 rfl) ?_
  refine lv_aload_n X.x X.b dX6_cutTo_5 rfl (lv_at hl 0 rfl) ?_
  refine gg_X6_15 X hG 0 rfl rfl dX6_cutTo_6 ?_
  refine b_icmp_le_f (tgt := 14) X.x X.b dX6_cutTo_9 (by decide) (by simp only [Int32.lt_iff_toInt_lt, Int32.le_iff_toInt_le, ← Int32.toInt_inj, show (0 : Int32).toInt = 0 from by decide +kernel]; omega) ?_
  refine lv_iconst (v := 0) X.x X.b dX6_cutTo_12 (by decide +kernel) ?_
  exact g_iret X hr hlk hG rfl gS0 rfl [0] rfl rfl (Nat.le_of_ble_eq_true rfl) (Nat.le_of_ble_eq_true rfl) dX6_cutTo_13
set_option maxHeartbeats 4000000 in
set_option maxRecDepth 100000 in
theorem k13_end (l : Launch) (D : va_G) (cT : Nat → ClassId) (h0 h1 h2 h3 h4 h5 h6 h7 h8 h9 h10 h11 h12 h13 h14 h15 h16 : Nat) (x0 : Int32) (l_x0 : 1 ≤ x0.toInt) : gMet l D cT yX11_end cX11_end 2 (some .boolean) 1 21 0 0 [.ref h0, .int x0] [(h0, .inr (10, [.ref h1, .ref h2, .ref h3, .ref h4, .ref h5, .ref h6, .ref h7, .ref h8, .ref h9, .ref h10, .ref h11, .ref h12, .ref h13, .null, .ref h14, .ref h15])), (h1, .inr (5, [.ref h16, .int 0, .int 0, .int 0]))] gE0 (gQi D cT (fun (r : Int32) (u : gS) => r = 0) (fun u : gS => [(h0, .inr (10, [.ref h1, .ref h2, .ref h3, .ref h4, .ref h5, .ref h6, .ref h7, .ref h8, .ref h9, .ref h10, .ref h11, .ref h12, .ref h13, .null, .ref h14, .ref h15])), (h1, .inr (5, [.ref h16, .int 0, .int 0, .int 0]))])) := by
  refine gMet.of "StorksLet" rfl (by decide +kernel) (Nat.le_of_ble_eq_true rfl) [(0, .ref h0), (1, .int x0)] rfl ?_
  intro p e s m below meth c A ls X hr hlk hnm hA hG hE hl
  refine lv_aload_n X.x X.b dX11_end_0 rfl (lv_at hl 0 rfl) ?_
  refine gg_X11_10 X hG 0 rfl rfl dX11_end_1 ?_
  refine lv_iload_n X.x X.b dX11_end_4 rfl (lv_at hl 1 rfl) ?_
  refine g_ki (g_rV (As := [.int x0]) (rest := []) X hl hG (k12_cutTo l D cT h1 h16 x0 (by omega)) gw_X11_113 g_E01 g_E02 [1] rfl rfl 1 rfl rfl rfl rfl rfl (Nat.le_of_ble_eq_true rfl) ⟨(Nat.le_of_ble_eq_true rfl), (Nat.le_of_ble_eq_true rfl)⟩ ⟨(Nat.le_of_ble_eq_true rfl), (Nat.le_of_ble_eq_true rfl)⟩ dX11_end_5) hG hA [1] [0] rfl rfl rfl rfl (c1 := 0) (s1 := 0) rfl rfl (fun r_1 u_1 H locs (hu : r_1 = 0) (hG : gG D A s.heap [(h0, .inr (10, [.ref h1, .ref h2, .ref h3, .ref h4, .ref h5, .ref h6, .ref h7, .ref h8, .ref h9, .ref h10, .ref h11, .ref h12, .ref h13, .null, .ref h14, .ref h15])), (h1, .inr (5, [.ref h16, .int 0, .int 0, .int 0]))] H locs) => ?_)
  have hu := hu.symm
  subst hu
  exact g_iret X hr hlk hG rfl gS0 rfl [0, 1] rfl rfl (Nat.le_of_ble_eq_true rfl) (Nat.le_of_ble_eq_true rfl) dX11_end_8
set_option maxHeartbeats 4000000 in
set_option maxRecDepth 100000 in
theorem k14_in (l : Launch) (D : va_G) (cT : Nat → ClassId) (x0 : Int32) (l_x0 : 1 ≤ x0.toInt) : gMet l D cT yX12_in cX12_in 3 (some .boolean) 0 0 0 0 [.int x0, .int 0, .int 0] [] gE0 (gQi D cT (fun (r : Int32) (u : gS) => r = 0) (fun u : gS => [])) := by
  refine gMet.of "StorksLetModel" rfl (by decide +kernel) (Nat.le_of_ble_eq_true rfl) [(0, .int x0), (1, .int 0), (2, .int 0)] rfl ?_
  intro p e s m below meth c A ls X hr hlk hnm hA hG hE hl
  refine lv_iload_n X.x X.b dX12_in_0 rfl (lv_at hl 0 rfl) ?_
  refine lv_iload_n X.x X.b dX12_in_1 rfl (lv_at hl 1 rfl) ?_
  refine b_icmp_lt_f (tgt := 14) X.x X.b dX12_in_2 (by decide) (by simp only [Int32.lt_iff_toInt_lt, Int32.le_iff_toInt_le, ← Int32.toInt_inj, show (0 : Int32).toInt = 0 from by decide +kernel]; omega) ?_
  refine lv_iload_n X.x X.b dX12_in_5 rfl (lv_at hl 0 rfl) ?_
  refine lv_iload_n X.x X.b dX12_in_6 rfl (lv_at hl 2 rfl) ?_
  refine b_icmp_gt_t (tgt := 14) X.x X.b dX12_in_7 (by decide) (by simp only [Int32.lt_iff_toInt_lt, Int32.le_iff_toInt_le, ← Int32.toInt_inj, show (0 : Int32).toInt = 0 from by decide +kernel]; omega) ?_
  refine lv_iconst (v := 0) X.x X.b dX12_in_14 (by decide +kernel) ?_
  exact g_iret X hr hlk hG rfl gS0 rfl [] rfl rfl (Nat.le_of_ble_eq_true rfl) (Nat.le_of_ble_eq_true rfl) dX12_in_15
set_option maxHeartbeats 4000000 in
set_option maxRecDepth 100000 in
theorem k15_end (l : Launch) (D : va_G) (cT : Nat → ClassId) (h0 h1 h2 h3 h4 h5 h6 h7 h8 h9 h10 h11 h12 h13 h14 h15 h16 h17 h18 h19 h20 h21 h22 h23 h24 h25 h26 h27 h28 h29 h30 h31 h32 h33 h34 h35 : Nat) (x0 : Int32) (l_x0 : 1 ≤ x0.toInt) : gMet l D cT yX12_end cX12_end 2 (some .boolean) 1 22 0 0 [.ref h0, .int x0] [(h0, .inr (11, (.ref h1 :: .int 0 :: .ref h2 :: .ref h3 :: .ref h4 :: .ref h5 :: .ref h6 :: .int 0 :: .ref h7 :: .ref h8 :: .int 0 :: .ref h9 :: .ref h10 :: .ref h11 :: .int 0 :: .int (-1) :: .int 0 :: .ref h12 :: .int 0 :: .ref h13 :: .int 0 :: .int 0 :: .null :: .int 0 :: .int 0 :: .int 0 :: .int 0 :: .ref h14 :: .ref h15 :: .ref h16 :: .ref h17 :: .int 0 :: .null :: .int 0 :: .int 0 :: .int 0 :: .ref h18 :: .int 0 :: .int (-1) :: .int 0 :: .ref h19 :: .int 0 :: .ref h20 :: .ref h21 :: .int 0 :: .ref h22 :: .ref h23 :: .ref h24 :: .ref h25 :: .int 0 :: .int 0 :: .int 0 :: .ref h26 :: .int 0 :: .int 0 :: .ref h27 :: .ref h28 :: .ref h29 :: .ref h30 :: .int 0 :: .ref h31 :: .int 0 :: .ref h32 :: .int 0 :: .int 0 :: .ref h33 :: .ref h34 :: .ref h35 :: [])))] gE0 (gQi D cT (fun (r : Int32) (u : gS) => r = 0) (fun u : gS => [(h0, .inr (11, (.ref h1 :: .int 0 :: .ref h2 :: .ref h3 :: .ref h4 :: .ref h5 :: .ref h6 :: .int 0 :: .ref h7 :: .ref h8 :: .int 0 :: .ref h9 :: .ref h10 :: .ref h11 :: .int 0 :: .int (-1) :: .int 0 :: .ref h12 :: .int 0 :: .ref h13 :: .int 0 :: .int 0 :: .null :: .int 0 :: .int 0 :: .int 0 :: .int 0 :: .ref h14 :: .ref h15 :: .ref h16 :: .ref h17 :: .int 0 :: .null :: .int 0 :: .int 0 :: .int 0 :: .ref h18 :: .int 0 :: .int (-1) :: .int 0 :: .ref h19 :: .int 0 :: .ref h20 :: .ref h21 :: .int 0 :: .ref h22 :: .ref h23 :: .ref h24 :: .ref h25 :: .int 0 :: .int 0 :: .int 0 :: .ref h26 :: .int 0 :: .int 0 :: .ref h27 :: .ref h28 :: .ref h29 :: .ref h30 :: .int 0 :: .ref h31 :: .int 0 :: .ref h32 :: .int 0 :: .int 0 :: .ref h33 :: .ref h34 :: .ref h35 :: [])))])) := by
  refine gMet.of "StorksLetModel" rfl (by decide +kernel) (Nat.le_of_ble_eq_true rfl) [(0, .ref h0), (1, .int x0)] rfl ?_
  intro p e s m below meth c A ls X hr hlk hnm hA hG hE hl
  refine lv_aload_n X.x X.b dX12_end_0 rfl (lv_at hl 0 rfl) ?_
  refine lv_iconst (v := 0) X.x X.b dX12_end_1 (by decide +kernel) ?_
  refine gp_X12_124 X hG 0 rfl rfl rfl (Nat.le_of_ble_eq_true rfl) dX12_end_2 (fun H locs (hG : gG D A s.heap [(h0, .inr (11, (.ref h1 :: .int 0 :: .ref h2 :: .ref h3 :: .ref h4 :: .ref h5 :: .ref h6 :: .int 0 :: .ref h7 :: .ref h8 :: .int 0 :: .ref h9 :: .ref h10 :: .ref h11 :: .int 0 :: .int (-1) :: .int 0 :: .ref h12 :: .int 0 :: .ref h13 :: .int 0 :: .int 0 :: .null :: .int 0 :: .int 0 :: .int 0 :: .int 0 :: .ref h14 :: .ref h15 :: .ref h16 :: .ref h17 :: .int 0 :: .null :: .int 0 :: .int 0 :: .int 0 :: .ref h18 :: .int 0 :: .int (-1) :: .int 0 :: .ref h19 :: .int 0 :: .ref h20 :: .ref h21 :: .int 0 :: .ref h22 :: .ref h23 :: .ref h24 :: .ref h25 :: .int 0 :: .int 0 :: .int 0 :: .ref h26 :: .int 0 :: .int 0 :: .ref h27 :: .ref h28 :: .ref h29 :: .ref h30 :: .int 0 :: .ref h31 :: .int 0 :: .ref h32 :: .int 0 :: .int 0 :: .ref h33 :: .ref h34 :: .ref h35 :: [])))] H locs) => ?_)
  refine lv_iload_n X.x X.b dX12_end_5 rfl (lv_at hl 1 rfl) ?_
  refine lv_iconst (v := 0) X.x X.b dX12_end_6 (by decide +kernel) ?_
  refine lv_aload_n X.x X.b dX12_end_7 rfl (lv_at hl 0 rfl) ?_
  refine gg_X12_143 X hG 0 rfl rfl dX12_end_8 ?_
  refine g_ki (g_rS (As := [.int x0, .int 0, .int 0]) (rest := []) X hl hG (k14_in l D cT x0 (by omega)) gw_X12_133 g_E01 g_E02 [] rfl rfl rfl rfl (Nat.le_of_ble_eq_true rfl) ⟨(Nat.le_of_ble_eq_true rfl), (Nat.le_of_ble_eq_true rfl)⟩ ⟨(Nat.le_of_ble_eq_true rfl), (Nat.le_of_ble_eq_true rfl)⟩ dX12_end_11) hG hA [] [0] rfl rfl rfl rfl (c1 := 0) (s1 := 0) rfl rfl (fun r_1 u_1 H locs (hu : r_1 = 0) (hG : gG D A s.heap [(h0, .inr (11, (.ref h1 :: .int 0 :: .ref h2 :: .ref h3 :: .ref h4 :: .ref h5 :: .ref h6 :: .int 0 :: .ref h7 :: .ref h8 :: .int 0 :: .ref h9 :: .ref h10 :: .ref h11 :: .int 0 :: .int (-1) :: .int 0 :: .ref h12 :: .int 0 :: .ref h13 :: .int 0 :: .int 0 :: .null :: .int 0 :: .int 0 :: .int 0 :: .int 0 :: .ref h14 :: .ref h15 :: .ref h16 :: .ref h17 :: .int 0 :: .null :: .int 0 :: .int 0 :: .int 0 :: .ref h18 :: .int 0 :: .int (-1) :: .int 0 :: .ref h19 :: .int 0 :: .ref h20 :: .ref h21 :: .int 0 :: .ref h22 :: .ref h23 :: .ref h24 :: .ref h25 :: .int 0 :: .int 0 :: .int 0 :: .ref h26 :: .int 0 :: .int 0 :: .ref h27 :: .ref h28 :: .ref h29 :: .ref h30 :: .int 0 :: .ref h31 :: .int 0 :: .ref h32 :: .int 0 :: .int 0 :: .ref h33 :: .ref h34 :: .ref h35 :: [])))] H locs) => ?_)
  have hu := hu.symm
  subst hu
  refine b_if_ne_f (tgt := 19) X.x X.b dX12_end_14 (by decide) (by decide +kernel) ?_
  refine lv_iconst (v := 0) X.x X.b dX12_end_17 (by decide +kernel) ?_
  exact g_iret X hr hlk hG rfl gS0 rfl [0] rfl rfl (Nat.le_of_ble_eq_true rfl) (Nat.le_of_ble_eq_true rfl) dX12_end_18
set_option maxHeartbeats 4000000 in
set_option maxRecDepth 100000 in
theorem k16_copyFrom (l : Launch) (D : va_G) (cT : Nat → ClassId) (h0 h1 h2 h3 h4 h5 h6 h7 h8 : Nat) : gMet l D cT yX10_copyFrom cX10_copyFrom 2 none 0 0 0 0 [.ref h1, .ref h0] [(h0, .inr (9, [.ref h2, .ref h3, .ref h4, .ref h5, .int 0, .int 0])), (h1, .inr (9, [.null, .ref h6, .ref h7, .ref h8, .int 0, .int 0]))] gE0 (gQv D cT (fun _ : gS => True) (fun u : gS => [(h0, .inr (9, [.ref h2, .ref h3, .ref h4, .ref h5, .int 0, .int 0])), (h1, .inr (9, [.ref h2, .ref h6, .ref h7, .ref h8, .int 0, .int 0]))])) := by
  refine gMet.of "StorksLet$Worths" rfl (by decide +kernel) (Nat.le_of_ble_eq_true rfl) [(0, .ref h1), (1, .ref h0)] rfl ?_
  intro p e s m below meth c A ls X hr hlk hnm hA hG hE hl
  refine lv_aload_n X.x X.b dX10_copyFrom_0 rfl (lv_at hl 0 rfl) ?_
  refine lv_aload_n X.x X.b dX10_copyFrom_1 rfl (lv_at hl 1 rfl) ?_
  refine gg_X10_9 X hG 0 rfl rfl dX10_copyFrom_2 ?_
  refine gp_X10_9 X hG 1 rfl rfl rfl (Nat.le_of_ble_eq_true rfl) dX10_copyFrom_5 (fun H locs (hG : gG D A s.heap [(h0, .inr (9, [.ref h2, .ref h3, .ref h4, .ref h5, .int 0, .int 0])), (h1, .inr (9, [.ref h2, .ref h6, .ref h7, .ref h8, .int 0, .int 0]))] H locs) => ?_)
  refine lv_aload_n X.x X.b dX10_copyFrom_8 rfl (lv_at hl 0 rfl) ?_
  refine lv_aload_n X.x X.b dX10_copyFrom_9 rfl (lv_at hl 1 rfl) ?_
  refine gg_X10_35 X hG 0 rfl rfl dX10_copyFrom_10 ?_
  refine gp_X10_35 X hG 1 rfl (by decide +kernel) rfl (Nat.le_of_ble_eq_true rfl) dX10_copyFrom_13 (fun H locs (hG : gG D A s.heap [(h0, .inr (9, [.ref h2, .ref h3, .ref h4, .ref h5, .int 0, .int 0])), (h1, .inr (9, [.ref h2, .ref h6, .ref h7, .ref h8, .int 0, .int 0]))] H locs) => ?_)
  refine lv_aload_n X.x X.b dX10_copyFrom_16 rfl (lv_at hl 0 rfl) ?_
  refine lv_aload_n X.x X.b dX10_copyFrom_17 rfl (lv_at hl 1 rfl) ?_
  refine gg_X10_39 X hG 0 rfl rfl dX10_copyFrom_18 ?_
  refine gp_X10_39 X hG 1 rfl rfl rfl (Nat.le_of_ble_eq_true rfl) dX10_copyFrom_21 (fun H locs (hG : gG D A s.heap [(h0, .inr (9, [.ref h2, .ref h3, .ref h4, .ref h5, .int 0, .int 0])), (h1, .inr (9, [.ref h2, .ref h6, .ref h7, .ref h8, .int 0, .int 0]))] H locs) => ?_)
  refine lv_aload_n X.x X.b dX10_copyFrom_24 rfl (lv_at hl 0 rfl) ?_
  refine gg_X10_35 X hG 1 rfl rfl dX10_copyFrom_25 ?_
  refine b_if_eq_t (tgt := 67) X.x X.b dX10_copyFrom_28 (by decide) (by decide +kernel) ?_
  exact g_vret X hr hlk hG gS0 trivial [0, 1] rfl rfl (Nat.le_of_ble_eq_true rfl) (Nat.le_of_ble_eq_true rfl) dX10_copyFrom_67
set_option maxHeartbeats 4000000 in
set_option maxRecDepth 100000 in
theorem k17_copyFrom (l : Launch) (D : va_G) (cT : Nat → ClassId) (h0 h1 h2 h3 h4 h5 h6 h7 h8 h9 h10 h11 h12 h13 h14 h15 h16 h17 h18 h19 h20 h21 h22 h23 h24 h25 h26 h27 h28 h29 h30 h31 h32 h33 h34 h35 : Nat) (f0 : Nat → Int32) (f1 : Nat → Int32) (f2 : Nat → Int32) (f3 : Nat → Int32) (f4 : Nat → Int32) (f5 : Nat → Int32) (f6 : Nat → Int32) (f7 : Nat → Int32) (f8 : Nat → Int32) (f9 : Nat → Int32) (f10 : Nat → Int32) (f11 : Nat → Int32) (f12 : Nat → Int32) (f13 : Nat → Int32) (f14 : Nat → Int32) (f15 : Nat → Int32) (f16 : Nat → Int32) (f17 : Nat → Int32) (f18 : Nat → Int32) (f19 : Nat → Int32) : gMet l D cT yX8_copyFrom cX8_copyFrom 2 none 1 40 0 0 [.ref h1, .ref h0] [(h0, .inr (7, [.int 0, .int 0, .int 0, .int 0, .ref h3, .ref h5, .ref h7, .ref h9, .ref h11, .ref h24, .ref h13, .ref h15, .ref h17, .ref h19, .ref h21, .ref h25, .ref h26, .int 0, .ref h22])), (h1, .inr (7, [.int 0, .int 0, .int 0, .int 0, .ref h2, .ref h4, .ref h6, .ref h8, .ref h10, .ref h27, .ref h12, .ref h14, .ref h16, .ref h18, .ref h20, .ref h28, .null, .int 0, .ref h23])), (h2, .inl (cT 0, 30, .inl f0)), (h3, .inl (cT 0, 30, .inl f1)), (h4, .inl (cT 0, 6, .inl f2)), (h5, .inl (cT 0, 6, .inl f3)), (h6, .inl (cT 0, 6, .inl f4)), (h7, .inl (cT 0, 6, .inl f5)), (h8, .inl (cT 0, 6, .inl f6)), (h9, .inl (cT 0, 6, .inl f7)), (h10, .inl (cT 0, 6, .inl f8)), (h11, .inl (cT 0, 6, .inl f9)), (h12, .inl (cT 0, 8, .inl f10)), (h13, .inl (cT 0, 8, .inl f11)), (h14, .inl (cT 0, 8, .inl f12)), (h15, .inl (cT 0, 8, .inl f13)), (h16, .inl (cT 0, 8, .inl f14)), (h17, .inl (cT 0, 8, .inl f15)), (h18, .inl (cT 0, 8, .inl f16)), (h19, .inl (cT 0, 8, .inl f17)), (h20, .inl (cT 0, 32, .inl f18)), (h21, .inl (cT 0, 32, .inl f19)), (h22, .inr (9, [.ref h29, .ref h30, .ref h31, .ref h32, .int 0, .int 0])), (h23, .inr (9, [.null, .ref h33, .ref h34, .ref h35, .int 0, .int 0]))] gE0 (gQv D cT (fun _ : gS => True) (fun u : gS => [(h0, .inr (7, [.int 0, .int 0, .int 0, .int 0, .ref h3, .ref h5, .ref h7, .ref h9, .ref h11, .ref h24, .ref h13, .ref h15, .ref h17, .ref h19, .ref h21, .ref h25, .ref h26, .int 0, .ref h22])), (h1, .inr (7, [.int 0, .int 0, .int 0, .int 0, .ref h2, .ref h4, .ref h6, .ref h8, .ref h10, .ref h27, .ref h12, .ref h14, .ref h16, .ref h18, .ref h20, .ref h28, .ref h26, .int 0, .ref h23])), (h2, .inl (cT 0, 30, .inl (u.2.1 0))), (h3, .inl (cT 0, 30, .inl f1)), (h4, .inl (cT 0, 6, .inl (u.2.1 1))), (h5, .inl (cT 0, 6, .inl f3)), (h6, .inl (cT 0, 6, .inl (u.2.1 2))), (h7, .inl (cT 0, 6, .inl f5)), (h8, .inl (cT 0, 6, .inl (u.2.1 3))), (h9, .inl (cT 0, 6, .inl f7)), (h10, .inl (cT 0, 6, .inl (u.2.1 4))), (h11, .inl (cT 0, 6, .inl f9)), (h12, .inl (cT 0, 8, .inl (u.2.1 5))), (h13, .inl (cT 0, 8, .inl f11)), (h14, .inl (cT 0, 8, .inl (u.2.1 6))), (h15, .inl (cT 0, 8, .inl f13)), (h16, .inl (cT 0, 8, .inl (u.2.1 7))), (h17, .inl (cT 0, 8, .inl f15)), (h18, .inl (cT 0, 8, .inl (u.2.1 8))), (h19, .inl (cT 0, 8, .inl f17)), (h20, .inl (cT 0, 32, .inl (u.2.1 9))), (h21, .inl (cT 0, 32, .inl f19)), (h22, .inr (9, [.ref h29, .ref h30, .ref h31, .ref h32, .int 0, .int 0])), (h23, .inr (9, [.ref h29, .ref h33, .ref h34, .ref h35, .int 0, .int 0]))])) := by
  refine gMet.of "StorksLet$Town" rfl (by decide +kernel) (Nat.le_of_ble_eq_true rfl) [(0, .ref h1), (1, .ref h0)] rfl ?_
  intro p e s m below meth c A ls X hr hlk hnm hA hG hE hl
  refine lv_aload_n X.x X.b dX8_copyFrom_0 rfl (lv_at hl 0 rfl) ?_
  refine lv_aload_n X.x X.b dX8_copyFrom_1 rfl (lv_at hl 1 rfl) ?_
  refine gg_X8_9 X hG 0 rfl rfl dX8_copyFrom_2 ?_
  refine gp_X8_9 X hG 1 rfl rfl rfl (Nat.le_of_ble_eq_true rfl) dX8_copyFrom_5 (fun H locs (hG : gG D A s.heap [(h0, .inr (7, [.int 0, .int 0, .int 0, .int 0, .ref h3, .ref h5, .ref h7, .ref h9, .ref h11, .ref h24, .ref h13, .ref h15, .ref h17, .ref h19, .ref h21, .ref h25, .ref h26, .int 0, .ref h22])), (h1, .inr (7, [.int 0, .int 0, .int 0, .int 0, .ref h2, .ref h4, .ref h6, .ref h8, .ref h10, .ref h27, .ref h12, .ref h14, .ref h16, .ref h18, .ref h20, .ref h28, .null, .int 0, .ref h23])), (h2, .inl (cT 0, 30, .inl f0)), (h3, .inl (cT 0, 30, .inl f1)), (h4, .inl (cT 0, 6, .inl f2)), (h5, .inl (cT 0, 6, .inl f3)), (h6, .inl (cT 0, 6, .inl f4)), (h7, .inl (cT 0, 6, .inl f5)), (h8, .inl (cT 0, 6, .inl f6)), (h9, .inl (cT 0, 6, .inl f7)), (h10, .inl (cT 0, 6, .inl f8)), (h11, .inl (cT 0, 6, .inl f9)), (h12, .inl (cT 0, 8, .inl f10)), (h13, .inl (cT 0, 8, .inl f11)), (h14, .inl (cT 0, 8, .inl f12)), (h15, .inl (cT 0, 8, .inl f13)), (h16, .inl (cT 0, 8, .inl f14)), (h17, .inl (cT 0, 8, .inl f15)), (h18, .inl (cT 0, 8, .inl f16)), (h19, .inl (cT 0, 8, .inl f17)), (h20, .inl (cT 0, 32, .inl f18)), (h21, .inl (cT 0, 32, .inl f19)), (h22, .inr (9, [.ref h29, .ref h30, .ref h31, .ref h32, .int 0, .int 0])), (h23, .inr (9, [.null, .ref h33, .ref h34, .ref h35, .int 0, .int 0]))] H locs) => ?_)
  refine lv_aload_n X.x X.b dX8_copyFrom_8 rfl (lv_at hl 0 rfl) ?_
  refine lv_aload_n X.x X.b dX8_copyFrom_9 rfl (lv_at hl 1 rfl) ?_
  refine gg_X8_15 X hG 0 rfl rfl dX8_copyFrom_10 ?_
  refine gp_X8_15 X hG 1 rfl rfl rfl (Nat.le_of_ble_eq_true rfl) dX8_copyFrom_13 (fun H locs (hG : gG D A s.heap [(h0, .inr (7, [.int 0, .int 0, .int 0, .int 0, .ref h3, .ref h5, .ref h7, .ref h9, .ref h11, .ref h24, .ref h13, .ref h15, .ref h17, .ref h19, .ref h21, .ref h25, .ref h26, .int 0, .ref h22])), (h1, .inr (7, [.int 0, .int 0, .int 0, .int 0, .ref h2, .ref h4, .ref h6, .ref h8, .ref h10, .ref h27, .ref h12, .ref h14, .ref h16, .ref h18, .ref h20, .ref h28, .null, .int 0, .ref h23])), (h2, .inl (cT 0, 30, .inl f0)), (h3, .inl (cT 0, 30, .inl f1)), (h4, .inl (cT 0, 6, .inl f2)), (h5, .inl (cT 0, 6, .inl f3)), (h6, .inl (cT 0, 6, .inl f4)), (h7, .inl (cT 0, 6, .inl f5)), (h8, .inl (cT 0, 6, .inl f6)), (h9, .inl (cT 0, 6, .inl f7)), (h10, .inl (cT 0, 6, .inl f8)), (h11, .inl (cT 0, 6, .inl f9)), (h12, .inl (cT 0, 8, .inl f10)), (h13, .inl (cT 0, 8, .inl f11)), (h14, .inl (cT 0, 8, .inl f12)), (h15, .inl (cT 0, 8, .inl f13)), (h16, .inl (cT 0, 8, .inl f14)), (h17, .inl (cT 0, 8, .inl f15)), (h18, .inl (cT 0, 8, .inl f16)), (h19, .inl (cT 0, 8, .inl f17)), (h20, .inl (cT 0, 32, .inl f18)), (h21, .inl (cT 0, 32, .inl f19)), (h22, .inr (9, [.ref h29, .ref h30, .ref h31, .ref h32, .int 0, .int 0])), (h23, .inr (9, [.null, .ref h33, .ref h34, .ref h35, .int 0, .int 0]))] H locs) => ?_)
  refine lv_aload_n X.x X.b dX8_copyFrom_16 rfl (lv_at hl 0 rfl) ?_
  refine lv_aload_n X.x X.b dX8_copyFrom_17 rfl (lv_at hl 1 rfl) ?_
  refine gg_X8_18 X hG 0 rfl rfl dX8_copyFrom_18 ?_
  refine gp_X8_18 X hG 1 rfl rfl rfl (Nat.le_of_ble_eq_true rfl) dX8_copyFrom_21 (fun H locs (hG : gG D A s.heap [(h0, .inr (7, [.int 0, .int 0, .int 0, .int 0, .ref h3, .ref h5, .ref h7, .ref h9, .ref h11, .ref h24, .ref h13, .ref h15, .ref h17, .ref h19, .ref h21, .ref h25, .ref h26, .int 0, .ref h22])), (h1, .inr (7, [.int 0, .int 0, .int 0, .int 0, .ref h2, .ref h4, .ref h6, .ref h8, .ref h10, .ref h27, .ref h12, .ref h14, .ref h16, .ref h18, .ref h20, .ref h28, .null, .int 0, .ref h23])), (h2, .inl (cT 0, 30, .inl f0)), (h3, .inl (cT 0, 30, .inl f1)), (h4, .inl (cT 0, 6, .inl f2)), (h5, .inl (cT 0, 6, .inl f3)), (h6, .inl (cT 0, 6, .inl f4)), (h7, .inl (cT 0, 6, .inl f5)), (h8, .inl (cT 0, 6, .inl f6)), (h9, .inl (cT 0, 6, .inl f7)), (h10, .inl (cT 0, 6, .inl f8)), (h11, .inl (cT 0, 6, .inl f9)), (h12, .inl (cT 0, 8, .inl f10)), (h13, .inl (cT 0, 8, .inl f11)), (h14, .inl (cT 0, 8, .inl f12)), (h15, .inl (cT 0, 8, .inl f13)), (h16, .inl (cT 0, 8, .inl f14)), (h17, .inl (cT 0, 8, .inl f15)), (h18, .inl (cT 0, 8, .inl f16)), (h19, .inl (cT 0, 8, .inl f17)), (h20, .inl (cT 0, 32, .inl f18)), (h21, .inl (cT 0, 32, .inl f19)), (h22, .inr (9, [.ref h29, .ref h30, .ref h31, .ref h32, .int 0, .int 0])), (h23, .inr (9, [.null, .ref h33, .ref h34, .ref h35, .int 0, .int 0]))] H locs) => ?_)
  refine lv_aload_n X.x X.b dX8_copyFrom_24 rfl (lv_at hl 0 rfl) ?_
  refine lv_aload_n X.x X.b dX8_copyFrom_25 rfl (lv_at hl 1 rfl) ?_
  refine gg_X8_21 X hG 0 rfl rfl dX8_copyFrom_26 ?_
  refine gp_X8_21 X hG 1 rfl rfl rfl (Nat.le_of_ble_eq_true rfl) dX8_copyFrom_29 (fun H locs (hG : gG D A s.heap [(h0, .inr (7, [.int 0, .int 0, .int 0, .int 0, .ref h3, .ref h5, .ref h7, .ref h9, .ref h11, .ref h24, .ref h13, .ref h15, .ref h17, .ref h19, .ref h21, .ref h25, .ref h26, .int 0, .ref h22])), (h1, .inr (7, [.int 0, .int 0, .int 0, .int 0, .ref h2, .ref h4, .ref h6, .ref h8, .ref h10, .ref h27, .ref h12, .ref h14, .ref h16, .ref h18, .ref h20, .ref h28, .null, .int 0, .ref h23])), (h2, .inl (cT 0, 30, .inl f0)), (h3, .inl (cT 0, 30, .inl f1)), (h4, .inl (cT 0, 6, .inl f2)), (h5, .inl (cT 0, 6, .inl f3)), (h6, .inl (cT 0, 6, .inl f4)), (h7, .inl (cT 0, 6, .inl f5)), (h8, .inl (cT 0, 6, .inl f6)), (h9, .inl (cT 0, 6, .inl f7)), (h10, .inl (cT 0, 6, .inl f8)), (h11, .inl (cT 0, 6, .inl f9)), (h12, .inl (cT 0, 8, .inl f10)), (h13, .inl (cT 0, 8, .inl f11)), (h14, .inl (cT 0, 8, .inl f12)), (h15, .inl (cT 0, 8, .inl f13)), (h16, .inl (cT 0, 8, .inl f14)), (h17, .inl (cT 0, 8, .inl f15)), (h18, .inl (cT 0, 8, .inl f16)), (h19, .inl (cT 0, 8, .inl f17)), (h20, .inl (cT 0, 32, .inl f18)), (h21, .inl (cT 0, 32, .inl f19)), (h22, .inr (9, [.ref h29, .ref h30, .ref h31, .ref h32, .int 0, .int 0])), (h23, .inr (9, [.null, .ref h33, .ref h34, .ref h35, .int 0, .int 0]))] H locs) => ?_)
  refine lv_aload_n X.x X.b dX8_copyFrom_32 rfl (lv_at hl 1 rfl) ?_
  refine gg_X8_24 X hG 0 rfl rfl dX8_copyFrom_33 ?_
  refine lv_iconst (v := 0) X.x X.b dX8_copyFrom_36 (by decide +kernel) ?_
  refine lv_aload_n X.x X.b dX8_copyFrom_37 rfl (lv_at hl 0 rfl) ?_
  refine gg_X8_24 X hG 1 rfl rfl dX8_copyFrom_38 ?_
  refine lv_iconst (v := 0) X.x X.b dX8_copyFrom_41 (by decide +kernel) ?_
  refine lv_aload_n X.x X.b dX8_copyFrom_42 rfl (lv_at hl 0 rfl) ?_
  refine gg_X8_24 X hG 1 rfl rfl dX8_copyFrom_43 ?_
  refine g_alen X hG 2 0 rfl rfl (v := 30) rfl dX8_copyFrom_46 ?_
  refine g_copy X hl hG m_490 m_492 m_491 m_78 3 2 rfl rfl (by decide +kernel) (by decide +kernel) (by decide +kernel) (by decide +kernel) (by decide +kernel) (g' := (va_cpy f1 f0 0 0 30)) rfl (Nat.le_of_ble_eq_true rfl) (by decide +kernel) dX8_copyFrom_47 (fun H locs (hG : gG D A s.heap [(h0, .inr (7, [.int 0, .int 0, .int 0, .int 0, .ref h3, .ref h5, .ref h7, .ref h9, .ref h11, .ref h24, .ref h13, .ref h15, .ref h17, .ref h19, .ref h21, .ref h25, .ref h26, .int 0, .ref h22])), (h1, .inr (7, [.int 0, .int 0, .int 0, .int 0, .ref h2, .ref h4, .ref h6, .ref h8, .ref h10, .ref h27, .ref h12, .ref h14, .ref h16, .ref h18, .ref h20, .ref h28, .null, .int 0, .ref h23])), (h2, .inl (cT 0, 30, .inl (va_cpy f1 f0 0 0 30))), (h3, .inl (cT 0, 30, .inl f1)), (h4, .inl (cT 0, 6, .inl f2)), (h5, .inl (cT 0, 6, .inl f3)), (h6, .inl (cT 0, 6, .inl f4)), (h7, .inl (cT 0, 6, .inl f5)), (h8, .inl (cT 0, 6, .inl f6)), (h9, .inl (cT 0, 6, .inl f7)), (h10, .inl (cT 0, 6, .inl f8)), (h11, .inl (cT 0, 6, .inl f9)), (h12, .inl (cT 0, 8, .inl f10)), (h13, .inl (cT 0, 8, .inl f11)), (h14, .inl (cT 0, 8, .inl f12)), (h15, .inl (cT 0, 8, .inl f13)), (h16, .inl (cT 0, 8, .inl f14)), (h17, .inl (cT 0, 8, .inl f15)), (h18, .inl (cT 0, 8, .inl f16)), (h19, .inl (cT 0, 8, .inl f17)), (h20, .inl (cT 0, 32, .inl f18)), (h21, .inl (cT 0, 32, .inl f19)), (h22, .inr (9, [.ref h29, .ref h30, .ref h31, .ref h32, .int 0, .int 0])), (h23, .inr (9, [.null, .ref h33, .ref h34, .ref h35, .int 0, .int 0]))] H locs) => ?_)
  refine lv_aload_n X.x X.b dX8_copyFrom_50 rfl (lv_at hl 1 rfl) ?_
  refine gg_X8_28 X hG 0 rfl rfl dX8_copyFrom_51 ?_
  refine lv_iconst (v := 0) X.x X.b dX8_copyFrom_54 (by decide +kernel) ?_
  refine lv_aload_n X.x X.b dX8_copyFrom_55 rfl (lv_at hl 0 rfl) ?_
  refine gg_X8_28 X hG 1 rfl rfl dX8_copyFrom_56 ?_
  refine lv_iconst (v := 0) X.x X.b dX8_copyFrom_59 (by decide +kernel) ?_
  refine lv_aload_n X.x X.b dX8_copyFrom_60 rfl (lv_at hl 0 rfl) ?_
  refine gg_X8_28 X hG 1 rfl rfl dX8_copyFrom_61 ?_
  refine g_alen X hG 4 0 rfl rfl (v := 6) rfl dX8_copyFrom_64 ?_
  refine g_copy X hl hG m_490 m_492 m_491 m_78 5 4 rfl rfl (by decide +kernel) (by decide +kernel) (by decide +kernel) (by decide +kernel) (by decide +kernel) (g' := (va_cpy f3 f2 0 0 6)) rfl (Nat.le_of_ble_eq_true rfl) (by decide +kernel) dX8_copyFrom_65 (fun H locs (hG : gG D A s.heap [(h0, .inr (7, [.int 0, .int 0, .int 0, .int 0, .ref h3, .ref h5, .ref h7, .ref h9, .ref h11, .ref h24, .ref h13, .ref h15, .ref h17, .ref h19, .ref h21, .ref h25, .ref h26, .int 0, .ref h22])), (h1, .inr (7, [.int 0, .int 0, .int 0, .int 0, .ref h2, .ref h4, .ref h6, .ref h8, .ref h10, .ref h27, .ref h12, .ref h14, .ref h16, .ref h18, .ref h20, .ref h28, .null, .int 0, .ref h23])), (h2, .inl (cT 0, 30, .inl (va_cpy f1 f0 0 0 30))), (h3, .inl (cT 0, 30, .inl f1)), (h4, .inl (cT 0, 6, .inl (va_cpy f3 f2 0 0 6))), (h5, .inl (cT 0, 6, .inl f3)), (h6, .inl (cT 0, 6, .inl f4)), (h7, .inl (cT 0, 6, .inl f5)), (h8, .inl (cT 0, 6, .inl f6)), (h9, .inl (cT 0, 6, .inl f7)), (h10, .inl (cT 0, 6, .inl f8)), (h11, .inl (cT 0, 6, .inl f9)), (h12, .inl (cT 0, 8, .inl f10)), (h13, .inl (cT 0, 8, .inl f11)), (h14, .inl (cT 0, 8, .inl f12)), (h15, .inl (cT 0, 8, .inl f13)), (h16, .inl (cT 0, 8, .inl f14)), (h17, .inl (cT 0, 8, .inl f15)), (h18, .inl (cT 0, 8, .inl f16)), (h19, .inl (cT 0, 8, .inl f17)), (h20, .inl (cT 0, 32, .inl f18)), (h21, .inl (cT 0, 32, .inl f19)), (h22, .inr (9, [.ref h29, .ref h30, .ref h31, .ref h32, .int 0, .int 0])), (h23, .inr (9, [.null, .ref h33, .ref h34, .ref h35, .int 0, .int 0]))] H locs) => ?_)
  refine lv_aload_n X.x X.b dX8_copyFrom_68 rfl (lv_at hl 1 rfl) ?_
  refine gg_X8_31 X hG 0 rfl rfl dX8_copyFrom_69 ?_
  refine lv_iconst (v := 0) X.x X.b dX8_copyFrom_72 (by decide +kernel) ?_
  refine lv_aload_n X.x X.b dX8_copyFrom_73 rfl (lv_at hl 0 rfl) ?_
  refine gg_X8_31 X hG 1 rfl rfl dX8_copyFrom_74 ?_
  refine lv_iconst (v := 0) X.x X.b dX8_copyFrom_77 (by decide +kernel) ?_
  refine lv_aload_n X.x X.b dX8_copyFrom_78 rfl (lv_at hl 0 rfl) ?_
  refine gg_X8_31 X hG 1 rfl rfl dX8_copyFrom_79 ?_
  refine g_alen X hG 6 0 rfl rfl (v := 6) rfl dX8_copyFrom_82 ?_
  refine g_copy X hl hG m_490 m_492 m_491 m_78 7 6 rfl rfl (by decide +kernel) (by decide +kernel) (by decide +kernel) (by decide +kernel) (by decide +kernel) (g' := (va_cpy f5 f4 0 0 6)) rfl (Nat.le_of_ble_eq_true rfl) (by decide +kernel) dX8_copyFrom_83 (fun H locs (hG : gG D A s.heap [(h0, .inr (7, [.int 0, .int 0, .int 0, .int 0, .ref h3, .ref h5, .ref h7, .ref h9, .ref h11, .ref h24, .ref h13, .ref h15, .ref h17, .ref h19, .ref h21, .ref h25, .ref h26, .int 0, .ref h22])), (h1, .inr (7, [.int 0, .int 0, .int 0, .int 0, .ref h2, .ref h4, .ref h6, .ref h8, .ref h10, .ref h27, .ref h12, .ref h14, .ref h16, .ref h18, .ref h20, .ref h28, .null, .int 0, .ref h23])), (h2, .inl (cT 0, 30, .inl (va_cpy f1 f0 0 0 30))), (h3, .inl (cT 0, 30, .inl f1)), (h4, .inl (cT 0, 6, .inl (va_cpy f3 f2 0 0 6))), (h5, .inl (cT 0, 6, .inl f3)), (h6, .inl (cT 0, 6, .inl (va_cpy f5 f4 0 0 6))), (h7, .inl (cT 0, 6, .inl f5)), (h8, .inl (cT 0, 6, .inl f6)), (h9, .inl (cT 0, 6, .inl f7)), (h10, .inl (cT 0, 6, .inl f8)), (h11, .inl (cT 0, 6, .inl f9)), (h12, .inl (cT 0, 8, .inl f10)), (h13, .inl (cT 0, 8, .inl f11)), (h14, .inl (cT 0, 8, .inl f12)), (h15, .inl (cT 0, 8, .inl f13)), (h16, .inl (cT 0, 8, .inl f14)), (h17, .inl (cT 0, 8, .inl f15)), (h18, .inl (cT 0, 8, .inl f16)), (h19, .inl (cT 0, 8, .inl f17)), (h20, .inl (cT 0, 32, .inl f18)), (h21, .inl (cT 0, 32, .inl f19)), (h22, .inr (9, [.ref h29, .ref h30, .ref h31, .ref h32, .int 0, .int 0])), (h23, .inr (9, [.null, .ref h33, .ref h34, .ref h35, .int 0, .int 0]))] H locs) => ?_)
  refine lv_aload_n X.x X.b dX8_copyFrom_86 rfl (lv_at hl 1 rfl) ?_
  refine gg_X8_34 X hG 0 rfl rfl dX8_copyFrom_87 ?_
  refine lv_iconst (v := 0) X.x X.b dX8_copyFrom_90 (by decide +kernel) ?_
  refine lv_aload_n X.x X.b dX8_copyFrom_91 rfl (lv_at hl 0 rfl) ?_
  refine gg_X8_34 X hG 1 rfl rfl dX8_copyFrom_92 ?_
  refine lv_iconst (v := 0) X.x X.b dX8_copyFrom_95 (by decide +kernel) ?_
  refine lv_aload_n X.x X.b dX8_copyFrom_96 rfl (lv_at hl 0 rfl) ?_
  refine gg_X8_34 X hG 1 rfl rfl dX8_copyFrom_97 ?_
  refine g_alen X hG 8 0 rfl rfl (v := 6) rfl dX8_copyFrom_100 ?_
  refine g_copy X hl hG m_490 m_492 m_491 m_78 9 8 rfl rfl (by decide +kernel) (by decide +kernel) (by decide +kernel) (by decide +kernel) (by decide +kernel) (g' := (va_cpy f7 f6 0 0 6)) rfl (Nat.le_of_ble_eq_true rfl) (by decide +kernel) dX8_copyFrom_101 (fun H locs (hG : gG D A s.heap [(h0, .inr (7, [.int 0, .int 0, .int 0, .int 0, .ref h3, .ref h5, .ref h7, .ref h9, .ref h11, .ref h24, .ref h13, .ref h15, .ref h17, .ref h19, .ref h21, .ref h25, .ref h26, .int 0, .ref h22])), (h1, .inr (7, [.int 0, .int 0, .int 0, .int 0, .ref h2, .ref h4, .ref h6, .ref h8, .ref h10, .ref h27, .ref h12, .ref h14, .ref h16, .ref h18, .ref h20, .ref h28, .null, .int 0, .ref h23])), (h2, .inl (cT 0, 30, .inl (va_cpy f1 f0 0 0 30))), (h3, .inl (cT 0, 30, .inl f1)), (h4, .inl (cT 0, 6, .inl (va_cpy f3 f2 0 0 6))), (h5, .inl (cT 0, 6, .inl f3)), (h6, .inl (cT 0, 6, .inl (va_cpy f5 f4 0 0 6))), (h7, .inl (cT 0, 6, .inl f5)), (h8, .inl (cT 0, 6, .inl (va_cpy f7 f6 0 0 6))), (h9, .inl (cT 0, 6, .inl f7)), (h10, .inl (cT 0, 6, .inl f8)), (h11, .inl (cT 0, 6, .inl f9)), (h12, .inl (cT 0, 8, .inl f10)), (h13, .inl (cT 0, 8, .inl f11)), (h14, .inl (cT 0, 8, .inl f12)), (h15, .inl (cT 0, 8, .inl f13)), (h16, .inl (cT 0, 8, .inl f14)), (h17, .inl (cT 0, 8, .inl f15)), (h18, .inl (cT 0, 8, .inl f16)), (h19, .inl (cT 0, 8, .inl f17)), (h20, .inl (cT 0, 32, .inl f18)), (h21, .inl (cT 0, 32, .inl f19)), (h22, .inr (9, [.ref h29, .ref h30, .ref h31, .ref h32, .int 0, .int 0])), (h23, .inr (9, [.null, .ref h33, .ref h34, .ref h35, .int 0, .int 0]))] H locs) => ?_)
  refine lv_aload_n X.x X.b dX8_copyFrom_104 rfl (lv_at hl 1 rfl) ?_
  refine gg_X8_37 X hG 0 rfl rfl dX8_copyFrom_105 ?_
  refine lv_iconst (v := 0) X.x X.b dX8_copyFrom_108 (by decide +kernel) ?_
  refine lv_aload_n X.x X.b dX8_copyFrom_109 rfl (lv_at hl 0 rfl) ?_
  refine gg_X8_37 X hG 1 rfl rfl dX8_copyFrom_110 ?_
  refine lv_iconst (v := 0) X.x X.b dX8_copyFrom_113 (by decide +kernel) ?_
  refine lv_aload_n X.x X.b dX8_copyFrom_114 rfl (lv_at hl 0 rfl) ?_
  refine gg_X8_37 X hG 1 rfl rfl dX8_copyFrom_115 ?_
  refine g_alen X hG 10 0 rfl rfl (v := 6) rfl dX8_copyFrom_118 ?_
  refine g_copy X hl hG m_490 m_492 m_491 m_78 11 10 rfl rfl (by decide +kernel) (by decide +kernel) (by decide +kernel) (by decide +kernel) (by decide +kernel) (g' := (va_cpy f9 f8 0 0 6)) rfl (Nat.le_of_ble_eq_true rfl) (by decide +kernel) dX8_copyFrom_119 (fun H locs (hG : gG D A s.heap [(h0, .inr (7, [.int 0, .int 0, .int 0, .int 0, .ref h3, .ref h5, .ref h7, .ref h9, .ref h11, .ref h24, .ref h13, .ref h15, .ref h17, .ref h19, .ref h21, .ref h25, .ref h26, .int 0, .ref h22])), (h1, .inr (7, [.int 0, .int 0, .int 0, .int 0, .ref h2, .ref h4, .ref h6, .ref h8, .ref h10, .ref h27, .ref h12, .ref h14, .ref h16, .ref h18, .ref h20, .ref h28, .null, .int 0, .ref h23])), (h2, .inl (cT 0, 30, .inl (va_cpy f1 f0 0 0 30))), (h3, .inl (cT 0, 30, .inl f1)), (h4, .inl (cT 0, 6, .inl (va_cpy f3 f2 0 0 6))), (h5, .inl (cT 0, 6, .inl f3)), (h6, .inl (cT 0, 6, .inl (va_cpy f5 f4 0 0 6))), (h7, .inl (cT 0, 6, .inl f5)), (h8, .inl (cT 0, 6, .inl (va_cpy f7 f6 0 0 6))), (h9, .inl (cT 0, 6, .inl f7)), (h10, .inl (cT 0, 6, .inl (va_cpy f9 f8 0 0 6))), (h11, .inl (cT 0, 6, .inl f9)), (h12, .inl (cT 0, 8, .inl f10)), (h13, .inl (cT 0, 8, .inl f11)), (h14, .inl (cT 0, 8, .inl f12)), (h15, .inl (cT 0, 8, .inl f13)), (h16, .inl (cT 0, 8, .inl f14)), (h17, .inl (cT 0, 8, .inl f15)), (h18, .inl (cT 0, 8, .inl f16)), (h19, .inl (cT 0, 8, .inl f17)), (h20, .inl (cT 0, 32, .inl f18)), (h21, .inl (cT 0, 32, .inl f19)), (h22, .inr (9, [.ref h29, .ref h30, .ref h31, .ref h32, .int 0, .int 0])), (h23, .inr (9, [.null, .ref h33, .ref h34, .ref h35, .int 0, .int 0]))] H locs) => ?_)
  refine lv_aload_n X.x X.b dX8_copyFrom_122 rfl (lv_at hl 1 rfl) ?_
  refine gg_X8_43 X hG 0 rfl rfl dX8_copyFrom_123 ?_
  refine lv_iconst (v := 0) X.x X.b dX8_copyFrom_126 (by decide +kernel) ?_
  refine lv_aload_n X.x X.b dX8_copyFrom_127 rfl (lv_at hl 0 rfl) ?_
  refine gg_X8_43 X hG 1 rfl rfl dX8_copyFrom_128 ?_
  refine lv_iconst (v := 0) X.x X.b dX8_copyFrom_131 (by decide +kernel) ?_
  refine lv_aload_n X.x X.b dX8_copyFrom_132 rfl (lv_at hl 0 rfl) ?_
  refine gg_X8_43 X hG 1 rfl rfl dX8_copyFrom_133 ?_
  refine g_alen X hG 12 0 rfl rfl (v := 8) rfl dX8_copyFrom_136 ?_
  refine g_copy X hl hG m_490 m_492 m_491 m_78 13 12 rfl rfl (by decide +kernel) (by decide +kernel) (by decide +kernel) (by decide +kernel) (by decide +kernel) (g' := (va_cpy f11 f10 0 0 8)) rfl (Nat.le_of_ble_eq_true rfl) (by decide +kernel) dX8_copyFrom_137 (fun H locs (hG : gG D A s.heap [(h0, .inr (7, [.int 0, .int 0, .int 0, .int 0, .ref h3, .ref h5, .ref h7, .ref h9, .ref h11, .ref h24, .ref h13, .ref h15, .ref h17, .ref h19, .ref h21, .ref h25, .ref h26, .int 0, .ref h22])), (h1, .inr (7, [.int 0, .int 0, .int 0, .int 0, .ref h2, .ref h4, .ref h6, .ref h8, .ref h10, .ref h27, .ref h12, .ref h14, .ref h16, .ref h18, .ref h20, .ref h28, .null, .int 0, .ref h23])), (h2, .inl (cT 0, 30, .inl (va_cpy f1 f0 0 0 30))), (h3, .inl (cT 0, 30, .inl f1)), (h4, .inl (cT 0, 6, .inl (va_cpy f3 f2 0 0 6))), (h5, .inl (cT 0, 6, .inl f3)), (h6, .inl (cT 0, 6, .inl (va_cpy f5 f4 0 0 6))), (h7, .inl (cT 0, 6, .inl f5)), (h8, .inl (cT 0, 6, .inl (va_cpy f7 f6 0 0 6))), (h9, .inl (cT 0, 6, .inl f7)), (h10, .inl (cT 0, 6, .inl (va_cpy f9 f8 0 0 6))), (h11, .inl (cT 0, 6, .inl f9)), (h12, .inl (cT 0, 8, .inl (va_cpy f11 f10 0 0 8))), (h13, .inl (cT 0, 8, .inl f11)), (h14, .inl (cT 0, 8, .inl f12)), (h15, .inl (cT 0, 8, .inl f13)), (h16, .inl (cT 0, 8, .inl f14)), (h17, .inl (cT 0, 8, .inl f15)), (h18, .inl (cT 0, 8, .inl f16)), (h19, .inl (cT 0, 8, .inl f17)), (h20, .inl (cT 0, 32, .inl f18)), (h21, .inl (cT 0, 32, .inl f19)), (h22, .inr (9, [.ref h29, .ref h30, .ref h31, .ref h32, .int 0, .int 0])), (h23, .inr (9, [.null, .ref h33, .ref h34, .ref h35, .int 0, .int 0]))] H locs) => ?_)
  refine lv_aload_n X.x X.b dX8_copyFrom_140 rfl (lv_at hl 1 rfl) ?_
  refine gg_X8_46 X hG 0 rfl rfl dX8_copyFrom_141 ?_
  refine lv_iconst (v := 0) X.x X.b dX8_copyFrom_144 (by decide +kernel) ?_
  refine lv_aload_n X.x X.b dX8_copyFrom_145 rfl (lv_at hl 0 rfl) ?_
  refine gg_X8_46 X hG 1 rfl rfl dX8_copyFrom_146 ?_
  refine lv_iconst (v := 0) X.x X.b dX8_copyFrom_149 (by decide +kernel) ?_
  refine lv_aload_n X.x X.b dX8_copyFrom_150 rfl (lv_at hl 0 rfl) ?_
  refine gg_X8_46 X hG 1 rfl rfl dX8_copyFrom_151 ?_
  refine g_alen X hG 14 0 rfl rfl (v := 8) rfl dX8_copyFrom_154 ?_
  refine g_copy X hl hG m_490 m_492 m_491 m_78 15 14 rfl rfl (by decide +kernel) (by decide +kernel) (by decide +kernel) (by decide +kernel) (by decide +kernel) (g' := (va_cpy f13 f12 0 0 8)) rfl (Nat.le_of_ble_eq_true rfl) (by decide +kernel) dX8_copyFrom_155 (fun H locs (hG : gG D A s.heap [(h0, .inr (7, [.int 0, .int 0, .int 0, .int 0, .ref h3, .ref h5, .ref h7, .ref h9, .ref h11, .ref h24, .ref h13, .ref h15, .ref h17, .ref h19, .ref h21, .ref h25, .ref h26, .int 0, .ref h22])), (h1, .inr (7, [.int 0, .int 0, .int 0, .int 0, .ref h2, .ref h4, .ref h6, .ref h8, .ref h10, .ref h27, .ref h12, .ref h14, .ref h16, .ref h18, .ref h20, .ref h28, .null, .int 0, .ref h23])), (h2, .inl (cT 0, 30, .inl (va_cpy f1 f0 0 0 30))), (h3, .inl (cT 0, 30, .inl f1)), (h4, .inl (cT 0, 6, .inl (va_cpy f3 f2 0 0 6))), (h5, .inl (cT 0, 6, .inl f3)), (h6, .inl (cT 0, 6, .inl (va_cpy f5 f4 0 0 6))), (h7, .inl (cT 0, 6, .inl f5)), (h8, .inl (cT 0, 6, .inl (va_cpy f7 f6 0 0 6))), (h9, .inl (cT 0, 6, .inl f7)), (h10, .inl (cT 0, 6, .inl (va_cpy f9 f8 0 0 6))), (h11, .inl (cT 0, 6, .inl f9)), (h12, .inl (cT 0, 8, .inl (va_cpy f11 f10 0 0 8))), (h13, .inl (cT 0, 8, .inl f11)), (h14, .inl (cT 0, 8, .inl (va_cpy f13 f12 0 0 8))), (h15, .inl (cT 0, 8, .inl f13)), (h16, .inl (cT 0, 8, .inl f14)), (h17, .inl (cT 0, 8, .inl f15)), (h18, .inl (cT 0, 8, .inl f16)), (h19, .inl (cT 0, 8, .inl f17)), (h20, .inl (cT 0, 32, .inl f18)), (h21, .inl (cT 0, 32, .inl f19)), (h22, .inr (9, [.ref h29, .ref h30, .ref h31, .ref h32, .int 0, .int 0])), (h23, .inr (9, [.null, .ref h33, .ref h34, .ref h35, .int 0, .int 0]))] H locs) => ?_)
  refine lv_aload_n X.x X.b dX8_copyFrom_158 rfl (lv_at hl 1 rfl) ?_
  refine gg_X8_49 X hG 0 rfl rfl dX8_copyFrom_159 ?_
  refine lv_iconst (v := 0) X.x X.b dX8_copyFrom_162 (by decide +kernel) ?_
  refine lv_aload_n X.x X.b dX8_copyFrom_163 rfl (lv_at hl 0 rfl) ?_
  refine gg_X8_49 X hG 1 rfl rfl dX8_copyFrom_164 ?_
  refine lv_iconst (v := 0) X.x X.b dX8_copyFrom_167 (by decide +kernel) ?_
  refine lv_aload_n X.x X.b dX8_copyFrom_168 rfl (lv_at hl 0 rfl) ?_
  refine gg_X8_49 X hG 1 rfl rfl dX8_copyFrom_169 ?_
  refine g_alen X hG 16 0 rfl rfl (v := 8) rfl dX8_copyFrom_172 ?_
  refine g_copy X hl hG m_490 m_492 m_491 m_78 17 16 rfl rfl (by decide +kernel) (by decide +kernel) (by decide +kernel) (by decide +kernel) (by decide +kernel) (g' := (va_cpy f15 f14 0 0 8)) rfl (Nat.le_of_ble_eq_true rfl) (by decide +kernel) dX8_copyFrom_173 (fun H locs (hG : gG D A s.heap [(h0, .inr (7, [.int 0, .int 0, .int 0, .int 0, .ref h3, .ref h5, .ref h7, .ref h9, .ref h11, .ref h24, .ref h13, .ref h15, .ref h17, .ref h19, .ref h21, .ref h25, .ref h26, .int 0, .ref h22])), (h1, .inr (7, [.int 0, .int 0, .int 0, .int 0, .ref h2, .ref h4, .ref h6, .ref h8, .ref h10, .ref h27, .ref h12, .ref h14, .ref h16, .ref h18, .ref h20, .ref h28, .null, .int 0, .ref h23])), (h2, .inl (cT 0, 30, .inl (va_cpy f1 f0 0 0 30))), (h3, .inl (cT 0, 30, .inl f1)), (h4, .inl (cT 0, 6, .inl (va_cpy f3 f2 0 0 6))), (h5, .inl (cT 0, 6, .inl f3)), (h6, .inl (cT 0, 6, .inl (va_cpy f5 f4 0 0 6))), (h7, .inl (cT 0, 6, .inl f5)), (h8, .inl (cT 0, 6, .inl (va_cpy f7 f6 0 0 6))), (h9, .inl (cT 0, 6, .inl f7)), (h10, .inl (cT 0, 6, .inl (va_cpy f9 f8 0 0 6))), (h11, .inl (cT 0, 6, .inl f9)), (h12, .inl (cT 0, 8, .inl (va_cpy f11 f10 0 0 8))), (h13, .inl (cT 0, 8, .inl f11)), (h14, .inl (cT 0, 8, .inl (va_cpy f13 f12 0 0 8))), (h15, .inl (cT 0, 8, .inl f13)), (h16, .inl (cT 0, 8, .inl (va_cpy f15 f14 0 0 8))), (h17, .inl (cT 0, 8, .inl f15)), (h18, .inl (cT 0, 8, .inl f16)), (h19, .inl (cT 0, 8, .inl f17)), (h20, .inl (cT 0, 32, .inl f18)), (h21, .inl (cT 0, 32, .inl f19)), (h22, .inr (9, [.ref h29, .ref h30, .ref h31, .ref h32, .int 0, .int 0])), (h23, .inr (9, [.null, .ref h33, .ref h34, .ref h35, .int 0, .int 0]))] H locs) => ?_)
  refine lv_aload_n X.x X.b dX8_copyFrom_176 rfl (lv_at hl 1 rfl) ?_
  refine gg_X8_52 X hG 0 rfl rfl dX8_copyFrom_177 ?_
  refine lv_iconst (v := 0) X.x X.b dX8_copyFrom_180 (by decide +kernel) ?_
  refine lv_aload_n X.x X.b dX8_copyFrom_181 rfl (lv_at hl 0 rfl) ?_
  refine gg_X8_52 X hG 1 rfl rfl dX8_copyFrom_182 ?_
  refine lv_iconst (v := 0) X.x X.b dX8_copyFrom_185 (by decide +kernel) ?_
  refine lv_aload_n X.x X.b dX8_copyFrom_186 rfl (lv_at hl 0 rfl) ?_
  refine gg_X8_52 X hG 1 rfl rfl dX8_copyFrom_187 ?_
  refine g_alen X hG 18 0 rfl rfl (v := 8) rfl dX8_copyFrom_190 ?_
  refine g_copy X hl hG m_490 m_492 m_491 m_78 19 18 rfl rfl (by decide +kernel) (by decide +kernel) (by decide +kernel) (by decide +kernel) (by decide +kernel) (g' := (va_cpy f17 f16 0 0 8)) rfl (Nat.le_of_ble_eq_true rfl) (by decide +kernel) dX8_copyFrom_191 (fun H locs (hG : gG D A s.heap [(h0, .inr (7, [.int 0, .int 0, .int 0, .int 0, .ref h3, .ref h5, .ref h7, .ref h9, .ref h11, .ref h24, .ref h13, .ref h15, .ref h17, .ref h19, .ref h21, .ref h25, .ref h26, .int 0, .ref h22])), (h1, .inr (7, [.int 0, .int 0, .int 0, .int 0, .ref h2, .ref h4, .ref h6, .ref h8, .ref h10, .ref h27, .ref h12, .ref h14, .ref h16, .ref h18, .ref h20, .ref h28, .null, .int 0, .ref h23])), (h2, .inl (cT 0, 30, .inl (va_cpy f1 f0 0 0 30))), (h3, .inl (cT 0, 30, .inl f1)), (h4, .inl (cT 0, 6, .inl (va_cpy f3 f2 0 0 6))), (h5, .inl (cT 0, 6, .inl f3)), (h6, .inl (cT 0, 6, .inl (va_cpy f5 f4 0 0 6))), (h7, .inl (cT 0, 6, .inl f5)), (h8, .inl (cT 0, 6, .inl (va_cpy f7 f6 0 0 6))), (h9, .inl (cT 0, 6, .inl f7)), (h10, .inl (cT 0, 6, .inl (va_cpy f9 f8 0 0 6))), (h11, .inl (cT 0, 6, .inl f9)), (h12, .inl (cT 0, 8, .inl (va_cpy f11 f10 0 0 8))), (h13, .inl (cT 0, 8, .inl f11)), (h14, .inl (cT 0, 8, .inl (va_cpy f13 f12 0 0 8))), (h15, .inl (cT 0, 8, .inl f13)), (h16, .inl (cT 0, 8, .inl (va_cpy f15 f14 0 0 8))), (h17, .inl (cT 0, 8, .inl f15)), (h18, .inl (cT 0, 8, .inl (va_cpy f17 f16 0 0 8))), (h19, .inl (cT 0, 8, .inl f17)), (h20, .inl (cT 0, 32, .inl f18)), (h21, .inl (cT 0, 32, .inl f19)), (h22, .inr (9, [.ref h29, .ref h30, .ref h31, .ref h32, .int 0, .int 0])), (h23, .inr (9, [.null, .ref h33, .ref h34, .ref h35, .int 0, .int 0]))] H locs) => ?_)
  refine lv_aload_n X.x X.b dX8_copyFrom_194 rfl (lv_at hl 1 rfl) ?_
  refine gg_X8_55 X hG 0 rfl rfl dX8_copyFrom_195 ?_
  refine lv_iconst (v := 0) X.x X.b dX8_copyFrom_198 (by decide +kernel) ?_
  refine lv_aload_n X.x X.b dX8_copyFrom_199 rfl (lv_at hl 0 rfl) ?_
  refine gg_X8_55 X hG 1 rfl rfl dX8_copyFrom_200 ?_
  refine lv_iconst (v := 0) X.x X.b dX8_copyFrom_203 (by decide +kernel) ?_
  refine lv_aload_n X.x X.b dX8_copyFrom_204 rfl (lv_at hl 0 rfl) ?_
  refine gg_X8_55 X hG 1 rfl rfl dX8_copyFrom_205 ?_
  refine g_alen X hG 20 0 rfl rfl (v := 32) rfl dX8_copyFrom_208 ?_
  refine g_copy X hl hG m_490 m_492 m_491 m_78 21 20 rfl rfl (by decide +kernel) (by decide +kernel) (by decide +kernel) (by decide +kernel) (by decide +kernel) (g' := (va_cpy f19 f18 0 0 32)) rfl (Nat.le_of_ble_eq_true rfl) (by decide +kernel) dX8_copyFrom_209 (fun H locs (hG : gG D A s.heap [(h0, .inr (7, [.int 0, .int 0, .int 0, .int 0, .ref h3, .ref h5, .ref h7, .ref h9, .ref h11, .ref h24, .ref h13, .ref h15, .ref h17, .ref h19, .ref h21, .ref h25, .ref h26, .int 0, .ref h22])), (h1, .inr (7, [.int 0, .int 0, .int 0, .int 0, .ref h2, .ref h4, .ref h6, .ref h8, .ref h10, .ref h27, .ref h12, .ref h14, .ref h16, .ref h18, .ref h20, .ref h28, .null, .int 0, .ref h23])), (h2, .inl (cT 0, 30, .inl (va_cpy f1 f0 0 0 30))), (h3, .inl (cT 0, 30, .inl f1)), (h4, .inl (cT 0, 6, .inl (va_cpy f3 f2 0 0 6))), (h5, .inl (cT 0, 6, .inl f3)), (h6, .inl (cT 0, 6, .inl (va_cpy f5 f4 0 0 6))), (h7, .inl (cT 0, 6, .inl f5)), (h8, .inl (cT 0, 6, .inl (va_cpy f7 f6 0 0 6))), (h9, .inl (cT 0, 6, .inl f7)), (h10, .inl (cT 0, 6, .inl (va_cpy f9 f8 0 0 6))), (h11, .inl (cT 0, 6, .inl f9)), (h12, .inl (cT 0, 8, .inl (va_cpy f11 f10 0 0 8))), (h13, .inl (cT 0, 8, .inl f11)), (h14, .inl (cT 0, 8, .inl (va_cpy f13 f12 0 0 8))), (h15, .inl (cT 0, 8, .inl f13)), (h16, .inl (cT 0, 8, .inl (va_cpy f15 f14 0 0 8))), (h17, .inl (cT 0, 8, .inl f15)), (h18, .inl (cT 0, 8, .inl (va_cpy f17 f16 0 0 8))), (h19, .inl (cT 0, 8, .inl f17)), (h20, .inl (cT 0, 32, .inl (va_cpy f19 f18 0 0 32))), (h21, .inl (cT 0, 32, .inl f19)), (h22, .inr (9, [.ref h29, .ref h30, .ref h31, .ref h32, .int 0, .int 0])), (h23, .inr (9, [.null, .ref h33, .ref h34, .ref h35, .int 0, .int 0]))] H locs) => ?_)
  refine lv_aload_n X.x X.b dX8_copyFrom_212 rfl (lv_at hl 0 rfl) ?_
  refine lv_aload_n X.x X.b dX8_copyFrom_213 rfl (lv_at hl 1 rfl) ?_
  refine gg_X8_61 X hG 0 rfl rfl dX8_copyFrom_214 ?_
  refine gp_X8_61 X hG 1 rfl rfl rfl (Nat.le_of_ble_eq_true rfl) dX8_copyFrom_217 (fun H locs (hG : gG D A s.heap [(h0, .inr (7, [.int 0, .int 0, .int 0, .int 0, .ref h3, .ref h5, .ref h7, .ref h9, .ref h11, .ref h24, .ref h13, .ref h15, .ref h17, .ref h19, .ref h21, .ref h25, .ref h26, .int 0, .ref h22])), (h1, .inr (7, [.int 0, .int 0, .int 0, .int 0, .ref h2, .ref h4, .ref h6, .ref h8, .ref h10, .ref h27, .ref h12, .ref h14, .ref h16, .ref h18, .ref h20, .ref h28, .ref h26, .int 0, .ref h23])), (h2, .inl (cT 0, 30, .inl (va_cpy f1 f0 0 0 30))), (h3, .inl (cT 0, 30, .inl f1)), (h4, .inl (cT 0, 6, .inl (va_cpy f3 f2 0 0 6))), (h5, .inl (cT 0, 6, .inl f3)), (h6, .inl (cT 0, 6, .inl (va_cpy f5 f4 0 0 6))), (h7, .inl (cT 0, 6, .inl f5)), (h8, .inl (cT 0, 6, .inl (va_cpy f7 f6 0 0 6))), (h9, .inl (cT 0, 6, .inl f7)), (h10, .inl (cT 0, 6, .inl (va_cpy f9 f8 0 0 6))), (h11, .inl (cT 0, 6, .inl f9)), (h12, .inl (cT 0, 8, .inl (va_cpy f11 f10 0 0 8))), (h13, .inl (cT 0, 8, .inl f11)), (h14, .inl (cT 0, 8, .inl (va_cpy f13 f12 0 0 8))), (h15, .inl (cT 0, 8, .inl f13)), (h16, .inl (cT 0, 8, .inl (va_cpy f15 f14 0 0 8))), (h17, .inl (cT 0, 8, .inl f15)), (h18, .inl (cT 0, 8, .inl (va_cpy f17 f16 0 0 8))), (h19, .inl (cT 0, 8, .inl f17)), (h20, .inl (cT 0, 32, .inl (va_cpy f19 f18 0 0 32))), (h21, .inl (cT 0, 32, .inl f19)), (h22, .inr (9, [.ref h29, .ref h30, .ref h31, .ref h32, .int 0, .int 0])), (h23, .inr (9, [.null, .ref h33, .ref h34, .ref h35, .int 0, .int 0]))] H locs) => ?_)
  refine lv_aload_n X.x X.b dX8_copyFrom_220 rfl (lv_at hl 0 rfl) ?_
  refine lv_aload_n X.x X.b dX8_copyFrom_221 rfl (lv_at hl 1 rfl) ?_
  refine gg_X8_64 X hG 0 rfl rfl dX8_copyFrom_222 ?_
  refine gp_X8_64 X hG 1 rfl rfl rfl (Nat.le_of_ble_eq_true rfl) dX8_copyFrom_225 (fun H locs (hG : gG D A s.heap [(h0, .inr (7, [.int 0, .int 0, .int 0, .int 0, .ref h3, .ref h5, .ref h7, .ref h9, .ref h11, .ref h24, .ref h13, .ref h15, .ref h17, .ref h19, .ref h21, .ref h25, .ref h26, .int 0, .ref h22])), (h1, .inr (7, [.int 0, .int 0, .int 0, .int 0, .ref h2, .ref h4, .ref h6, .ref h8, .ref h10, .ref h27, .ref h12, .ref h14, .ref h16, .ref h18, .ref h20, .ref h28, .ref h26, .int 0, .ref h23])), (h2, .inl (cT 0, 30, .inl (va_cpy f1 f0 0 0 30))), (h3, .inl (cT 0, 30, .inl f1)), (h4, .inl (cT 0, 6, .inl (va_cpy f3 f2 0 0 6))), (h5, .inl (cT 0, 6, .inl f3)), (h6, .inl (cT 0, 6, .inl (va_cpy f5 f4 0 0 6))), (h7, .inl (cT 0, 6, .inl f5)), (h8, .inl (cT 0, 6, .inl (va_cpy f7 f6 0 0 6))), (h9, .inl (cT 0, 6, .inl f7)), (h10, .inl (cT 0, 6, .inl (va_cpy f9 f8 0 0 6))), (h11, .inl (cT 0, 6, .inl f9)), (h12, .inl (cT 0, 8, .inl (va_cpy f11 f10 0 0 8))), (h13, .inl (cT 0, 8, .inl f11)), (h14, .inl (cT 0, 8, .inl (va_cpy f13 f12 0 0 8))), (h15, .inl (cT 0, 8, .inl f13)), (h16, .inl (cT 0, 8, .inl (va_cpy f15 f14 0 0 8))), (h17, .inl (cT 0, 8, .inl f15)), (h18, .inl (cT 0, 8, .inl (va_cpy f17 f16 0 0 8))), (h19, .inl (cT 0, 8, .inl f17)), (h20, .inl (cT 0, 32, .inl (va_cpy f19 f18 0 0 32))), (h21, .inl (cT 0, 32, .inl f19)), (h22, .inr (9, [.ref h29, .ref h30, .ref h31, .ref h32, .int 0, .int 0])), (h23, .inr (9, [.null, .ref h33, .ref h34, .ref h35, .int 0, .int 0]))] H locs) => ?_)
  refine lv_aload_n X.x X.b dX8_copyFrom_228 rfl (lv_at hl 0 rfl) ?_
  refine gg_X8_70 X hG 1 rfl rfl dX8_copyFrom_229 ?_
  refine lv_aload_n X.x X.b dX8_copyFrom_232 rfl (lv_at hl 1 rfl) ?_
  refine gg_X8_70 X hG 0 rfl rfl dX8_copyFrom_233 ?_
  refine g_kv (g_rV (As := [.ref h22]) (rest := []) X hl hG (k16_copyFrom l D cT h22 h23 h29 h30 h31 h32 h33 h34 h35) gw_X8_80 g_E01 g_E02 [22, 23] rfl rfl 23 rfl rfl rfl rfl rfl (Nat.le_of_ble_eq_true rfl) ⟨(Nat.le_of_ble_eq_true rfl), (Nat.le_of_ble_eq_true rfl)⟩ ⟨(Nat.le_of_ble_eq_true rfl), (Nat.le_of_ble_eq_true rfl)⟩ dX8_copyFrom_236) hG hA [22, 23] [0, 1, 2, 3, 4, 5, 6, 7, 8, 9, 10, 11, 12, 13, 14, 15, 16, 17, 18, 19, 20, 21] rfl rfl rfl rfl (c1 := 0) (s1 := 0) rfl rfl (fun u_1 H locs hu_1 (hG : gG D A s.heap [(h0, .inr (7, [.int 0, .int 0, .int 0, .int 0, .ref h3, .ref h5, .ref h7, .ref h9, .ref h11, .ref h24, .ref h13, .ref h15, .ref h17, .ref h19, .ref h21, .ref h25, .ref h26, .int 0, .ref h22])), (h1, .inr (7, [.int 0, .int 0, .int 0, .int 0, .ref h2, .ref h4, .ref h6, .ref h8, .ref h10, .ref h27, .ref h12, .ref h14, .ref h16, .ref h18, .ref h20, .ref h28, .ref h26, .int 0, .ref h23])), (h2, .inl (cT 0, 30, .inl (va_cpy f1 f0 0 0 30))), (h3, .inl (cT 0, 30, .inl f1)), (h4, .inl (cT 0, 6, .inl (va_cpy f3 f2 0 0 6))), (h5, .inl (cT 0, 6, .inl f3)), (h6, .inl (cT 0, 6, .inl (va_cpy f5 f4 0 0 6))), (h7, .inl (cT 0, 6, .inl f5)), (h8, .inl (cT 0, 6, .inl (va_cpy f7 f6 0 0 6))), (h9, .inl (cT 0, 6, .inl f7)), (h10, .inl (cT 0, 6, .inl (va_cpy f9 f8 0 0 6))), (h11, .inl (cT 0, 6, .inl f9)), (h12, .inl (cT 0, 8, .inl (va_cpy f11 f10 0 0 8))), (h13, .inl (cT 0, 8, .inl f11)), (h14, .inl (cT 0, 8, .inl (va_cpy f13 f12 0 0 8))), (h15, .inl (cT 0, 8, .inl f13)), (h16, .inl (cT 0, 8, .inl (va_cpy f15 f14 0 0 8))), (h17, .inl (cT 0, 8, .inl f15)), (h18, .inl (cT 0, 8, .inl (va_cpy f17 f16 0 0 8))), (h19, .inl (cT 0, 8, .inl f17)), (h20, .inl (cT 0, 32, .inl (va_cpy f19 f18 0 0 32))), (h21, .inl (cT 0, 32, .inl f19)), (h22, .inr (9, [.ref h29, .ref h30, .ref h31, .ref h32, .int 0, .int 0])), (h23, .inr (9, [.ref h29, .ref h33, .ref h34, .ref h35, .int 0, .int 0]))] H locs) => ?_)
  exact g_vret X hr hlk hG (⟨fun k => ([] : List Nat).getD k 0, fun k => ([(va_cpy f1 f0 0 0 30), (va_cpy f3 f2 0 0 6), (va_cpy f5 f4 0 0 6), (va_cpy f7 f6 0 0 6), (va_cpy f9 f8 0 0 6), (va_cpy f11 f10 0 0 8), (va_cpy f13 f12 0 0 8), (va_cpy f15 f14 0 0 8), (va_cpy f17 f16 0 0 8), (va_cpy f19 f18 0 0 32)] : List (Nat → Int32)).getD k (fun _ => 0), fun k => ([] : List Int32).getD k 0, fun k => ([] : List (Nat → Option Nat)).getD k (fun _ => none)⟩ : gS) trivial [0, 1, 2, 3, 4, 5, 6, 7, 8, 9, 10, 11, 12, 13, 14, 15, 16, 17, 18, 19, 20, 21, 22, 23] rfl rfl (Nat.le_of_ble_eq_true rfl) (Nat.le_of_ble_eq_true rfl) dX8_copyFrom_239
set_option maxHeartbeats 4000000 in
set_option maxRecDepth 100000 in
theorem k18_open (l : Launch) (D : va_G) (cT : Nat → ClassId) (h0 h1 : Nat) : gMet l D cT yX6_open cX6_open 2 none 1 14 0 0 [.ref h0, .int 76] [(h0, .inr (5, [.ref h1, .int 0, .int 0, .int 0]))] gE0 (gQv D cT (fun _ : gS => True) (fun u : gS => [(h0, .inr (5, [.ref h1, .int 0, .int 0, .int 0]))])) := by
  refine gMet.of "StorksLet$Signs" rfl (by decide +kernel) (Nat.le_of_ble_eq_true rfl) [(0, .ref h0), (1, .int 76)] rfl ?_
  intro p e s m below meth c A ls X hr hlk hnm hA hG hE hl
  refine lv_aload_n X.x X.b dX6_open_0 rfl (lv_at hl 0 rfl) ?_
  refine lv_iconst (v := 0) X.x X.b dX6_open_1 (by decide +kernel) ?_
  refine gp_X6_19 X hG 0 rfl rfl rfl (Nat.le_of_ble_eq_true rfl) dX6_open_2 (fun H locs (hG : gG D A s.heap [(h0, .inr (5, [.ref h1, .int 0, .int 0, .int 0]))] H locs) => ?_)
  refine lv_aload_n X.x X.b dX6_open_5 rfl (lv_at hl 0 rfl) ?_
  refine lv_aload_n X.x X.b dX6_open_6 rfl (lv_at hl 0 rfl) ?_
  refine gg_X6_15 X hG 0 rfl rfl dX6_open_7 ?_
  refine lv_iload_n X.x X.b dX6_open_10 rfl (lv_at hl 1 rfl) ?_
  refine va_mmin X.x X.b (by rw [X.ml]; exact hl.1.symm) X.o (X.t _ m_505) (X.t _ m_506) (X.t _ m_80) (X.t _ m_507) (Nat.le_of_ble_eq_true rfl) (Nat.le_of_ble_eq_true rfl) (Nat.le_of_ble_eq_true rfl) (Nat.le_of_ble_eq_true rfl) dX6_open_11 ?_
  refine g_top (v' := 0) (by decide +kernel) ?_
  refine gp_X6_22 X hG 0 rfl rfl rfl (Nat.le_of_ble_eq_true rfl) dX6_open_14 (fun H locs (hG : gG D A s.heap [(h0, .inr (5, [.ref h1, .int 0, .int 0, .int 0]))] H locs) => ?_)
  exact g_vret X hr hlk hG gS0 trivial [0] rfl rfl (Nat.le_of_ble_eq_true rfl) (Nat.le_of_ble_eq_true rfl) dX6_open_17
set_option maxHeartbeats 4000000 in
set_option maxRecDepth 100000 in
theorem k19_readTown (l : Launch) (D : va_G) (cT : Nat → ClassId) (h0 h1 h2 : Nat) : gMet l D cT yX1_readTown cX1_readTown 3 (some .int) 2 35 0 0 [.ref h0, .ref h1] [(h0, .inr (5, [.ref h2, .int 0, .int 0, .int 0]))] gE0 (gQi D cT (fun (r : Int32) (u : gS) => r = 0) (fun u : gS => [(h0, .inr (5, [.ref h2, .int 0, .int 0, .int 0]))])) := by
  refine gMet.of "StorksLet$Lines" rfl (by decide +kernel) (Nat.le_of_ble_eq_true rfl) [(0, .ref h0), (1, .ref h1)] rfl ?_
  intro p e s m below meth c A ls X hr hlk hnm hA hG hE hl
  refine lv_aload_n X.x X.b dX1_readTown_0 rfl (lv_at hl 0 rfl) ?_
  refine lv_bipush (v := 76) X.x X.b dX1_readTown_1 (by decide +kernel) ?_
  refine g_kv (g_rV (As := [.int 76]) (rest := []) X hl hG (k18_open l D cT h0 h2) gw_X1_9 g_E01 g_E02 [0] rfl rfl 0 rfl rfl rfl rfl rfl (Nat.le_of_ble_eq_true rfl) ⟨(Nat.le_of_ble_eq_true rfl), (Nat.le_of_ble_eq_true rfl)⟩ ⟨(Nat.le_of_ble_eq_true rfl), (Nat.le_of_ble_eq_true rfl)⟩ dX1_readTown_3) hG hA [0] [] rfl rfl rfl rfl (c1 := 0) (s1 := 0) rfl rfl (fun u_1 H locs hu_1 (hG : gG D A s.heap [(h0, .inr (5, [.ref h2, .int 0, .int 0, .int 0]))] H locs) => ?_)
  refine lv_aload_n X.x X.b dX1_readTown_6 rfl (lv_at hl 0 rfl) ?_
  refine gg_X1_15 X hG 0 rfl rfl dX1_readTown_7 ?_
  refine b_if_ne_f (tgt := 15) X.x X.b dX1_readTown_10 (by decide) (by decide +kernel) ?_
  refine lv_iconst (v := 0) X.x X.b dX1_readTown_13 (by decide +kernel) ?_
  exact g_iret X hr hlk hG rfl gS0 rfl [0] rfl rfl (Nat.le_of_ble_eq_true rfl) (Nat.le_of_ble_eq_true rfl) dX1_readTown_14
set_option maxHeartbeats 4000000 in
set_option maxRecDepth 100000 in
theorem k20_empty (l : Launch) (D : va_G) (cT : Nat → ClassId) (h0 h1 : Nat) : gMet l D cT yX6_empty cX6_empty 1 none 0 0 0 0 [.ref h0] [(h0, .inr (5, [.ref h1, .int 0, .int 0, .int 0]))] gE0 (gQv D cT (fun _ : gS => True) (fun u : gS => [(h0, .inr (5, [.ref h1, .int 0, .int 0, .int 0]))])) := by
  refine gMet.of "StorksLet$Signs" rfl (by decide +kernel) (Nat.le_of_ble_eq_true rfl) [(0, .ref h0)] rfl ?_
  intro p e s m below meth c A ls X hr hlk hnm hA hG hE hl
  refine lv_aload_n X.x X.b dX6_empty_0 rfl (lv_at hl 0 rfl) ?_
  refine lv_iconst (v := 0) X.x X.b dX6_empty_1 (by decide +kernel) ?_
  refine gp_X6_15 X hG 0 rfl rfl rfl (Nat.le_of_ble_eq_true rfl) dX6_empty_2 (fun H locs (hG : gG D A s.heap [(h0, .inr (5, [.ref h1, .int 0, .int 0, .int 0]))] H locs) => ?_)
  exact g_vret X hr hlk hG gS0 trivial [0] rfl rfl (Nat.le_of_ble_eq_true rfl) (Nat.le_of_ble_eq_true rfl) dX6_empty_5
set_option maxHeartbeats 4000000 in
set_option maxRecDepth 100000 in
theorem k21_town (l : Launch) (D : va_G) (cT : Nat → ClassId) (h0 h1 h2 h3 h4 h5 h6 h7 h8 h9 h10 h11 h12 h13 h14 h15 h16 h17 h18 h19 h20 h21 h22 h23 h24 h25 h26 h27 h28 h29 h30 h31 h32 h33 h34 h35 h36 h37 h38 h39 h40 h41 h42 h43 h44 h45 h46 h47 h48 h49 h50 : Nat) (f0 : Nat → Int32) (f1 : Nat → Int32) (f2 : Nat → Int32) (f3 : Nat → Int32) (f4 : Nat → Int32) (f5 : Nat → Int32) (f6 : Nat → Int32) (f7 : Nat → Int32) (f8 : Nat → Int32) (f9 : Nat → Int32) (f10 : Nat → Int32) (f11 : Nat → Int32) (f12 : Nat → Int32) (f13 : Nat → Int32) (f14 : Nat → Int32) (f15 : Nat → Int32) (f16 : Nat → Int32) (f17 : Nat → Int32) (f18 : Nat → Int32) (f19 : Nat → Int32) : gMet l D cT yX11_town cX11_town 2 (some .int) 3 61 0 0 [.ref h0] [(h0, .inr (10, [.ref h25, .ref h26, .ref h1, .ref h27, .ref h2, .ref h28, .ref h29, .ref h30, .ref h31, .ref h32, .ref h33, .ref h34, .ref h35, .null, .ref h36, .ref h37])), (h1, .inr (7, [.int 0, .int 0, .int 0, .int 0, .ref h4, .ref h6, .ref h8, .ref h10, .ref h12, .ref h38, .ref h14, .ref h16, .ref h18, .ref h20, .ref h22, .ref h39, .ref h40, .int 0, .ref h23])), (h2, .inr (7, [.int 0, .int 0, .int 0, .int 0, .ref h3, .ref h5, .ref h7, .ref h9, .ref h11, .ref h41, .ref h13, .ref h15, .ref h17, .ref h19, .ref h21, .ref h42, .null, .int 0, .ref h24])), (h3, .inl (cT 0, 30, .inl f0)), (h4, .inl (cT 0, 30, .inl f1)), (h5, .inl (cT 0, 6, .inl f2)), (h6, .inl (cT 0, 6, .inl f3)), (h7, .inl (cT 0, 6, .inl f4)), (h8, .inl (cT 0, 6, .inl f5)), (h9, .inl (cT 0, 6, .inl f6)), (h10, .inl (cT 0, 6, .inl f7)), (h11, .inl (cT 0, 6, .inl f8)), (h12, .inl (cT 0, 6, .inl f9)), (h13, .inl (cT 0, 8, .inl f10)), (h14, .inl (cT 0, 8, .inl f11)), (h15, .inl (cT 0, 8, .inl f12)), (h16, .inl (cT 0, 8, .inl f13)), (h17, .inl (cT 0, 8, .inl f14)), (h18, .inl (cT 0, 8, .inl f15)), (h19, .inl (cT 0, 8, .inl f16)), (h20, .inl (cT 0, 8, .inl f17)), (h21, .inl (cT 0, 32, .inl f18)), (h22, .inl (cT 0, 32, .inl f19)), (h23, .inr (9, [.ref h43, .ref h44, .ref h45, .ref h46, .int 0, .int 0])), (h24, .inr (9, [.null, .ref h47, .ref h48, .ref h49, .int 0, .int 0])), (h25, .inr (5, [.ref h50, .int 0, .int 0, .int 0]))] gE0 (gQi D cT (fun (r : Int32) (u : gS) => r = 0) (fun u : gS => [(h0, .inr (10, [.ref h25, .ref h26, .ref h1, .ref h27, .ref h2, .ref h28, .ref h29, .ref h30, .ref h31, .ref h32, .ref h33, .ref h34, .ref h35, .null, .ref h36, .ref h37])), (h1, .inr (7, [.int 0, .int 0, .int 0, .int 0, .ref h4, .ref h6, .ref h8, .ref h10, .ref h12, .ref h38, .ref h14, .ref h16, .ref h18, .ref h20, .ref h22, .ref h39, .ref h40, .int 0, .ref h23])), (h2, .inr (7, [.int 0, .int 0, .int 0, .int 0, .ref h3, .ref h5, .ref h7, .ref h9, .ref h11, .ref h41, .ref h13, .ref h15, .ref h17, .ref h19, .ref h21, .ref h42, .ref h40, .int 0, .ref h24])), (h3, .inl (cT 0, 30, .inl (u.2.1 0))), (h4, .inl (cT 0, 30, .inl f1)), (h5, .inl (cT 0, 6, .inl (u.2.1 1))), (h6, .inl (cT 0, 6, .inl f3)), (h7, .inl (cT 0, 6, .inl (u.2.1 2))), (h8, .inl (cT 0, 6, .inl f5)), (h9, .inl (cT 0, 6, .inl (u.2.1 3))), (h10, .inl (cT 0, 6, .inl f7)), (h11, .inl (cT 0, 6, .inl (u.2.1 4))), (h12, .inl (cT 0, 6, .inl f9)), (h13, .inl (cT 0, 8, .inl (u.2.1 5))), (h14, .inl (cT 0, 8, .inl f11)), (h15, .inl (cT 0, 8, .inl (u.2.1 6))), (h16, .inl (cT 0, 8, .inl f13)), (h17, .inl (cT 0, 8, .inl (u.2.1 7))), (h18, .inl (cT 0, 8, .inl f15)), (h19, .inl (cT 0, 8, .inl (u.2.1 8))), (h20, .inl (cT 0, 8, .inl f17)), (h21, .inl (cT 0, 32, .inl (u.2.1 9))), (h22, .inl (cT 0, 32, .inl f19)), (h23, .inr (9, [.ref h43, .ref h44, .ref h45, .ref h46, .int 0, .int 0])), (h24, .inr (9, [.ref h43, .ref h47, .ref h48, .ref h49, .int 0, .int 0])), (h25, .inr (5, [.ref h50, .int 0, .int 0, .int 0]))])) := by
  refine gMet.of "StorksLet" rfl (by decide +kernel) (Nat.le_of_ble_eq_true rfl) [(0, .ref h0)] rfl ?_
  intro p e s m below meth c A ls X hr hlk hnm hA hG hE hl
  refine lv_aload_n X.x X.b dX11_town_0 rfl (lv_at hl 0 rfl) ?_
  refine gg_X11_33 X hG 0 rfl rfl dX11_town_1 ?_
  refine lv_aload_n X.x X.b dX11_town_4 rfl (lv_at hl 0 rfl) ?_
  refine gg_X11_26 X hG 0 rfl rfl dX11_town_5 ?_
  refine g_kv (g_rV (As := [.ref h1]) (rest := []) X hl hG (k17_copyFrom l D cT h1 h2 h3 h4 h5 h6 h7 h8 h9 h10 h11 h12 h13 h14 h15 h16 h17 h18 h19 h20 h21 h22 h23 h24 h38 h39 h40 h41 h42 h43 h44 h45 h46 h47 h48 h49 f0 f1 f2 f3 f4 f5 f6 f7 f8 f9 f10 f11 f12 f13 f14 f15 f16 f17 f18 f19) gw_X11_116 g_E01 g_E02 [1, 2, 3, 4, 5, 6, 7, 8, 9, 10, 11, 12, 13, 14, 15, 16, 17, 18, 19, 20, 21, 22, 23, 24] rfl rfl 2 rfl rfl rfl rfl rfl (Nat.le_of_ble_eq_true rfl) ⟨(Nat.le_of_ble_eq_true rfl), (Nat.le_of_ble_eq_true rfl)⟩ ⟨(Nat.le_of_ble_eq_true rfl), (Nat.le_of_ble_eq_true rfl)⟩ dX11_town_8) hG hA [1, 2, 3, 4, 5, 6, 7, 8, 9, 10, 11, 12, 13, 14, 15, 16, 17, 18, 19, 20, 21, 22, 23, 24] [0, 25] rfl rfl rfl rfl (c1 := 0) (s1 := 0) rfl rfl (fun u_1 H locs hu_1 (hG : gG D A s.heap [(h0, .inr (10, [.ref h25, .ref h26, .ref h1, .ref h27, .ref h2, .ref h28, .ref h29, .ref h30, .ref h31, .ref h32, .ref h33, .ref h34, .ref h35, .null, .ref h36, .ref h37])), (h25, .inr (5, [.ref h50, .int 0, .int 0, .int 0])), (h1, .inr (7, [.int 0, .int 0, .int 0, .int 0, .ref h4, .ref h6, .ref h8, .ref h10, .ref h12, .ref h38, .ref h14, .ref h16, .ref h18, .ref h20, .ref h22, .ref h39, .ref h40, .int 0, .ref h23])), (h2, .inr (7, [.int 0, .int 0, .int 0, .int 0, .ref h3, .ref h5, .ref h7, .ref h9, .ref h11, .ref h41, .ref h13, .ref h15, .ref h17, .ref h19, .ref h21, .ref h42, .ref h40, .int 0, .ref h24])), (h3, .inl (cT 0, 30, .inl (u_1.2.1 0))), (h4, .inl (cT 0, 30, .inl f1)), (h5, .inl (cT 0, 6, .inl (u_1.2.1 1))), (h6, .inl (cT 0, 6, .inl f3)), (h7, .inl (cT 0, 6, .inl (u_1.2.1 2))), (h8, .inl (cT 0, 6, .inl f5)), (h9, .inl (cT 0, 6, .inl (u_1.2.1 3))), (h10, .inl (cT 0, 6, .inl f7)), (h11, .inl (cT 0, 6, .inl (u_1.2.1 4))), (h12, .inl (cT 0, 6, .inl f9)), (h13, .inl (cT 0, 8, .inl (u_1.2.1 5))), (h14, .inl (cT 0, 8, .inl f11)), (h15, .inl (cT 0, 8, .inl (u_1.2.1 6))), (h16, .inl (cT 0, 8, .inl f13)), (h17, .inl (cT 0, 8, .inl (u_1.2.1 7))), (h18, .inl (cT 0, 8, .inl f15)), (h19, .inl (cT 0, 8, .inl (u_1.2.1 8))), (h20, .inl (cT 0, 8, .inl f17)), (h21, .inl (cT 0, 32, .inl (u_1.2.1 9))), (h22, .inl (cT 0, 32, .inl f19)), (h23, .inr (9, [.ref h43, .ref h44, .ref h45, .ref h46, .int 0, .int 0])), (h24, .inr (9, [.ref h43, .ref h47, .ref h48, .ref h49, .int 0, .int 0]))] H locs) => ?_)
  refine lv_aload_n X.x X.b dX11_town_11 rfl (lv_at hl 0 rfl) ?_
  refine gg_X11_10 X hG 0 rfl rfl dX11_town_12 ?_
  refine lv_aload_n X.x X.b dX11_town_15 rfl (lv_at hl 0 rfl) ?_
  refine gg_X11_33 X hG 0 rfl rfl dX11_town_16 ?_
  refine g_ki (g_rS (As := [.ref h25, .ref h2]) (rest := []) X hl hG (k19_readTown l D cT h25 h2 h50) gw_X11_120 g_E01 g_E02 [1] rfl rfl rfl rfl (Nat.le_of_ble_eq_true rfl) ⟨(Nat.le_of_ble_eq_true rfl), (Nat.le_of_ble_eq_true rfl)⟩ ⟨(Nat.le_of_ble_eq_true rfl), (Nat.le_of_ble_eq_true rfl)⟩ dX11_town_19) hG hA [1] [0, 2, 3, 4, 5, 6, 7, 8, 9, 10, 11, 12, 13, 14, 15, 16, 17, 18, 19, 20, 21, 22, 23, 24, 25] rfl rfl rfl rfl (c1 := 0) (s1 := 0) rfl rfl (fun r_2 u_2 H locs (hu : r_2 = 0) (hG : gG D A s.heap [(h0, .inr (10, [.ref h25, .ref h26, .ref h1, .ref h27, .ref h2, .ref h28, .ref h29, .ref h30, .ref h31, .ref h32, .ref h33, .ref h34, .ref h35, .null, .ref h36, .ref h37])), (h1, .inr (7, [.int 0, .int 0, .int 0, .int 0, .ref h4, .ref h6, .ref h8, .ref h10, .ref h12, .ref h38, .ref h14, .ref h16, .ref h18, .ref h20, .ref h22, .ref h39, .ref h40, .int 0, .ref h23])), (h2, .inr (7, [.int 0, .int 0, .int 0, .int 0, .ref h3, .ref h5, .ref h7, .ref h9, .ref h11, .ref h41, .ref h13, .ref h15, .ref h17, .ref h19, .ref h21, .ref h42, .ref h40, .int 0, .ref h24])), (h3, .inl (cT 0, 30, .inl (u_1.2.1 0))), (h4, .inl (cT 0, 30, .inl f1)), (h5, .inl (cT 0, 6, .inl (u_1.2.1 1))), (h6, .inl (cT 0, 6, .inl f3)), (h7, .inl (cT 0, 6, .inl (u_1.2.1 2))), (h8, .inl (cT 0, 6, .inl f5)), (h9, .inl (cT 0, 6, .inl (u_1.2.1 3))), (h10, .inl (cT 0, 6, .inl f7)), (h11, .inl (cT 0, 6, .inl (u_1.2.1 4))), (h12, .inl (cT 0, 6, .inl f9)), (h13, .inl (cT 0, 8, .inl (u_1.2.1 5))), (h14, .inl (cT 0, 8, .inl f11)), (h15, .inl (cT 0, 8, .inl (u_1.2.1 6))), (h16, .inl (cT 0, 8, .inl f13)), (h17, .inl (cT 0, 8, .inl (u_1.2.1 7))), (h18, .inl (cT 0, 8, .inl f15)), (h19, .inl (cT 0, 8, .inl (u_1.2.1 8))), (h20, .inl (cT 0, 8, .inl f17)), (h21, .inl (cT 0, 32, .inl (u_1.2.1 9))), (h22, .inl (cT 0, 32, .inl f19)), (h23, .inr (9, [.ref h43, .ref h44, .ref h45, .ref h46, .int 0, .int 0])), (h24, .inr (9, [.ref h43, .ref h47, .ref h48, .ref h49, .int 0, .int 0])), (h25, .inr (5, [.ref h50, .int 0, .int 0, .int 0]))] H locs) => ?_)
  have hu := hu.symm
  subst hu
  refine lv_istore_n (lv' := [(1, .int 0), (0, .ref h0)]) X.x X.b dX11_town_22 rfl hl (Nat.le_of_ble_eq_true rfl) rfl (fun ls hl => ?_)
  refine lv_aload_n X.x X.b dX11_town_23 rfl (lv_at hl 1 rfl) ?_
  refine gg_X11_10 X hG 0 rfl rfl dX11_town_24 ?_
  refine g_kv (g_rV (As := []) (rest := []) X hl hG (k20_empty l D cT h25 h50) gw_X11_126 g_E01 g_E02 [25] rfl rfl 25 rfl rfl rfl rfl rfl (Nat.le_of_ble_eq_true rfl) ⟨(Nat.le_of_ble_eq_true rfl), (Nat.le_of_ble_eq_true rfl)⟩ ⟨(Nat.le_of_ble_eq_true rfl), (Nat.le_of_ble_eq_true rfl)⟩ dX11_town_27) hG hA [25] [0, 1, 2, 3, 4, 5, 6, 7, 8, 9, 10, 11, 12, 13, 14, 15, 16, 17, 18, 19, 20, 21, 22, 23, 24] rfl rfl rfl rfl (c1 := 0) (s1 := 0) rfl rfl (fun u_3 H locs hu_3 (hG : gG D A s.heap [(h0, .inr (10, [.ref h25, .ref h26, .ref h1, .ref h27, .ref h2, .ref h28, .ref h29, .ref h30, .ref h31, .ref h32, .ref h33, .ref h34, .ref h35, .null, .ref h36, .ref h37])), (h1, .inr (7, [.int 0, .int 0, .int 0, .int 0, .ref h4, .ref h6, .ref h8, .ref h10, .ref h12, .ref h38, .ref h14, .ref h16, .ref h18, .ref h20, .ref h22, .ref h39, .ref h40, .int 0, .ref h23])), (h2, .inr (7, [.int 0, .int 0, .int 0, .int 0, .ref h3, .ref h5, .ref h7, .ref h9, .ref h11, .ref h41, .ref h13, .ref h15, .ref h17, .ref h19, .ref h21, .ref h42, .ref h40, .int 0, .ref h24])), (h3, .inl (cT 0, 30, .inl (u_1.2.1 0))), (h4, .inl (cT 0, 30, .inl f1)), (h5, .inl (cT 0, 6, .inl (u_1.2.1 1))), (h6, .inl (cT 0, 6, .inl f3)), (h7, .inl (cT 0, 6, .inl (u_1.2.1 2))), (h8, .inl (cT 0, 6, .inl f5)), (h9, .inl (cT 0, 6, .inl (u_1.2.1 3))), (h10, .inl (cT 0, 6, .inl f7)), (h11, .inl (cT 0, 6, .inl (u_1.2.1 4))), (h12, .inl (cT 0, 6, .inl f9)), (h13, .inl (cT 0, 8, .inl (u_1.2.1 5))), (h14, .inl (cT 0, 8, .inl f11)), (h15, .inl (cT 0, 8, .inl (u_1.2.1 6))), (h16, .inl (cT 0, 8, .inl f13)), (h17, .inl (cT 0, 8, .inl (u_1.2.1 7))), (h18, .inl (cT 0, 8, .inl f15)), (h19, .inl (cT 0, 8, .inl (u_1.2.1 8))), (h20, .inl (cT 0, 8, .inl f17)), (h21, .inl (cT 0, 32, .inl (u_1.2.1 9))), (h22, .inl (cT 0, 32, .inl f19)), (h23, .inr (9, [.ref h43, .ref h44, .ref h45, .ref h46, .int 0, .int 0])), (h24, .inr (9, [.ref h43, .ref h47, .ref h48, .ref h49, .int 0, .int 0])), (h25, .inr (5, [.ref h50, .int 0, .int 0, .int 0]))] H locs) => ?_)
  refine lv_iload_n X.x X.b dX11_town_30 rfl (lv_at hl 0 rfl) ?_
  refine b_if_le_t (tgt := 52) X.x X.b dX11_town_31 (by decide) (by decide +kernel) ?_
  refine lv_iload_n X.x X.b dX11_town_52 rfl (lv_at hl 0 rfl) ?_
  exact g_iret X hr hlk hG rfl (⟨fun k => ([] : List Nat).getD k 0, fun k => ([(u_1.2.1 0), (u_1.2.1 1), (u_1.2.1 2), (u_1.2.1 3), (u_1.2.1 4), (u_1.2.1 5), (u_1.2.1 6), (u_1.2.1 7), (u_1.2.1 8), (u_1.2.1 9)] : List (Nat → Int32)).getD k (fun _ => 0), fun k => ([] : List Int32).getD k 0, fun k => ([] : List (Nat → Option Nat)).getD k (fun _ => none)⟩ : gS) rfl [0, 1, 2, 3, 4, 5, 6, 7, 8, 9, 10, 11, 12, 13, 14, 15, 16, 17, 18, 19, 20, 21, 22, 23, 24, 25] rfl rfl (Nat.le_of_ble_eq_true rfl) (Nat.le_of_ble_eq_true rfl) dX11_town_53
set_option maxHeartbeats 4000000 in
set_option maxRecDepth 100000 in
theorem k22_begin (l : Launch) (D : va_G) (cT : Nat → ClassId) (h0 h1 h2 h3 h4 h5 h6 h7 h8 h9 h10 h11 h12 h13 h14 h15 h16 h17 h18 h19 h20 h21 h22 h23 h24 h25 h26 h27 h28 h29 h30 h31 h32 h33 h34 h35 : Nat) : gMet l D cT yX12_begin cX12_begin 4 none 0 0 0 0 [.ref h0, .ref h1, .int 0, .int 76] [(h0, .inr (11, (.ref h2 :: .int 0 :: .ref h3 :: .ref h4 :: .ref h5 :: .ref h6 :: .ref h7 :: .int 0 :: .ref h8 :: .ref h9 :: .int 0 :: .ref h10 :: .ref h11 :: .ref h12 :: .int 0 :: .int (-1) :: .int 0 :: .ref h1 :: .int 0 :: .ref h13 :: .int 0 :: .int 0 :: .null :: .int 0 :: .int 0 :: .int 0 :: .int 0 :: .ref h14 :: .ref h15 :: .ref h16 :: .ref h17 :: .int 0 :: .null :: .int 0 :: .int 0 :: .int 0 :: .ref h18 :: .int 0 :: .int (-1) :: .int 0 :: .ref h19 :: .int 0 :: .ref h20 :: .ref h21 :: .int 0 :: .ref h22 :: .ref h23 :: .ref h24 :: .ref h25 :: .int 0 :: .int 0 :: .int 0 :: .ref h26 :: .int 0 :: .int 0 :: .ref h27 :: .ref h28 :: .ref h29 :: .ref h30 :: .int 0 :: .ref h31 :: .int 0 :: .ref h32 :: .int 0 :: .int 0 :: .ref h33 :: .ref h34 :: .ref h35 :: [])))] gE0 (gQv D cT (fun _ : gS => True) (fun u : gS => [(h0, .inr (11, (.ref h2 :: .int 0 :: .ref h3 :: .ref h4 :: .ref h5 :: .ref h6 :: .ref h7 :: .int 0 :: .ref h8 :: .ref h9 :: .int 0 :: .ref h10 :: .ref h11 :: .ref h12 :: .int 0 :: .int (-1) :: .int 0 :: .ref h1 :: .int 0 :: .ref h13 :: .int 0 :: .int 0 :: .ref h1 :: .int 0 :: .int 76 :: .int 0 :: .int (-1) :: .ref h14 :: .ref h15 :: .ref h16 :: .ref h17 :: .int 0 :: .null :: .int 0 :: .int 0 :: .int 0 :: .ref h18 :: .int 0 :: .int (-1) :: .int 0 :: .ref h19 :: .int 0 :: .ref h20 :: .ref h21 :: .int 0 :: .ref h22 :: .ref h23 :: .ref h24 :: .ref h25 :: .int 0 :: .int 0 :: .int 0 :: .ref h26 :: .int 0 :: .int 0 :: .ref h27 :: .ref h28 :: .ref h29 :: .ref h30 :: .int 0 :: .ref h31 :: .int 0 :: .ref h32 :: .int 0 :: .int 0 :: .ref h33 :: .ref h34 :: .ref h35 :: [])))])) := by
  refine gMet.of "StorksLetModel" rfl (by decide +kernel) (Nat.le_of_ble_eq_true rfl) [(0, .ref h0), (1, .ref h1), (2, .int 0), (3, .int 76)] rfl ?_
  intro p e s m below meth c A ls X hr hlk hnm hA hG hE hl
  refine lv_aload_n X.x X.b dX12_begin_0 rfl (lv_at hl 0 rfl) ?_
  refine lv_aload_n X.x X.b dX12_begin_1 rfl (lv_at hl 1 rfl) ?_
  refine gp_X12_146 X hG 0 rfl rfl rfl (Nat.le_of_ble_eq_true rfl) dX12_begin_2 (fun H locs (hG : gG D A s.heap [(h0, .inr (11, (.ref h2 :: .int 0 :: .ref h3 :: .ref h4 :: .ref h5 :: .ref h6 :: .ref h7 :: .int 0 :: .ref h8 :: .ref h9 :: .int 0 :: .ref h10 :: .ref h11 :: .ref h12 :: .int 0 :: .int (-1) :: .int 0 :: .ref h1 :: .int 0 :: .ref h13 :: .int 0 :: .int 0 :: .ref h1 :: .int 0 :: .int 0 :: .int 0 :: .int 0 :: .ref h14 :: .ref h15 :: .ref h16 :: .ref h17 :: .int 0 :: .null :: .int 0 :: .int 0 :: .int 0 :: .ref h18 :: .int 0 :: .int (-1) :: .int 0 :: .ref h19 :: .int 0 :: .ref h20 :: .ref h21 :: .int 0 :: .ref h22 :: .ref h23 :: .ref h24 :: .ref h25 :: .int 0 :: .int 0 :: .int 0 :: .ref h26 :: .int 0 :: .int 0 :: .ref h27 :: .ref h28 :: .ref h29 :: .ref h30 :: .int 0 :: .ref h31 :: .int 0 :: .ref h32 :: .int 0 :: .int 0 :: .ref h33 :: .ref h34 :: .ref h35 :: [])))] H locs) => ?_)
  refine lv_aload_n X.x X.b dX12_begin_5 rfl (lv_at hl 0 rfl) ?_
  refine lv_iload_n X.x X.b dX12_begin_6 rfl (lv_at hl 2 rfl) ?_
  refine gp_X12_149 X hG 0 rfl rfl rfl (Nat.le_of_ble_eq_true rfl) dX12_begin_7 (fun H locs (hG : gG D A s.heap [(h0, .inr (11, (.ref h2 :: .int 0 :: .ref h3 :: .ref h4 :: .ref h5 :: .ref h6 :: .ref h7 :: .int 0 :: .ref h8 :: .ref h9 :: .int 0 :: .ref h10 :: .ref h11 :: .ref h12 :: .int 0 :: .int (-1) :: .int 0 :: .ref h1 :: .int 0 :: .ref h13 :: .int 0 :: .int 0 :: .ref h1 :: .int 0 :: .int 0 :: .int 0 :: .int 0 :: .ref h14 :: .ref h15 :: .ref h16 :: .ref h17 :: .int 0 :: .null :: .int 0 :: .int 0 :: .int 0 :: .ref h18 :: .int 0 :: .int (-1) :: .int 0 :: .ref h19 :: .int 0 :: .ref h20 :: .ref h21 :: .int 0 :: .ref h22 :: .ref h23 :: .ref h24 :: .ref h25 :: .int 0 :: .int 0 :: .int 0 :: .ref h26 :: .int 0 :: .int 0 :: .ref h27 :: .ref h28 :: .ref h29 :: .ref h30 :: .int 0 :: .ref h31 :: .int 0 :: .ref h32 :: .int 0 :: .int 0 :: .ref h33 :: .ref h34 :: .ref h35 :: [])))] H locs) => ?_)
  refine lv_aload_n X.x X.b dX12_begin_10 rfl (lv_at hl 0 rfl) ?_
  refine lv_iload_n X.x X.b dX12_begin_11 rfl (lv_at hl 3 rfl) ?_
  refine gp_X12_152 X hG 0 rfl rfl rfl (Nat.le_of_ble_eq_true rfl) dX12_begin_12 (fun H locs (hG : gG D A s.heap [(h0, .inr (11, (.ref h2 :: .int 0 :: .ref h3 :: .ref h4 :: .ref h5 :: .ref h6 :: .ref h7 :: .int 0 :: .ref h8 :: .ref h9 :: .int 0 :: .ref h10 :: .ref h11 :: .ref h12 :: .int 0 :: .int (-1) :: .int 0 :: .ref h1 :: .int 0 :: .ref h13 :: .int 0 :: .int 0 :: .ref h1 :: .int 0 :: .int 76 :: .int 0 :: .int 0 :: .ref h14 :: .ref h15 :: .ref h16 :: .ref h17 :: .int 0 :: .null :: .int 0 :: .int 0 :: .int 0 :: .ref h18 :: .int 0 :: .int (-1) :: .int 0 :: .ref h19 :: .int 0 :: .ref h20 :: .ref h21 :: .int 0 :: .ref h22 :: .ref h23 :: .ref h24 :: .ref h25 :: .int 0 :: .int 0 :: .int 0 :: .ref h26 :: .int 0 :: .int 0 :: .ref h27 :: .ref h28 :: .ref h29 :: .ref h30 :: .int 0 :: .ref h31 :: .int 0 :: .ref h32 :: .int 0 :: .int 0 :: .ref h33 :: .ref h34 :: .ref h35 :: [])))] H locs) => ?_)
  refine lv_aload_n X.x X.b dX12_begin_15 rfl (lv_at hl 0 rfl) ?_
  refine lv_iconst (v := 0) X.x X.b dX12_begin_16 (by decide +kernel) ?_
  refine gp_X12_155 X hG 0 rfl rfl rfl (Nat.le_of_ble_eq_true rfl) dX12_begin_17 (fun H locs (hG : gG D A s.heap [(h0, .inr (11, (.ref h2 :: .int 0 :: .ref h3 :: .ref h4 :: .ref h5 :: .ref h6 :: .ref h7 :: .int 0 :: .ref h8 :: .ref h9 :: .int 0 :: .ref h10 :: .ref h11 :: .ref h12 :: .int 0 :: .int (-1) :: .int 0 :: .ref h1 :: .int 0 :: .ref h13 :: .int 0 :: .int 0 :: .ref h1 :: .int 0 :: .int 76 :: .int 0 :: .int 0 :: .ref h14 :: .ref h15 :: .ref h16 :: .ref h17 :: .int 0 :: .null :: .int 0 :: .int 0 :: .int 0 :: .ref h18 :: .int 0 :: .int (-1) :: .int 0 :: .ref h19 :: .int 0 :: .ref h20 :: .ref h21 :: .int 0 :: .ref h22 :: .ref h23 :: .ref h24 :: .ref h25 :: .int 0 :: .int 0 :: .int 0 :: .ref h26 :: .int 0 :: .int 0 :: .ref h27 :: .ref h28 :: .ref h29 :: .ref h30 :: .int 0 :: .ref h31 :: .int 0 :: .ref h32 :: .int 0 :: .int 0 :: .ref h33 :: .ref h34 :: .ref h35 :: [])))] H locs) => ?_)
  refine lv_aload_n X.x X.b dX12_begin_20 rfl (lv_at hl 0 rfl) ?_
  refine lv_iconst (v := (-1)) X.x X.b dX12_begin_21 (by decide +kernel) ?_
  refine gp_X12_158 X hG 0 rfl rfl rfl (Nat.le_of_ble_eq_true rfl) dX12_begin_22 (fun H locs (hG : gG D A s.heap [(h0, .inr (11, (.ref h2 :: .int 0 :: .ref h3 :: .ref h4 :: .ref h5 :: .ref h6 :: .ref h7 :: .int 0 :: .ref h8 :: .ref h9 :: .int 0 :: .ref h10 :: .ref h11 :: .ref h12 :: .int 0 :: .int (-1) :: .int 0 :: .ref h1 :: .int 0 :: .ref h13 :: .int 0 :: .int 0 :: .ref h1 :: .int 0 :: .int 76 :: .int 0 :: .int (-1) :: .ref h14 :: .ref h15 :: .ref h16 :: .ref h17 :: .int 0 :: .null :: .int 0 :: .int 0 :: .int 0 :: .ref h18 :: .int 0 :: .int (-1) :: .int 0 :: .ref h19 :: .int 0 :: .ref h20 :: .ref h21 :: .int 0 :: .ref h22 :: .ref h23 :: .ref h24 :: .ref h25 :: .int 0 :: .int 0 :: .int 0 :: .ref h26 :: .int 0 :: .int 0 :: .ref h27 :: .ref h28 :: .ref h29 :: .ref h30 :: .int 0 :: .ref h31 :: .int 0 :: .ref h32 :: .int 0 :: .int 0 :: .ref h33 :: .ref h34 :: .ref h35 :: [])))] H locs) => ?_)
  exact g_vret X hr hlk hG gS0 trivial [0] rfl rfl (Nat.le_of_ble_eq_true rfl) (Nat.le_of_ble_eq_true rfl) dX12_begin_25
set_option maxHeartbeats 4000000 in
set_option maxRecDepth 100000 in
theorem k23_town (l : Launch) (D : va_G) (cT : Nat → ClassId) (h0 h1 h2 h3 h4 h5 h6 h7 h8 h9 h10 h11 h12 h13 h14 h15 h16 h17 h18 h19 h20 h21 h22 h23 h24 h25 h26 h27 h28 h29 h30 h31 h32 h33 h34 h35 : Nat) : gMet l D cT yX12_town cX12_town 7 (some .int) 1 23 0 0 [.ref h0] [(h0, .inr (11, (.ref h1 :: .int 0 :: .ref h2 :: .ref h3 :: .ref h4 :: .ref h5 :: .ref h6 :: .int 0 :: .ref h7 :: .ref h8 :: .int 0 :: .ref h9 :: .ref h10 :: .ref h11 :: .int 0 :: .int (-1) :: .int 0 :: .ref h12 :: .int 0 :: .ref h13 :: .int 0 :: .int 0 :: .null :: .int 0 :: .int 0 :: .int 0 :: .int 0 :: .ref h14 :: .ref h15 :: .ref h16 :: .ref h17 :: .int 0 :: .null :: .int 0 :: .int 0 :: .int 0 :: .ref h18 :: .int 0 :: .int (-1) :: .int 0 :: .ref h19 :: .int 0 :: .ref h20 :: .ref h21 :: .int 0 :: .ref h22 :: .ref h23 :: .ref h24 :: .ref h25 :: .int 0 :: .int 0 :: .int 0 :: .ref h26 :: .int 0 :: .int 0 :: .ref h27 :: .ref h28 :: .ref h29 :: .ref h30 :: .int 0 :: .ref h31 :: .int 0 :: .ref h32 :: .int 0 :: .int 0 :: .ref h33 :: .ref h34 :: .ref h35 :: [])))] gE0 (gQi D cT (fun (r : Int32) (u : gS) => r = 0) (fun u : gS => [(h0, .inr (11, (.ref h1 :: .int 0 :: .ref h2 :: .ref h3 :: .ref h4 :: .ref h5 :: .ref h6 :: .int 0 :: .ref h7 :: .ref h8 :: .int 0 :: .ref h9 :: .ref h10 :: .ref h11 :: .int 0 :: .int (-1) :: .int 0 :: .ref h12 :: .int 0 :: .ref h13 :: .int 0 :: .int 0 :: .ref h12 :: .int 0 :: .int 76 :: .int 0 :: .int (-1) :: .ref h14 :: .ref h15 :: .ref h16 :: .ref h17 :: .int 0 :: .null :: .int 0 :: .int 0 :: .int 0 :: .ref h18 :: .int 0 :: .int (-1) :: .int 0 :: .ref h19 :: .int 0 :: .ref h20 :: .ref h21 :: .int 0 :: .ref h22 :: .ref h23 :: .ref h24 :: .ref h25 :: .int 0 :: .int 0 :: .int 0 :: .ref h26 :: .int 0 :: .int 0 :: .ref h27 :: .ref h28 :: .ref h29 :: .ref h30 :: .int 0 :: .ref h31 :: .int 0 :: .ref h32 :: .int 0 :: .int 0 :: .ref h33 :: .ref h34 :: .ref h35 :: [])))])) := by
  refine gMet.of "StorksLetModel" rfl (by decide +kernel) (Nat.le_of_ble_eq_true rfl) [(0, .ref h0)] rfl ?_
  intro p e s m below meth c A ls X hr hlk hnm hA hG hE hl
  refine lv_aload_n X.x X.b dX12_town_0 rfl (lv_at hl 0 rfl) ?_
  refine lv_iconst (v := 0) X.x X.b dX12_town_1 (by decide +kernel) ?_
  refine gp_X12_124 X hG 0 rfl rfl rfl (Nat.le_of_ble_eq_true rfl) dX12_town_2 (fun H locs (hG : gG D A s.heap [(h0, .inr (11, (.ref h1 :: .int 0 :: .ref h2 :: .ref h3 :: .ref h4 :: .ref h5 :: .ref h6 :: .int 0 :: .ref h7 :: .ref h8 :: .int 0 :: .ref h9 :: .ref h10 :: .ref h11 :: .int 0 :: .int (-1) :: .int 0 :: .ref h12 :: .int 0 :: .ref h13 :: .int 0 :: .int 0 :: .null :: .int 0 :: .int 0 :: .int 0 :: .int 0 :: .ref h14 :: .ref h15 :: .ref h16 :: .ref h17 :: .int 0 :: .null :: .int 0 :: .int 0 :: .int 0 :: .ref h18 :: .int 0 :: .int (-1) :: .int 0 :: .ref h19 :: .int 0 :: .ref h20 :: .ref h21 :: .int 0 :: .ref h22 :: .ref h23 :: .ref h24 :: .ref h25 :: .int 0 :: .int 0 :: .int 0 :: .ref h26 :: .int 0 :: .int 0 :: .ref h27 :: .ref h28 :: .ref h29 :: .ref h30 :: .int 0 :: .ref h31 :: .int 0 :: .ref h32 :: .int 0 :: .int 0 :: .ref h33 :: .ref h34 :: .ref h35 :: [])))] H locs) => ?_)
  refine lv_aload_n X.x X.b dX12_town_5 rfl (lv_at hl 0 rfl) ?_
  refine lv_aload_n X.x X.b dX12_town_6 rfl (lv_at hl 0 rfl) ?_
  refine gg_X12_47 X hG 0 rfl rfl dX12_town_7 ?_
  refine lv_aload_n X.x X.b dX12_town_10 rfl (lv_at hl 0 rfl) ?_
  refine gg_X12_143 X hG 0 rfl rfl dX12_town_11 ?_
  refine lv_bipush (v := 76) X.x X.b dX12_town_14 (by decide +kernel) ?_
  refine g_kv (g_rV (As := [.ref h12, .int 0, .int 76]) (rest := []) X hl hG (k22_begin l D cT h0 h12 h1 h2 h3 h4 h5 h6 h7 h8 h9 h10 h11 h13 h14 h15 h16 h17 h18 h19 h20 h21 h22 h23 h24 h25 h26 h27 h28 h29 h30 h31 h32 h33 h34 h35) gw_X12_177 g_E01 g_E02 [0] rfl rfl 0 rfl rfl rfl rfl rfl (Nat.le_of_ble_eq_true rfl) ⟨(Nat.le_of_ble_eq_true rfl), (Nat.le_of_ble_eq_true rfl)⟩ ⟨(Nat.le_of_ble_eq_true rfl), (Nat.le_of_ble_eq_true rfl)⟩ dX12_town_16) hG hA [0] [] rfl rfl rfl rfl (c1 := 0) (s1 := 0) rfl rfl (fun u_1 H locs hu_1 (hG : gG D A s.heap [(h0, .inr (11, (.ref h1 :: .int 0 :: .ref h2 :: .ref h3 :: .ref h4 :: .ref h5 :: .ref h6 :: .int 0 :: .ref h7 :: .ref h8 :: .int 0 :: .ref h9 :: .ref h10 :: .ref h11 :: .int 0 :: .int (-1) :: .int 0 :: .ref h12 :: .int 0 :: .ref h13 :: .int 0 :: .int 0 :: .ref h12 :: .int 0 :: .int 76 :: .int 0 :: .int (-1) :: .ref h14 :: .ref h15 :: .ref h16 :: .ref h17 :: .int 0 :: .null :: .int 0 :: .int 0 :: .int 0 :: .ref h18 :: .int 0 :: .int (-1) :: .int 0 :: .ref h19 :: .int 0 :: .ref h20 :: .ref h21 :: .int 0 :: .ref h22 :: .ref h23 :: .ref h24 :: .ref h25 :: .int 0 :: .int 0 :: .int 0 :: .ref h26 :: .int 0 :: .int 0 :: .ref h27 :: .ref h28 :: .ref h29 :: .ref h30 :: .int 0 :: .ref h31 :: .int 0 :: .ref h32 :: .int 0 :: .int 0 :: .ref h33 :: .ref h34 :: .ref h35 :: [])))] H locs) => ?_)
  refine lv_aload_n X.x X.b dX12_town_19 rfl (lv_at hl 0 rfl) ?_
  refine lv_iconst (v := 0) X.x X.b dX12_town_20 (by decide +kernel) ?_
  refine gp_X12_143 X hG 0 rfl rfl rfl (Nat.le_of_ble_eq_true rfl) dX12_town_21 (fun H locs (hG : gG D A s.heap [(h0, .inr (11, (.ref h1 :: .int 0 :: .ref h2 :: .ref h3 :: .ref h4 :: .ref h5 :: .ref h6 :: .int 0 :: .ref h7 :: .ref h8 :: .int 0 :: .ref h9 :: .ref h10 :: .ref h11 :: .int 0 :: .int (-1) :: .int 0 :: .ref h12 :: .int 0 :: .ref h13 :: .int 0 :: .int 0 :: .ref h12 :: .int 0 :: .int 76 :: .int 0 :: .int (-1) :: .ref h14 :: .ref h15 :: .ref h16 :: .ref h17 :: .int 0 :: .null :: .int 0 :: .int 0 :: .int 0 :: .ref h18 :: .int 0 :: .int (-1) :: .int 0 :: .ref h19 :: .int 0 :: .ref h20 :: .ref h21 :: .int 0 :: .ref h22 :: .ref h23 :: .ref h24 :: .ref h25 :: .int 0 :: .int 0 :: .int 0 :: .ref h26 :: .int 0 :: .int 0 :: .ref h27 :: .ref h28 :: .ref h29 :: .ref h30 :: .int 0 :: .ref h31 :: .int 0 :: .ref h32 :: .int 0 :: .int 0 :: .ref h33 :: .ref h34 :: .ref h35 :: [])))] H locs) => ?_)
  refine lv_aload_n X.x X.b dX12_town_24 rfl (lv_at hl 0 rfl) ?_
  refine gg_X12_149 X hG 0 rfl rfl dX12_town_25 ?_
  refine b_if_ne_f (tgt := 33) X.x X.b dX12_town_28 (by decide) (by decide +kernel) ?_
  refine lv_iconst (v := 0) X.x X.b dX12_town_31 (by decide +kernel) ?_
  exact g_iret X hr hlk hG rfl gS0 rfl [0] rfl rfl (Nat.le_of_ble_eq_true rfl) (Nat.le_of_ble_eq_true rfl) dX12_town_32
set_option maxHeartbeats 4000000 in
set_option maxRecDepth 100000 in
theorem k24_reset (l : Launch) (D : va_G) (cT : Nat → ClassId) (h0 h1 h2 h3 : Nat) : gMet l D cT yX3_reset cX3_reset 1 none 0 0 0 0 [.ref h0] [(h0, .inr (2, [.ref h1, .ref h2, .ref h3, .int 0, .int 0, .int 0, .int 0, .int 0, .int 1, .int 0, .int 0]))] gE0 (gQv D cT (fun _ : gS => True) (fun u : gS => [(h0, .inr (2, [.ref h1, .ref h2, .ref h3, .int 0, .int 0, .int 0, .int 0, .int 0, .int 1, .int 0, .int 0]))])) := by
  refine gMet.of "StorksLet$Rule" rfl (by decide +kernel) (Nat.le_of_ble_eq_true rfl) [(0, .ref h0)] rfl ?_
  intro p e s m below meth c A ls X hr hlk hnm hA hG hE hl
  refine lv_aload_n X.x X.b dX3_reset_0 rfl (lv_at hl 0 rfl) ?_
  refine lv_iconst (v := 0) X.x X.b dX3_reset_1 (by decide +kernel) ?_
  refine gp_X3_21 X hG 0 rfl rfl rfl (Nat.le_of_ble_eq_true rfl) dX3_reset_2 (fun H locs (hG : gG D A s.heap [(h0, .inr (2, [.ref h1, .ref h2, .ref h3, .int 0, .int 0, .int 0, .int 0, .int 0, .int 1, .int 0, .int 0]))] H locs) => ?_)
  refine lv_aload_n X.x X.b dX3_reset_5 rfl (lv_at hl 0 rfl) ?_
  refine lv_iconst (v := 0) X.x X.b dX3_reset_6 (by decide +kernel) ?_
  refine gp_X3_25 X hG 0 rfl rfl rfl (Nat.le_of_ble_eq_true rfl) dX3_reset_7 (fun H locs (hG : gG D A s.heap [(h0, .inr (2, [.ref h1, .ref h2, .ref h3, .int 0, .int 0, .int 0, .int 0, .int 0, .int 1, .int 0, .int 0]))] H locs) => ?_)
  refine lv_aload_n X.x X.b dX3_reset_10 rfl (lv_at hl 0 rfl) ?_
  refine lv_iconst (v := 0) X.x X.b dX3_reset_11 (by decide +kernel) ?_
  refine gp_X3_28 X hG 0 rfl rfl rfl (Nat.le_of_ble_eq_true rfl) dX3_reset_12 (fun H locs (hG : gG D A s.heap [(h0, .inr (2, [.ref h1, .ref h2, .ref h3, .int 0, .int 0, .int 0, .int 0, .int 0, .int 1, .int 0, .int 0]))] H locs) => ?_)
  refine lv_aload_n X.x X.b dX3_reset_15 rfl (lv_at hl 0 rfl) ?_
  refine lv_iconst (v := 0) X.x X.b dX3_reset_16 (by decide +kernel) ?_
  refine gp_X3_31 X hG 0 rfl rfl rfl (Nat.le_of_ble_eq_true rfl) dX3_reset_17 (fun H locs (hG : gG D A s.heap [(h0, .inr (2, [.ref h1, .ref h2, .ref h3, .int 0, .int 0, .int 0, .int 0, .int 0, .int 1, .int 0, .int 0]))] H locs) => ?_)
  refine lv_aload_n X.x X.b dX3_reset_20 rfl (lv_at hl 0 rfl) ?_
  refine lv_iconst (v := 0) X.x X.b dX3_reset_21 (by decide +kernel) ?_
  refine gp_X3_34 X hG 0 rfl rfl rfl (Nat.le_of_ble_eq_true rfl) dX3_reset_22 (fun H locs (hG : gG D A s.heap [(h0, .inr (2, [.ref h1, .ref h2, .ref h3, .int 0, .int 0, .int 0, .int 0, .int 0, .int 1, .int 0, .int 0]))] H locs) => ?_)
  refine lv_aload_n X.x X.b dX3_reset_25 rfl (lv_at hl 0 rfl) ?_
  refine lv_iconst (v := 1) X.x X.b dX3_reset_26 (by decide +kernel) ?_
  refine gp_X3_37 X hG 0 rfl (by decide +kernel) rfl (Nat.le_of_ble_eq_true rfl) dX3_reset_27 (fun H locs (hG : gG D A s.heap [(h0, .inr (2, [.ref h1, .ref h2, .ref h3, .int 0, .int 0, .int 0, .int 0, .int 0, .int 1, .int 0, .int 0]))] H locs) => ?_)
  refine lv_aload_n X.x X.b dX3_reset_30 rfl (lv_at hl 0 rfl) ?_
  refine lv_iconst (v := 0) X.x X.b dX3_reset_31 (by decide +kernel) ?_
  refine gp_X3_41 X hG 0 rfl (by decide +kernel) rfl (Nat.le_of_ble_eq_true rfl) dX3_reset_32 (fun H locs (hG : gG D A s.heap [(h0, .inr (2, [.ref h1, .ref h2, .ref h3, .int 0, .int 0, .int 0, .int 0, .int 0, .int 1, .int 0, .int 0]))] H locs) => ?_)
  refine lv_aload_n X.x X.b dX3_reset_35 rfl (lv_at hl 0 rfl) ?_
  refine lv_iconst (v := 0) X.x X.b dX3_reset_36 (by decide +kernel) ?_
  refine gp_X3_44 X hG 0 rfl (by decide +kernel) rfl (Nat.le_of_ble_eq_true rfl) dX3_reset_37 (fun H locs (hG : gG D A s.heap [(h0, .inr (2, [.ref h1, .ref h2, .ref h3, .int 0, .int 0, .int 0, .int 0, .int 0, .int 1, .int 0, .int 0]))] H locs) => ?_)
  exact g_vret X hr hlk hG gS0 trivial [0] rfl rfl (Nat.le_of_ble_eq_true rfl) (Nat.le_of_ble_eq_true rfl) dX3_reset_40
set_option maxHeartbeats 4000000 in
set_option maxRecDepth 100000 in
theorem k25_open (l : Launch) (D : va_G) (cT : Nat → ClassId) (h0 h1 : Nat) : gMet l D cT yX6_open cX6_open 2 none 1 14 0 0 [.ref h0, .int 40] [(h0, .inr (5, [.ref h1, .int 0, .int 0, .int 0]))] gE0 (gQv D cT (fun _ : gS => True) (fun u : gS => [(h0, .inr (5, [.ref h1, .int 0, .int 0, .int 0]))])) := by
  refine gMet.of "StorksLet$Signs" rfl (by decide +kernel) (Nat.le_of_ble_eq_true rfl) [(0, .ref h0), (1, .int 40)] rfl ?_
  intro p e s m below meth c A ls X hr hlk hnm hA hG hE hl
  refine lv_aload_n X.x X.b dX6_open_0 rfl (lv_at hl 0 rfl) ?_
  refine lv_iconst (v := 0) X.x X.b dX6_open_1 (by decide +kernel) ?_
  refine gp_X6_19 X hG 0 rfl rfl rfl (Nat.le_of_ble_eq_true rfl) dX6_open_2 (fun H locs (hG : gG D A s.heap [(h0, .inr (5, [.ref h1, .int 0, .int 0, .int 0]))] H locs) => ?_)
  refine lv_aload_n X.x X.b dX6_open_5 rfl (lv_at hl 0 rfl) ?_
  refine lv_aload_n X.x X.b dX6_open_6 rfl (lv_at hl 0 rfl) ?_
  refine gg_X6_15 X hG 0 rfl rfl dX6_open_7 ?_
  refine lv_iload_n X.x X.b dX6_open_10 rfl (lv_at hl 1 rfl) ?_
  refine va_mmin X.x X.b (by rw [X.ml]; exact hl.1.symm) X.o (X.t _ m_505) (X.t _ m_506) (X.t _ m_80) (X.t _ m_507) (Nat.le_of_ble_eq_true rfl) (Nat.le_of_ble_eq_true rfl) (Nat.le_of_ble_eq_true rfl) (Nat.le_of_ble_eq_true rfl) dX6_open_11 ?_
  refine g_top (v' := 0) (by decide +kernel) ?_
  refine gp_X6_22 X hG 0 rfl rfl rfl (Nat.le_of_ble_eq_true rfl) dX6_open_14 (fun H locs (hG : gG D A s.heap [(h0, .inr (5, [.ref h1, .int 0, .int 0, .int 0]))] H locs) => ?_)
  exact g_vret X hr hlk hG gS0 trivial [0] rfl rfl (Nat.le_of_ble_eq_true rfl) (Nat.le_of_ble_eq_true rfl) dX6_open_17
set_option maxHeartbeats 4000000 in
set_option maxRecDepth 100000 in
theorem k26_read (l : Launch) (D : va_G) (cT : Nat → ClassId) (h0 h1 h2 h3 h4 h5 : Nat) : gMet l D cT yX3_read cX3_read 3 (some .int) 2 35 0 0 [.ref h0, .ref h1] [(h0, .inr (2, [.ref h2, .ref h3, .ref h4, .int 0, .int 0, .int 0, .int 0, .int 0, .int 1, .int 0, .int 0])), (h1, .inr (5, [.ref h5, .int 0, .int 0, .int 0]))] gE0 (gQi D cT (fun (r : Int32) (u : gS) => r = (-1)) (fun u : gS => [(h0, .inr (2, [.ref h2, .ref h3, .ref h4, .int 0, .int 0, .int 0, .int 0, .int 0, .int 1, .int 0, .int 0])), (h1, .inr (5, [.ref h5, .int 0, .int 0, .int 0]))])) := by
  refine gMet.of "StorksLet$Rule" rfl (by decide +kernel) (Nat.le_of_ble_eq_true rfl) [(0, .ref h0), (1, .ref h1)] rfl ?_
  intro p e s m below meth c A ls X hr hlk hnm hA hG hE hl
  refine lv_aload_n X.x X.b dX3_read_0 rfl (lv_at hl 0 rfl) ?_
  refine g_kv (g_rV (As := []) (rest := []) X hl hG (k24_reset l D cT h0 h2 h3 h4) gw_X3_47 g_E01 g_E02 [0] rfl rfl 0 rfl rfl rfl rfl rfl (Nat.le_of_ble_eq_true rfl) ⟨(Nat.le_of_ble_eq_true rfl), (Nat.le_of_ble_eq_true rfl)⟩ ⟨(Nat.le_of_ble_eq_true rfl), (Nat.le_of_ble_eq_true rfl)⟩ dX3_read_1) hG hA [0] [1] rfl rfl rfl rfl (c1 := 0) (s1 := 0) rfl rfl (fun u_1 H locs hu_1 (hG : gG D A s.heap [(h1, .inr (5, [.ref h5, .int 0, .int 0, .int 0])), (h0, .inr (2, [.ref h2, .ref h3, .ref h4, .int 0, .int 0, .int 0, .int 0, .int 0, .int 1, .int 0, .int 0]))] H locs) => ?_)
  refine lv_aload_n X.x X.b dX3_read_4 rfl (lv_at hl 1 rfl) ?_
  refine lv_bipush (v := 40) X.x X.b dX3_read_5 (by decide +kernel) ?_
  refine g_kv (g_rV (As := [.int 40]) (rest := []) X hl hG (k25_open l D cT h1 h5) gw_X3_50 g_E01 g_E02 [0] rfl rfl 0 rfl rfl rfl rfl rfl (Nat.le_of_ble_eq_true rfl) ⟨(Nat.le_of_ble_eq_true rfl), (Nat.le_of_ble_eq_true rfl)⟩ ⟨(Nat.le_of_ble_eq_true rfl), (Nat.le_of_ble_eq_true rfl)⟩ dX3_read_7) hG hA [0] [1] rfl rfl rfl rfl (c1 := 0) (s1 := 0) rfl rfl (fun u_2 H locs hu_2 (hG : gG D A s.heap [(h0, .inr (2, [.ref h2, .ref h3, .ref h4, .int 0, .int 0, .int 0, .int 0, .int 0, .int 1, .int 0, .int 0])), (h1, .inr (5, [.ref h5, .int 0, .int 0, .int 0]))] H locs) => ?_)
  refine lv_aload_n X.x X.b dX3_read_10 rfl (lv_at hl 1 rfl) ?_
  refine gg_X3_56 X hG 1 rfl rfl dX3_read_11 ?_
  refine b_if_ne_f (tgt := 19) X.x X.b dX3_read_14 (by decide) (by decide +kernel) ?_
  refine lv_iconst (v := (-1)) X.x X.b dX3_read_17 (by decide +kernel) ?_
  exact g_iret X hr hlk hG rfl gS0 rfl [0, 1] rfl rfl (Nat.le_of_ble_eq_true rfl) (Nat.le_of_ble_eq_true rfl) dX3_read_18
set_option maxHeartbeats 4000000 in
set_option maxRecDepth 100000 in
theorem k27_spoil (l : Launch) (D : va_G) (cT : Nat → ClassId) (h0 h1 h2 h3 h4 : Nat) : gMet l D cT yX10_spoil cX10_spoil 1 none 0 0 0 0 [.ref h0] [(h0, .inr (9, [.ref h1, .ref h2, .ref h3, .ref h4, .int 0, .int 0]))] gE0 (gQv D cT (fun _ : gS => True) (fun u : gS => [(h0, .inr (9, [.ref h1, .ref h2, .ref h3, .ref h4, .int 0, .int 0]))])) := by
  refine gMet.of "StorksLet$Worths" rfl (by decide +kernel) (Nat.le_of_ble_eq_true rfl) [(0, .ref h0)] rfl ?_
  intro p e s m below meth c A ls X hr hlk hnm hA hG hE hl
  refine lv_aload_n X.x X.b dX10_spoil_0 rfl (lv_at hl 0 rfl) ?_
  refine lv_iconst (v := 0) X.x X.b dX10_spoil_1 (by decide +kernel) ?_
  refine gp_X10_35 X hG 0 rfl (by decide +kernel) rfl (Nat.le_of_ble_eq_true rfl) dX10_spoil_2 (fun H locs (hG : gG D A s.heap [(h0, .inr (9, [.ref h1, .ref h2, .ref h3, .ref h4, .int 0, .int 0]))] H locs) => ?_)
  exact g_vret X hr hlk hG gS0 trivial [0] rfl rfl (Nat.le_of_ble_eq_true rfl) (Nat.le_of_ble_eq_true rfl) dX10_spoil_5

/-! What a method needs of the world beyond its cells: the text of a String constant, words that aren't good ones. -/
def gNw (U : State) : Prop := va_Nw (.methodLinkNest "StorksLet" 9 yX6_init "StorksLet") U ∧ va_Nw (.methodLinkNest "StorksLet" 18 yX2_init "StorksLet") U ∧ va_Nw (.methodLinkNest "StorksLet" 25 yX8_init "StorksLet") U ∧ va_Nw (.methodLinkNest "StorksLet" 38 yX3_init "StorksLet") U ∧ va_Nw (.methodLinkNest "StorksLet" 52 yX9_init "StorksLet") U ∧ va_Nw (.methodLinkNest "StorksLet" 59 yX0_init "StorksLet") U ∧ va_Nw (.methodLinkNest "StorksLet" 74 yX7_init "StorksLet") U ∧ va_Nw (.methodLinkNest "StorksLet" 85 yX5_init "StorksLet") U ∧ va_Nw (.methodLinkNest "StorksLet$Town" 69 yX10_init "StorksLet") U ∧ va_AOA .int U
theorem gNw.step {s U : State} (hW : s.WarmedH U.vm) (h : gNw s) : gNw U :=
  ⟨h.1.warmM hW, h.2.1.warmM hW, h.2.2.1.warmM hW, h.2.2.2.1.warmM hW, h.2.2.2.2.1.warmM hW, h.2.2.2.2.2.1.warmM hW, h.2.2.2.2.2.2.1.warmM hW, h.2.2.2.2.2.2.2.1.warmM hW, h.2.2.2.2.2.2.2.2.1.warmM hW, Jvm.Stand.arrayOver_alikeB hW.alike h.2.2.2.2.2.2.2.2.2⟩
theorem gNw.call {U : State} {g : JFrame} {mk : MethodId} {a : Array Value} (h : gNw U) : gNw (U.calling g mk a) :=
  ⟨h.1.same rfl rfl, h.2.1.same rfl rfl, h.2.2.1.same rfl rfl, h.2.2.2.1.same rfl rfl, h.2.2.2.2.1.same rfl rfl, h.2.2.2.2.2.1.same rfl rfl, h.2.2.2.2.2.2.1.same rfl rfl, h.2.2.2.2.2.2.2.1.same rfl rfl, h.2.2.2.2.2.2.2.2.1.same rfl rfl, Jvm.Stand.arrayOver_alikeB (s := U) (U := U.calling g mk a) (Vm.Alike.refl U.vm) h.2.2.2.2.2.2.2.2.2⟩
def gStr (q t : Nat) (A : Nat → Prop) (U : State) (H : Heap) : Prop := va_OF "java/lang/String" "value" "[B" (.ref t) q A U H ∧ va_OF "java/lang/String" "coder" "B" (.int 0) q A U H ∧ (∃ f : Nat → Value, va_T .byte t 10 f A U H) ∧ va_O "java/lang/String" q A U H ∧ va_Z "java/lang/String" "COMPACT_STRINGS" "Z" (.int 1) A U H
theorem gStr.moved {q t : Nat} {A : Nat → Prop} {u U : State} {H : Heap} (hvm : u.vm.Alike U.vm) (h : gStr q t A u H) : gStr q t A U H :=
  ⟨h.1.moved hvm, h.2.1.moved hvm, h.2.2.1.imp (fun _ z => z.moved hvm), h.2.2.2.1.moved hvm, h.2.2.2.2.moved hvm⟩
theorem gStr.kept {q t : Nat} {A : Nat → Prop} {U : State} {H H1 : Heap} (h : gStr q t A U H) (hq : ∀ a : Nat, a < H.size → ¬ A a → H1[a]? = H[a]?) : gStr q t A U H1 :=
  ⟨h.1.kept hq, h.2.1.kept hq, h.2.2.1.imp (fun _ z => z.kept hq), h.2.2.2.1.kept hq, h.2.2.2.2.kept hq⟩
theorem gStr.narrow {q t : Nat} {A B : Nat → Prop} {U : State} {H : Heap} (h : gStr q t A U H) (hAB : ∀ q, B q → A q) : gStr q t B U H :=
  ⟨h.1.narrow hAB, h.2.1.narrow hAB, h.2.2.1.imp (fun _ z => z.narrow hAB), h.2.2.2.1.narrow hAB, h.2.2.2.2.narrow hAB⟩
def gE (A : Nat → Prop) (U : State) : Prop := gNw U ∧ ∃ q t : Nat, vk_R "StorksLet$Worths" 24 "hsvwrikodf" q U ∧ gStr q t A U U.heap
theorem gE1 : ∀ (A1 : Nat → Prop) (U : State) (g : JFrame) (mk : MethodId) (a : Array Value), gE A1 U → gE A1 (U.calling g mk a) := by
  intro A1 U g mk a ⟨h1, q, t, h2, h3⟩
  exact ⟨h1.call, q, t, h2.same rfl, h3.moved (u := U) (U := U.calling g mk a) (Vm.Alike.refl U.vm)⟩
theorem gE2 {A B : Nat → Prop} {s U : State} {H : Heap} {locs : List Loc} (h : gE A s) (hBA : ∀ q, B q → A q) (hS : va_S A s.heap H locs) (hU : U.heap = H) (hW : s.WarmedH U.vm) : gE B U := by
  obtain ⟨h1, q, t, h2, h3⟩ := h
  refine ⟨h1.step hW, q, t, h2.warm hW, ?_⟩
  rw [hU]
  exact ((h3.kept hS.2.1).narrow hBA).moved hW.alike
theorem gE3 {A B : Nat → Prop} {s U : State} {H : Heap} {locs : List Loc} {q t : Nat} (h : gStr q t A s s.heap) (hBA : ∀ q, B q → A q) (hS : va_S A s.heap H locs) (hU : U.heap = H) (hW : s.WarmedH U.vm) : gStr q t B U U.heap := by
  rw [hU]
  exact ((h.kept hS.2.1).narrow hBA).moved hW.alike
theorem gE4 (q t : Nat) : ∀ (A1 : Nat → Prop) (U : State) (g : JFrame) (mk : MethodId) (a : Array Value), (fun A U => gStr q t A U U.heap) A1 U → (fun A U => gStr q t A U U.heap) A1 (U.calling g mk a) := by
  intro A1 U g mk a h
  exact h.moved (u := U) (U := U.calling g mk a) (Vm.Alike.refl U.vm)
section GX2
variable {p : Program} {l : Launch} {e : Env} {R : Room} {s : State} {m : MethodId} {args : Array Value} {below : List Frame} {meth : Method} {c : Code} {H H0 : Heap} {locs : List Loc} {cells slots : Nat} {Q : State → Prop}
variable {lv0 : List (Nat × Value)} {cc : ByteArray} {nL pc : Nat} {ls : Array Slot} {rest : List Value} {D : va_G} {A : Nat → Prop} {ws : va_W} {cT : Nat → ClassId} {own : String} {a : Nat}
variable {y : MethodName} {bytes : ByteArray} {maxL F L mc ms n index : Nat} {ret : Option FieldType} {av As st0 : List Value} {wc : va_W} {E : (Nat → Prop) → State → Prop} {Qf : (Nat → Prop) → Array Value → State → Outcome → State → Prop} {b : Nat}
/-- a call of a method of an object that is none of the world's cells -/
theorem g_rO (X : gX p m c cc nL s args own D cT) (hl : lv_has ls nL lv0) (hG : gG D A H0 ws H locs) {C : String} (hM : gMet l D cT y bytes maxL ret F L mc ms (.ref b :: As) wc E Qf) (hw : gWV own C index y bytes maxL n ret) (hE1 : ∀ (A1 : Nat → Prop) (U : State) (g : JFrame) (mk : MethodId) (a : Array Value), E A1 U → E A1 (U.calling g mk a)) (hE2 : ∀ U : State, U.heap = H → s.WarmedH U.vm → E (va_A wc H.size) U) (is : List Nat) (hnd : va_nd is = true) (hsub : is.map (fun i => ws[i]?) = wc.map some) (hrec : ∃ cell : Cell, H[b]? = some cell ∧ cell.vm.isStatics = false ∧ s.vm.findClass C = some cell.cls) (hn : As.length = n) (hst : st0 = As.reverse ++ .ref b :: rest) (hcat : (rest.map fun v => v.category).sum ≤ 8)
    (hR : F + 1 ≤ R.frames ∧ 8 + (maxL + 11) + L ≤ R.locals) (hf : cells + mc ≤ R.cells ∧ slots + ms ≤ R.slots) (hdg : decode cc pc = .ok (.invokevirtual index, 3)) :
    va_Run p l e R s m args below meth c H locs cells slots mc ms (F0 m pc ls st0) rest (Qf (va_A wc H.size) (Value.ref b :: As).toArray) (va_A wc H.size) := by
  obtain ⟨h1, h2⟩ := g_pre (av := .ref b :: As) X hG is hnd hsub hE1 hE2
  exact va_runV (As := As) (rest := rest) X.fix (hM H.size) (cwV n X.t (gGood hw.1.1 (gGood hw.1.2.1 (gGood hw.1.2.2.1 (gGood hw.1.2.2.2.1 (gGood hw.1.2.2.2.2 gT_good))))) rfl rfl rfl ⟨hw.2.1, (gC_spec hw.2.2)⟩ hR) ⟨h1, hrec, h2⟩ rfl hn hl.1 hst (lv_room hcat) hdg hf
theorem g_tyA {cA : ClassId} {t0 : Nat} {tys : List (ClassId × FieldType)} (hK : va_K D vwCl tys s) (ht : tys[t0]? = some (cA, .array .int)) : s.vm.findClass ("[" ++ (FieldType.array .int).toString) = some cA := (hK.2 t0 _ ht).2
theorem g_mna (X : gX p m c cc nL s args own D cT) (hG : gG D A H0 ws H locs) (hA : ∀ q, H0.size ≤ q → A q) (hclink : Cond.classLink own index "[[I" ∈ gT) (hover : va_AOA .int s) (hw : Cond.arrayClass .int ∈ gT) {n k : Int32} {N' K' : Nat} (hn : ¬ n < 0) (hk : ¬ k < 0) (hN : n.toNatClampNeg = N') (hM : k.toNatClampNeg = K') (hb1 : N' * 4 ≤ 536870912) (hb2 : K' * 4 ≤ 536870912) {c1 s1 : Nat} (hc1 : cells + 1 + N' = c1) (hs1 : slots + N' + N' * K' = s1) (hcR : c1 ≤ R.cells) (hsR : s1 ≤ R.slots) (hdg : decode cc pc = .ok (.multianewarray index 2, 4))
    (kk : ∀ (q : Nat) (r : Nat → Nat) (H1 : Heap), gG D A H0 ((ws ++ [(q, .inl (cT 4, N', .inr (.inr (.inr (.inr (fun i => if i < N' then some (r i) else none))))))]) ++ (List.range N').map (fun i => (r i, .inl (cT 0, K', .inl (fun _ => 0))))) H1 locs → W p l e R s m args below meth c H1 locs c1 s1 Q (F0 m (pc + 4) ls (.ref q :: rest))) : W p l e R s m args below meth c H locs cells slots Q (F0 m pc ls (.int k :: .int n :: rest)) := by
  subst hc1; subst hs1
  have hI : s.vm.findClass (FieldType.array .int).toString = some (cT 0) := g_tyu (t0 := 0) X.K rfl rfl
  have e0 : ws ++ va_pl [] (fun _ => (.inr (0, []) : va_E)) = ws := by simp [va_pl]
  refine va_mna (X := ws) (L := []) (f := fun _ => .inr (0, [])) (ty := .int) (z := (K', .inl (fun _ => 0))) X.x X.b X.o (X.t _ hclink) hover (X.t _ hw) hI X.K (by rw [e0]; exact hG.1) (by rw [e0]; exact hG.2.1) hG.2.2 hA hn hk hN hM hb1 hb2 (by omega) rfl rfl (by omega) (by omega) (fun c9 => ?_) hdg (fun q r cA H1 _ _ hK2 hP2 hD2 hS2 => ?_)
  · show ({ cls := c9, slots := Array.replicate K' (.int 0), vm := .none } : Cell) = vp_cell c9 (K', .inl (fun _ => 0))
    rw [vp_cell_i, arrV_new]
  · have e1 := g_tyA (t0 := 4) X.K rfl
    have e2 := g_tyA (t0 := 6) hK2 rfl
    have e3 : cA = cT 4 := Option.some.inj (e2.symm.trans e1)
    subst e3
    have e4 : va_pl ([] ++ (List.range N').map r) (vr_up (fun _ => (.inr (0, []) : va_E)) ((List.range N').map r) (.inl (cT 0, K', .inl (fun _ => 0)))) = (List.range N').map (fun i => (r i, (.inl (cT 0, K', .inl (fun _ => 0)) : va_E))) := by
      rw [← vr_rows (fun a _ h => by cases h)]
      simp [va_pl, List.map_map]
    rw [e4] at hP2 hD2
    exact kk q r H1 ⟨hP2, hD2, hS2⟩
end GX2
set_option maxHeartbeats 4000000 in
set_option maxRecDepth 100000 in
theorem kS_coder (l : Launch) (D : va_G) (cT : Nat → ClassId) (q t : Nat) : gMet l D cT yJ0_coder_7d493 cJ0_coder_7d493 1 (some .byte) 0 0 0 0 [.ref q] [] (fun A U => gStr q t A U U.heap) (gQi D cT (fun (r : Int32) (u : gS) => r = 0) (fun u : gS => [])) := by
  refine gMet.of "java/lang/String" rfl (by decide +kernel) (Nat.le_of_ble_eq_true rfl) [(0, .ref q)] rfl ?_
  intro p e s m below meth c A ls X hr hlk hnm hA hG hE hl
  obtain ⟨hv9, hc9, ⟨f9, hT9⟩, ho9, hZ9⟩ := hE
  refine va_gets X.x X.b hZ9 hG.2.2 X.o (X.t _ m_173) (fun _ h => h) dJ0_coder_7d493_0 ?_
  refine b_if_eq_f (tgt := 13) X.x X.b dJ0_coder_7d493_3 (by decide) (by decide +kernel) ?_
  refine lv_aload_n X.x X.b dJ0_coder_7d493_6 rfl (lv_at hl 0 rfl) ?_
  refine vk_getf X.x X.b hc9 hG.2.2 X.o (X.t _ m_2100) (fun _ h => h) dJ0_coder_7d493_7 ?_
  refine lv_goto (tgt := 14) X.x X.b dJ0_coder_7d493_10 (by decide) ?_
  exact g_iret X hr hlk hG rfl gS0 rfl [] rfl rfl (Nat.le_of_ble_eq_true rfl) (Nat.le_of_ble_eq_true rfl) dJ0_coder_7d493_14
set_option maxHeartbeats 4000000 in
set_option maxRecDepth 100000 in
theorem kS_length (l : Launch) (D : va_G) (cT : Nat → ClassId) (q t : Nat) : gMet l D cT yJ0_length_8abf5 cJ0_length_8abf5 1 (some .int) 1 20 0 0 [.ref q] [] (fun A U => gStr q t A U U.heap) (gQi D cT (fun (r : Int32) (u : gS) => r = 10) (fun u : gS => [])) := by
  refine gMet.of "java/lang/String" rfl (by decide +kernel) (Nat.le_of_ble_eq_true rfl) [(0, .ref q)] rfl ?_
  intro p e s m below meth c A ls X hr hlk hnm hA hG hE hl
  obtain ⟨hv9, hc9, ⟨f9, hT9⟩, ho9, hZ9⟩ := id hE
  refine lv_aload_n X.x X.b dJ0_length_8abf5_0 rfl (lv_at hl 0 rfl) ?_
  refine vk_getf X.x X.b hv9 hG.2.2 X.o (X.t _ m_2099) (fun _ h => h) dJ0_length_8abf5_1 ?_
  refine va_tlen X.x X.b hT9 hG.2.2 (v := 10) rfl dJ0_length_8abf5_4 ?_
  refine lv_aload_n X.x X.b dJ0_length_8abf5_5 rfl (lv_at hl 0 rfl) ?_
  refine g_ki (g_rO (As := []) (rest := [.int 10]) X hl hG (kS_coder l D cT q t) gw_S_335 (gE4 q t) (fun U hU hW => gE3 hE (va_free hG.2.1 hG.2.2 hA [] rfl) hG.2.2 hU hW) [] rfl rfl (va_Orecv ho9 hG.2.2) rfl rfl (Nat.le_of_ble_eq_true rfl) ⟨(Nat.le_of_ble_eq_true rfl), (Nat.le_of_ble_eq_true rfl)⟩ ⟨(Nat.le_of_ble_eq_true rfl), (Nat.le_of_ble_eq_true rfl)⟩ dJ0_length_8abf5_6) hG hA [] [] rfl rfl rfl rfl (c1 := 0) (s1 := 0) rfl rfl (fun r_1 u_1 H locs (hu : r_1 = 0) (hG : gG D A s.heap [] H locs) => ?_)
  have hu := hu.symm
  subst hu
  refine lv_ishr X.x X.b dJ0_length_8abf5_9 ?_
  refine g_top (v' := 10) (by decide +kernel) ?_
  exact g_iret X hr hlk hG rfl gS0 rfl [] rfl rfl (Nat.le_of_ble_eq_true rfl) (Nat.le_of_ble_eq_true rfl) dJ0_length_8abf5_10


theorem xR0 : decode xRx 0 = .ok (.aload_n 0, 1) := by decide +kernel
theorem xR1 : decode xRx 1 = .ok (.aload_n 1, 1) := by decide +kernel
theorem xR2 : decode xRx 2 = .ok (.invokespecial 13, 3) := by decide +kernel
theorem xR5 : decode xRx 5 = .ok (.return_, 1) := by decide +kernel
theorem xAt_before {p : Program} {m : MethodId} {c : Code} {cc : ByteArray} {nL : Nat} {s : State} {args : Array Value} {own : String} {D : va_G} {cT : Nat → ClassId} {A : Nat → Prop} (X : gX p m c cc nL s args own D cT) (hE : gEX A s) : ∀ w ∈ xAt, w.before args s = true :=
  vx_hat (fun w h => X.t w (xAt_good w h)) xAt_bad (vx_c (hE.2.1.1.use rfl) (vx_c (hE.2.1.2.1.use rfl) (vx_c (hE.2.1.2.2.1.use rfl) (vx_c (hE.2.1.2.2.2.use rfl) vx_n))))
def gXC (A : Nat → Prop) : String → State → State → Prop := vx_X (fun _ : Unit => True) (fun E _ _ => E = "java/util/NoSuchElementException") A
def gNo : Array Value → State → Outcome → State → Prop := va_Qi (fun (_ : Int32) (_ : Unit) => False) (fun _ _ => True) (fun _ => True)
def gvMet (l : Launch) (D : va_G) (cT : Nat → ClassId) (y : MethodName) (bytes : ByteArray) (maxL : Nat) (ret : Option FieldType) (F L mc ms : Nat) (av : List Value) (wc : va_W) : Prop :=
  ∀ sz : Nat, vx_Met l y (.code y bytes maxL ret :: gT) { frames := F, cells := mc, slots := ms, locals := L } (gPc D cT av wc gEX sz) (fun a st oc t => va_Qi (fun (_ : Int32) (_ : Unit) => False) (fun _ _ => True) (va_A wc sz) a st oc t) (gXC (va_A wc sz)) mc ms (va_A wc sz)
theorem gvMet.of {l : Launch} {D : va_G} {cT : Nat → ClassId} {y : MethodName} {bytes : ByteArray} {maxL : Nat} {ret : Option FieldType} {F L mc ms : Nat} {av : List Value} {wc : va_W}
    (own : String) (ho : y.cls = own) (hy : plainName own = true) (hlen : (lg_sl av).length ≤ maxL) (lv : List (Nat × Value)) (hlv : lv_args 0 av = lv)
    (body : ∀ (p : Program) (e : Env) (s : State) (m : MethodId) (below : List Frame) (meth : Method) (c : Code) (A : Nat → Prop) (ls : Array Slot) (Qc : Array Value → State → Outcome → State → Prop), gX p m c bytes maxL s av.toArray own D cT → meth.locks = false → (∀ x ∈ c.exceptionTable.toList, False) → (∀ q, s.heap.size ≤ q → A q) → gG D A s.heap wc s.heap [] → gEX A s → lv_has ls maxL lv →
      W p l e { frames := F, cells := mc, slots := ms, locals := L } s m av.toArray below meth c s.heap [] 0 0 (vx_MQ below Qc (gXC A) av.toArray s mc ms A) (F0 m 0 ls [])) : gvMet l D cT y bytes maxL ret F L mc ms av wc := by
  intro sz
  refine vx_ofW (cc := bytes) (maxL := maxL) (ret := ret) (by rw [ho]; exact hy) rfl ?_
  intro p e s m args below meth c s₁ B hml hex hv
  obtain ⟨rfl, hsz, hP, hK, hD0, hE⟩ := hv
  have hts := atoms_spec (ws := .code y bytes maxL ret :: gT) B.pre
  have hown : s.vm.findClass own = some m.cls := ho ▸ findClass_of_methodNamed B.named
  subst hsz
  have hl := lv_entry av (n := maxL) hlen
  rw [lg_entry_eq]
  rw [hlv] at hl
  exact body p e s m below meth c (va_A wc s.heap.size) _ _ ⟨B.exec, B.bytes, hml, hown, fun w h => hts w (List.mem_cons_of_mem _ h), hK⟩ B.notSynchronized hex (fun q h => Or.inr h) ⟨hP, hD0.self, va_S.rf⟩ hE hl
def gWMet (l : Launch) (D : va_G) (cT : Nat → ClassId) (y : MethodName) (bytes : ByteArray) (maxL : Nat) (ret : Option FieldType) (hh : List (Nat × Nat × Nat × Nat)) (F L mc ms : Nat) (av : List Value) (wc : va_W) (Qf : (Nat → Prop) → Array Value → State → Outcome → State → Prop) : Prop :=
  ∀ sz : Nat, Met l y (.codeWith y bytes maxL ret hh :: gT) { frames := F, cells := mc, slots := ms, locals := L } (gPc D cT av wc gEX sz) (Qf (va_A wc sz)) mc ms (va_A wc sz)
theorem gWMet.of {l : Launch} {D : va_G} {cT : Nat → ClassId} {y : MethodName} {bytes : ByteArray} {maxL : Nat} {ret : Option FieldType} {hh : List (Nat × Nat × Nat × Nat)} {F L mc ms : Nat} {av : List Value} {wc : va_W} {Qf : (Nat → Prop) → Array Value → State → Outcome → State → Prop}
    (own : String) (ho : y.cls = own) (hy : plainName own = true) (hlen : (lg_sl av).length ≤ maxL) (lv : List (Nat × Value)) (hlv : lv_args 0 av = lv)
    (body : ∀ (p : Program) (e : Env) (s : State) (m : MethodId) (below : List Frame) (meth : Method) (c : Code) (A : Nat → Prop) (ls : Array Slot), gX p m c bytes maxL s av.toArray own D cT → meth.sig.returnType = ret → meth.locks = false → c.exceptionTable.toList = tableOf hh → (∀ q, s.heap.size ≤ q → A q) → gG D A s.heap wc s.heap [] → gEX A s → lv_has ls maxL lv →
      W p l e { frames := F, cells := mc, slots := ms, locals := L } s m av.toArray below meth c s.heap [] 0 0 (MQ below (Qf A) av.toArray s mc ms A) (F0 m 0 ls [])) : gWMet l D cT y bytes maxL ret hh F L mc ms av wc Qf := by
  intro sz
  refine va_MetW (cc := bytes) (maxL := maxL) (ret := ret) (hh := hh) (by rw [ho]; exact hy) rfl ?_
  intro p e s m args below meth c s₁ B hml hv
  obtain ⟨rfl, hsz, hP, hK, hD0, hE⟩ := hv
  have hts := atoms_spec (ws := .codeWith y bytes maxL ret hh :: gT) B.pre
  have htab := vx_table (x := y) B (hts _ List.mem_cons_self)
  have hown : s.vm.findClass own = some m.cls := ho ▸ findClass_of_methodNamed B.named
  subst hsz
  have hl := lv_entry av (n := maxL) hlen
  rw [lg_entry_eq]
  rw [hlv] at hl
  exact body p e s m below meth c (va_A wc s.heap.size) _ ⟨B.exec, B.bytes, hml, hown, fun w h => hts w (List.mem_cons_of_mem _ h), hK⟩ B.returns B.notSynchronized htab (fun q h => Or.inr h) ⟨hP, hD0.self, va_S.rf⟩ hE hl
section GX3
variable {p : Program} {l : Launch} {e : Env} {R : Room} {s : State} {m : MethodId} {args : Array Value} {below : List Frame} {meth : Method} {c : Code} {H H0 : Heap} {locs : List Loc} {cells slots : Nat} {Q : State → Prop}
variable {lv0 : List (Nat × Value)} {cc : ByteArray} {nL pc : Nat} {ls : Array Slot} {rest : List Value} {D : va_G} {A : Nat → Prop} {ws : va_W} {cT : Nat → ClassId} {own : String} {a : Nat}
variable {y : MethodName} {bytes : ByteArray} {maxL F L mc ms n index : Nat} {ret : Option FieldType} {av As st0 : List Value} {wc : va_W} {Qf : (Nat → Prop) → Array Value → State → Outcome → State → Prop} {b : Nat} {Qc : Array Value → State → Outcome → State → Prop}
theorem g_thr (X : gX p m c cc nL s args "StorksLet" D cT) (hl : lv_has ls nL lv0) (hG : gG D A s.heap ws H locs) (hfl : l.stackTraces = false) (hE : gEX A s) (hex : ∀ x ∈ c.exceptionTable.toList, False) (hlk : meth.locks = false) {is sa : Nat} {text : String} (hstr : vk_R "StorksLet" is text sa s) (d0 : decode cc pc = .ok (.new 155, 3)) (d3 : decode cc (pc + 3) = .ok (.dup, 1)) (d4 : decode cc (pc + 4) = .ok (.ldc is, 2)) (d6 : decode cc (pc + 6) = .ok (.invokespecial 159, 3)) (d9 : decode cc (pc + 9) = .ok (.athrow, 1)) (hF : 5 < R.frames) (hLo : (rest.map fun v => v.category).sum + 82 ≤ R.locals) (hcR : cells + 1 ≤ R.cells) (hsR : slots + 6 ≤ R.slots) (hc : cells + 1 ≤ mc) (hs : slots + 6 ≤ ms) :
    W p l e R s m args below meth c H locs cells slots (vx_MQ below Qc (gXC A) args s mc ms A) (F0 m pc ls rest) :=
  gx_throwS (cls := "java/util/NoSuchElementException") (names := ["java/lang/RuntimeException", "java/lang/Exception"]) X.x X.b hfl xR0 xR1 xR2 xR5 X.o (by decide +kernel) (by decide +kernel) (X.t _ m_1319) (X.t _ m_88) hstr (xAt_before X hE) xAt_ot hE.1.1 hE.1.2 hG.2.2 (by rw [X.ml]; exact hl.1) d0 d3 d4 d6 d9 (fun x h => (hex x h).elim) hF hLo hcR hsR hlk (fun t _ hsz hk => ⟨(), trivial, rfl, Nat.le_trans hG.2.2.1 hsz, fun q hq hA => (hk q (Nat.lt_of_lt_of_le hq hG.2.2.1)).trans (hG.2.2.2.1 q hq hA)⟩) hG.2.2.2.2 hc hs
theorem g_thrW (X : gX p m c cc nL s args "StorksLet" D cT) (hl : lv_has ls nL lv0) (hG : gG D A s.heap ws H locs) (hfl : l.stackTraces = false) (hE : gEX A s) (hex : ∀ x ∈ c.exceptionTable.toList, False) (hlk : meth.locks = false) {is sa : Nat} {text : String} (hstr : vk_R "StorksLet" is text sa s) (d0 : decode cc pc = .ok (.new 155, 3)) (d3 : decode cc (pc + 3) = .ok (.dup, 1)) (d4 : decode cc (pc + 4) = .ok (.ldc_w is, 3)) (d7 : decode cc (pc + 7) = .ok (.invokespecial 159, 3)) (d10 : decode cc (pc + 10) = .ok (.athrow, 1)) (hF : 5 < R.frames) (hLo : (rest.map fun v => v.category).sum + 82 ≤ R.locals) (hcR : cells + 1 ≤ R.cells) (hsR : slots + 6 ≤ R.slots) (hc : cells + 1 ≤ mc) (hs : slots + 6 ≤ ms) :
    W p l e R s m args below meth c H locs cells slots (vx_MQ below Qc (gXC A) args s mc ms A) (F0 m pc ls rest) :=
  gx_throwSW (cls := "java/util/NoSuchElementException") (names := ["java/lang/RuntimeException", "java/lang/Exception"]) X.x X.b hfl xR0 xR1 xR2 xR5 X.o (by decide +kernel) (by decide +kernel) (X.t _ m_1319) (X.t _ m_88) hstr (xAt_before X hE) xAt_ot hE.1.1 hE.1.2 hG.2.2 (by rw [X.ml]; exact hl.1) d0 d3 d4 d7 d10 (fun x h => (hex x h).elim) hF hLo hcR hsR hlk (fun t _ hsz hk => ⟨(), trivial, rfl, Nat.le_trans hG.2.2.1 hsz, fun q hq hA => (hk q (Nat.lt_of_lt_of_le hq hG.2.2.1)).trans (hG.2.2.2.1 q hq hA)⟩) hG.2.2.2.2 hc hs
/-- a call that throws, behind which the handler's frame stands -/
theorem g_cX (X : gX p m c cc nL s args own D cT) (hl : lv_has ls nL lv0) (hG : gG D A s.heap ws H locs) (hA : ∀ q, s.heap.size ≤ q → A q) (hE : gEX A s) {C : String} (hM : gvMet l D cT y bytes maxL ret F L mc ms (.ref b :: As) wc) (hw : gWV own C index y bytes maxL n ret) (is : List Nat) (hnd : va_nd is = true) (hsub : is.map (fun i => ws[i]?) = wc.map some) (q0 : Nat) {ci : Nat} {fs : List Value} (he : ws[q0]? = some (b, .inr (ci, fs))) {rr : vw_C} (hcl : vwCl[ci]? = some rr) (hrr : rr.1 = C) (hn : As.length = n) (hst : st0 = As.reverse ++ .ref b :: rest) (hcat : (rest.map fun v => v.category).sum ≤ 8)
    (hR : F + 1 ≤ R.frames ∧ 8 + (maxL + 11) + L ≤ R.locals) (hf : cells + mc ≤ R.cells ∧ slots + ms ≤ R.slots) (hdg : decode cc pc = .ok (.invokevirtual index, 3)) {c1 s1 : Nat} (hc1 : cells + mc = c1) (hs1 : slots + ms = s1)
    (kx : ∀ (ce : Cell) (q9 : Nat) (H1 : Heap) (locs1 : List Loc), va_S A s.heap H1 locs1 → H1[q9]? = some ce → ce.vm = .none → s.vm.findClass "java/util/NoSuchElementException" = some ce.cls → vx_W p l e R s m args below meth c H1 locs1 c1 s1 Q (F0 m pc ls rest) q9) :
    W p l e R s m args below meth c H locs cells slots Q (F0 m pc ls st0) := by
  subst hc1; subst hs1
  have hfree := va_free hG.2.1 hG.2.2 hA is hsub
  obtain ⟨h1, h2⟩ := g_pre (av := .ref b :: As) X hG is hnd hsub gEX1 (fun U hU hW => gEX2 hE hfree hG.2.2 hU hW)
  obtain ⟨cell, g1, g2, g3⟩ := va_recv X.K hG.1 hcl he
  have hr := vx_runV (p := p) (l := l) (e := e) (R := R) (below := below) (meth := meth) (locs := locs) (cells := cells) (slots := slots) (g := F0 m pc ls st0) (As := As) (rest := rest) X.fix (hM H.size) (cwV n X.t (gGood hw.1.1 (gGood hw.1.2.1 (gGood hw.1.2.2.1 (gGood hw.1.2.2.2.1 (gGood hw.1.2.2.2.2 gT_good))))) rfl rfl rfl ⟨hw.2.1, (gC_spec hw.2.2)⟩ hR) ⟨h1, ⟨cell, g1, g2, hrr ▸ g3⟩, h2⟩ rfl hn hl.1 hst (lv_room hcat) hdg hf
  refine vx_calli hr hG.2.2 (fun q _ h => hfree q h) hfree (fun q _ h => hfree q h) (fun E9 ce q9 u t H1 locs1 ht _ _ hb _ _ hS1 hce hv hcl9 => ?_) (fun r u t H1 locs1 _ _ hp _ _ _ _ => hp.elim)
  subst hb
  exact kx ce q9 H1 locs1 hS1 hce hv hcl9
theorem g_rSW {hh : List (Nat × Nat × Nat × Nat)} (X : gX p m c cc nL s args own D cT) (hl : lv_has ls nL lv0) (hG : gG D A s.heap ws H locs) (hA : ∀ q, s.heap.size ≤ q → A q) (hE : gEX A s) (hM : gWMet l D cT y bytes maxL ret hh F L mc ms As wc Qf) (w1 : Cond.methodLink own index y ∈ gT) (w2 : Cond.static y ∈ gT) (w3 : Cond.initialized y.cls ∈ gT) (w4 : Cond.codeWith y bytes maxL ret hh ∈ gT) (w5 : gC y n = true) (is : List Nat) (hnd : va_nd is = true) (hsub : is.map (fun i => ws[i]?) = wc.map some) (hn : As.length = n) (hst : st0 = As.reverse ++ rest) (hcat : (rest.map fun v => v.category).sum ≤ 8)
    (hR : F + 1 ≤ R.frames ∧ 8 + (maxL + 11) + L ≤ R.locals) (hf : cells + mc ≤ R.cells ∧ slots + ms ≤ R.slots) (hdg : decode cc pc = .ok (.invokestatic index, 3)) :
    va_Run p l e R s m args below meth c H locs cells slots mc ms (F0 m pc ls st0) rest (Qf (va_A wc H.size) As.toArray) (va_A wc H.size) := by
  have hfree := va_free hG.2.1 hG.2.2 hA is hsub
  have h := g_pre (av := As) X hG is hnd hsub gEX1 (fun U hU hW => gEX2 hE hfree hG.2.2 hU hW)
  exact vx_runSW (As := As) (rest := rest) X.fix (hM H.size) (vx_cwSW n X.t (gGood w1 (gGood w2 (gGood w3 (gGood w4 gT_good)))) rfl rfl rfl (gC_spec w5) hR) h rfl hn hl.1 hst (lv_room hcat) hdg hf
end GX3


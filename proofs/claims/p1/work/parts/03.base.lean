/-! The claim's own kit: one list of words for all methods (gT), worlds with fixed array classes (gTY), heap facts in one bundle (gG), rows with few arguments. -/
def gT : List Cond := lw_tbl.filter goodWord
theorem gT_in {w : Cond} {i : Nat} (h : lw_tbl[i]? = some w) (g : goodWord w = true) : w ∈ gT := List.mem_filter.mpr ⟨List.mem_of_getElem? h, g⟩
theorem gT_ws (ws : List Cond) (ps : List Nat) (hp : ws = ps.filterMap (fun i => lw_tbl[i]?)) (h : ws.all goodWord = true) : ∀ w ∈ ws, w ∈ gT := by
  intro w hw
  have h1 := List.all_eq_true.mp h w hw
  rw [hp] at hw
  obtain ⟨i, -, hi⟩ := List.mem_filterMap.mp hw
  exact gT_in hi h1
theorem gT_good : GoodIn gT gT := fun w h => ⟨h, good_of_word (List.mem_filter.mp h).2⟩
def gTY (cT : Nat → ClassId) : List (ClassId × FieldType) := [(cT 0, .int), (cT 1, .char), (cT 2, .byte), (cT 3, .boolean), (cT 4, .array .int), (cT 5, .long)]
def gG (D : va_G) (A : Nat → Prop) (H0 : Heap) (ws : va_W) (H : Heap) (locs : List Loc) : Prop := va_P D vwCl ws H ∧ va_D A ws ∧ va_S A H0 H locs
def gX (p : Program) (m : MethodId) (c : Code) (cc : ByteArray) (nL : Nat) (s : State) (args : Array Value) (own : String) (D : va_G) (cT : Nat → ClassId) : Prop :=
  p.tables.exec = Jvm.exec ∧ c.code = cc ∧ c.maxLocals = nL ∧ s.vm.findClass own = some m.cls ∧ (∀ w ∈ gT, w.before args s = true) ∧ va_K D vwCl (gTY cT) s
def gB {S : Type} (D : va_G) (cT : Nat → ClassId) (A : Nat → Prop) (w1 : S → va_W) : S → State → Prop := fun u t => va_P D vwCl (w1 u) t.heap ∧ va_K D vwCl (gTY cT) t ∧ va_D A (w1 u)
def gQi {S : Type} (D : va_G) (cT : Nat → ClassId) (post : Int32 → S → Prop) (w1 : S → va_W) (A : Nat → Prop) : Array Value → State → Outcome → State → Prop := va_Qi post (gB D cT A w1) A
def gQv {S : Type} (D : va_G) (cT : Nat → ClassId) (post : S → Prop) (w1 : S → va_W) (A : Nat → Prop) : Array Value → State → Outcome → State → Prop := va_Qv post (gB D cT A w1) A
def gQr {S : Type} (D : va_G) (cT : Nat → ClassId) (post : S → Nat → Prop) (w1 : S → va_W) (A : Nat → Prop) : Array Value → State → Outcome → State → Prop := va_Qr (fun _ : S => True) (fun u ra t => post u ra ∧ gB D cT A w1 u t) A
def gPc (D : va_G) (cT : Nat → ClassId) (av : List Value) (wc : va_W) (E : (Nat → Prop) → State → Prop) (sz : Nat) : Array Value → State → Prop := va_Pc av (fun U => U.heap.size = sz ∧ va_P D vwCl wc U.heap ∧ va_K D vwCl (gTY cT) U ∧ va_D (fun _ => True) wc ∧ E (va_A wc sz) U)
abbrev gS : Type := (Nat → Nat) × (Nat → Nat → Int32) × (Nat → Int32) × (Nat → Nat → Option Nat)
def gS0 : gS := ⟨fun _ => 0, fun _ _ => 0, fun _ => 0, fun _ _ => none⟩
/-- a method's contract -/
def gMet (l : Launch) (D : va_G) (cT : Nat → ClassId) (y : MethodName) (bytes : ByteArray) (maxL : Nat) (ret : Option FieldType) (F L mc ms : Nat) (av : List Value) (wc : va_W) (E : (Nat → Prop) → State → Prop) (Qf : (Nat → Prop) → Array Value → State → Outcome → State → Prop) : Prop :=
  ∀ sz : Nat, Met l y (.code y bytes maxL ret :: gT) { frames := F, cells := mc, slots := ms, locals := L } (gPc D cT av wc E sz) (Qf (va_A wc sz)) mc ms (va_A wc sz)
def gE0 : (Nat → Prop) → State → Prop := fun _ _ => True
theorem gMet.of {l : Launch} {D : va_G} {cT : Nat → ClassId} {y : MethodName} {bytes : ByteArray} {maxL : Nat} {ret : Option FieldType} {F L mc ms : Nat} {av : List Value} {wc : va_W} {E : (Nat → Prop) → State → Prop} {Qf : (Nat → Prop) → Array Value → State → Outcome → State → Prop}
    (own : String) (ho : y.cls = own) (hy : plainName own = true) (hlen : (lg_sl av).length ≤ maxL) (lv : List (Nat × Value)) (hlv : lv_args 0 av = lv)
    (body : ∀ (p : Program) (e : Env) (s : State) (m : MethodId) (below : List Frame) (meth : Method) (c : Code) (A : Nat → Prop) (ls : Array Slot), gX p m c bytes maxL s av.toArray own D cT → meth.sig.returnType = ret → meth.locks = false → meth.name = y.name → (∀ q, s.heap.size ≤ q → A q) → gG D A s.heap wc s.heap [] → E A s → lv_has ls maxL lv →
      W p l e { frames := F, cells := mc, slots := ms, locals := L } s m av.toArray below meth c s.heap [] 0 0 (MQ below (Qf A) av.toArray s mc ms A) (F0 m 0 ls [])) : gMet l D cT y bytes maxL ret F L mc ms av wc E Qf := by
  intro sz
  refine Met.ofW (cc := bytes) (maxL := maxL) (ret := ret) (by rw [ho]; exact hy) rfl ?_
  intro p e s m args below meth c s₁ B hml hv
  obtain ⟨rfl, hsz, hP, hK, hD0, hE⟩ := hv
  have hts := atoms_spec (ws := .code y bytes maxL ret :: gT) B.pre
  have hown : s.vm.findClass own = some m.cls := ho ▸ findClass_of_methodNamed B.named
  subst hsz
  have hl := lv_entry av (n := maxL) hlen
  rw [lg_entry_eq]
  rw [hlv] at hl
  exact body p e s m below meth c (va_A wc s.heap.size) _ ⟨B.exec, B.bytes, hml, hown, fun w h => hts w (List.mem_cons_of_mem _ h), hK⟩ B.returns B.notSynchronized (name_of_methodNamed B.named B.method).1 (fun q h => Or.inr h) ⟨hP, hD0.self, va_S.rf⟩ hE hl
section GROWS
variable {p : Program} {l : Launch} {e : Env} {R : Room} {s : State} {m : MethodId} {args : Array Value} {below : List Frame} {meth : Method} {c : Code} {H H0 : Heap} {locs : List Loc} {cells slots : Nat} {Q : State → Prop}
variable {lv0 : List (Nat × Value)} {cc : ByteArray} {nL pc : Nat} {ls : Array Slot} {rest : List Value} {D : va_G} {A : Nat → Prop} {ws : va_W} {cT : Nat → ClassId} {own : String} {a : Nat}
theorem gX.x (X : gX p m c cc nL s args own D cT) : p.tables.exec = Jvm.exec := X.1
theorem gX.b (X : gX p m c cc nL s args own D cT) : c.code = cc := X.2.1
theorem gX.ml (X : gX p m c cc nL s args own D cT) : c.maxLocals = nL := X.2.2.1
theorem gX.o (X : gX p m c cc nL s args own D cT) : s.vm.findClass own = some m.cls := X.2.2.2.1
theorem gX.t (X : gX p m c cc nL s args own D cT) : ∀ w ∈ gT, w.before args s = true := X.2.2.2.2.1
theorem gX.K (X : gX p m c cc nL s args own D cT) : va_K D vwCl (gTY cT) s := X.2.2.2.2.2
theorem gX.fix (X : gX p m c cc nL s args own D cT) : CallFix p m c cc nL s args gT own := ⟨X.1, X.2.1, X.2.2.1, X.2.2.2.1, X.2.2.2.2.1⟩
-- fields
theorem g_get (X : gX p m c cc nL s args own D cT) (hG : gG D A H0 ws H locs) {ref C : String} {T : u_T} {N ci index : Nat} (hin : ∀ w ∈ u_ws C T N, w ∈ gT) (hc : vwCl[ci]? = some (C, T, N)) (k : Nat) (hk : k < N) (hlink : Cond.fieldLink own index ref (T k).2.1 (T k).2.2.1 ∈ gT) (hsame : (T k).1 = ref) (q0 : Nat) {fs : List Value} (he : ws[q0]? = some (a, .inr (ci, fs))) {v : Value} (hv : fs[k]? = some v) (hdg : decode cc pc = .ok (.getfield index, 3))
    (kk : W p l e R s m args below meth c H locs cells slots Q (F0 m (pc + 3) ls (v :: rest))) : W p l e R s m args below meth c H locs cells slots Q (F0 m pc ls (.ref a :: rest)) :=
  va_get X.x X.b X.t hin X.o X.K hG.1 q0 he hc k hk (X.t _ hlink) (fun x h => by rw [← hsame]; exact h) hv hdg kk
theorem g_put (X : gX p m c cc nL s args own D cT) (hG : gG D A H0 ws H locs) {ref C : String} {T : u_T} {N ci index : Nat} (hin : ∀ w ∈ u_ws C T N, w ∈ gT) (ty0 : Nat → FieldType) (hty : ∀ k, k < N → parseFieldDescriptor (T k).2.2.1 = some (ty0 k)) (hnm : ∀ a, a < N → ∀ b, b < N → a ≠ b → (T a).2.1 ≠ (T b).2.1) (hc : vwCl[ci]? = some (C, T, N)) (k : Nat) (hk : k < N) (hlink : Cond.fieldLink own index ref (T k).2.1 (T k).2.2.1 ∈ gT) (hsame : (T k).1 = ref) (hfin : (T k).2.2.2 = false) (q0 : Nat) {fs : List Value} (he : ws[q0]? = some (a, .inr (ci, fs))) {v : Value} (hn : narrow (ty0 k) v = v) (hfit : fits (ty0 k) v = true) (hl : k < fs.length) (hdg : decode cc pc = .ok (.putfield index, 3))
    (kk : ∀ (H1 : Heap) (locs1 : List Loc), gG D A H0 (ws.set q0 (a, .inr (ci, fs.set k v))) H1 locs1 → W p l e R s m args below meth c H1 locs1 cells slots Q (F0 m (pc + 3) ls rest)) : W p l e R s m args below meth c H locs cells slots Q (F0 m pc ls (v :: .ref a :: rest)) :=
  va_put X.x X.b X.t hin ty0 hty hnm X.o X.K hG.1 hG.2.1 hG.2.2 q0 he hc k hk (X.t _ hlink) (fun x h => by rw [← hsame]; exact h) hfin (hty k hk) hn hfit hl hdg (fun H1 l1 a1 b1 c1 => kk H1 l1 ⟨a1, b1, c1⟩)
theorem g_putF (X : gX p m c cc nL s args own D cT) (hG : gG D A H0 ws H locs) {ref C : String} {T : u_T} {N ci index : Nat} (hin : ∀ w ∈ u_ws C T N, w ∈ gT) (ty0 : Nat → FieldType) (hty : ∀ k, k < N → parseFieldDescriptor (T k).2.2.1 = some (ty0 k)) (hnm : ∀ a, a < N → ∀ b, b < N → a ≠ b → (T a).2.1 ≠ (T b).2.1) (hc : vwCl[ci]? = some (C, T, N)) (k : Nat) (hk : k < N) (hlink : Cond.fieldLink own index ref (T k).2.1 (T k).2.2.1 ∈ gT) (hsame : (T k).1 = ref) (hfin : (T k).2.2.2 = true) (hdecl : (T k).1 = own) (hin2 : meth.name = "<init>") (q0 : Nat) {fs : List Value} (he : ws[q0]? = some (a, .inr (ci, fs))) {v : Value} (hn : narrow (ty0 k) v = v) (hfit : fits (ty0 k) v = true) (hl : k < fs.length) (hdg : decode cc pc = .ok (.putfield index, 3))
    (kk : ∀ (H1 : Heap) (locs1 : List Loc), gG D A H0 (ws.set q0 (a, .inr (ci, fs.set k v))) H1 locs1 → W p l e R s m args below meth c H1 locs1 cells slots Q (F0 m (pc + 3) ls rest)) : W p l e R s m args below meth c H locs cells slots Q (F0 m pc ls (v :: .ref a :: rest)) :=
  va_putF X.x X.b X.t hin ty0 hty hnm X.o X.K hG.1 hG.2.1 hG.2.2 q0 he hc k hk (X.t _ hlink) (fun x h => by rw [← hsame]; exact h) hfin hin2 hdecl (hty k hk) hn hfit hl hdg (fun H1 l1 a1 b1 c1 => kk H1 l1 ⟨a1, b1, c1⟩)
theorem g_new (X : gX p m c cc nL s args own D cT) (hG : gG D A H0 ws H locs) (hA : ∀ q, H0.size ≤ q → A q) {C : String} {T : u_T} {N ci index : Nat} (hin : ∀ w ∈ u_ws C T N, w ∈ gT) (ty0 : Nat → FieldType) (hty : ∀ k, k < N → parseFieldDescriptor (T k).2.2.1 = some (ty0 k)) (hc : vwCl[ci]? = some (C, T, N)) (hcl : Cond.classLink own index C ∈ gT) (hinst : Cond.instantiable C N ∈ gT) (hini : Cond.initialized C ∈ gT) {fs : List Value} (hfs : (List.range N).map (fun j => defaultValue (ty0 j)) = fs) {c1 s1 : Nat} (hc1 : cells + 1 = c1) (hs1 : slots + N = s1) (hcR : c1 ≤ R.cells) (hsR : s1 ≤ R.slots) (hdg : decode cc pc = .ok (.new index, 3))
    (kk : ∀ (q : Nat) (H1 : Heap), gG D A H0 (ws ++ [(q, .inr (ci, fs))]) H1 locs → W p l e R s m args below meth c H1 locs c1 s1 Q (F0 m (pc + 3) ls (.ref q :: rest))) : W p l e R s m args below meth c H locs cells slots Q (F0 m pc ls rest) := by
  subst hc1; subst hs1; subst hfs
  refine va_new X.x X.b X.t hin ty0 hty X.o (X.t _ hcl) (X.t _ hinst) (X.t _ hini) X.K hG.1 hG.2.1 hG.2.2 hA hc (fun j hj => ?_) hcR hsR hdg (fun q H1 a1 b1 c1 => kk q H1 ⟨a1, b1, c1⟩)
  unfold vp_V
  rw [List.getD_eq_getElem?_getD, List.getElem?_map, List.getElem?_range hj]
  rfl
-- arrays
theorem g_tyu {ty : FieldType} {cA : ClassId} {t0 : Nat} {tys : List (ClassId × FieldType)} (hK : va_K D vwCl tys s) (ht : tys[t0]? = some (cA, ty)) (hty : refKind ty = false) : s.vm.findClass ("[" ++ ty.toString) = some cA := by
  have h := (hK.2 t0 _ ht).2
  cases ty <;> first | exact h | (simp [refKind] at hty)
theorem g_newa (X : gX p m c cc nL s args own D cT) (hG : gG D A H0 ws H locs) (hA : ∀ q, H0.size ≤ q → A q) {atype : ArrayType} {ty : FieldType} (hty : newarray.typeOf atype = ty) (t0 : Nat) {cA : ClassId} (ht : (gTY cT)[t0]? = some (cA, ty)) (hw : Cond.arrayClass ty ∈ gT) (hrk : refKind ty = false) (hdv : defaultValue ty = .int 0) {n : Int32} {N' : Nat} (hn : ¬ n < 0) (hN : n.toNatClampNeg = N') (hbytes : N' * componentBytes ty ≤ 536870912) {c1 s1 : Nat} (hc1 : cells + 1 = c1) (hs1 : slots + N' = s1) (hcR : c1 ≤ R.cells) (hsR : s1 ≤ R.slots) (hdg : decode cc pc = .ok (.newarray atype, 2))
    (kk : ∀ (q : Nat) (H1 : Heap), gG D A H0 (ws ++ [(q, .inl (cA, N', .inl (fun _ => 0)))]) H1 locs → W p l e R s m args below meth c H1 locs c1 s1 Q (F0 m (pc + 2) ls (.ref q :: rest))) : W p l e R s m args below meth c H locs cells slots Q (F0 m pc ls (.int n :: rest)) := by
  subst hc1; subst hs1
  refine va_newa (a0 := (N', .inl (fun _ => 0))) X.x X.b (by rw [hty]; exact X.t _ hw) hty X.K hG.1 hG.2.1 hG.2.2 hA (fun cA => by rw [vp_cell_i, hdv]) hn hN hbytes hcR hsR hdg (fun q cB H1 hK2 a1 b1 d1 => ?_)
  have e1 := g_tyu X.K ht hrk
  have e2 := g_tyu (t0 := 6) hK2 rfl hrk
  have e3 : cB = cA := Option.some.inj (e2.symm.trans e1)
  subst e3
  exact kk q H1 ⟨a1, b1, d1⟩
theorem g_in {i : Int32} {n : Nat} (h : decide (¬ (i < 0 ∨ n ≤ i.toNatClampNeg)) = true) : vp_in i n := by unfold vp_in; exact of_decide_eq_true h
theorem g_inN {i : Int32} {n k : Nat} (h : i = nI k) (hk : k < n) (hn : n < 2 ^ 31) : vp_in i n := by rw [h]; exact vp_in_nI hk hn
theorem g_inS {i : Int32} {n : Nat} (h0 : 0 ≤ i.toInt) (h1 : i.toInt < n) : vp_in i n := vp_in_iff.mpr ⟨h0, h1⟩
theorem g_iald (X : gX p m c cc nL s args own D cT) (hG : gG D A H0 ws H locs) (q0 : Nat) {n : Nat} {f : Nat → Int32} (ha : ws[q0]? = some (a, .inl (cT 0, n, .inl f))) {i : Int32} (hin : vp_in i n) {v : Int32} (hv : f i.toNatClampNeg = v) (hdg : decode cc pc = .ok (.iaload, 1))
    (kk : W p l e R s m args below meth c H locs cells slots Q (F0 m (pc + 1) ls (.int v :: rest))) : W p l e R s m args below meth c H locs cells slots Q (F0 m pc ls (.int i :: .ref a :: rest)) := by
  subst hv
  exact va_iald X.x X.b X.K hG.1 q0 0 ha rfl hin hdg kk
theorem g_zald (X : gX p m c cc nL s args own D cT) (hG : gG D A H0 ws H locs) (q0 : Nat) {n : Nat} {f : Nat → Int32} (ha : ws[q0]? = some (a, .inl (cT 3, n, .inl f))) {i : Int32} (hin : vp_in i n) {v : Int32} (hv : f i.toNatClampNeg = v) (hdg : decode cc pc = .ok (.baload, 1))
    (kk : W p l e R s m args below meth c H locs cells slots Q (F0 m (pc + 1) ls (.int v :: rest))) : W p l e R s m args below meth c H locs cells slots Q (F0 m pc ls (.int i :: .ref a :: rest)) := by
  subst hv
  exact va_zald X.x X.b X.K hG.1 q0 3 ha rfl hin hdg kk
theorem g_iast (X : gX p m c cc nL s args own D cT) (hG : gG D A H0 ws H locs) (q0 : Nat) {n : Nat} {f f' : Nat → Int32} (ha : ws[q0]? = some (a, .inl (cT 0, n, .inl f))) {i x : Int32} (hin : vp_in i n) (hf : upd f i.toNatClampNeg x = f') (hdg : decode cc pc = .ok (.iastore, 1))
    (kk : ∀ (H1 : Heap) (locs1 : List Loc), gG D A H0 (ws.set q0 (a, .inl (cT 0, n, .inl f'))) H1 locs1 → W p l e R s m args below meth c H1 locs1 cells slots Q (F0 m (pc + 1) ls rest)) : W p l e R s m args below meth c H locs cells slots Q (F0 m pc ls (.int x :: .int i :: .ref a :: rest)) := by
  subst hf
  exact va_iast X.x X.b X.K hG.1 hG.2.1 hG.2.2 q0 0 ha rfl hin hdg (fun H1 l1 a1 b1 c1 => kk H1 l1 ⟨a1, b1, c1⟩)
theorem g_cast (X : gX p m c cc nL s args own D cT) (hG : gG D A H0 ws H locs) (q0 : Nat) {n : Nat} {f f' : Nat → Int32} (ha : ws[q0]? = some (a, .inl (cT 1, n, .inl f))) {i x : Int32} (hin : vp_in i n) (hf : upd f i.toNatClampNeg (vp_nar .char x) = f') (hdg : decode cc pc = .ok (.castore, 1))
    (kk : ∀ (H1 : Heap) (locs1 : List Loc), gG D A H0 (ws.set q0 (a, .inl (cT 1, n, .inl f'))) H1 locs1 → W p l e R s m args below meth c H1 locs1 cells slots Q (F0 m (pc + 1) ls rest)) : W p l e R s m args below meth c H locs cells slots Q (F0 m pc ls (.int x :: .int i :: .ref a :: rest)) := by
  subst hf
  exact va_cast X.x X.b X.K hG.1 hG.2.1 hG.2.2 q0 1 ha rfl hin hdg (fun H1 l1 a1 b1 c1 => kk H1 l1 ⟨a1, b1, c1⟩)
theorem g_bast (X : gX p m c cc nL s args own D cT) (hG : gG D A H0 ws H locs) (q0 : Nat) {n : Nat} {f f' : Nat → Int32} (ha : ws[q0]? = some (a, .inl (cT 2, n, .inl f))) {i x : Int32} (hin : vp_in i n) (hf : upd f i.toNatClampNeg (vp_nar .byte x) = f') (hdg : decode cc pc = .ok (.bastore, 1))
    (kk : ∀ (H1 : Heap) (locs1 : List Loc), gG D A H0 (ws.set q0 (a, .inl (cT 2, n, .inl f'))) H1 locs1 → W p l e R s m args below meth c H1 locs1 cells slots Q (F0 m (pc + 1) ls rest)) : W p l e R s m args below meth c H locs cells slots Q (F0 m pc ls (.int x :: .int i :: .ref a :: rest)) := by
  subst hf
  exact va_bast X.x X.b X.K hG.1 hG.2.1 hG.2.2 q0 2 ha rfl hin hdg (fun H1 l1 a1 b1 c1 => kk H1 l1 ⟨a1, b1, c1⟩)
theorem g_zast (X : gX p m c cc nL s args own D cT) (hG : gG D A H0 ws H locs) (q0 : Nat) {n : Nat} {f f' : Nat → Int32} (ha : ws[q0]? = some (a, .inl (cT 3, n, .inl f))) {i x : Int32} (hin : vp_in i n) (hf : upd f i.toNatClampNeg (vp_nar .boolean x) = f') (hdg : decode cc pc = .ok (.bastore, 1))
    (kk : ∀ (H1 : Heap) (locs1 : List Loc), gG D A H0 (ws.set q0 (a, .inl (cT 3, n, .inl f'))) H1 locs1 → W p l e R s m args below meth c H1 locs1 cells slots Q (F0 m (pc + 1) ls rest)) : W p l e R s m args below meth c H locs cells slots Q (F0 m pc ls (.int x :: .int i :: .ref a :: rest)) := by
  subst hf
  exact va_zast X.x X.b X.K hG.1 hG.2.1 hG.2.2 q0 3 ha rfl hin hdg (fun H1 l1 a1 b1 c1 => kk H1 l1 ⟨a1, b1, c1⟩)
theorem g_aald (X : gX p m c cc nL s args own D cT) (hG : gG D A H0 ws H locs) (q0 : Nat) {n : Nat} {f : Nat → Option Nat} (ha : ws[q0]? = some (a, .inl (cT 4, n, .inr (.inr (.inr (.inr f)))))) {i : Int32} (hin : vp_in i n) {b : Nat} (hv : f i.toNatClampNeg = some b) (hdg : decode cc pc = .ok (.aaload, 1))
    (kk : W p l e R s m args below meth c H locs cells slots Q (F0 m (pc + 1) ls (.ref b :: rest))) : W p l e R s m args below meth c H locs cells slots Q (F0 m pc ls (.int i :: .ref a :: rest)) := by
  have hlt : i.toNatClampNeg < n := Nat.not_le.mp fun q => hin (Or.inr q)
  exact W.aald (v := .ref b) (ty := .array .int) X.x X.b (hG.1 q0 _ ha) ((X.K.2 4 _ rfl).1 n (fun j => va_rf (f j))) rfl (fun q => by cases q) (by show ¬ (i < 0 ∨ (arrV _ _ _).slots.size ≤ _); rw [arrV_size]; exact hin) (by show (arrV _ _ _).slots[_]? = _; rw [arrV_read _ _ hlt, hv]; rfl) rfl rfl hdg kk
theorem g_alen (X : gX p m c cc nL s args own D cT) (hG : gG D A H0 ws H locs) (q0 t0 : Nat) {cA : ClassId} {x : vp_A} (ha : ws[q0]? = some (a, .inl (cA, x))) {ty : FieldType} (ht : (gTY cT)[t0]? = some (cA, ty)) {v : Int32} (hv : Int32.ofNat x.1 = v) (hdg : decode cc pc = .ok (.arraylength, 1))
    (kk : W p l e R s m args below meth c H locs cells slots Q (F0 m (pc + 1) ls (.int v :: rest))) : W p l e R s m args below meth c H locs cells slots Q (F0 m pc ls (.ref a :: rest)) :=
  va_alen X.x X.b X.K hG.1 q0 t0 ha ht hv hdg kk
theorem g_copy (X : gX p m c cc nL s args own D cT) (hl : lv_has ls nL lv0) (hG : gG D A H0 ws H locs) {index : Nat} (hlink : Cond.methodLink own index arraycopyName ∈ gT) (hnat : Cond.native arraycopyName ∈ gT) (hstat : Cond.static arraycopyName ∈ gT) (hini : Cond.initialized "java/lang/System" ∈ gT)
    (q0 q1 : Nat) {a0 n0 n1 : Nat} {f g g' : Nat → Int32} (ha0 : ws[q0]? = some (a0, .inl (cT 0, n0, .inl f))) (ha1 : ws[q1]? = some (a, .inl (cT 0, n1, .inl g))) {sp dp n : Int32} (h1 : ¬ sp < 0) (h2 : ¬ dp < 0) (h3 : ¬ n < 0) (h4 : sp.toNatClampNeg + n.toNatClampNeg ≤ n0) (h5 : dp.toNatClampNeg + n.toNatClampNeg ≤ n1) (hg : va_cpy f g sp.toNatClampNeg dp.toNatClampNeg n.toNatClampNeg = g')
    (hframes : 1 ≤ R.frames) (hlocals : (rest.map fun v => v.category).sum + (nativeFrameWords "java/lang/System" "arraycopy" 5 + 11) ≤ R.locals) (hdg : decode cc pc = .ok (.invokestatic index, 3))
    (kk : ∀ (H1 : Heap) (locs1 : List Loc), gG D A H0 (ws.set q1 (a, .inl (cT 0, n1, .inl g'))) H1 locs1 → W p l e R s m args below meth c H1 locs1 cells slots Q (F0 m (pc + 3) ls rest)) : W p l e R s m args below meth c H locs cells slots Q (F0 m pc ls (.int n :: .int dp :: .ref a :: .int sp :: .ref a0 :: rest)) := by
  subst hg
  exact va_copyi (ty := .int) X.x X.b (by rw [X.ml]; exact hl.1.symm) X.o (X.t _ hlink) (X.t _ hnat) (X.t _ hstat) (X.t _ hini) X.K hG.1 hG.2.1 hG.2.2 q0 q1 0 0 ha0 ha1 rfl rfl rfl h1 h2 h3 h4 h5 (fun i _ => rfl) hframes hlocals hdg (fun H1 l1 a1 b1 c1 => kk H1 l1 ⟨a1, b1, c1⟩)
theorem g_cp0 (sp dp n : Nat) : va_cpy (fun _ => (0 : Int32)) (fun _ => (0 : Int32)) sp dp n = fun _ => 0 := by
  funext k; unfold va_cpy; split <;> rfl
theorem g_rem1 (x : Int32) : x - x / 1 * 1 = 0 := by rw [Int32.div_one, Int32.mul_one, Int32.sub_self]
theorem g_up0 (k : Nat) : upd (fun _ => (0 : Int32)) k 0 = fun _ => 0 := by
  funext j; unfold upd; split <;> rfl
-- ints and branches
theorem g_top {v v' : Int32} (h : v = v') (k : W p l e R s m args below meth c H locs cells slots Q (F0 m pc ls (.int v' :: rest))) : W p l e R s m args below meth c H locs cells slots Q (F0 m pc ls (.int v :: rest)) := h ▸ k
theorem g_objInit (X : gX p m c cc nL s args own D cT) (hl : lv_has ls nL lv0) {idx : Nat} (hlink : Cond.methodLink own idx Lib.objectInit ∈ gT) (hinst : Cond.instanceMethod Lib.objectInit ∈ gT) (hcode : Cond.code Lib.objectInit ⟨#[0xb1]⟩ 1 none ∈ gT) (hd : decode cc pc = .ok (.invokespecial idx, 3)) (hframes : 1 ≤ R.frames) (hlocals : (rest.map fun v => v.category).sum + 12 ≤ R.locals)
    (kk : W p l e R s m args below meth c H locs cells slots Q (F0 m (pc + 3) ls rest)) : W p l e R s m args below meth c H locs cells slots Q (F0 m pc ls (.ref a :: rest)) :=
  W.objInit X.x X.b X.o (X.t _ hlink) (X.t _ hinst) (X.t _ hcode) rfl (by rw [X.ml]; exact hl.1) rfl hd hframes (by show 2 * 0 + _ + 12 ≤ _; omega) kk
theorem b_if_eq_t (hexec : p.tables.exec = Jvm.exec) (hb : c.code = cc) {x : Int32} {off : Int} {tgt : Nat} (hdg : decode cc pc = .ok (.ifCond .eq off, 3)) (ht : (pc : Int) + off = (tgt : Int)) (h : x = 0) (k : W p l e R s m args below meth c H locs cells slots Q (F0 m tgt ls rest)) : W p l e R s m args below meth c H locs cells slots Q (F0 m pc ls (.int x :: rest)) := lv_if_eq hexec hb hdg ht (fun _ => k) (fun z => absurd h z)
theorem b_if_eq_f (hexec : p.tables.exec = Jvm.exec) (hb : c.code = cc) {x : Int32} {off : Int} {tgt : Nat} (hdg : decode cc pc = .ok (.ifCond .eq off, 3)) (ht : (pc : Int) + off = (tgt : Int)) (h : ¬ x = 0) (k : W p l e R s m args below meth c H locs cells slots Q (F0 m (pc + 3) ls rest)) : W p l e R s m args below meth c H locs cells slots Q (F0 m pc ls (.int x :: rest)) := lv_if_eq hexec hb hdg ht (fun z => absurd z h) (fun _ => k)
theorem b_if_ne_t (hexec : p.tables.exec = Jvm.exec) (hb : c.code = cc) {x : Int32} {off : Int} {tgt : Nat} (hdg : decode cc pc = .ok (.ifCond .ne off, 3)) (ht : (pc : Int) + off = (tgt : Int)) (h : ¬ x = 0) (k : W p l e R s m args below meth c H locs cells slots Q (F0 m tgt ls rest)) : W p l e R s m args below meth c H locs cells slots Q (F0 m pc ls (.int x :: rest)) := lv_if_ne hexec hb hdg ht (fun _ => k) (fun z => absurd z h)
theorem b_if_ne_f (hexec : p.tables.exec = Jvm.exec) (hb : c.code = cc) {x : Int32} {off : Int} {tgt : Nat} (hdg : decode cc pc = .ok (.ifCond .ne off, 3)) (ht : (pc : Int) + off = (tgt : Int)) (h : x = 0) (k : W p l e R s m args below meth c H locs cells slots Q (F0 m (pc + 3) ls rest)) : W p l e R s m args below meth c H locs cells slots Q (F0 m pc ls (.int x :: rest)) := lv_if_ne hexec hb hdg ht (fun z => absurd h z) (fun _ => k)
theorem b_if_lt_t (hexec : p.tables.exec = Jvm.exec) (hb : c.code = cc) {x : Int32} {off : Int} {tgt : Nat} (hdg : decode cc pc = .ok (.ifCond .lt off, 3)) (ht : (pc : Int) + off = (tgt : Int)) (h : x < 0) (k : W p l e R s m args below meth c H locs cells slots Q (F0 m tgt ls rest)) : W p l e R s m args below meth c H locs cells slots Q (F0 m pc ls (.int x :: rest)) := lv_if_lt hexec hb hdg ht (fun _ => k) (fun z => absurd h z)
theorem b_if_lt_f (hexec : p.tables.exec = Jvm.exec) (hb : c.code = cc) {x : Int32} {off : Int} {tgt : Nat} (hdg : decode cc pc = .ok (.ifCond .lt off, 3)) (ht : (pc : Int) + off = (tgt : Int)) (h : ¬ x < 0) (k : W p l e R s m args below meth c H locs cells slots Q (F0 m (pc + 3) ls rest)) : W p l e R s m args below meth c H locs cells slots Q (F0 m pc ls (.int x :: rest)) := lv_if_lt hexec hb hdg ht (fun z => absurd z h) (fun _ => k)
theorem b_if_ge_t (hexec : p.tables.exec = Jvm.exec) (hb : c.code = cc) {x : Int32} {off : Int} {tgt : Nat} (hdg : decode cc pc = .ok (.ifCond .ge off, 3)) (ht : (pc : Int) + off = (tgt : Int)) (h : 0 ≤ x) (k : W p l e R s m args below meth c H locs cells slots Q (F0 m tgt ls rest)) : W p l e R s m args below meth c H locs cells slots Q (F0 m pc ls (.int x :: rest)) := lv_if_ge hexec hb hdg ht (fun _ => k) (fun z => absurd h z)
theorem b_if_ge_f (hexec : p.tables.exec = Jvm.exec) (hb : c.code = cc) {x : Int32} {off : Int} {tgt : Nat} (hdg : decode cc pc = .ok (.ifCond .ge off, 3)) (ht : (pc : Int) + off = (tgt : Int)) (h : ¬ 0 ≤ x) (k : W p l e R s m args below meth c H locs cells slots Q (F0 m (pc + 3) ls rest)) : W p l e R s m args below meth c H locs cells slots Q (F0 m pc ls (.int x :: rest)) := lv_if_ge hexec hb hdg ht (fun z => absurd z h) (fun _ => k)
theorem b_if_gt_t (hexec : p.tables.exec = Jvm.exec) (hb : c.code = cc) {x : Int32} {off : Int} {tgt : Nat} (hdg : decode cc pc = .ok (.ifCond .gt off, 3)) (ht : (pc : Int) + off = (tgt : Int)) (h : 0 < x) (k : W p l e R s m args below meth c H locs cells slots Q (F0 m tgt ls rest)) : W p l e R s m args below meth c H locs cells slots Q (F0 m pc ls (.int x :: rest)) := lv_if_gt hexec hb hdg ht (fun _ => k) (fun z => absurd h z)
theorem b_if_gt_f (hexec : p.tables.exec = Jvm.exec) (hb : c.code = cc) {x : Int32} {off : Int} {tgt : Nat} (hdg : decode cc pc = .ok (.ifCond .gt off, 3)) (ht : (pc : Int) + off = (tgt : Int)) (h : ¬ 0 < x) (k : W p l e R s m args below meth c H locs cells slots Q (F0 m (pc + 3) ls rest)) : W p l e R s m args below meth c H locs cells slots Q (F0 m pc ls (.int x :: rest)) := lv_if_gt hexec hb hdg ht (fun z => absurd z h) (fun _ => k)
theorem b_if_le_t (hexec : p.tables.exec = Jvm.exec) (hb : c.code = cc) {x : Int32} {off : Int} {tgt : Nat} (hdg : decode cc pc = .ok (.ifCond .le off, 3)) (ht : (pc : Int) + off = (tgt : Int)) (h : x ≤ 0) (k : W p l e R s m args below meth c H locs cells slots Q (F0 m tgt ls rest)) : W p l e R s m args below meth c H locs cells slots Q (F0 m pc ls (.int x :: rest)) := lv_if_le hexec hb hdg ht (fun _ => k) (fun z => absurd h z)
theorem b_if_le_f (hexec : p.tables.exec = Jvm.exec) (hb : c.code = cc) {x : Int32} {off : Int} {tgt : Nat} (hdg : decode cc pc = .ok (.ifCond .le off, 3)) (ht : (pc : Int) + off = (tgt : Int)) (h : ¬ x ≤ 0) (k : W p l e R s m args below meth c H locs cells slots Q (F0 m (pc + 3) ls rest)) : W p l e R s m args below meth c H locs cells slots Q (F0 m pc ls (.int x :: rest)) := lv_if_le hexec hb hdg ht (fun z => absurd z h) (fun _ => k)
theorem b_icmp_eq_t (hexec : p.tables.exec = Jvm.exec) (hb : c.code = cc) {x y : Int32} {off : Int} {tgt : Nat} (hdg : decode cc pc = .ok (.if_icmp .eq off, 3)) (ht : (pc : Int) + off = (tgt : Int)) (h : x = y) (k : W p l e R s m args below meth c H locs cells slots Q (F0 m tgt ls rest)) : W p l e R s m args below meth c H locs cells slots Q (F0 m pc ls (.int y :: .int x :: rest)) := lv_icmp_eq hexec hb hdg ht (fun _ => k) (fun z => absurd h z)
theorem b_icmp_eq_f (hexec : p.tables.exec = Jvm.exec) (hb : c.code = cc) {x y : Int32} {off : Int} {tgt : Nat} (hdg : decode cc pc = .ok (.if_icmp .eq off, 3)) (ht : (pc : Int) + off = (tgt : Int)) (h : ¬ x = y) (k : W p l e R s m args below meth c H locs cells slots Q (F0 m (pc + 3) ls rest)) : W p l e R s m args below meth c H locs cells slots Q (F0 m pc ls (.int y :: .int x :: rest)) := lv_icmp_eq hexec hb hdg ht (fun z => absurd z h) (fun _ => k)
theorem b_icmp_ne_t (hexec : p.tables.exec = Jvm.exec) (hb : c.code = cc) {x y : Int32} {off : Int} {tgt : Nat} (hdg : decode cc pc = .ok (.if_icmp .ne off, 3)) (ht : (pc : Int) + off = (tgt : Int)) (h : ¬ x = y) (k : W p l e R s m args below meth c H locs cells slots Q (F0 m tgt ls rest)) : W p l e R s m args below meth c H locs cells slots Q (F0 m pc ls (.int y :: .int x :: rest)) := lv_icmp_ne hexec hb hdg ht (fun _ => k) (fun z => absurd z h)
theorem b_icmp_ne_f (hexec : p.tables.exec = Jvm.exec) (hb : c.code = cc) {x y : Int32} {off : Int} {tgt : Nat} (hdg : decode cc pc = .ok (.if_icmp .ne off, 3)) (ht : (pc : Int) + off = (tgt : Int)) (h : x = y) (k : W p l e R s m args below meth c H locs cells slots Q (F0 m (pc + 3) ls rest)) : W p l e R s m args below meth c H locs cells slots Q (F0 m pc ls (.int y :: .int x :: rest)) := lv_icmp_ne hexec hb hdg ht (fun z => absurd h z) (fun _ => k)
theorem b_icmp_lt_t (hexec : p.tables.exec = Jvm.exec) (hb : c.code = cc) {x y : Int32} {off : Int} {tgt : Nat} (hdg : decode cc pc = .ok (.if_icmp .lt off, 3)) (ht : (pc : Int) + off = (tgt : Int)) (h : x < y) (k : W p l e R s m args below meth c H locs cells slots Q (F0 m tgt ls rest)) : W p l e R s m args below meth c H locs cells slots Q (F0 m pc ls (.int y :: .int x :: rest)) := lv_icmp_lt hexec hb hdg ht (fun _ => k) (fun z => absurd h z)
theorem b_icmp_lt_f (hexec : p.tables.exec = Jvm.exec) (hb : c.code = cc) {x y : Int32} {off : Int} {tgt : Nat} (hdg : decode cc pc = .ok (.if_icmp .lt off, 3)) (ht : (pc : Int) + off = (tgt : Int)) (h : ¬ x < y) (k : W p l e R s m args below meth c H locs cells slots Q (F0 m (pc + 3) ls rest)) : W p l e R s m args below meth c H locs cells slots Q (F0 m pc ls (.int y :: .int x :: rest)) := lv_icmp_lt hexec hb hdg ht (fun z => absurd z h) (fun _ => k)
theorem b_icmp_ge_t (hexec : p.tables.exec = Jvm.exec) (hb : c.code = cc) {x y : Int32} {off : Int} {tgt : Nat} (hdg : decode cc pc = .ok (.if_icmp .ge off, 3)) (ht : (pc : Int) + off = (tgt : Int)) (h : y ≤ x) (k : W p l e R s m args below meth c H locs cells slots Q (F0 m tgt ls rest)) : W p l e R s m args below meth c H locs cells slots Q (F0 m pc ls (.int y :: .int x :: rest)) := lv_icmp_ge hexec hb hdg ht (fun _ => k) (fun z => absurd h z)
theorem b_icmp_ge_f (hexec : p.tables.exec = Jvm.exec) (hb : c.code = cc) {x y : Int32} {off : Int} {tgt : Nat} (hdg : decode cc pc = .ok (.if_icmp .ge off, 3)) (ht : (pc : Int) + off = (tgt : Int)) (h : ¬ y ≤ x) (k : W p l e R s m args below meth c H locs cells slots Q (F0 m (pc + 3) ls rest)) : W p l e R s m args below meth c H locs cells slots Q (F0 m pc ls (.int y :: .int x :: rest)) := lv_icmp_ge hexec hb hdg ht (fun z => absurd z h) (fun _ => k)
theorem b_icmp_gt_t (hexec : p.tables.exec = Jvm.exec) (hb : c.code = cc) {x y : Int32} {off : Int} {tgt : Nat} (hdg : decode cc pc = .ok (.if_icmp .gt off, 3)) (ht : (pc : Int) + off = (tgt : Int)) (h : y < x) (k : W p l e R s m args below meth c H locs cells slots Q (F0 m tgt ls rest)) : W p l e R s m args below meth c H locs cells slots Q (F0 m pc ls (.int y :: .int x :: rest)) := lv_icmp_gt hexec hb hdg ht (fun _ => k) (fun z => absurd h z)
theorem b_icmp_gt_f (hexec : p.tables.exec = Jvm.exec) (hb : c.code = cc) {x y : Int32} {off : Int} {tgt : Nat} (hdg : decode cc pc = .ok (.if_icmp .gt off, 3)) (ht : (pc : Int) + off = (tgt : Int)) (h : ¬ y < x) (k : W p l e R s m args below meth c H locs cells slots Q (F0 m (pc + 3) ls rest)) : W p l e R s m args below meth c H locs cells slots Q (F0 m pc ls (.int y :: .int x :: rest)) := lv_icmp_gt hexec hb hdg ht (fun z => absurd z h) (fun _ => k)
theorem b_icmp_le_t (hexec : p.tables.exec = Jvm.exec) (hb : c.code = cc) {x y : Int32} {off : Int} {tgt : Nat} (hdg : decode cc pc = .ok (.if_icmp .le off, 3)) (ht : (pc : Int) + off = (tgt : Int)) (h : x ≤ y) (k : W p l e R s m args below meth c H locs cells slots Q (F0 m tgt ls rest)) : W p l e R s m args below meth c H locs cells slots Q (F0 m pc ls (.int y :: .int x :: rest)) := lv_icmp_le hexec hb hdg ht (fun _ => k) (fun z => absurd h z)
theorem b_icmp_le_f (hexec : p.tables.exec = Jvm.exec) (hb : c.code = cc) {x y : Int32} {off : Int} {tgt : Nat} (hdg : decode cc pc = .ok (.if_icmp .le off, 3)) (ht : (pc : Int) + off = (tgt : Int)) (h : ¬ x ≤ y) (k : W p l e R s m args below meth c H locs cells slots Q (F0 m (pc + 3) ls rest)) : W p l e R s m args below meth c H locs cells slots Q (F0 m pc ls (.int y :: .int x :: rest)) := lv_icmp_le hexec hb hdg ht (fun z => absurd z h) (fun _ => k)
-- calls
def gC (y : MethodName) (n : Nat) : Bool := decide (y.cls ≠ "java/lang/invoke/MethodHandle") && decide (y.cls ≠ "java/lang/invoke/VarHandle") && decide ((parseMethodDescriptor y.desc).map (fun d => d.parameters.length) = some n)
theorem gC_spec {y : MethodName} {n : Nat} (h : gC y n = true) : y.cls ≠ "java/lang/invoke/MethodHandle" ∧ y.cls ≠ "java/lang/invoke/VarHandle" ∧ (parseMethodDescriptor y.desc).map (fun d => d.parameters.length) = some n := by
  simp only [gC, Bool.and_eq_true, decide_eq_true_eq] at h
  exact ⟨h.1.1, h.1.2, h.2⟩
variable {y : MethodName} {bytes : ByteArray} {maxL F L mc ms n index : Nat} {ret : Option FieldType} {av As st0 : List Value} {wc : va_W} {E : (Nat → Prop) → State → Prop} {Qf : (Nat → Prop) → Array Value → State → Outcome → State → Prop} {b : Nat}
theorem g_pre (X : gX p m c cc nL s args own D cT) (hG : gG D A H0 ws H locs) (is : List Nat) (hnd : va_nd is = true) (hsub : is.map (fun i => ws[i]?) = wc.map some) (hE1 : ∀ (A1 : Nat → Prop) (U : State) (g : JFrame) (mk : MethodId) (a : Array Value), E A1 U → E A1 (U.calling g mk a)) (hE2 : ∀ U : State, U.heap = H → s.WarmedH U.vm → E (va_A wc H.size) U) :
    FrameBlind (gPc D cT av wc E H.size) ∧ ∀ U : State, U.heap = H → s.WarmedH U.vm → gPc D cT av wc E H.size av.toArray U := by
  have hPc : va_P D vwCl wc H := by
    intro k q hk
    have h1 : (is.map (fun i => ws[i]?))[k]? = some (some q) := by rw [hsub, List.getElem?_map, hk]; rfl
    rw [List.getElem?_map] at h1
    cases hi : is[k]? with
    | none => rw [hi] at h1; cases h1
    | some i => rw [hi] at h1; exact hG.1 i q (Option.some.inj h1)
  have hDc := hG.2.1.sub is hnd hsub
  refine ⟨fun a U g mk q => ?_, fun U hU hW => ?_⟩
  · obtain ⟨q0, q1, qP, qK, qD, qE⟩ := q
    exact ⟨q0, q1, qP, va_K.moved (u := U) (U := U.calling g mk a) (Vm.Alike.refl U.vm) qK, qD, hE1 _ _ _ _ _ qE⟩
  · exact ⟨rfl, by rw [hU], by rw [hU]; exact hPc, va_K.moved hW.alike X.K, hDc.weaken (fun _ _ _ _ => trivial), hE2 U hU hW⟩
theorem g_E01 : ∀ (A1 : Nat → Prop) (U : State) (g : JFrame) (mk : MethodId) (a : Array Value), gE0 A1 U → gE0 A1 (U.calling g mk a) := fun _ _ _ _ _ _ => trivial
theorem g_E02 {wc : va_W} : ∀ U : State, U.heap = H → s.WarmedH U.vm → gE0 (va_A wc H.size) U := fun _ _ _ => trivial
/-- static words of a call of an instance method -/
def gWV (own C : String) (index : Nat) (y : MethodName) (bytes : ByteArray) (maxL n : Nat) (ret : Option FieldType) : Prop := (Cond.methodLink own index y ∈ gT ∧ Cond.instanceMethod y ∈ gT ∧ Cond.selects C y y ∈ gT ∧ Cond.initialized C ∈ gT ∧ Cond.code y bytes maxL ret ∈ gT) ∧ y.cls = C ∧ gC y n = true
def gWS (own : String) (index : Nat) (y : MethodName) (bytes : ByteArray) (maxL n : Nat) (ret : Option FieldType) : Prop := (Cond.methodLink own index y ∈ gT ∧ Cond.static y ∈ gT ∧ Cond.initialized y.cls ∈ gT ∧ Cond.code y bytes maxL ret ∈ gT) ∧ gC y n = true
def gWI (own : String) (index : Nat) (y : MethodName) (bytes : ByteArray) (maxL n : Nat) : Prop := (Cond.methodLink own index y ∈ gT ∧ Cond.instanceMethod y ∈ gT ∧ Cond.initialized y.cls ∈ gT ∧ Cond.code y bytes maxL none ∈ gT) ∧ y.name = "<init>" ∧ gC y n = true
def gWN (y : MethodName) (bytes : ByteArray) (maxL n : Nat) : Prop := (Cond.instanceMethod y ∈ gT ∧ Cond.initialized y.cls ∈ gT ∧ Cond.code y bytes maxL none ∈ gT) ∧ y.name = "<init>" ∧ gC y n = true
theorem gGood {w : Cond} {ws : List Cond} (h : w ∈ gT) (h2 : GoodIn gT ws) : GoodIn gT (w :: ws) := fun x hx => (List.mem_cons.mp hx).elim (fun q => by rw [q]; exact gT_good w h) (h2 x)
theorem g_rV (X : gX p m c cc nL s args own D cT) (hl : lv_has ls nL lv0) (hG : gG D A H0 ws H locs) {C : String} (hM : gMet l D cT y bytes maxL ret F L mc ms (.ref b :: As) wc E Qf) (hw : gWV own C index y bytes maxL n ret) (hE1 : ∀ (A1 : Nat → Prop) (U : State) (g : JFrame) (mk : MethodId) (a : Array Value), E A1 U → E A1 (U.calling g mk a)) (hE2 : ∀ U : State, U.heap = H → s.WarmedH U.vm → E (va_A wc H.size) U) (is : List Nat) (hnd : va_nd is = true) (hsub : is.map (fun i => ws[i]?) = wc.map some) (q0 : Nat) {ci : Nat} {fs : List Value} (he : ws[q0]? = some (b, .inr (ci, fs))) {rr : vw_C} (hcl : vwCl[ci]? = some rr) (hrr : rr.1 = C) (hn : As.length = n) (hst : st0 = As.reverse ++ .ref b :: rest) (hcat : (rest.map fun v => v.category).sum ≤ 8)
    (hR : F + 1 ≤ R.frames ∧ 8 + (maxL + 11) + L ≤ R.locals) (hf : cells + mc ≤ R.cells ∧ slots + ms ≤ R.slots) (hdg : decode cc pc = .ok (.invokevirtual index, 3)) :
    va_Run p l e R s m args below meth c H locs cells slots mc ms (F0 m pc ls st0) rest (Qf (va_A wc H.size) (Value.ref b :: As).toArray) (va_A wc H.size) := by
  obtain ⟨h1, h2⟩ := g_pre (av := .ref b :: As) X hG is hnd hsub hE1 hE2
  obtain ⟨cell, g1, g2, g3⟩ := va_recv X.K hG.1 hcl he
  exact va_runV (As := As) (rest := rest) X.fix (hM H.size) (cwV n X.t (gGood hw.1.1 (gGood hw.1.2.1 (gGood hw.1.2.2.1 (gGood hw.1.2.2.2.1 (gGood hw.1.2.2.2.2 gT_good))))) rfl rfl rfl ⟨hw.2.1, (gC_spec hw.2.2)⟩ hR) ⟨h1, ⟨cell, g1, g2, hrr ▸ g3⟩, h2⟩ rfl hn hl.1 hst (lv_room hcat) hdg hf
theorem g_rS (X : gX p m c cc nL s args own D cT) (hl : lv_has ls nL lv0) (hG : gG D A H0 ws H locs) (hM : gMet l D cT y bytes maxL ret F L mc ms As wc E Qf) (hw : gWS own index y bytes maxL n ret) (hE1 : ∀ (A1 : Nat → Prop) (U : State) (g : JFrame) (mk : MethodId) (a : Array Value), E A1 U → E A1 (U.calling g mk a)) (hE2 : ∀ U : State, U.heap = H → s.WarmedH U.vm → E (va_A wc H.size) U) (is : List Nat) (hnd : va_nd is = true) (hsub : is.map (fun i => ws[i]?) = wc.map some) (hn : As.length = n) (hst : st0 = As.reverse ++ rest) (hcat : (rest.map fun v => v.category).sum ≤ 8)
    (hR : F + 1 ≤ R.frames ∧ 8 + (maxL + 11) + L ≤ R.locals) (hf : cells + mc ≤ R.cells ∧ slots + ms ≤ R.slots) (hdg : decode cc pc = .ok (.invokestatic index, 3)) :
    va_Run p l e R s m args below meth c H locs cells slots mc ms (F0 m pc ls st0) rest (Qf (va_A wc H.size) As.toArray) (va_A wc H.size) := by
  have h := g_pre (av := As) X hG is hnd hsub hE1 hE2
  exact va_runS (As := As) (rest := rest) X.fix (hM H.size) (va_cwS n X.t (gGood hw.1.1 (gGood hw.1.2.1 (gGood hw.1.2.2.1 (gGood hw.1.2.2.2 gT_good)))) rfl rfl rfl (gC_spec hw.2) hR) h rfl hn hl.1 hst (lv_room hcat) hdg hf
theorem g_rI (X : gX p m c cc nL s args own D cT) (hl : lv_has ls nL lv0) (hG : gG D A H0 ws H locs) (hM : gMet l D cT y bytes maxL none F L mc ms (.ref b :: As) wc E Qf) (hw : gWI own index y bytes maxL n) (hE1 : ∀ (A1 : Nat → Prop) (U : State) (g : JFrame) (mk : MethodId) (a : Array Value), E A1 U → E A1 (U.calling g mk a)) (hE2 : ∀ U : State, U.heap = H → s.WarmedH U.vm → E (va_A wc H.size) U) (is : List Nat) (hnd : va_nd is = true) (hsub : is.map (fun i => ws[i]?) = wc.map some) (hn : As.length = n) (hst : st0 = As.reverse ++ .ref b :: rest) (hcat : (rest.map fun v => v.category).sum ≤ 8)
    (hR : F + 1 ≤ R.frames ∧ 8 + (maxL + 11) + L ≤ R.locals) (hf : cells + mc ≤ R.cells ∧ slots + ms ≤ R.slots) (hdg : decode cc pc = .ok (.invokespecial index, 3)) :
    va_Run p l e R s m args below meth c H locs cells slots mc ms (F0 m pc ls st0) rest (Qf (va_A wc H.size) (Value.ref b :: As).toArray) (va_A wc H.size) := by
  have h := g_pre (av := .ref b :: As) X hG is hnd hsub hE1 hE2
  exact va_runI (As := As) (rest := rest) X.fix (hM H.size) (cwI n X.t (gGood hw.1.2.2.2 gT_good) rfl rfl rfl (X.t _ hw.1.2.2.1) (X.t _ hw.1.1) (X.t _ hw.1.2.1) hw.2.1 (gC_spec hw.2.2) hR) h rfl hn hl.1 hst (lv_room hcat) hdg hf
theorem g_rN (X : gX p m c cc nL s args own D cT) (hl : lv_has ls nL lv0) (hG : gG D A H0 ws H locs) {host : String} (hnw : va_Nw (.methodLinkNest own index y host) s) (hM : gMet l D cT y bytes maxL none F L mc ms (.ref b :: As) wc E Qf) (hw : gWN y bytes maxL n) (hE1 : ∀ (A1 : Nat → Prop) (U : State) (g : JFrame) (mk : MethodId) (a : Array Value), E A1 U → E A1 (U.calling g mk a)) (hE2 : ∀ U : State, U.heap = H → s.WarmedH U.vm → E (va_A wc H.size) U) (is : List Nat) (hnd : va_nd is = true) (hsub : is.map (fun i => ws[i]?) = wc.map some) (hn : As.length = n) (hst : st0 = As.reverse ++ .ref b :: rest) (hcat : (rest.map fun v => v.category).sum ≤ 8)
    (hR : F + 1 ≤ R.frames ∧ 8 + (maxL + 11) + L ≤ R.locals) (hf : cells + mc ≤ R.cells ∧ slots + ms ≤ R.slots) (hdg : decode cc pc = .ok (.invokespecial index, 3)) :
    va_Run p l e R s m args below meth c H locs cells slots mc ms (F0 m pc ls st0) rest (Qf (va_A wc H.size) (Value.ref b :: As).toArray) (va_A wc H.size) := by
  have h := g_pre (av := .ref b :: As) X hG is hnd hsub hE1 hE2
  exact va_runIN (As := As) (rest := rest) X.fix (hM H.size) ⟨va_cnB n X.t (gGood hw.1.2.2 gT_good) rfl rfl rfl hnw (X.t _ hw.1.2.1) (gC_spec hw.2.2) hR, hw.2.1, X.t _ hw.1.1⟩ h rfl hn hl.1 hst (lv_room hcat) hdg hf
theorem g_jn (hG : gG D A H0 ws H locs) (hA : ∀ q, H0.size ≤ q → A q) (isC isR : List Nat) (hC : isC.map (fun i => ws[i]?) = wc.map some) (hR : isR.map (fun i => ws[i]?) = (isR.filterMap (fun i => ws[i]?)).map some) (hn : va_nd isR = true) (hdis : isR.all (fun i => decide (i ∉ isC)) = true) {w1 : va_W} {H1 : Heap} {locs1 : List Loc} (hk : ∀ q : Nat, q < H.size → ¬ va_A wc H.size q → H1[q]? = H[q]?) (hP1 : va_P D vwCl w1 H1) (hD1 : va_D (va_A wc H.size) w1) (hS1 : va_S A H0 H1 locs1) : gG D A H0 (isR.filterMap (fun i => ws[i]?) ++ w1) H1 locs1 := by
  have hF := va_free hG.2.1 hG.2.2 hA isC hC
  obtain ⟨h1, h2⟩ := va_join hG.1 hG.2.1 isC isR hC hR hn (fun i hi => of_decide_eq_true (List.all_eq_true.mp hdis i hi)) hk hF hP1 hD1
  exact ⟨h1, h2, hS1⟩
theorem g_ki {S : Type} {post : Int32 → S → Prop} {w1 : S → va_W} (hr : va_Run p l e R s m args below meth c H locs cells slots mc ms (F0 m pc ls st0) rest (gQi D cT post w1 (va_A wc H.size) av.toArray) (va_A wc H.size)) (hG : gG D A H0 ws H locs) (hA : ∀ q, H0.size ≤ q → A q) (isC isR : List Nat) (hC : isC.map (fun i => ws[i]?) = wc.map some) (hR : isR.map (fun i => ws[i]?) = (isR.filterMap (fun i => ws[i]?)).map some) (hn : va_nd isR = true) (hdis : isR.all (fun i => decide (i ∉ isC)) = true) {c1 s1 : Nat} (hc1 : cells + mc = c1) (hs1 : slots + ms = s1)
    (kk : ∀ (r : Int32) (u : S) (H1 : Heap) (locs1 : List Loc), post r u → gG D A H0 (isR.filterMap (fun i => ws[i]?) ++ w1 u) H1 locs1 → W p l e R s m args below meth c H1 locs1 c1 s1 Q (F0 m (pc + 3) ls (.int r :: rest))) : W p l e R s m args below meth c H locs cells slots Q (F0 m pc ls st0) := by
  subst hc1; subst hs1
  have hF := va_free hG.2.1 hG.2.2 hA isC hC
  refine va_calli hr hG.2.2 (fun q _ h => hF q h) hF (fun r u t H1 locs1 ht _ hp hB _ hk hS1 => kk r u H1 locs1 hp ?_)
  obtain ⟨b1, -, b3⟩ := hB
  rw [ht] at b1
  exact g_jn hG hA isC isR hC hR hn hdis hk b1 b3 hS1
theorem g_kv {S : Type} {post : S → Prop} {w1 : S → va_W} (hr : va_Run p l e R s m args below meth c H locs cells slots mc ms (F0 m pc ls st0) rest (gQv D cT post w1 (va_A wc H.size) av.toArray) (va_A wc H.size)) (hG : gG D A H0 ws H locs) (hA : ∀ q, H0.size ≤ q → A q) (isC isR : List Nat) (hC : isC.map (fun i => ws[i]?) = wc.map some) (hR : isR.map (fun i => ws[i]?) = (isR.filterMap (fun i => ws[i]?)).map some) (hn : va_nd isR = true) (hdis : isR.all (fun i => decide (i ∉ isC)) = true) {c1 s1 : Nat} (hc1 : cells + mc = c1) (hs1 : slots + ms = s1)
    (kk : ∀ (u : S) (H1 : Heap) (locs1 : List Loc), post u → gG D A H0 (isR.filterMap (fun i => ws[i]?) ++ w1 u) H1 locs1 → W p l e R s m args below meth c H1 locs1 c1 s1 Q (F0 m (pc + 3) ls rest)) : W p l e R s m args below meth c H locs cells slots Q (F0 m pc ls st0) := by
  subst hc1; subst hs1
  have hF := va_free hG.2.1 hG.2.2 hA isC hC
  refine va_callv hr hG.2.2 (fun q _ h => hF q h) hF (fun u t H1 locs1 ht _ hp hB _ hk hS1 => kk u H1 locs1 hp ?_)
  obtain ⟨b1, -, b3⟩ := hB
  rw [ht] at b1
  exact g_jn hG hA isC isR hC hR hn hdis hk b1 b3 hS1
theorem g_kr {S : Type} {post : S → Nat → Prop} {w1 : S → va_W} (hr : va_Run p l e R s m args below meth c H locs cells slots mc ms (F0 m pc ls st0) rest (gQr D cT post w1 (va_A wc H.size) av.toArray) (va_A wc H.size)) (hG : gG D A H0 ws H locs) (hA : ∀ q, H0.size ≤ q → A q) (isC isR : List Nat) (hC : isC.map (fun i => ws[i]?) = wc.map some) (hR : isR.map (fun i => ws[i]?) = (isR.filterMap (fun i => ws[i]?)).map some) (hn : va_nd isR = true) (hdis : isR.all (fun i => decide (i ∉ isC)) = true) {c1 s1 : Nat} (hc1 : cells + mc = c1) (hs1 : slots + ms = s1)
    (kk : ∀ (ra : Nat) (u : S) (H1 : Heap) (locs1 : List Loc), post u ra → gG D A H0 (isR.filterMap (fun i => ws[i]?) ++ w1 u) H1 locs1 → W p l e R s m args below meth c H1 locs1 c1 s1 Q (F0 m (pc + 3) ls (.ref ra :: rest))) : W p l e R s m args below meth c H locs cells slots Q (F0 m pc ls st0) := by
  subst hc1; subst hs1
  have hF := va_free hG.2.1 hG.2.2 hA isC hC
  refine va_callr hr hG.2.2 (fun q _ h => hF q h) hF (fun u ra t H1 locs1 ht _ hp hB _ hk hS1 => kk ra u H1 locs1 hB.1 ?_)
  obtain ⟨hpp, b1, -, b3⟩ := hB
  rw [ht] at b1
  exact g_jn hG hA isC isR hC hR hn hdis hk b1 b3 hS1
-- ends
theorem g_end (hG : gG D A s.heap ws H locs) {w1 : va_W} (is : List Nat) (hnd : va_nd is = true) (hsub : is.map (fun i => ws[i]?) = w1.map some) : va_P D vwCl w1 H ∧ va_D A w1 := by
  refine ⟨fun k q hk => ?_, hG.2.1.sub is hnd hsub⟩
  have h1 : (is.map (fun i => ws[i]?))[k]? = some (some q) := by rw [hsub, List.getElem?_map, hk]; rfl
  rw [List.getElem?_map] at h1
  cases hi : is[k]? with
  | none => rw [hi] at h1; cases h1
  | some i => rw [hi] at h1; exact hG.1 i q (Option.some.inj h1)
theorem g_perm (hG : gG D A H0 ws H locs) (is : List Nat) (hnd : va_nd is = true) {ws' : va_W} (hsub : is.map (fun i => ws[i]?) = ws'.map some) : gG D A H0 ws' H locs := by
  refine ⟨fun k q hk => ?_, hG.2.1.sub is hnd hsub, hG.2.2⟩
  have h1 : (is.map (fun i => ws[i]?))[k]? = some (some q) := by rw [hsub, List.getElem?_map, hk]; rfl
  rw [List.getElem?_map] at h1
  cases hi : is[k]? with
  | none => rw [hi] at h1; cases h1
  | some i => rw [hi] at h1; exact hG.1 i q (Option.some.inj h1)
theorem g_iret {S : Type} {post : Int32 → S → Prop} {w1 : S → va_W} {ty : FieldType} (X : gX p m c cc nL s args own D cT) (hr : meth.sig.returnType = some ty) (hlk : meth.locks = false) (hG : gG D A s.heap ws H locs) {v : Int32} (hn : narrow ty (.int v) = .int v) (u : S) (hp : post v u) (is : List Nat) (hnd : va_nd is = true) (hsub : is.map (fun i => ws[i]?) = (w1 u).map some) (hc : cells ≤ mc) (hs : slots ≤ ms) (hdg : decode cc pc = .ok (.ireturn, 1)) : W p l e R s m args below meth c H locs cells slots (MQ below (gQi D cT post w1 A) args s mc ms A) (F0 m pc ls [.int v]) := by
  obtain ⟨e1, e2⟩ := g_end hG is hnd hsub
  refine W.widen hc hs ?_
  exact W.zret X.x X.b hr hn (fun t ht hW => ⟨⟨v, u, rfl, hp, by rw [ht]; exact e1, va_K.moved hW.alike X.K, e2⟩, hG.2.2.F ht⟩) hG.2.2.2.2 hdg hlk
theorem g_vret {S : Type} {post : S → Prop} {w1 : S → va_W} (X : gX p m c cc nL s args own D cT) (hr : meth.sig.returnType = none) (hlk : meth.locks = false) (hG : gG D A s.heap ws H locs) (u : S) (hp : post u) (is : List Nat) (hnd : va_nd is = true) (hsub : is.map (fun i => ws[i]?) = (w1 u).map some) (hc : cells ≤ mc) (hs : slots ≤ ms) (hdg : decode cc pc = .ok (.return_, 1)) : W p l e R s m args below meth c H locs cells slots (MQ below (gQv D cT post w1 A) args s mc ms A) (F0 m pc ls []) := by
  obtain ⟨e1, e2⟩ := g_end hG is hnd hsub
  refine W.widen hc hs ?_
  exact W.vret X.x X.b hr (fun t ht hW => ⟨⟨u, rfl, hp, by rw [ht]; exact e1, va_K.moved hW.alike X.K, e2⟩, hG.2.2.F ht⟩) hG.2.2.2.2 hdg hlk
theorem g_aret {S : Type} {post : S → Nat → Prop} {w1 : S → va_W} {rt : FieldType} (X : gX p m c cc nL s args own D cT) (hr : meth.sig.returnType = some rt) (hrt : (∃ n, rt = .object n) ∨ ∃ t, rt = .array t) (hlk : meth.locks = false) (hG : gG D A s.heap ws H locs) {ra : Nat} (u : S) (hp : post u ra) (is : List Nat) (hnd : va_nd is = true) (hsub : is.map (fun i => ws[i]?) = (w1 u).map some) (hc : cells ≤ mc) (hs : slots ≤ ms) (hdg : decode cc pc = .ok (.areturn, 1)) : W p l e R s m args below meth c H locs cells slots (MQ below (gQr D cT post w1 A) args s mc ms A) (F0 m pc ls [.ref ra]) := by
  obtain ⟨e1, e2⟩ := g_end hG is hnd hsub
  refine W.widen hc hs ?_
  exact W.aret X.x X.b hr hrt (Or.inr ⟨_, rfl⟩) (fun t ht hW => ⟨⟨u, ra, rfl, trivial, hp, by rw [ht]; exact e1, va_K.moved hW.alike X.K, e2⟩, hG.2.2.F ht⟩) hG.2.2.2.2 hdg hlk
end GROWS


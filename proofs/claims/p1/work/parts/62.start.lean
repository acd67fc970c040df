set_option maxRecDepth 100000 in
set_option maxHeartbeats 4000000 in
theorem st_E {s : State} {b : Nat} (hts : ∀ w ∈ lw_tbl, w.before #[Value.ref b] s = true) (hgv : (Jvm.Cond.and given_1 narrow_1).before #[Value.ref b] s = true) {A : Nat → Prop} (hA : ∀ a : Nat, a < s.heap.size → ¬ A a) : gE A s ∧ gEX A s := by
  have hs := flat_of_before _ hgv
  have e_roof : (Cond.exactly (Term.string "StorksLet" 157) "java/lang/String").before #[Value.ref b] s = true := hs _ (by decide +kernel)
  have r_roof : ∃ q, vk_R "StorksLet" 157 "no such roof" q s := by
    obtain ⟨a, c9, cA, kA, q1, -⟩ := Cond.exactly_spec (args := #[Value.ref b]) (first := s) (o := none) (s := s) (idx := []) (t := (Term.string "StorksLet" 157)) (cls := "java/lang/String") e_roof
    exact ⟨a, vk_R.of (hts _ (List.mem_of_getElem? (i := 1358) (by decide +kernel))) q1⟩
  have e_bird : (Cond.exactly (Term.string "StorksLet" 178) "java/lang/String").before #[Value.ref b] s = true := hs _ (by decide +kernel)
  have r_bird : ∃ q, vk_R "StorksLet" 178 "no such bird" q s := by
    obtain ⟨a, c9, cA, kA, q1, -⟩ := Cond.exactly_spec (args := #[Value.ref b]) (first := s) (o := none) (s := s) (idx := []) (t := (Term.string "StorksLet" 178)) (cls := "java/lang/String") e_bird
    exact ⟨a, vk_R.of (hts _ (List.mem_of_getElem? (i := 1393) (by decide +kernel))) q1⟩
  have e_family : (Cond.exactly (Term.string "StorksLet" 203) "java/lang/String").before #[Value.ref b] s = true := hs _ (by decide +kernel)
  have r_family : ∃ q, vk_R "StorksLet" 203 "no such family" q s := by
    obtain ⟨a, c9, cA, kA, q1, -⟩ := Cond.exactly_spec (args := #[Value.ref b]) (first := s) (o := none) (s := s) (idx := []) (t := (Term.string "StorksLet" 203)) (cls := "java/lang/String") e_family
    exact ⟨a, vk_R.of (hts _ (List.mem_of_getElem? (i := 1412) (by decide +kernel))) q1⟩
  have e_worth : (Cond.exactly (Term.string "StorksLet" 222) "java/lang/String").before #[Value.ref b] s = true := hs _ (by decide +kernel)
  have r_worth : ∃ q, vk_R "StorksLet" 222 "no such roof or bird" q s := by
    obtain ⟨a, c9, cA, kA, q1, -⟩ := Cond.exactly_spec (args := #[Value.ref b]) (first := s) (o := none) (s := s) (idx := []) (t := (Term.string "StorksLet" 222)) (cls := "java/lang/String") e_worth
    exact ⟨a, vk_R.of (hts _ (List.mem_of_getElem? (i := 1422) (by decide +kernel))) q1⟩
  have e_row : (Cond.exactly (Term.string "StorksLet" 442) "java/lang/String").before #[Value.ref b] s = true := hs _ (by decide +kernel)
  have r_row : ∃ q, vk_R "StorksLet" 442 "the row has no such number" q s := by
    obtain ⟨a, c9, cA, kA, q1, -⟩ := Cond.exactly_spec (args := #[Value.ref b]) (first := s) (o := none) (s := s) (idx := []) (t := (Term.string "StorksLet" 442)) (cls := "java/lang/String") e_row
    exact ⟨a, vk_R.of (hts _ (List.mem_of_getElem? (i := 1430) (by decide +kernel))) q1⟩
  obtain ⟨adK, adV, hSt, hev⟩ := vk_Sof (args := #[Value.ref b]) (s := s) (N := 1) (tm := fun _ => (Term.string "StorksLet$Worths" 24)) (len := [10]) (byt := [[104, 115, 118, 119, 114, 105, 107, 111, 100, 102]]) (A := A) (fun i hi => by rw [show i = 0 by omega]; decide) (fun i _ => hs _ (by decide +kernel)) (fun i _ => hs _ (by decide +kernel)) (fun i _ => hs _ (by decide +kernel)) (fun i hi => by rw [show i = 0 by omega]; exact hs _ (by decide +kernel)) (fun i hi j hj => by
      rw [show i = 0 by omega] at hj ⊢
      have hj : j < 10 := hj
      match j, hj with
      | 0, _ => exact hs _ (by decide +kernel)
      | 1, _ => exact hs _ (by decide +kernel)
      | 2, _ => exact hs _ (by decide +kernel)
      | 3, _ => exact hs _ (by decide +kernel)
      | 4, _ => exact hs _ (by decide +kernel)
      | 5, _ => exact hs _ (by decide +kernel)
      | 6, _ => exact hs _ (by decide +kernel)
      | 7, _ => exact hs _ (by decide +kernel)
      | 8, _ => exact hs _ (by decide +kernel)
      | 9, _ => exact hs _ (by decide +kernel)
      | n + 10, h => exact absurd h (by omega)) (fun i j hi hj h => absurd (show i = j by omega) h) hA
  obtain ⟨o1, o2, o3, o4⟩ := hSt.1 0 (by decide)
  have hR : vk_R "StorksLet$Worths" 24 "hsvwrikodf" (adK 0) s := vk_R.of (hts _ (List.mem_of_getElem? (i := 164) (by decide +kernel))) (hev 0 (by decide))
  have z1 : va_Z "java/lang/String" "COMPACT_STRINGS" "Z" (.int 1) A s s.heap := va_Zof (hts _ (List.mem_of_getElem? (i := 174) (by decide +kernel))) (hts _ (List.mem_of_getElem? (i := 71) (by decide +kernel))) (va_eqi (hs (Cond.eq (.static "java/lang/String" "COMPACT_STRINGS" "Z") (.int 1)) (by decide +kernel))) hA
  refine ⟨⟨⟨va_Nw.of rfl (hts _ (List.mem_of_getElem? (i := 102) (by decide +kernel))), va_Nw.of rfl (hts _ (List.mem_of_getElem? (i := 136) (by decide +kernel))), va_Nw.of rfl (hts _ (List.mem_of_getElem? (i := 154) (by decide +kernel))), va_Nw.of rfl (hts _ (List.mem_of_getElem? (i := 288) (by decide +kernel))), va_Nw.of rfl (hts _ (List.mem_of_getElem? (i := 330) (by decide +kernel))), va_Nw.of rfl (hts _ (List.mem_of_getElem? (i := 350) (by decide +kernel))), va_Nw.of rfl (hts _ (List.mem_of_getElem? (i := 370) (by decide +kernel))), va_Nw.of rfl (hts _ (List.mem_of_getElem? (i := 399) (by decide +kernel))), va_Nw.of rfl (hts _ (List.mem_of_getElem? (i := 160) (by decide +kernel))), (hts (.arrayOver (.array .int)) (List.mem_of_getElem? (i := 355) (by decide +kernel)))⟩, adK 0, adV 0, hR, o3, o2, ⟨_, o4⟩, o1, z1⟩, ?_⟩
  exact ⟨⟨vx_Zqof (hts _ (List.mem_of_getElem? (i := 1346) (by decide +kernel))) (hts _ (List.mem_of_getElem? (i := 85) (by decide +kernel))) (hs (.isRef (.static Bundle.tN "UNASSIGNED_STACK" Bundle.steD)) (by decide +kernel)) hA, vx_Zqof (hts _ (List.mem_of_getElem? (i := 1348) (by decide +kernel))) (hts _ (List.mem_of_getElem? (i := 85) (by decide +kernel))) (hs (.isRef (.static Bundle.tN "SUPPRESSED_SENTINEL" Bundle.listD)) (by decide +kernel)) hA⟩, ⟨va_Nw.of rfl (hts _ (List.mem_of_getElem? (i := 1321) (by decide +kernel))), va_Nw.of rfl (hts _ (List.mem_of_getElem? (i := 1323) (by decide +kernel))), va_Nw.of rfl (hts _ (List.mem_of_getElem? (i := 1325) (by decide +kernel))), va_Nw.of rfl (hts _ (List.mem_of_getElem? (i := 1327) (by decide +kernel)))⟩, r_roof, r_bird, r_family, r_worth, r_row⟩
theorem st_arr {s : State} {args : Array Value} {ty : FieldType} (h : (Cond.arrayClass ty).before args s = true) (hn : refKind ty = false) : ∃ cA : ClassId, ArrOfT s cA ty ∧ va_RA s cA ty := by
  obtain ⟨cA, kA, comp, h1, h2, h3⟩ := Cond.arrayClass_spec h
  refine ⟨cA, fun n z => ⟨fun k h => (by cases h), kA, h2, comp, h3⟩, ?_⟩
  cases ty <;> first | exact h1 | (simp [refKind] at hn)
set_option maxRecDepth 100000 in
theorem st_K {s : State} {args : Array Value} (ht : ∀ w ∈ gT, w.before args s = true) (ha : (Cond.arrayOver (.array .int)).before args s = true) : ∃ (D : va_G) (cT : Nat → ClassId), va_K D vwCl (gTY cT) s := by
  have h : ∀ k : Nat, ∃ z : ClassId × (Nat → Nat), ∀ q : vw_C, vwCl[k]? = some q → u_Kn s q.1 q.2.1 q.2.2 z.1 z.2 := by
    intro k
    match k with
    | 0 =>
      obtain ⟨c9, i9, h9⟩ := u_known (C := RX0) (T := TX0) (N := 3) (n := 3) ht in_X0 (ht _ m_349)
      exact ⟨(c9, i9), fun q hq => by cases hq; exact h9⟩
    | 1 =>
      obtain ⟨c9, i9, h9⟩ := u_known (C := RX2) (T := TX2) (N := 2) (n := 2) ht in_X2 (ht _ m_135)
      exact ⟨(c9, i9), fun q hq => by cases hq; exact h9⟩
    | 2 =>
      obtain ⟨c9, i9, h9⟩ := u_known (C := RX3) (T := TX3) (N := 11) (n := 11) ht in_X3 (ht _ m_287)
      exact ⟨(c9, i9), fun q hq => by cases hq; exact h9⟩
    | 3 =>
      obtain ⟨c9, i9, h9⟩ := u_known (C := RX4) (T := TX4) (N := 9) (n := 9) ht in_X4 (ht _ m_1134)
      exact ⟨(c9, i9), fun q hq => by cases hq; exact h9⟩
    | 4 =>
      obtain ⟨c9, i9, h9⟩ := u_known (C := RX5) (T := TX5) (N := 4) (n := 4) ht in_X5 (ht _ m_398)
      exact ⟨(c9, i9), fun q hq => by cases hq; exact h9⟩
    | 5 =>
      obtain ⟨c9, i9, h9⟩ := u_known (C := RX6) (T := TX6) (N := 4) (n := 4) ht in_X6 (ht _ m_101)
      exact ⟨(c9, i9), fun q hq => by cases hq; exact h9⟩
    | 6 =>
      obtain ⟨c9, i9, h9⟩ := u_known (C := RX7) (T := TX7) (N := 7) (n := 7) ht in_X7 (ht _ m_369)
      exact ⟨(c9, i9), fun q hq => by cases hq; exact h9⟩
    | 7 =>
      obtain ⟨c9, i9, h9⟩ := u_known (C := RX8) (T := TX8) (N := 19) (n := 19) ht in_X8 (ht _ m_153)
      exact ⟨(c9, i9), fun q hq => by cases hq; exact h9⟩
    | 8 =>
      obtain ⟨c9, i9, h9⟩ := u_known (C := RX9) (T := TX9) (N := 4) (n := 4) ht in_X9 (ht _ m_329)
      exact ⟨(c9, i9), fun q hq => by cases hq; exact h9⟩
    | 9 =>
      obtain ⟨c9, i9, h9⟩ := u_known (C := RX10) (T := TX10) (N := 6) (n := 6) ht in_X10 (ht _ m_159)
      exact ⟨(c9, i9), fun q hq => by cases hq; exact h9⟩
    | 10 =>
      obtain ⟨c9, i9, h9⟩ := u_known (C := RX11) (T := TX11) (N := 16) (n := 16) ht in_X11 (ht _ m_93)
      exact ⟨(c9, i9), fun q hq => by cases hq; exact h9⟩
    | 11 =>
      obtain ⟨c9, i9, h9⟩ := u_known (C := RX12) (T := TX12) (N := 68) (n := 68) ht in_X12 (ht _ m_1432)
      exact ⟨(c9, i9), fun q hq => by cases hq; exact h9⟩
    | k + 12 => exact ⟨(0, fun _ => 0), fun q hq => by simp [vwCl] at hq⟩
  obtain ⟨f, hf⟩ := Classical.axiomOfChoice h
  obtain ⟨c_int, a_int⟩ := st_arr (ty := .int) (ht _ m_151) rfl
  obtain ⟨c_char, a_char⟩ := st_arr (ty := .char) (ht _ m_133) rfl
  obtain ⟨c_byte, a_byte⟩ := st_arr (ty := .byte) (ht _ m_195) rfl
  obtain ⟨c_boolean, a_boolean⟩ := st_arr (ty := .boolean) (ht _ m_1167) rfl
  obtain ⟨c_long, a_long⟩ := st_arr (ty := .long) (ht _ m_2082) rfl
  obtain ⟨cm, cG, kG, -, -, g3, g4, g5⟩ := Jvm.Stand.arrayOver_specB ha
  refine ⟨(fun k => (f k).1, fun k => (f k).2), fun k => [c_int, c_char, c_byte, c_boolean, cG, c_long].getD k 0, fun k q hq => hf k q hq, ?_⟩
  intro k q hq
  match k, hq with
  | 0, hq => cases hq; exact a_int
  | 1, hq => cases hq; exact a_char
  | 2, hq => cases hq; exact a_byte
  | 3, hq => cases hq; exact a_boolean
  | 4, hq => cases hq; exact ⟨fun n z => ⟨fun k h => (by cases h), kG, g3, cm, g4⟩, g5⟩
  | 5, hq => cases hq; exact a_long
  | k + 6, hq => simp [gTY] at hq
section GNL
variable {p : Program} {l : Launch} {e : Env} {R : Room} {s : State} {m : MethodId} {args : Array Value} {below : List Frame} {meth : Method} {c : Code} {H H0 : Heap} {locs : List Loc} {cells slots : Nat} {Q : State → Prop}
variable {cc : ByteArray} {nL pc : Nat} {ls : Array Slot} {rest : List Value} {D : va_G} {A : Nat → Prop} {ws : va_W} {cT : Nat → ClassId} {own : String}
theorem g_newl (X : gX p m c cc nL s args own D cT) (hG : gG D A H0 ws H locs) (hA : ∀ q, H0.size ≤ q → A q) (hw : Cond.arrayClass .long ∈ gT) {c1 s1 : Nat} (hc1 : cells + 1 = c1) (hs1 : slots + 1 = s1) (hcR : c1 ≤ R.cells) (hsR : s1 ≤ R.slots) (hdg : decode cc pc = .ok (.newarray .long, 2))
    (kk : ∀ (q : Nat) (H1 : Heap), gG D A H0 ws H1 locs → W p l e R s m args below meth c H1 locs c1 s1 Q (F0 m (pc + 2) ls (.ref q :: rest))) : W p l e R s m args below meth c H locs cells slots Q (F0 m pc ls (.int 1 :: rest)) := by
  subst hc1; subst hs1
  refine va_newa (atype := .long) (a0 := (1, .inr (.inl (fun _ => 0)))) X.x X.b (X.t _ hw) rfl X.K hG.1 hG.2.1 hG.2.2 hA (fun cA => by rw [vp_cell_l]; rfl) (by decide +kernel) (by decide +kernel) (by decide) hcR hsR hdg (fun q cB H1 _ a1 b1 d1 => kk q H1 ?_)
  have up : ∀ {k : Nat} {x : Nat × va_E}, ws[k]? = some x → (ws ++ [(q, (.inl (cB, (1, .inr (.inl (fun _ => 0)))) : va_E))])[k]? = some x := fun {k x} h => by
    rw [List.getElem?_append_left (List.getElem?_eq_some_iff.mp h).1]; exact h
  exact ⟨fun k x hx => a1 k x (up hx), ⟨fun i j p q hi hj h => b1.1 i j p q (up hi) (up hj) h, fun k q hk => b1.2 k q (up hk)⟩, d1⟩
end GNL


/-! THE CLAIM OUT OF ONE WALK OF THE LAW'S BODY. Your part is whole_start (and what it stands on); all else here is the same for every law, but numbers. -/
def R_law : String := "WordMazeLaw"
def lw_P (b : Addr) (xs : List Int32) (args : Array Value) (s : State) : Prop := args = #[.ref b] ∧ s.IntsAt b xs ∧ xs.length ≤ 260 ∧ (Jvm.Cond.and given_1 narrow_1).before args s = true
def lw_Q (_ : Array Value) (s : State) (o : Outcome) (t : State) : Prop := o = .returned (some (.int 1)) ∧ Framed s o t [] 600000 7302249
def lw_Z (below : List Frame) (a : Array Value) (s : State) : State → Prop := fun t => ∃ o, t.status = .running ∧ Ended t below o ∧ lw_Q a s o t
/-- the law's own end, with 1 on the stack, nothing written that was there before, its room as the claim has it -/
theorem lw_ret {p : Program} {l : Launch} {e : Env} {s : State} {m : MethodId} {below : List Frame} {meth : Method} {c : Code} {b : Nat} (hx : p.tables.exec = Jvm.exec) (hb : c.code = code) (hr : meth.sig.returnType = ret) (hlocks : meth.locks = false) {pc : Nat} {H : Heap} {ls : Array Slot} (hdg : decode code pc = .ok (.ireturn, 1)) : W p l e room_1 s m #[Value.ref b] below meth c H [] 600000 7302249 (lw_Z below #[Value.ref b] s) (F0 m pc ls [.int 1]) := by
  intro T hT X
  obtain ⟨fs, hret, hrun, hended, hW, hframe⟩ := X.leave (v := some (.int 1)) (hlocks := hlocks) (fun h => by rw [hr] at h; cases h)
  have hmeth' : T.vm.method? m = some meth := X.method'
  refine ⟨T.setFrames fs, ?_, .returned (some (.int 1)), hrun, hended, rfl, ⟨_, rfl⟩, hW, hframe⟩
  jvm_step X.here [X.here.top, hx, hb, hdg, hmeth', hr, ret, narrow_b1]
  (try refine ⟨rfl, ?_⟩); (try refine ⟨rfl, ?_⟩)
  first | (intro acts; rw [hret _ acts rfl rfl rfl]) | rw [hret _ _ rfl rfl rfl]
  exact Steps.refl _
/-- what holds at the law's entry: the machine, the code, the tables' words (any of lw_tbl by 'hts w (by decide +kernel)'), the script of L ints xs at the cell b, what the Statement gives of the start (any of its parts by flat_of_before) -/
def lw_At (p : Program) (s : State) (m : MethodId) (meth : Method) (c : Code) (b L : Nat) (xs : Nat → Int32) : Prop :=
  p.tables.exec = Jvm.exec ∧ c.code = code ∧ meth.sig.returnType = ret ∧ c.maxLocals = 12 ∧ s.vm.findClass R_law = some m.cls ∧ (∀ w ∈ lw_tbl, w.before #[Value.ref b] s = true) ∧ va_X b L xs s s.heap ∧ b < s.heap.size ∧ meth.locks = false ∧ (Jvm.Cond.and given_1 narrow_1).before #[Value.ref b] s = true
-- what the law's start gives: the classes' numbers, the arrays' classes, what is not written
set_option maxHeartbeats 4000000 in
set_option maxRecDepth 100000 in
theorem z_cls {s : State} {args : Array Value} (hts : ∀ w ∈ lw_tbl, w.before args s = true) : ∃ (dC : Nat → ClassId) (dI : Nat → Nat → Nat), ∀ (k : Nat) (q : vw_C), vwCl[k]? = some q → u_Kn s q.1 q.2.1 q.2.2 (dC k) (dI k) := by
  have h : ∀ k : Nat, ∃ q : ClassId × (Nat → Nat), ∀ r : vw_C, vwCl[k]? = some r → u_Kn s r.1 r.2.1 r.2.2 q.1 q.2 := by
    intro k
    match k with
    | 0 =>
      obtain ⟨c, i, hh⟩ := u_known (C := RX0) (T := TX0) (N := 2) (n := 2) hts inX0 (hts (.instantiable RX0 2) (by decide +kernel))
      refine ⟨(c, i), fun r hr => ?_⟩
      have e : ((RX0, TX0, 2) : vw_C) = r := Option.some.inj hr
      subst e
      exact hh
    | 1 =>
      obtain ⟨c, i, hh⟩ := u_known (C := RX1) (T := TX1) (N := 2) (n := 2) hts inX1 (hts (.instantiable RX1 2) (by decide +kernel))
      refine ⟨(c, i), fun r hr => ?_⟩
      have e : ((RX1, TX1, 2) : vw_C) = r := Option.some.inj hr
      subst e
      exact hh
    | 2 =>
      obtain ⟨c, i, hh⟩ := u_known (C := RX2) (T := TX2) (N := 3) (n := 3) hts inX2 (hts (.instantiable RX2 3) (by decide +kernel))
      refine ⟨(c, i), fun r hr => ?_⟩
      have e : ((RX2, TX2, 3) : vw_C) = r := Option.some.inj hr
      subst e
      exact hh
    | 3 =>
      obtain ⟨c, i, hh⟩ := u_known (C := RX3) (T := TX3) (N := 3) (n := 3) hts inX3 (hts (.instantiable RX3 3) (by decide +kernel))
      refine ⟨(c, i), fun r hr => ?_⟩
      have e : ((RX3, TX3, 3) : vw_C) = r := Option.some.inj hr
      subst e
      exact hh
    | 4 =>
      obtain ⟨c, i, hh⟩ := u_known (C := RX4) (T := TX4) (N := 1) (n := 1) hts inX4 (hts (.instantiable RX4 1) (by decide +kernel))
      refine ⟨(c, i), fun r hr => ?_⟩
      have e : ((RX4, TX4, 1) : vw_C) = r := Option.some.inj hr
      subst e
      exact hh
    | 5 =>
      obtain ⟨c, i, hh⟩ := u_known (C := RX5) (T := TX5) (N := 6) (n := 6) hts inX5 (hts (.instantiable RX5 6) (by decide +kernel))
      refine ⟨(c, i), fun r hr => ?_⟩
      have e : ((RX5, TX5, 6) : vw_C) = r := Option.some.inj hr
      subst e
      exact hh
    | 6 =>
      obtain ⟨c, i, hh⟩ := u_known (C := RX6) (T := TX6) (N := 6) (n := 6) hts inX6 (hts (.instantiable RX6 6) (by decide +kernel))
      refine ⟨(c, i), fun r hr => ?_⟩
      have e : ((RX6, TX6, 6) : vw_C) = r := Option.some.inj hr
      subst e
      exact hh
    | 7 =>
      obtain ⟨c, i, hh⟩ := u_known (C := RX7) (T := TX7) (N := 2) (n := 2) hts inX7 (hts (.instantiable RX7 2) (by decide +kernel))
      refine ⟨(c, i), fun r hr => ?_⟩
      have e : ((RX7, TX7, 2) : vw_C) = r := Option.some.inj hr
      subst e
      exact hh
    | 8 =>
      obtain ⟨c, i, hh⟩ := u_known (C := RX8) (T := TX8) (N := 5) (n := 5) hts inX8 (hts (.instantiable RX8 5) (by decide +kernel))
      refine ⟨(c, i), fun r hr => ?_⟩
      have e : ((RX8, TX8, 5) : vw_C) = r := Option.some.inj hr
      subst e
      exact hh
    | 9 =>
      obtain ⟨c, i, hh⟩ := u_known (C := RX9) (T := TX9) (N := 7) (n := 7) hts inX9 (hts (.instantiable RX9 7) (by decide +kernel))
      refine ⟨(c, i), fun r hr => ?_⟩
      have e : ((RX9, TX9, 7) : vw_C) = r := Option.some.inj hr
      subst e
      exact hh
    | 10 =>
      obtain ⟨c, i, hh⟩ := u_known (C := RX10) (T := TX10) (N := 7) (n := 7) hts inX10 (hts (.instantiable RX10 7) (by decide +kernel))
      refine ⟨(c, i), fun r hr => ?_⟩
      have e : ((RX10, TX10, 7) : vw_C) = r := Option.some.inj hr
      subst e
      exact hh
    | k + 11 =>
      refine ⟨(0, fun _ => 0), fun r hr => ?_⟩
      have hl : k + 11 < 11 := (List.getElem?_eq_some_iff.mp hr).1
      omega
  obtain ⟨f, hf⟩ := Classical.axiomOfChoice h
  exact ⟨fun k => (f k).1, fun k => (f k).2, hf⟩
set_option maxHeartbeats 4000000 in
set_option maxRecDepth 100000 in
theorem z_K {s : State} {args : Array Value} (hts : ∀ w ∈ lw_tbl, w.before args s = true) : ∃ (dC : Nat → ClassId) (dI : Nat → Nat → Nat) (cy : gC), va_K (dC, dI) vwCl (TY cy) s := by
  obtain ⟨dC, dI, hK⟩ := z_cls hts
  obtain ⟨cI, kI, pI, a1, a2, a3⟩ := Cond.arrayClass_spec (hts (.arrayClass .int) (by decide +kernel))
  obtain ⟨comp, cO, kO, o1, o2, o3, o4, o5⟩ := Cond.arrayOver_spec (hts (.arrayOver (.object "WordMaze$State")) (by decide +kernel))
  refine ⟨dC, dI, (cI, cI, cO), hK, ?_⟩
  intro k q hq
  match k, hq with
  | 0, hq =>
    have e : ((cI, .int) : ClassId × FieldType) = q := Option.some.inj hq
    subst e
    exact ⟨fun n z => ⟨fun k h => (by cases h), kI, a2, pI, a3⟩, a1⟩
  | 1, hq =>
    have e : ((cI, .int) : ClassId × FieldType) = q := Option.some.inj hq
    subst e
    exact ⟨fun n z => ⟨fun k h => (by cases h), kI, a2, pI, a3⟩, a1⟩
  | 2, hq =>
    have e : ((cO, .object "WordMaze$State") : ClassId × FieldType) = q := Option.some.inj hq
    subst e
    exact ⟨fun n z => ⟨fun k h => (by cases h), kO, o3, comp, o4⟩, kO, comp, o3, o4, o1, o5⟩
  | k + 3, hq =>
    have hl : k + 3 < 3 := (List.getElem?_eq_some_iff.mp hq).1
    omega
abbrev zTm : Nat → Term := fun i => match i with
  | 0 => .string "WordMaze$Shape" 60
  | _ => .string "WordMaze$Moves" 34
abbrev zVal (i : Nat) : Term := .field (zTm i) "java/lang/String" "value" "[B"
set_option maxRecDepth 100000 in
theorem z_pel : ∀ j : Fin 75, Cond.eq (.elem (.static "WordMaze" "PATTERNS" "[I") (.int (Int32.ofNat j.val))) (.int (patT j.val)) ∈ flatC (Jvm.Cond.and given_1 narrow_1) := by decide +kernel
set_option maxRecDepth 100000 in
theorem z_sel0 : ∀ j : Fin 15, Cond.eq (.elem (zVal 0) (.int (Int32.ofNat j.val))) (.int ((strL.getD 0 []).getD j.val 0)) ∈ flatC (Jvm.Cond.and given_1 narrow_1) := by decide +kernel
set_option maxRecDepth 100000 in
theorem z_sel1 : ∀ j : Fin 4, Cond.eq (.elem (zVal 1) (.int (Int32.ofNat j.val))) (.int ((strL.getD 1 []).getD j.val 0)) ∈ flatC (Jvm.Cond.and given_1 narrow_1) := by decide +kernel
theorem z_two {P : Nat → Prop} (h0 : P 0) (h1 : P 1) : ∀ i : Nat, i < 2 → P i := by
  intro i hi
  match i, hi with
  | 0, _ => exact h0
  | 1, _ => exact h1
  | i + 2, hi => omega
set_option maxHeartbeats 4000000 in
set_option maxRecDepth 100000 in
theorem z_gG {s : State} {b : Nat} (hts : ∀ w ∈ lw_tbl, w.before #[Value.ref b] s = true) (hgv : (Jvm.Cond.and given_1 narrow_1).before #[Value.ref b] s = true) : ∃ G : gT, gG G (fun q : Nat => s.heap.size ≤ q) s s.heap := by
  have hs := flat_of_before _ hgv
  have hA : ∀ a : Nat, a < s.heap.size → ¬ (fun q : Nat => s.heap.size ≤ q) a := fun a h => Nat.not_le.mpr h
  obtain ⟨t, ht, hT⟩ := va_Tof (tm := .static "WordMaze" "PATTERNS" "[I") (ty := .int) (N := 75) (f := fun j => .int (patT j)) (A := fun q : Nat => s.heap.size ≤ q) (by decide) (hs _ (by decide +kernel)) (va_eqt (z := 75) (hs _ (by decide +kernel))) (fun j hj => va_eqt (hs _ (z_pel ⟨j, hj⟩))) hA
  obtain ⟨adK, adV, hS, hev⟩ := vk_Sof (args := #[Value.ref b]) (s := s) (N := 2) (tm := zTm) (len := strN) (byt := strL) (A := fun q : Nat => s.heap.size ≤ q) (z_two (by decide) (by decide)) (z_two (hs _ (by decide +kernel)) (hs _ (by decide +kernel))) (z_two (hs _ (by decide +kernel)) (hs _ (by decide +kernel))) (z_two (hs _ (by decide +kernel)) (hs _ (by decide +kernel))) (z_two (hs _ (by decide +kernel)) (hs _ (by decide +kernel)))
    (z_two (fun j hj => hs _ (z_sel0 ⟨j, hj⟩)) (fun j hj => hs _ (z_sel1 ⟨j, hj⟩)))
    (by
      have h01 : (Cond.not (Cond.eq (zTm 0) (zTm 1))).before #[Value.ref b] s = true := hs _ (by decide +kernel)
      intro i j hi hj hne
      match i, hi, j, hj with
      | 0, _, 0, _ => exact absurd rfl hne
      | 0, _, 1, _ => exact Or.inl h01
      | 1, _, 0, _ => exact Or.inr h01
      | 1, _, 1, _ => exact absurd rfl hne
      | i + 2, hi, _, _ => omega
      | _, _, j + 2, hj => omega) hA
  have e0 : (Term.string "WordMaze$Shape" 60).eval #[Value.ref b] s none [] s = some (.ref (adK 0)) := hev 0 (by decide)
  have e1 : (Term.string "WordMaze$Moves" 34).eval #[Value.ref b] s none [] s = some (.ref (adK 1)) := hev 1 (by decide)
  have e2 : (Term.string "WordMaze$Text" 24).eval #[Value.ref b] s none [] s = some (.ref (adK 0)) := va_eqR (hs (Cond.eq (.string "WordMaze$Shape" 60) (.string "WordMaze$Text" 24)) (by decide +kernel)) e0
  have hn : ∀ w ∈ lw_tbl, w.onTables = true → va_Nw w s := fun w hw ho => va_Nw.of ho (hts w hw)
  refine ⟨(t, adK, adV), va_Zof (args := #[Value.ref b]) (hts _ (by decide +kernel)) (hts _ (by decide +kernel)) ht hA, hT, va_Zof (args := #[Value.ref b]) (hts _ (by decide +kernel)) (hts _ (by decide +kernel)) (va_eqi (hs _ (by decide +kernel))) hA, hS, vk_R.of (A := #[Value.ref b]) (hts _ (by decide +kernel)) e0, vk_R.of (A := #[Value.ref b]) (hts _ (by decide +kernel)) e2, vk_R.of (A := #[Value.ref b]) (hts _ (by decide +kernel)) e1, hn _ (by decide +kernel) rfl, hn _ (by decide +kernel) rfl, hn _ (by decide +kernel) rfl, hn _ (by decide +kernel) rfl, hn _ (by decide +kernel) rfl, hn _ (by decide +kernel) rfl, hn _ (by decide +kernel) rfl, hn _ (by decide +kernel) rfl, hn _ (by decide +kernel) rfl, hn _ (by decide +kernel) rfl, hn _ (by decide +kernel) rfl, hn _ (by decide +kernel) rfl, va_AO.of (A := #[Value.ref b]) (hts _ (by decide +kernel))⟩

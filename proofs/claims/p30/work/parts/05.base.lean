-- the base: worlds of this claim in one form, a call in one row
theorem chk_s {c : Prop} [Decidable c] {α : Type} {K : Option α} {o : α} (h : (if c then none else K) = some o) : ¬ c ∧ K = some o := by
  by_cases hc : c
  · rw [if_pos hc] at h; cases h
  · rw [if_neg hc] at h; exact ⟨hc, h⟩
abbrev gC : Type := ClassId × ClassId × ClassId
abbrev gT : Type := Nat × (Nat → Nat) × (Nat → Nat)
abbrev TY (cy : gC) : List (ClassId × FieldType) := [(cy.1, .int), (cy.1, .int), (cy.2.2, .object "WordMaze$State")]
def patT (j : Nat) : Int32 := ([31, 17, 31, 17, 17, 31, 16, 16, 16, 31, 31, 16, 30, 16, 31, 31, 16, 30, 16, 16, 31, 16, 23, 17, 31, 17, 17, 31, 17, 17, 4, 4, 4, 4, 4, 16, 16, 16, 16, 31, 31, 21, 21, 21, 21, 31, 17, 17, 17, 31, 31, 17, 31, 16, 16, 31, 16, 31, 1, 31, 31, 4, 4, 4, 4, 17, 17, 17, 17, 31, 21, 21, 21, 21, 31] : List Int32).getD j 0
def strL : List (List Int32) := [[65, 67, 69, 70, 71, 72, 73, 76, 77, 79, 80, 83, 84, 85, 87], [85, 82, 68, 76]]
def strN : List Nat := [15, 4]
def gG (G : gT) (A : Nat → Prop) (U : State) (H : Heap) : Prop :=
  va_Z "WordMaze" "PATTERNS" "[I" (.ref G.1) A U H ∧ va_T .int G.1 75 (fun j => .int (patT j)) A U H ∧ va_Z "java/lang/String" "COMPACT_STRINGS" "Z" (.int 1) A U H ∧ vk_S 2 strN strL G.2.1 G.2.2 A U H ∧ vk_R RX5 60 "ACEFGHILMOPSTUW" (G.2.1 0) U ∧ vk_R RX7 24 "ACEFGHILMOPSTUW" (G.2.1 0) U ∧ vk_R RX2 34 "URDL" (G.2.1 1) U ∧
  va_Nw (.fieldLinkNest RX5 67 RX10 "PATTERNS" "[I" RX10) U ∧ va_Nw (.methodLinkNest RX1 75 yX10_opposite RX10) U ∧ va_Nw (.methodLinkNest RX8 63 yX10_opposite RX10) U ∧
  va_Nw (.methodLinkNest RX10 11 yX1_init RX10) U ∧ va_Nw (.methodLinkNest RX1 11 yX5_init RX10) U ∧ va_Nw (.methodLinkNest RX1 20 yX6_init RX10) U ∧ va_Nw (.methodLinkNest RX0 17 yX6_init RX10) U ∧ va_Nw (.methodLinkNest RX10 25 yX3_init RX10) U ∧ va_Nw (.methodLinkNest RX10 32 yX9_init RX10) U ∧ va_Nw (.methodLinkNest RX10 39 yX8_init RX10) U ∧ va_Nw (.methodLinkNest RX10 46 yX7_init RX10) U ∧ va_Nw (.methodLinkNest RX10 53 yX2_init RX10) U ∧ va_AO "WordMaze$State" U
theorem gG.call {G : gT} {A B : Nat → Prop} {s : State} {H : Heap} {locs : List Loc} (h : gG G A s s.heap) (hS : va_S A s.heap H locs) (hF : ∀ q, B q → A q) : ∀ U : State, U.heap = H → s.WarmedH U.vm → gG G B U U.heap := by
  intro U hU hW
  obtain ⟨h1, h2, h3, h4, h5, h6, h7, n1, n2, n3, n4, n5, n6, n7, n8, n9, n10, n11, n12, n13⟩ := h
  rw [hU]
  exact ⟨((h1.kept hS.2.1).narrow hF).moved hW.alike, ((h2.kept hS.2.1).narrow hF).moved hW.alike, ((h3.kept hS.2.1).narrow hF).moved hW.alike, ((h4.kept hS.2.1).narrow hF).moved hW.alike, h5.warm hW, h6.warm hW, h7.warm hW, va_Nw.warmF hW n1, va_Nw.warmM hW n2, va_Nw.warmM hW n3, va_Nw.warmM hW n4, va_Nw.warmM hW n5, va_Nw.warmM hW n6, va_Nw.warmM hW n7, va_Nw.warmM hW n8, va_Nw.warmM hW n9, va_Nw.warmM hW n10, va_Nw.warmM hW n11, va_Nw.warmM hW n12, n13.moved hW.alike⟩
theorem gG.blind {G : gT} {A : Nat → Prop} {U : State} {g : JFrame} {mk : MethodId} {a : Array Value} (h : gG G A U U.heap) : gG G A (U.calling g mk a) (U.calling g mk a).heap := by
  obtain ⟨h1, h2, h3, h4, h5, h6, h7, n1, n2, n3, n4, n5, n6, n7, n8, n9, n10, n11, n12, n13⟩ := h
  have e : (U.calling g mk a).vm = U.vm := rfl
  have al : U.vm.Alike (U.calling g mk a).vm := Vm.Alike.refl U.vm
  exact ⟨h1.moved al, h2.moved al, h3.moved al, h4.moved al, h5.same e, h6.same e, h7.same e, va_Nw.same rfl e.symm n1, va_Nw.same rfl e.symm n2, va_Nw.same rfl e.symm n3, va_Nw.same rfl e.symm n4, va_Nw.same rfl e.symm n5, va_Nw.same rfl e.symm n6, va_Nw.same rfl e.symm n7, va_Nw.same rfl e.symm n8, va_Nw.same rfl e.symm n9, va_Nw.same rfl e.symm n10, va_Nw.same rfl e.symm n11, va_Nw.same rfl e.symm n12, n13.moved al⟩
def kP (D : va_G) (cy : gC) (G : gT) (ws : va_W) (sz : Nat) : State → Prop := fun U => U.heap.size = sz ∧ va_P D vwCl ws U.heap ∧ va_K D vwCl (TY cy) U ∧ va_D (fun _ => True) ws ∧ gG G (va_A ws sz) U U.heap
def kQ (D : va_G) (cy : gC) (ws : va_W) (A : Nat → Prop) : State → Prop := fun t => va_P D vwCl ws t.heap ∧ va_K D vwCl (TY cy) t ∧ va_D A ws
def kQE {α : Type} (D : va_G) (cy : gC) (wE : α → va_W) (A : Nat → Prop) : State → Prop := fun t => ∃ ad : α, kQ D cy (wE ad) A t
theorem kBlind {av : List Value} {D : va_G} {cy : gC} {G : gT} {ws : va_W} {sz : Nat} : FrameBlind (va_Pc av (kP D cy G ws sz)) := by
  intro a U g mk h
  obtain ⟨h, h1, h2, h3, h4, h5⟩ := h
  exact ⟨h, h1, h2, va_K.moved (u := U) (U := U.calling g mk a) (Vm.Alike.refl U.vm) h3, h4, h5.blind⟩
theorem kPre {s : State} {H : Heap} {locs : List Loc} {D : va_G} {cy : gC} {G : gT} {A B : Nat → Prop} {wc : va_W} (hK : va_K D vwCl (TY cy) s) (hG : gG G A s s.heap) (hS : va_S A s.heap H locs) (hP : va_P D vwCl wc H) (hD : va_D B wc) (hF : ∀ q, va_A wc H.size q → A q) : ∀ U : State, U.heap = H → s.WarmedH U.vm → kP D cy G wc H.size U :=
  fun U hU hW => ⟨by rw [hU], by rw [hU]; exact hP, va_K.moved hW.alike hK, hD.weaken (fun _ _ _ _ => trivial), hG.call hS hF U hU hW⟩
def kdj (a b : List Nat) : Bool := a.all (fun i => !(b.contains i))
theorem kdj_s {a b : List Nat} (h : kdj a b = true) : ∀ i ∈ a, i ∉ b := by
  intro i hi hb
  have h1 := List.all_eq_true.mp h i hi
  rw [List.contains_iff_mem.mpr hb] at h1
  cases h1
section KC
variable {p : Program} {l : Launch} {e : Env} {R : Room} {s : State} {m : MethodId} {args : Array Value} {below : List Frame} {meth : Method} {c : Code} {H : Heap} {locs : List Loc} {cells slots : Nat} {Q : State → Prop}
variable {pc : Nat} {ls : Array Slot} {rest st0 : List Value} {a : Array Value} {A : Nat → Prop} {D : va_G} {cy : gC} {G : gT} {ws wc wr w1 : va_W} {cc : ByteArray}
theorem kcst {x y : Int32} (h : x = y) (k : W p l e R s m args below meth c H locs cells slots Q (F0 m pc ls (.int y :: rest))) : W p l e R s m args below meth c H locs cells slots Q (F0 m pc ls (.int x :: rest)) := by rw [h]; exact k
theorem kgen {g : JFrame} (k : ∀ Q' : State → Prop, Q' = Q → W p l e R s m args below meth c H locs cells slots Q' g) : W p l e R s m args below meth c H locs cells slots Q g := k Q rfl
theorem kcalli (hK : va_K D vwCl (TY cy) s) (hP : va_P D vwCl ws H) (hD : va_D A ws) (hS : va_S A s.heap H locs) (hA : ∀ q, s.heap.size ≤ q → A q) (hG : gG G A s s.heap) (isC isR : List Nat) (hC : isC.map (fun i => ws[i]?) = wc.map some) (hR : isR.map (fun i => ws[i]?) = wr.map some) (hnC : va_nd isC = true) (hnR : va_nd isR = true) (hdis : kdj isR isC = true) {S : Type} {post : Int32 → S → Prop} {B : S → State → Prop}
    (hr : (∀ U : State, U.heap = H → s.WarmedH U.vm → kP D cy G wc H.size U) → va_P D vwCl wc H → va_Run p l e R s m args below meth c H locs cells slots 0 0 (F0 m pc ls st0) rest (va_Qi post B (va_A wc H.size) a) (va_A wc H.size))
    (r : Int32) (hpost : ∀ r' u, post r' u → r' = r) (hB : ∀ u t, B u t → kQ D cy w1 (va_A wc H.size) t)
    (kk : ∀ (H1 : Heap) (locs1 : List Loc), va_P D vwCl (wr ++ w1) H1 → va_D A (wr ++ w1) → va_S A s.heap H1 locs1 → W p l e R s m args below meth c H1 locs1 cells slots Q (F0 m (pc + 3) ls (.int r :: rest))) : W p l e R s m args below meth c H locs cells slots Q (F0 m pc ls st0) := by
  have hDc : va_D A wc := hD.sub isC hnC hC
  have hPc : va_P D vwCl wc H := by
    intro k q hk
    have h1 : (isC.map (fun i => ws[i]?))[k]? = some (some q) := by rw [hC, List.getElem?_map, hk]; rfl
    rw [List.getElem?_map] at h1
    cases hi : isC[k]? with
    | none => rw [hi] at h1; cases h1
    | some i => rw [hi] at h1; exact hP i q (Option.some.inj h1)
  have hFc := va_free (wc := wc) hD hS hA isC hC
  refine va_calli (hr (kPre hK hG hS hPc hDc hFc) hPc) hS (fun q _ h => hFc q h) hFc (fun r' u t H1 locs1 ht hvm hw hB1 hz hk hS1 => ?_)
  obtain ⟨hP1, hK1, hD1⟩ := hB u t hB1
  rw [ht] at hP1
  obtain ⟨hP2, hD2⟩ := va_join (wr := wr) (w1 := w1) hP hD isC isR hC hR hnR (kdj_s hdis) hk hFc hP1 hD1
  rw [hpost r' u hw]
  exact kk H1 locs1 hP2 hD2 hS1
theorem kcallv (hK : va_K D vwCl (TY cy) s) (hP : va_P D vwCl ws H) (hD : va_D A ws) (hS : va_S A s.heap H locs) (hA : ∀ q, s.heap.size ≤ q → A q) (hG : gG G A s s.heap) (isC isR : List Nat) (hC : isC.map (fun i => ws[i]?) = wc.map some) (hR : isR.map (fun i => ws[i]?) = wr.map some) (hnC : va_nd isC = true) (hnR : va_nd isR = true) (hdis : kdj isR isC = true) {S : Type} {post : S → Prop} {B : S → State → Prop}
    (hr : (∀ U : State, U.heap = H → s.WarmedH U.vm → kP D cy G wc H.size U) → va_P D vwCl wc H → va_Run p l e R s m args below meth c H locs cells slots 0 0 (F0 m pc ls st0) rest (va_Qv post B (va_A wc H.size) a) (va_A wc H.size))
    (hB : ∀ u t, B u t → kQ D cy w1 (va_A wc H.size) t)
    (kk : ∀ (H1 : Heap) (locs1 : List Loc), va_P D vwCl (wr ++ w1) H1 → va_D A (wr ++ w1) → va_S A s.heap H1 locs1 → W p l e R s m args below meth c H1 locs1 cells slots Q (F0 m (pc + 3) ls rest)) : W p l e R s m args below meth c H locs cells slots Q (F0 m pc ls st0) := by
  have hDc : va_D A wc := hD.sub isC hnC hC
  have hPc : va_P D vwCl wc H := by
    intro k q hk
    have h1 : (isC.map (fun i => ws[i]?))[k]? = some (some q) := by rw [hC, List.getElem?_map, hk]; rfl
    rw [List.getElem?_map] at h1
    cases hi : isC[k]? with
    | none => rw [hi] at h1; cases h1
    | some i => rw [hi] at h1; exact hP i q (Option.some.inj h1)
  have hFc := va_free (wc := wc) hD hS hA isC hC
  refine va_callv (hr (kPre hK hG hS hPc hDc hFc) hPc) hS (fun q _ h => hFc q h) hFc (fun u t H1 locs1 ht hvm hw hB1 hz hk hS1 => ?_)
  obtain ⟨hP1, hK1, hD1⟩ := hB u t hB1
  rw [ht] at hP1
  obtain ⟨hP2, hD2⟩ := va_join (wr := wr) (w1 := w1) hP hD isC isR hC hR hnR (kdj_s hdis) hk hFc hP1 hD1
  exact kk H1 locs1 hP2 hD2 hS1
theorem kiret {post : Int32 → Unit → Prop} {v : Int32} (hx : p.tables.exec = Jvm.exec) (hb : c.code = cc) (hr : meth.sig.returnType = some .int) (hlocks : meth.locks = false) (hK : va_K D vwCl (TY cy) s) (hP : va_P D vwCl ws H) (hD : va_D A ws) (hS : va_S A s.heap H locs) (hv : post v ()) (hdg : decode cc pc = .ok (.ireturn, 1)) : W p l e R s m args below meth c H locs cells slots (MQ below (va_Qi post (fun _ => kQ D cy ws A) A) args s cells slots A) (F0 m pc ls [.int v]) :=
  W.iret (v := v) hx hb hr (fun t ht hW => ⟨⟨v, (), rfl, hv, by rw [ht]; exact hP, va_K.moved hW.alike hK, hD⟩, hS.F ht⟩) hS.2.2 hdg hlocks
theorem kzret {post : Int32 → Unit → Prop} {v : Int32} {ty : FieldType} (hx : p.tables.exec = Jvm.exec) (hb : c.code = cc) (hr : meth.sig.returnType = some ty) (hlocks : meth.locks = false) (hn : narrow ty (.int v) = .int v) (hK : va_K D vwCl (TY cy) s) (hP : va_P D vwCl ws H) (hD : va_D A ws) (hS : va_S A s.heap H locs) (hv : post v ()) (hdg : decode cc pc = .ok (.ireturn, 1)) : W p l e R s m args below meth c H locs cells slots (MQ below (va_Qi post (fun _ => kQ D cy ws A) A) args s cells slots A) (F0 m pc ls [.int v]) :=
  W.zret (v := v) hx hb hr hn (fun t ht hW => ⟨⟨v, (), rfl, hv, by rw [ht]; exact hP, va_K.moved hW.alike hK, hD⟩, hS.F ht⟩) hS.2.2 hdg hlocks
theorem kvret {post : Unit → Prop} (hx : p.tables.exec = Jvm.exec) (hb : c.code = cc) (hr : meth.sig.returnType = none) (hlocks : meth.locks = false) (hK : va_K D vwCl (TY cy) s) (hP : va_P D vwCl ws H) (hD : va_D A ws) (hS : va_S A s.heap H locs) (hv : post ()) (hdg : decode cc pc = .ok (.return_, 1)) : W p l e R s m args below meth c H locs cells slots (MQ below (va_Qv post (fun _ => kQ D cy ws A) A) args s cells slots A) (F0 m pc ls []) :=
  W.vret hx hb hr (fun t ht hW => ⟨⟨(), rfl, hv, by rw [ht]; exact hP, va_K.moved hW.alike hK, hD⟩, hS.F ht⟩) hS.2.2 hdg hlocks
theorem kcalliE {α : Type} {wE : α → va_W} (hK : va_K D vwCl (TY cy) s) (hP : va_P D vwCl ws H) (hD : va_D A ws) (hS : va_S A s.heap H locs) (hA : ∀ q, s.heap.size ≤ q → A q) (hG : gG G A s s.heap) (isC isR : List Nat) (hC : isC.map (fun i => ws[i]?) = wc.map some) (hR : isR.map (fun i => ws[i]?) = wr.map some) (hnC : va_nd isC = true) (hnR : va_nd isR = true) (hdis : kdj isR isC = true) {S : Type} {post : Int32 → S → Prop} {B : S → State → Prop}
    (hr : (∀ U : State, U.heap = H → s.WarmedH U.vm → kP D cy G wc H.size U) → va_P D vwCl wc H → va_Run p l e R s m args below meth c H locs cells slots 0 0 (F0 m pc ls st0) rest (va_Qi post B (va_A wc H.size) a) (va_A wc H.size))
    (r : Int32) (hpost : ∀ r' u, post r' u → r' = r) (hB : ∀ u t, B u t → kQE D cy wE (va_A wc H.size) t)
    (kk : ∀ (ad : α) (H1 : Heap) (locs1 : List Loc), va_P D vwCl (wr ++ wE ad) H1 → va_D A (wr ++ wE ad) → va_S A s.heap H1 locs1 → W p l e R s m args below meth c H1 locs1 cells slots Q (F0 m (pc + 3) ls (.int r :: rest))) : W p l e R s m args below meth c H locs cells slots Q (F0 m pc ls st0) := by
  have hDc : va_D A wc := hD.sub isC hnC hC
  have hPc : va_P D vwCl wc H := by
    intro k q hk
    have h1 : (isC.map (fun i => ws[i]?))[k]? = some (some q) := by rw [hC, List.getElem?_map, hk]; rfl
    rw [List.getElem?_map] at h1
    cases hi : isC[k]? with
    | none => rw [hi] at h1; cases h1
    | some i => rw [hi] at h1; exact hP i q (Option.some.inj h1)
  have hFc := va_free (wc := wc) hD hS hA isC hC
  refine va_calli (hr (kPre hK hG hS hPc hDc hFc) hPc) hS (fun q _ h => hFc q h) hFc (fun r' u t H1 locs1 ht hvm hw hB1 hz hk hS1 => ?_)
  obtain ⟨ad, hP1, hK1, hD1⟩ := hB u t hB1
  rw [ht] at hP1
  obtain ⟨hP2, hD2⟩ := va_join (wr := wr) (w1 := wE ad) hP hD isC isR hC hR hnR (kdj_s hdis) hk hFc hP1 hD1
  rw [hpost r' u hw]
  exact kk ad H1 locs1 hP2 hD2 hS1
theorem kcallvE {α : Type} {wE : α → va_W} (hK : va_K D vwCl (TY cy) s) (hP : va_P D vwCl ws H) (hD : va_D A ws) (hS : va_S A s.heap H locs) (hA : ∀ q, s.heap.size ≤ q → A q) (hG : gG G A s s.heap) (isC isR : List Nat) (hC : isC.map (fun i => ws[i]?) = wc.map some) (hR : isR.map (fun i => ws[i]?) = wr.map some) (hnC : va_nd isC = true) (hnR : va_nd isR = true) (hdis : kdj isR isC = true) {S : Type} {post : S → Prop} {B : S → State → Prop}
    (hr : (∀ U : State, U.heap = H → s.WarmedH U.vm → kP D cy G wc H.size U) → va_P D vwCl wc H → va_Run p l e R s m args below meth c H locs cells slots 0 0 (F0 m pc ls st0) rest (va_Qv post B (va_A wc H.size) a) (va_A wc H.size))
    (hB : ∀ u t, B u t → kQE D cy wE (va_A wc H.size) t)
    (kk : ∀ (ad : α) (H1 : Heap) (locs1 : List Loc), va_P D vwCl (wr ++ wE ad) H1 → va_D A (wr ++ wE ad) → va_S A s.heap H1 locs1 → W p l e R s m args below meth c H1 locs1 cells slots Q (F0 m (pc + 3) ls rest)) : W p l e R s m args below meth c H locs cells slots Q (F0 m pc ls st0) := by
  have hDc : va_D A wc := hD.sub isC hnC hC
  have hPc : va_P D vwCl wc H := by
    intro k q hk
    have h1 : (isC.map (fun i => ws[i]?))[k]? = some (some q) := by rw [hC, List.getElem?_map, hk]; rfl
    rw [List.getElem?_map] at h1
    cases hi : isC[k]? with
    | none => rw [hi] at h1; cases h1
    | some i => rw [hi] at h1; exact hP i q (Option.some.inj h1)
  have hFc := va_free (wc := wc) hD hS hA isC hC
  refine va_callv (hr (kPre hK hG hS hPc hDc hFc) hPc) hS (fun q _ h => hFc q h) hFc (fun u t H1 locs1 ht hvm hw hB1 hz hk hS1 => ?_)
  obtain ⟨ad, hP1, hK1, hD1⟩ := hB u t hB1
  rw [ht] at hP1
  obtain ⟨hP2, hD2⟩ := va_join (wr := wr) (w1 := wE ad) hP hD isC isR hC hR hnR (kdj_s hdis) hk hFc hP1 hD1
  exact kk ad H1 locs1 hP2 hD2 hS1
theorem kcallvC {α : Type} {wE : α → va_W} {mc ms : Nat} (hK : va_K D vwCl (TY cy) s) (hP : va_P D vwCl ws H) (hD : va_D A ws) (hS : va_S A s.heap H locs) (hA : ∀ q, s.heap.size ≤ q → A q) (hG : gG G A s s.heap) (isC isR : List Nat) (hC : isC.map (fun i => ws[i]?) = wc.map some) (hR : isR.map (fun i => ws[i]?) = wr.map some) (hnC : va_nd isC = true) (hnR : va_nd isR = true) (hdis : kdj isR isC = true) {S : Type} {post : S → Prop} {B : S → State → Prop}
    (hr : (∀ U : State, U.heap = H → s.WarmedH U.vm → kP D cy G wc H.size U) → va_P D vwCl wc H → va_Run p l e R s m args below meth c H locs cells slots mc ms (F0 m pc ls st0) rest (va_Qv post B (va_A wc H.size) a) (va_A wc H.size))
    (hB : ∀ u t, B u t → kQE D cy wE (va_A wc H.size) t)
    (kk : ∀ (ad : α) (H1 : Heap) (locs1 : List Loc), va_P D vwCl (wr ++ wE ad) H1 → va_D A (wr ++ wE ad) → va_S A s.heap H1 locs1 → W p l e R s m args below meth c H1 locs1 (cells + mc) (slots + ms) Q (F0 m (pc + 3) ls rest)) : W p l e R s m args below meth c H locs cells slots Q (F0 m pc ls st0) := by
  have hDc : va_D A wc := hD.sub isC hnC hC
  have hPc : va_P D vwCl wc H := by
    intro k q hk
    have h1 : (isC.map (fun i => ws[i]?))[k]? = some (some q) := by rw [hC, List.getElem?_map, hk]; rfl
    rw [List.getElem?_map] at h1
    cases hi : isC[k]? with
    | none => rw [hi] at h1; cases h1
    | some i => rw [hi] at h1; exact hP i q (Option.some.inj h1)
  have hFc := va_free (wc := wc) hD hS hA isC hC
  refine va_callv (hr (kPre hK hG hS hPc hDc hFc) hPc) hS (fun q _ h => hFc q h) hFc (fun u t H1 locs1 ht hvm hw hB1 hz hk hS1 => ?_)
  obtain ⟨ad, hP1, hK1, hD1⟩ := hB u t hB1
  rw [ht] at hP1
  obtain ⟨hP2, hD2⟩ := va_join (wr := wr) (w1 := wE ad) hP hD isC isR hC hR hnR (kdj_s hdis) hk hFc hP1 hD1
  exact kk ad H1 locs1 hP2 hD2 hS1
theorem kiretE {α : Type} {wE : α → va_W} (ad : α) {post : Int32 → Unit → Prop} {v : Int32} (hx : p.tables.exec = Jvm.exec) (hb : c.code = cc) (hr : meth.sig.returnType = some .int) (hlocks : meth.locks = false) (hK : va_K D vwCl (TY cy) s) (hP : va_P D vwCl (wE ad) H) (hD : va_D A (wE ad)) (hS : va_S A s.heap H locs) (hv : post v ()) (hdg : decode cc pc = .ok (.ireturn, 1)) : W p l e R s m args below meth c H locs cells slots (MQ below (va_Qi post (fun _ => kQE D cy wE A) A) args s cells slots A) (F0 m pc ls [.int v]) :=
  W.iret (v := v) hx hb hr (fun t ht hW => ⟨⟨v, (), rfl, hv, ad, by rw [ht]; exact hP, va_K.moved hW.alike hK, hD⟩, hS.F ht⟩) hS.2.2 hdg hlocks
theorem kzretE {α : Type} {wE : α → va_W} (ad : α) {post : Int32 → Unit → Prop} {v : Int32} {ty : FieldType} (hx : p.tables.exec = Jvm.exec) (hb : c.code = cc) (hr : meth.sig.returnType = some ty) (hlocks : meth.locks = false) (hn : narrow ty (.int v) = .int v) (hK : va_K D vwCl (TY cy) s) (hP : va_P D vwCl (wE ad) H) (hD : va_D A (wE ad)) (hS : va_S A s.heap H locs) (hv : post v ()) (hdg : decode cc pc = .ok (.ireturn, 1)) : W p l e R s m args below meth c H locs cells slots (MQ below (va_Qi post (fun _ => kQE D cy wE A) A) args s cells slots A) (F0 m pc ls [.int v]) :=
  W.zret (v := v) hx hb hr hn (fun t ht hW => ⟨⟨v, (), rfl, hv, ad, by rw [ht]; exact hP, va_K.moved hW.alike hK, hD⟩, hS.F ht⟩) hS.2.2 hdg hlocks
theorem kvretE {α : Type} {wE : α → va_W} (ad : α) {post : Unit → Prop} (hx : p.tables.exec = Jvm.exec) (hb : c.code = cc) (hr : meth.sig.returnType = none) (hlocks : meth.locks = false) (hK : va_K D vwCl (TY cy) s) (hP : va_P D vwCl (wE ad) H) (hD : va_D A (wE ad)) (hS : va_S A s.heap H locs) (hv : post ()) (hdg : decode cc pc = .ok (.return_, 1)) : W p l e R s m args below meth c H locs cells slots (MQ below (va_Qv post (fun _ => kQE D cy wE A) A) args s cells slots A) (F0 m pc ls []) :=
  W.vret hx hb hr (fun t ht hW => ⟨⟨(), rfl, hv, ad, by rw [ht]; exact hP, va_K.moved hW.alike hK, hD⟩, hS.F ht⟩) hS.2.2 hdg hlocks
end KC
theorem kbool {v : Int32} (h : ¬ ¬ (v = 0 ∨ v = 1)) : narrow .boolean (.int v) = .int v := by
  rcases Classical.not_not.mp h with h | h <;> rw [h] <;> rfl
theorem vin_n {n : Nat} {i : Int32} (hn : n < 2 ^ 31) (h0 : ¬ i < 0) (h1 : ¬ nI n ≤ i) : vp_in i n := by
  obtain ⟨j, hj, rfl⟩ := nI_of h0
  rcases Nat.lt_or_ge j n with h | h
  · exact vp_in_nI h hn
  · exact absurd (nI_le h hj) h1
theorem vin_75 {i : Int32} (h0 : ¬ i < 0) (h1 : ¬ (75 : Int32) ≤ i) : vp_in i 75 := vin_n (by decide) h0 h1
theorem kmn {ns nd : Nat} (hs : ns < 2 ^ 31) (hd : nd < 2 ^ 31) : (¬ (if nI nd < nI ns then nI nd else nI ns) < 0) ∧ (0 : Int32).toNatClampNeg + (if nI nd < nI ns then nI nd else nI ns).toNatClampNeg ≤ ns ∧ (0 : Int32).toNatClampNeg + (if nI nd < nI ns then nI nd else nI ns).toNatClampNeg ≤ nd := by
  rw [show (0 : Int32).toNatClampNeg = 0 from rfl]
  by_cases h : nd < ns
  · rw [if_pos ((nI_ltI hd hs).mpr h), nI_clamp hd]
    exact ⟨nI_pos hd, by omega, by omega⟩
  · rw [if_neg (fun q => h ((nI_ltI hd hs).mp q)), nI_clamp hs]
    exact ⟨nI_pos hs, by omega, by omega⟩
-- the history
def hRf (ad : Nat → Nat) : Nat → Option Nat := fun j => if j < 5 then some (ad (7 * j)) else none
theorem kmin {a b : Nat} (ha : a < 2 ^ 31) (hb : b < 2 ^ 31) : (if nI a < nI b then nI a else nI b).toNatClampNeg = min a b := by
  by_cases h : a < b
  · rw [if_pos ((nI_ltI ha hb).mpr h), nI_clamp ha]; omega
  · rw [if_neg (fun q => h ((nI_ltI ha hb).mp q)), nI_clamp hb]; omega
theorem kref {p : Program} {l : Launch} {e : Env} {R : Room} {s : State} {m : MethodId} {args : Array Value} {below : List Frame} {meth : Method} {c : Code} {H : Heap} {locs : List Loc} {cells slots : Nat} {Q : State → Prop} {pc : Nat} {ls : Array Slot} {rest : List Value} {v w : Value} (h : v = w) (k : W p l e R s m args below meth c H locs cells slots Q (F0 m pc ls (w :: rest))) : W p l e R s m args below meth c H locs cells slots Q (F0 m pc ls (v :: rest)) := by rw [h]; exact k
noncomputable def bnd0 {γ : Type} (x : Option Unit) (k : Option γ) : Option γ := match x with | none => none | some _ => k
theorem bnd0_s {γ : Type} {x : Option Unit} {k : Option γ} {o : γ} (h : bnd0 x k = some o) : x = some () ∧ k = some o := by
  cases x with
  | none => cases h
  | some a => exact ⟨rfl, h⟩
theorem bnd0_e {γ : Type} {x : Option Unit} {k : Option γ} (h : x = some ()) : bnd0 x k = k := by subst h; rfl
noncomputable def bnd1 {α0 γ : Type} (x : Option (α0)) (k : α0 → Option γ) : Option γ := match x with | none => none | some u => k u
theorem bnd1_s {α0 γ : Type} {x : Option (α0)} {k : α0 → Option γ} {o : γ} (h : bnd1 x k = some o) : ∃ a0, x = some a0 ∧ k a0 = some o := by
  cases x with
  | none => cases h
  | some u => exact ⟨u, rfl, h⟩
theorem bnd1_e {α0 γ : Type} {x : Option (α0)} {k : α0 → Option γ} {a0 : α0} (h : x = some a0) : bnd1 x k = k a0 := by subst h; rfl
noncomputable def bnd2 {α0 α1 γ : Type} (x : Option (α0 × α1)) (k : α0 → α1 → Option γ) : Option γ := match x with | none => none | some u => k u.1 u.2
theorem bnd2_s {α0 α1 γ : Type} {x : Option (α0 × α1)} {k : α0 → α1 → Option γ} {o : γ} (h : bnd2 x k = some o) : ∃ a0 a1, x = some (a0, a1) ∧ k a0 a1 = some o := by
  cases x with
  | none => cases h
  | some u => exact ⟨u.1, u.2, rfl, h⟩
theorem bnd2_e {α0 α1 γ : Type} {x : Option (α0 × α1)} {k : α0 → α1 → Option γ} {a0 : α0} {a1 : α1} (h : x = some (a0, a1)) : bnd2 x k = k a0 a1 := by subst h; rfl
noncomputable def bnd3 {α0 α1 α2 γ : Type} (x : Option (α0 × α1 × α2)) (k : α0 → α1 → α2 → Option γ) : Option γ := match x with | none => none | some u => k u.1 u.2.1 u.2.2
theorem bnd3_s {α0 α1 α2 γ : Type} {x : Option (α0 × α1 × α2)} {k : α0 → α1 → α2 → Option γ} {o : γ} (h : bnd3 x k = some o) : ∃ a0 a1 a2, x = some (a0, a1, a2) ∧ k a0 a1 a2 = some o := by
  cases x with
  | none => cases h
  | some u => exact ⟨u.1, u.2.1, u.2.2, rfl, h⟩
theorem bnd3_e {α0 α1 α2 γ : Type} {x : Option (α0 × α1 × α2)} {k : α0 → α1 → α2 → Option γ} {a0 : α0} {a1 : α1} {a2 : α2} (h : x = some (a0, a1, a2)) : bnd3 x k = k a0 a1 a2 := by subst h; rfl
noncomputable def bnd4 {α0 α1 α2 α3 γ : Type} (x : Option (α0 × α1 × α2 × α3)) (k : α0 → α1 → α2 → α3 → Option γ) : Option γ := match x with | none => none | some u => k u.1 u.2.1 u.2.2.1 u.2.2.2
theorem bnd4_s {α0 α1 α2 α3 γ : Type} {x : Option (α0 × α1 × α2 × α3)} {k : α0 → α1 → α2 → α3 → Option γ} {o : γ} (h : bnd4 x k = some o) : ∃ a0 a1 a2 a3, x = some (a0, a1, a2, a3) ∧ k a0 a1 a2 a3 = some o := by
  cases x with
  | none => cases h
  | some u => exact ⟨u.1, u.2.1, u.2.2.1, u.2.2.2, rfl, h⟩
theorem bnd4_e {α0 α1 α2 α3 γ : Type} {x : Option (α0 × α1 × α2 × α3)} {k : α0 → α1 → α2 → α3 → Option γ} {a0 : α0} {a1 : α1} {a2 : α2} {a3 : α3} (h : x = some (a0, a1, a2, a3)) : bnd4 x k = k a0 a1 a2 a3 := by subst h; rfl
noncomputable def bnd5 {α0 α1 α2 α3 α4 γ : Type} (x : Option (α0 × α1 × α2 × α3 × α4)) (k : α0 → α1 → α2 → α3 → α4 → Option γ) : Option γ := match x with | none => none | some u => k u.1 u.2.1 u.2.2.1 u.2.2.2.1 u.2.2.2.2
theorem bnd5_s {α0 α1 α2 α3 α4 γ : Type} {x : Option (α0 × α1 × α2 × α3 × α4)} {k : α0 → α1 → α2 → α3 → α4 → Option γ} {o : γ} (h : bnd5 x k = some o) : ∃ a0 a1 a2 a3 a4, x = some (a0, a1, a2, a3, a4) ∧ k a0 a1 a2 a3 a4 = some o := by
  cases x with
  | none => cases h
  | some u => exact ⟨u.1, u.2.1, u.2.2.1, u.2.2.2.1, u.2.2.2.2, rfl, h⟩
theorem bnd5_e {α0 α1 α2 α3 α4 γ : Type} {x : Option (α0 × α1 × α2 × α3 × α4)} {k : α0 → α1 → α2 → α3 → α4 → Option γ} {a0 : α0} {a1 : α1} {a2 : α2} {a3 : α3} {a4 : α4} (h : x = some (a0, a1, a2, a3, a4)) : bnd5 x k = k a0 a1 a2 a3 a4 := by subst h; rfl
noncomputable def bnd6 {α0 α1 α2 α3 α4 α5 γ : Type} (x : Option (α0 × α1 × α2 × α3 × α4 × α5)) (k : α0 → α1 → α2 → α3 → α4 → α5 → Option γ) : Option γ := match x with | none => none | some u => k u.1 u.2.1 u.2.2.1 u.2.2.2.1 u.2.2.2.2.1 u.2.2.2.2.2
theorem bnd6_s {α0 α1 α2 α3 α4 α5 γ : Type} {x : Option (α0 × α1 × α2 × α3 × α4 × α5)} {k : α0 → α1 → α2 → α3 → α4 → α5 → Option γ} {o : γ} (h : bnd6 x k = some o) : ∃ a0 a1 a2 a3 a4 a5, x = some (a0, a1, a2, a3, a4, a5) ∧ k a0 a1 a2 a3 a4 a5 = some o := by
  cases x with
  | none => cases h
  | some u => exact ⟨u.1, u.2.1, u.2.2.1, u.2.2.2.1, u.2.2.2.2.1, u.2.2.2.2.2, rfl, h⟩
theorem bnd6_e {α0 α1 α2 α3 α4 α5 γ : Type} {x : Option (α0 × α1 × α2 × α3 × α4 × α5)} {k : α0 → α1 → α2 → α3 → α4 → α5 → Option γ} {a0 : α0} {a1 : α1} {a2 : α2} {a3 : α3} {a4 : α4} {a5 : α5} (h : x = some (a0, a1, a2, a3, a4, a5)) : bnd6 x k = k a0 a1 a2 a3 a4 a5 := by subst h; rfl
noncomputable def bnd7 {α0 α1 α2 α3 α4 α5 α6 γ : Type} (x : Option (α0 × α1 × α2 × α3 × α4 × α5 × α6)) (k : α0 → α1 → α2 → α3 → α4 → α5 → α6 → Option γ) : Option γ := match x with | none => none | some u => k u.1 u.2.1 u.2.2.1 u.2.2.2.1 u.2.2.2.2.1 u.2.2.2.2.2.1 u.2.2.2.2.2.2
theorem bnd7_s {α0 α1 α2 α3 α4 α5 α6 γ : Type} {x : Option (α0 × α1 × α2 × α3 × α4 × α5 × α6)} {k : α0 → α1 → α2 → α3 → α4 → α5 → α6 → Option γ} {o : γ} (h : bnd7 x k = some o) : ∃ a0 a1 a2 a3 a4 a5 a6, x = some (a0, a1, a2, a3, a4, a5, a6) ∧ k a0 a1 a2 a3 a4 a5 a6 = some o := by
  cases x with
  | none => cases h
  | some u => exact ⟨u.1, u.2.1, u.2.2.1, u.2.2.2.1, u.2.2.2.2.1, u.2.2.2.2.2.1, u.2.2.2.2.2.2, rfl, h⟩
theorem bnd7_e {α0 α1 α2 α3 α4 α5 α6 γ : Type} {x : Option (α0 × α1 × α2 × α3 × α4 × α5 × α6)} {k : α0 → α1 → α2 → α3 → α4 → α5 → α6 → Option γ} {a0 : α0} {a1 : α1} {a2 : α2} {a3 : α3} {a4 : α4} {a5 : α5} {a6 : α6} (h : x = some (a0, a1, a2, a3, a4, a5, a6)) : bnd7 x k = k a0 a1 a2 a3 a4 a5 a6 := by subst h; rfl
noncomputable def bnd8 {α0 α1 α2 α3 α4 α5 α6 α7 γ : Type} (x : Option (α0 × α1 × α2 × α3 × α4 × α5 × α6 × α7)) (k : α0 → α1 → α2 → α3 → α4 → α5 → α6 → α7 → Option γ) : Option γ := match x with | none => none | some u => k u.1 u.2.1 u.2.2.1 u.2.2.2.1 u.2.2.2.2.1 u.2.2.2.2.2.1 u.2.2.2.2.2.2.1 u.2.2.2.2.2.2.2
theorem bnd8_s {α0 α1 α2 α3 α4 α5 α6 α7 γ : Type} {x : Option (α0 × α1 × α2 × α3 × α4 × α5 × α6 × α7)} {k : α0 → α1 → α2 → α3 → α4 → α5 → α6 → α7 → Option γ} {o : γ} (h : bnd8 x k = some o) : ∃ a0 a1 a2 a3 a4 a5 a6 a7, x = some (a0, a1, a2, a3, a4, a5, a6, a7) ∧ k a0 a1 a2 a3 a4 a5 a6 a7 = some o := by
  cases x with
  | none => cases h
  | some u => exact ⟨u.1, u.2.1, u.2.2.1, u.2.2.2.1, u.2.2.2.2.1, u.2.2.2.2.2.1, u.2.2.2.2.2.2.1, u.2.2.2.2.2.2.2, rfl, h⟩
theorem bnd8_e {α0 α1 α2 α3 α4 α5 α6 α7 γ : Type} {x : Option (α0 × α1 × α2 × α3 × α4 × α5 × α6 × α7)} {k : α0 → α1 → α2 → α3 → α4 → α5 → α6 → α7 → Option γ} {a0 : α0} {a1 : α1} {a2 : α2} {a3 : α3} {a4 : α4} {a5 : α5} {a6 : α6} {a7 : α7} (h : x = some (a0, a1, a2, a3, a4, a5, a6, a7)) : bnd8 x k = k a0 a1 a2 a3 a4 a5 a6 a7 := by subst h; rfl
noncomputable def bnd9 {α0 α1 α2 α3 α4 α5 α6 α7 α8 γ : Type} (x : Option (α0 × α1 × α2 × α3 × α4 × α5 × α6 × α7 × α8)) (k : α0 → α1 → α2 → α3 → α4 → α5 → α6 → α7 → α8 → Option γ) : Option γ := match x with | none => none | some u => k u.1 u.2.1 u.2.2.1 u.2.2.2.1 u.2.2.2.2.1 u.2.2.2.2.2.1 u.2.2.2.2.2.2.1 u.2.2.2.2.2.2.2.1 u.2.2.2.2.2.2.2.2
theorem bnd9_s {α0 α1 α2 α3 α4 α5 α6 α7 α8 γ : Type} {x : Option (α0 × α1 × α2 × α3 × α4 × α5 × α6 × α7 × α8)} {k : α0 → α1 → α2 → α3 → α4 → α5 → α6 → α7 → α8 → Option γ} {o : γ} (h : bnd9 x k = some o) : ∃ a0 a1 a2 a3 a4 a5 a6 a7 a8, x = some (a0, a1, a2, a3, a4, a5, a6, a7, a8) ∧ k a0 a1 a2 a3 a4 a5 a6 a7 a8 = some o := by
  cases x with
  | none => cases h
  | some u => exact ⟨u.1, u.2.1, u.2.2.1, u.2.2.2.1, u.2.2.2.2.1, u.2.2.2.2.2.1, u.2.2.2.2.2.2.1, u.2.2.2.2.2.2.2.1, u.2.2.2.2.2.2.2.2, rfl, h⟩
theorem bnd9_e {α0 α1 α2 α3 α4 α5 α6 α7 α8 γ : Type} {x : Option (α0 × α1 × α2 × α3 × α4 × α5 × α6 × α7 × α8)} {k : α0 → α1 → α2 → α3 → α4 → α5 → α6 → α7 → α8 → Option γ} {a0 : α0} {a1 : α1} {a2 : α2} {a3 : α3} {a4 : α4} {a5 : α5} {a6 : α6} {a7 : α7} {a8 : α8} (h : x = some (a0, a1, a2, a3, a4, a5, a6, a7, a8)) : bnd9 x k = k a0 a1 a2 a3 a4 a5 a6 a7 a8 := by subst h; rfl
noncomputable def bnd10 {α0 α1 α2 α3 α4 α5 α6 α7 α8 α9 γ : Type} (x : Option (α0 × α1 × α2 × α3 × α4 × α5 × α6 × α7 × α8 × α9)) (k : α0 → α1 → α2 → α3 → α4 → α5 → α6 → α7 → α8 → α9 → Option γ) : Option γ := match x with | none => none | some u => k u.1 u.2.1 u.2.2.1 u.2.2.2.1 u.2.2.2.2.1 u.2.2.2.2.2.1 u.2.2.2.2.2.2.1 u.2.2.2.2.2.2.2.1 u.2.2.2.2.2.2.2.2.1 u.2.2.2.2.2.2.2.2.2
theorem bnd10_s {α0 α1 α2 α3 α4 α5 α6 α7 α8 α9 γ : Type} {x : Option (α0 × α1 × α2 × α3 × α4 × α5 × α6 × α7 × α8 × α9)} {k : α0 → α1 → α2 → α3 → α4 → α5 → α6 → α7 → α8 → α9 → Option γ} {o : γ} (h : bnd10 x k = some o) : ∃ a0 a1 a2 a3 a4 a5 a6 a7 a8 a9, x = some (a0, a1, a2, a3, a4, a5, a6, a7, a8, a9) ∧ k a0 a1 a2 a3 a4 a5 a6 a7 a8 a9 = some o := by
  cases x with
  | none => cases h
  | some u => exact ⟨u.1, u.2.1, u.2.2.1, u.2.2.2.1, u.2.2.2.2.1, u.2.2.2.2.2.1, u.2.2.2.2.2.2.1, u.2.2.2.2.2.2.2.1, u.2.2.2.2.2.2.2.2.1, u.2.2.2.2.2.2.2.2.2, rfl, h⟩
theorem bnd10_e {α0 α1 α2 α3 α4 α5 α6 α7 α8 α9 γ : Type} {x : Option (α0 × α1 × α2 × α3 × α4 × α5 × α6 × α7 × α8 × α9)} {k : α0 → α1 → α2 → α3 → α4 → α5 → α6 → α7 → α8 → α9 → Option γ} {a0 : α0} {a1 : α1} {a2 : α2} {a3 : α3} {a4 : α4} {a5 : α5} {a6 : α6} {a7 : α7} {a8 : α8} {a9 : α9} (h : x = some (a0, a1, a2, a3, a4, a5, a6, a7, a8, a9)) : bnd10 x k = k a0 a1 a2 a3 a4 a5 a6 a7 a8 a9 := by subst h; rfl
noncomputable def bnd11 {α0 α1 α2 α3 α4 α5 α6 α7 α8 α9 α10 γ : Type} (x : Option (α0 × α1 × α2 × α3 × α4 × α5 × α6 × α7 × α8 × α9 × α10)) (k : α0 → α1 → α2 → α3 → α4 → α5 → α6 → α7 → α8 → α9 → α10 → Option γ) : Option γ := match x with | none => none | some u => k u.1 u.2.1 u.2.2.1 u.2.2.2.1 u.2.2.2.2.1 u.2.2.2.2.2.1 u.2.2.2.2.2.2.1 u.2.2.2.2.2.2.2.1 u.2.2.2.2.2.2.2.2.1 u.2.2.2.2.2.2.2.2.2.1 u.2.2.2.2.2.2.2.2.2.2
theorem bnd11_s {α0 α1 α2 α3 α4 α5 α6 α7 α8 α9 α10 γ : Type} {x : Option (α0 × α1 × α2 × α3 × α4 × α5 × α6 × α7 × α8 × α9 × α10)} {k : α0 → α1 → α2 → α3 → α4 → α5 → α6 → α7 → α8 → α9 → α10 → Option γ} {o : γ} (h : bnd11 x k = some o) : ∃ a0 a1 a2 a3 a4 a5 a6 a7 a8 a9 a10, x = some (a0, a1, a2, a3, a4, a5, a6, a7, a8, a9, a10) ∧ k a0 a1 a2 a3 a4 a5 a6 a7 a8 a9 a10 = some o := by
  cases x with
  | none => cases h
  | some u => exact ⟨u.1, u.2.1, u.2.2.1, u.2.2.2.1, u.2.2.2.2.1, u.2.2.2.2.2.1, u.2.2.2.2.2.2.1, u.2.2.2.2.2.2.2.1, u.2.2.2.2.2.2.2.2.1, u.2.2.2.2.2.2.2.2.2.1, u.2.2.2.2.2.2.2.2.2.2, rfl, h⟩
theorem bnd11_e {α0 α1 α2 α3 α4 α5 α6 α7 α8 α9 α10 γ : Type} {x : Option (α0 × α1 × α2 × α3 × α4 × α5 × α6 × α7 × α8 × α9 × α10)} {k : α0 → α1 → α2 → α3 → α4 → α5 → α6 → α7 → α8 → α9 → α10 → Option γ} {a0 : α0} {a1 : α1} {a2 : α2} {a3 : α3} {a4 : α4} {a5 : α5} {a6 : α6} {a7 : α7} {a8 : α8} {a9 : α9} {a10 : α10} (h : x = some (a0, a1, a2, a3, a4, a5, a6, a7, a8, a9, a10)) : bnd11 x k = k a0 a1 a2 a3 a4 a5 a6 a7 a8 a9 a10 := by subst h; rfl
noncomputable def bnd12 {α0 α1 α2 α3 α4 α5 α6 α7 α8 α9 α10 α11 γ : Type} (x : Option (α0 × α1 × α2 × α3 × α4 × α5 × α6 × α7 × α8 × α9 × α10 × α11)) (k : α0 → α1 → α2 → α3 → α4 → α5 → α6 → α7 → α8 → α9 → α10 → α11 → Option γ) : Option γ := match x with | none => none | some u => k u.1 u.2.1 u.2.2.1 u.2.2.2.1 u.2.2.2.2.1 u.2.2.2.2.2.1 u.2.2.2.2.2.2.1 u.2.2.2.2.2.2.2.1 u.2.2.2.2.2.2.2.2.1 u.2.2.2.2.2.2.2.2.2.1 u.2.2.2.2.2.2.2.2.2.2.1 u.2.2.2.2.2.2.2.2.2.2.2
theorem bnd12_s {α0 α1 α2 α3 α4 α5 α6 α7 α8 α9 α10 α11 γ : Type} {x : Option (α0 × α1 × α2 × α3 × α4 × α5 × α6 × α7 × α8 × α9 × α10 × α11)} {k : α0 → α1 → α2 → α3 → α4 → α5 → α6 → α7 → α8 → α9 → α10 → α11 → Option γ} {o : γ} (h : bnd12 x k = some o) : ∃ a0 a1 a2 a3 a4 a5 a6 a7 a8 a9 a10 a11, x = some (a0, a1, a2, a3, a4, a5, a6, a7, a8, a9, a10, a11) ∧ k a0 a1 a2 a3 a4 a5 a6 a7 a8 a9 a10 a11 = some o := by
  cases x with
  | none => cases h
  | some u => exact ⟨u.1, u.2.1, u.2.2.1, u.2.2.2.1, u.2.2.2.2.1, u.2.2.2.2.2.1, u.2.2.2.2.2.2.1, u.2.2.2.2.2.2.2.1, u.2.2.2.2.2.2.2.2.1, u.2.2.2.2.2.2.2.2.2.1, u.2.2.2.2.2.2.2.2.2.2.1, u.2.2.2.2.2.2.2.2.2.2.2, rfl, h⟩
theorem bnd12_e {α0 α1 α2 α3 α4 α5 α6 α7 α8 α9 α10 α11 γ : Type} {x : Option (α0 × α1 × α2 × α3 × α4 × α5 × α6 × α7 × α8 × α9 × α10 × α11)} {k : α0 → α1 → α2 → α3 → α4 → α5 → α6 → α7 → α8 → α9 → α10 → α11 → Option γ} {a0 : α0} {a1 : α1} {a2 : α2} {a3 : α3} {a4 : α4} {a5 : α5} {a6 : α6} {a7 : α7} {a8 : α8} {a9 : α9} {a10 : α10} {a11 : α11} (h : x = some (a0, a1, a2, a3, a4, a5, a6, a7, a8, a9, a10, a11)) : bnd12 x k = k a0 a1 a2 a3 a4 a5 a6 a7 a8 a9 a10 a11 := by subst h; rfl
noncomputable def bnd13 {α0 α1 α2 α3 α4 α5 α6 α7 α8 α9 α10 α11 α12 γ : Type} (x : Option (α0 × α1 × α2 × α3 × α4 × α5 × α6 × α7 × α8 × α9 × α10 × α11 × α12)) (k : α0 → α1 → α2 → α3 → α4 → α5 → α6 → α7 → α8 → α9 → α10 → α11 → α12 → Option γ) : Option γ := match x with | none => none | some u => k u.1 u.2.1 u.2.2.1 u.2.2.2.1 u.2.2.2.2.1 u.2.2.2.2.2.1 u.2.2.2.2.2.2.1 u.2.2.2.2.2.2.2.1 u.2.2.2.2.2.2.2.2.1 u.2.2.2.2.2.2.2.2.2.1 u.2.2.2.2.2.2.2.2.2.2.1 u.2.2.2.2.2.2.2.2.2.2.2.1 u.2.2.2.2.2.2.2.2.2.2.2.2
theorem bnd13_s {α0 α1 α2 α3 α4 α5 α6 α7 α8 α9 α10 α11 α12 γ : Type} {x : Option (α0 × α1 × α2 × α3 × α4 × α5 × α6 × α7 × α8 × α9 × α10 × α11 × α12)} {k : α0 → α1 → α2 → α3 → α4 → α5 → α6 → α7 → α8 → α9 → α10 → α11 → α12 → Option γ} {o : γ} (h : bnd13 x k = some o) : ∃ a0 a1 a2 a3 a4 a5 a6 a7 a8 a9 a10 a11 a12, x = some (a0, a1, a2, a3, a4, a5, a6, a7, a8, a9, a10, a11, a12) ∧ k a0 a1 a2 a3 a4 a5 a6 a7 a8 a9 a10 a11 a12 = some o := by
  cases x with
  | none => cases h
  | some u => exact ⟨u.1, u.2.1, u.2.2.1, u.2.2.2.1, u.2.2.2.2.1, u.2.2.2.2.2.1, u.2.2.2.2.2.2.1, u.2.2.2.2.2.2.2.1, u.2.2.2.2.2.2.2.2.1, u.2.2.2.2.2.2.2.2.2.1, u.2.2.2.2.2.2.2.2.2.2.1, u.2.2.2.2.2.2.2.2.2.2.2.1, u.2.2.2.2.2.2.2.2.2.2.2.2, rfl, h⟩
theorem bnd13_e {α0 α1 α2 α3 α4 α5 α6 α7 α8 α9 α10 α11 α12 γ : Type} {x : Option (α0 × α1 × α2 × α3 × α4 × α5 × α6 × α7 × α8 × α9 × α10 × α11 × α12)} {k : α0 → α1 → α2 → α3 → α4 → α5 → α6 → α7 → α8 → α9 → α10 → α11 → α12 → Option γ} {a0 : α0} {a1 : α1} {a2 : α2} {a3 : α3} {a4 : α4} {a5 : α5} {a6 : α6} {a7 : α7} {a8 : α8} {a9 : α9} {a10 : α10} {a11 : α11} {a12 : α12} (h : x = some (a0, a1, a2, a3, a4, a5, a6, a7, a8, a9, a10, a11, a12)) : bnd13 x k = k a0 a1 a2 a3 a4 a5 a6 a7 a8 a9 a10 a11 a12 := by subst h; rfl
noncomputable def bnd14 {α0 α1 α2 α3 α4 α5 α6 α7 α8 α9 α10 α11 α12 α13 γ : Type} (x : Option (α0 × α1 × α2 × α3 × α4 × α5 × α6 × α7 × α8 × α9 × α10 × α11 × α12 × α13)) (k : α0 → α1 → α2 → α3 → α4 → α5 → α6 → α7 → α8 → α9 → α10 → α11 → α12 → α13 → Option γ) : Option γ := match x with | none => none | some u => k u.1 u.2.1 u.2.2.1 u.2.2.2.1 u.2.2.2.2.1 u.2.2.2.2.2.1 u.2.2.2.2.2.2.1 u.2.2.2.2.2.2.2.1 u.2.2.2.2.2.2.2.2.1 u.2.2.2.2.2.2.2.2.2.1 u.2.2.2.2.2.2.2.2.2.2.1 u.2.2.2.2.2.2.2.2.2.2.2.1 u.2.2.2.2.2.2.2.2.2.2.2.2.1 u.2.2.2.2.2.2.2.2.2.2.2.2.2
theorem bnd14_s {α0 α1 α2 α3 α4 α5 α6 α7 α8 α9 α10 α11 α12 α13 γ : Type} {x : Option (α0 × α1 × α2 × α3 × α4 × α5 × α6 × α7 × α8 × α9 × α10 × α11 × α12 × α13)} {k : α0 → α1 → α2 → α3 → α4 → α5 → α6 → α7 → α8 → α9 → α10 → α11 → α12 → α13 → Option γ} {o : γ} (h : bnd14 x k = some o) : ∃ a0 a1 a2 a3 a4 a5 a6 a7 a8 a9 a10 a11 a12 a13, x = some (a0, a1, a2, a3, a4, a5, a6, a7, a8, a9, a10, a11, a12, a13) ∧ k a0 a1 a2 a3 a4 a5 a6 a7 a8 a9 a10 a11 a12 a13 = some o := by
  cases x with
  | none => cases h
  | some u => exact ⟨u.1, u.2.1, u.2.2.1, u.2.2.2.1, u.2.2.2.2.1, u.2.2.2.2.2.1, u.2.2.2.2.2.2.1, u.2.2.2.2.2.2.2.1, u.2.2.2.2.2.2.2.2.1, u.2.2.2.2.2.2.2.2.2.1, u.2.2.2.2.2.2.2.2.2.2.1, u.2.2.2.2.2.2.2.2.2.2.2.1, u.2.2.2.2.2.2.2.2.2.2.2.2.1, u.2.2.2.2.2.2.2.2.2.2.2.2.2, rfl, h⟩
theorem bnd14_e {α0 α1 α2 α3 α4 α5 α6 α7 α8 α9 α10 α11 α12 α13 γ : Type} {x : Option (α0 × α1 × α2 × α3 × α4 × α5 × α6 × α7 × α8 × α9 × α10 × α11 × α12 × α13)} {k : α0 → α1 → α2 → α3 → α4 → α5 → α6 → α7 → α8 → α9 → α10 → α11 → α12 → α13 → Option γ} {a0 : α0} {a1 : α1} {a2 : α2} {a3 : α3} {a4 : α4} {a5 : α5} {a6 : α6} {a7 : α7} {a8 : α8} {a9 : α9} {a10 : α10} {a11 : α11} {a12 : α12} {a13 : α13} (h : x = some (a0, a1, a2, a3, a4, a5, a6, a7, a8, a9, a10, a11, a12, a13)) : bnd14 x k = k a0 a1 a2 a3 a4 a5 a6 a7 a8 a9 a10 a11 a12 a13 := by subst h; rfl


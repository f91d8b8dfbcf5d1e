-- contracts of the law's methods that have numbers alone
abbrev rm_L_low : Room := { frames := 0, cells := 0, slots := 0, locals := 0 }
set_option maxHeartbeats 4000000 in
set_option maxRecDepth 100000 in
theorem c_L_low (l : Launch) (dC : Nat → ClassId) (dI : Nat → Nat → Nat) (cy : gC) (G : gT) (sz : Nat) (va1 : Int32) (va2 : Int32) (out : Int32) (hf : f_L_low va1 va2 = some out) : Met l yL_low wsL_low rm_L_low (va_Pc [.int va1, .int va2] (kP (dC, dI) cy G [] sz)) (va_Qi (fun r (_ : Unit) => r = out) (fun _ => kQ (dC, dI) cy [] (va_A [] sz)) (va_A [] sz)) 0 0 (va_A [] sz) := by
  refine Met.ofW (cc := cL_low) (maxL := 2) (ret := (some .int)) (by decide) rfl ?_
  intro p e s m args below meth c s₁ B hml hv
  obtain ⟨rfl, hsz, hP, hK, hD0, hG⟩ := hv
  have hx := B.exec
  have hb := B.bytes
  have hr := B.returns
  have hts := atoms_spec (ws := wsL_low) B.pre
  have hown : s.vm.findClass RL = some m.cls := findClass_of_methodNamed B.named
  have hlocks := B.notSynchronized
  subst hsz
  have hD := hD0.self (sz := s.heap.size)
  generalize hAe : va_A [] s.heap.size = A at hD hG ⊢
  have hA : ∀ q : Nat, s.heap.size ≤ q → A q := fun q h => by rw [← hAe]; exact Or.inr h
  have hS : va_S A s.heap s.heap [] := va_S.rf
  have hP : va_P (dC, dI) vwCl [] s.heap := hP
  have hl := lv_entry ([.int va1, .int va2]) (n := 2) (Nat.le_of_ble_eq_true rfl)
  rw [lg_entry_eq]
  generalize (lg_sl ([.int va1, .int va2]) ++ List.replicate (2 - (lg_sl ([.int va1, .int va2])).length) Slot.unset).toArray = ls at hl ⊢
  have hl : lv_has ls 2 [(0, .int va1), (1, .int va2)] := hl
  refine kgen (fun Q hQ => ?_)
  rw [f_L_low] at hf
  refine lv_iload_n hx hb dL_low_0 rfl (lv_at hl 0 rfl) ?_
  refine lv_ldc (v := (2147483647 : Int32)) hx hb hown (hts _ (List.mem_cons_of_mem _ (List.mem_of_getElem? (i := 0) rfl))) dL_low_1 ?_
  refine lv_iand hx hb dL_low_3 ?_
  refine lv_iload_n hx hb dL_low_4 rfl (lv_at hl 1 rfl) ?_
  obtain ⟨hk_5, hf⟩ := chk_s hf
  refine lv_irem hx hb dL_low_5 hk_5 ?_
  cases hf
  subst hQ
  exact kiret hx hb hr hlocks hK (hP.sub [] rfl) (hD.sub [] (by decide) rfl) hS rfl dL_low_6
theorem hdL_low : yL_low.cls = RL ∧ yL_low.cls ≠ "java/lang/invoke/MethodHandle" ∧ yL_low.cls ≠ "java/lang/invoke/VarHandle" ∧ (parseMethodDescriptor yL_low.desc).map (fun d => d.parameters.length) = some 2 := by decide +kernel
abbrev rm_L_ones : Room := { frames := 0, cells := 0, slots := 0, locals := 0 }
set_option maxHeartbeats 4000000 in
set_option maxRecDepth 100000 in
theorem c_L_ones (l : Launch) (dC : Nat → ClassId) (dI : Nat → Nat → Nat) (cy : gC) (G : gT) (sz : Nat) (va1 : Int32) (out : Int32) (hf : f_L_ones va1 = some out) : Met l yL_ones wsL_ones rm_L_ones (va_Pc [.int va1] (kP (dC, dI) cy G [] sz)) (va_Qi (fun r (_ : Unit) => r = out) (fun _ => kQ (dC, dI) cy [] (va_A [] sz)) (va_A [] sz)) 0 0 (va_A [] sz) := by
  refine Met.ofW (cc := cL_ones) (maxL := 1) (ret := (some .int)) (by decide) rfl ?_
  intro p e s m args below meth c s₁ B hml hv
  obtain ⟨rfl, hsz, hP, hK, hD0, hG⟩ := hv
  have hx := B.exec
  have hb := B.bytes
  have hr := B.returns
  have hts := atoms_spec (ws := wsL_ones) B.pre
  have hown : s.vm.findClass RL = some m.cls := findClass_of_methodNamed B.named
  have hlocks := B.notSynchronized
  subst hsz
  have hD := hD0.self (sz := s.heap.size)
  generalize hAe : va_A [] s.heap.size = A at hD hG ⊢
  have hA : ∀ q : Nat, s.heap.size ≤ q → A q := fun q h => by rw [← hAe]; exact Or.inr h
  have hS : va_S A s.heap s.heap [] := va_S.rf
  have hP : va_P (dC, dI) vwCl [] s.heap := hP
  have hl := lv_entry ([.int va1]) (n := 1) (Nat.le_of_ble_eq_true rfl)
  rw [lg_entry_eq]
  generalize (lg_sl ([.int va1]) ++ List.replicate (1 - (lg_sl ([.int va1])).length) Slot.unset).toArray = ls at hl ⊢
  have hl : lv_has ls 1 [(0, .int va1)] := hl
  refine kgen (fun Q hQ => ?_)
  rw [f_L_ones] at hf
  refine lv_iload_n hx hb dL_ones_0 rfl (lv_at hl 0 rfl) ?_
  refine lv_iconst (v := (1 : Int32)) hx hb dL_ones_1 (by decide) ?_
  refine lv_iand hx hb dL_ones_2 ?_
  refine lv_iload_n hx hb dL_ones_3 rfl (lv_at hl 0 rfl) ?_
  refine lv_iconst (v := (1 : Int32)) hx hb dL_ones_4 (by decide) ?_
  refine lv_ishr hx hb dL_ones_5 ?_
  refine lv_iconst (v := (1 : Int32)) hx hb dL_ones_6 (by decide) ?_
  refine lv_iand hx hb dL_ones_7 ?_
  refine lv_iadd hx hb dL_ones_8 ?_
  refine lv_iload_n hx hb dL_ones_9 rfl (lv_at hl 0 rfl) ?_
  refine lv_iconst (v := (2 : Int32)) hx hb dL_ones_10 (by decide) ?_
  refine lv_ishr hx hb dL_ones_11 ?_
  refine lv_iconst (v := (1 : Int32)) hx hb dL_ones_12 (by decide) ?_
  refine lv_iand hx hb dL_ones_13 ?_
  refine lv_iadd hx hb dL_ones_14 ?_
  refine lv_iload_n hx hb dL_ones_15 rfl (lv_at hl 0 rfl) ?_
  refine lv_iconst (v := (3 : Int32)) hx hb dL_ones_16 (by decide) ?_
  refine lv_ishr hx hb dL_ones_17 ?_
  refine lv_iconst (v := (1 : Int32)) hx hb dL_ones_18 (by decide) ?_
  refine lv_iand hx hb dL_ones_19 ?_
  refine lv_iadd hx hb dL_ones_20 ?_
  cases hf
  subst hQ
  exact kiret hx hb hr hlocks hK (hP.sub [] rfl) (hD.sub [] (by decide) rfl) hS rfl dL_ones_21
theorem hdL_ones : yL_ones.cls = RL ∧ yL_ones.cls ≠ "java/lang/invoke/MethodHandle" ∧ yL_ones.cls ≠ "java/lang/invoke/VarHandle" ∧ (parseMethodDescriptor yL_ones.desc).map (fun d => d.parameters.length) = some 1 := by decide +kernel
abbrev rm_L_beside : Room := { frames := 0, cells := 0, slots := 0, locals := 0 }
set_option maxHeartbeats 4000000 in
set_option maxRecDepth 100000 in
theorem c_L_beside (l : Launch) (dC : Nat → ClassId) (dI : Nat → Nat → Nat) (cy : gC) (G : gT) (sz : Nat) (va1 : Int32) (va2 : Int32) (va3 : Int32) (out : Int32) (hf : f_L_beside va1 va2 va3 = some out) : Met l yL_beside wsL_beside rm_L_beside (va_Pc [.int va1, .int va2, .int va3] (kP (dC, dI) cy G [] sz)) (va_Qi (fun r (_ : Unit) => r = out) (fun _ => kQ (dC, dI) cy [] (va_A [] sz)) (va_A [] sz)) 0 0 (va_A [] sz) := by
  refine Met.ofW (cc := cL_beside) (maxL := 3) (ret := (some .int)) (by decide) rfl ?_
  intro p e s m args below meth c s₁ B hml hv
  obtain ⟨rfl, hsz, hP, hK, hD0, hG⟩ := hv
  have hx := B.exec
  have hb := B.bytes
  have hr := B.returns
  have hts := atoms_spec (ws := wsL_beside) B.pre
  have hown : s.vm.findClass RL = some m.cls := findClass_of_methodNamed B.named
  have hlocks := B.notSynchronized
  subst hsz
  have hD := hD0.self (sz := s.heap.size)
  generalize hAe : va_A [] s.heap.size = A at hD hG ⊢
  have hA : ∀ q : Nat, s.heap.size ≤ q → A q := fun q h => by rw [← hAe]; exact Or.inr h
  have hS : va_S A s.heap s.heap [] := va_S.rf
  have hP : va_P (dC, dI) vwCl [] s.heap := hP
  have hl := lv_entry ([.int va1, .int va2, .int va3]) (n := 3) (Nat.le_of_ble_eq_true rfl)
  rw [lg_entry_eq]
  generalize (lg_sl ([.int va1, .int va2, .int va3]) ++ List.replicate (3 - (lg_sl ([.int va1, .int va2, .int va3])).length) Slot.unset).toArray = ls at hl ⊢
  have hl : lv_has ls 3 [(0, .int va1), (1, .int va2), (2, .int va3)] := hl
  refine kgen (fun Q hQ => ?_)
  rw [f_L_beside] at hf
  refine lv_iload_n hx hb dL_beside_0 rfl (lv_at hl 2 rfl) ?_
  refine lv_if_ne (tgt := 10) hx hb dL_beside_1 (by decide) (fun hc_1 => ?_) (fun hc_1 => ?_)
  · rw [if_neg hc_1] at hf
    refine lv_iload_n hx hb dL_beside_10 rfl (lv_at hl 2 rfl) ?_
    refine lv_iconst (v := (1 : Int32)) hx hb dL_beside_11 (by decide) ?_
    refine lv_icmp_ne (tgt := 21) hx hb dL_beside_12 (by decide) (fun hc_12 => ?_) (fun hc_12 => ?_)
    · rw [if_neg hc_12] at hf
      refine lv_iload_n hx hb dL_beside_21 rfl (lv_at hl 2 rfl) ?_
      refine lv_iconst (v := (2 : Int32)) hx hb dL_beside_22 (by decide) ?_
      refine lv_icmp_ne (tgt := 32) hx hb dL_beside_23 (by decide) (fun hc_23 => ?_) (fun hc_23 => ?_)
      · rw [if_neg hc_23] at hf
        refine lv_iload_n hx hb dL_beside_32 rfl (lv_at hl 1 rfl) ?_
        refine lv_iconst (v := (1 : Int32)) hx hb dL_beside_33 (by decide) ?_
        refine lv_isub hx hb dL_beside_34 ?_
        cases hf
        subst hQ
        exact kiret hx hb hr hlocks hK (hP.sub [] rfl) (hD.sub [] (by decide) rfl) hS rfl dL_beside_35
      · rw [if_pos hc_23] at hf
        refine lv_iload_n hx hb dL_beside_26 rfl (lv_at hl 1 rfl) ?_
        refine lv_iload_n hx hb dL_beside_27 rfl (lv_at hl 0 rfl) ?_
        refine lv_iadd hx hb dL_beside_28 ?_
        refine lv_goto (tgt := 35) hx hb dL_beside_29 (by decide) ?_
        cases hf
        subst hQ
        exact kiret hx hb hr hlocks hK (hP.sub [] rfl) (hD.sub [] (by decide) rfl) hS rfl dL_beside_35
    · rw [if_pos hc_12] at hf
      refine lv_iload_n hx hb dL_beside_15 rfl (lv_at hl 1 rfl) ?_
      refine lv_iconst (v := (1 : Int32)) hx hb dL_beside_16 (by decide) ?_
      refine lv_iadd hx hb dL_beside_17 ?_
      refine lv_goto (tgt := 35) hx hb dL_beside_18 (by decide) ?_
      cases hf
      subst hQ
      exact kiret hx hb hr hlocks hK (hP.sub [] rfl) (hD.sub [] (by decide) rfl) hS rfl dL_beside_35
  · rw [if_pos hc_1] at hf
    refine lv_iload_n hx hb dL_beside_4 rfl (lv_at hl 1 rfl) ?_
    refine lv_iload_n hx hb dL_beside_5 rfl (lv_at hl 0 rfl) ?_
    refine lv_isub hx hb dL_beside_6 ?_
    refine lv_goto (tgt := 35) hx hb dL_beside_7 (by decide) ?_
    cases hf
    subst hQ
    exact kiret hx hb hr hlocks hK (hP.sub [] rfl) (hD.sub [] (by decide) rfl) hS rfl dL_beside_35
theorem hdL_beside : yL_beside.cls = RL ∧ yL_beside.cls ≠ "java/lang/invoke/MethodHandle" ∧ yL_beside.cls ≠ "java/lang/invoke/VarHandle" ∧ (parseMethodDescriptor yL_beside.desc).map (fun d => d.parameters.length) = some 3 := by decide +kernel
-- reading the script
abbrev rm_L_cell : Room := { frames := 0, cells := 0, slots := 0, locals := 0 }
theorem hdL_cell : yL_cell.cls = RL ∧ yL_cell.cls ≠ "java/lang/invoke/MethodHandle" ∧ yL_cell.cls ≠ "java/lang/invoke/VarHandle" ∧ (parseMethodDescriptor yL_cell.desc).map (fun d => d.parameters.length) = some 2 := by decide +kernel
theorem c_L_cell (l : Launch) (b L : Nat) (xs : Nat → Int32) (k : Int32) (sz : Nat) (hk : ¬ k < 0) (hL : L < 2 ^ 31) : Met l yL_cell wsL_cell rm_L_cell (va_Pc [.ref b, .int k] (fun U => U.heap.size = sz ∧ va_X b L xs U U.heap ∧ b < sz)) (va_Qi (fun r (_ : Unit) => r = t_L_cell xs L k) (fun _ _ => True) (va_A [] sz)) 0 0 (va_A [] sz) := by
  refine Met.ofW (cc := cL_cell) (maxL := 3) (ret := some .int) (by decide) rfl ?_
  intro p e s m args below meth c s₁ B hml hv
  obtain ⟨rfl, hsz, hXs, hbl⟩ := hv
  have hx := B.exec
  have hb := B.bytes
  have hr := B.returns
  have hts := atoms_spec (ws := wsL_cell) B.pre
  have hown : s.vm.findClass RL = some m.cls := findClass_of_methodNamed B.named
  have hlocks := B.notSynchronized
  subst hsz
  have hbA : ¬ va_A [] s.heap.size b := fun h => h.elim (fun ⟨k, x, hk⟩ => by simp at hk) (fun h => absurd hbl (by omega))
  have hS : va_S (va_A [] s.heap.size) s.heap s.heap [] := va_S.rf
  have hl := lv_entry ([.ref b, .int k]) (n := 3) (Nat.le_of_ble_eq_true rfl)
  rw [lg_entry_eq]
  generalize (lg_sl ([.ref b, .int k]) ++ List.replicate (3 - (lg_sl ([.ref b, .int k])).length) Slot.unset).toArray = ls at hl ⊢
  have hl : lv_has ls 3 [(0, .ref b), (1, .int k)] := hl
  refine lv_iload_n hx hb dL_cell_0 rfl (lv_at hl 1 rfl) ?_
  refine lv_aload_n hx hb dL_cell_1 rfl (lv_at hl 0 rfl) ?_
  refine va_slen hx hb hXs hbl hbA hS dL_cell_2 ?_
  refine lv_icmp_ge (tgt := 12) hx hb dL_cell_3 (by decide) (fun hc => ?_) (fun hc => ?_)
  · refine lv_ldc (v := (916318735 : Int32)) hx hb hown (hts _ (List.mem_cons_of_mem _ (List.mem_of_getElem? (i := 0) rfl))) dL_cell_12 ?_
    refine lv_iload_n hx hb dL_cell_14 rfl (lv_at hl 1 rfl) ?_
    refine lv_iconst (v := (3 : Int32)) hx hb dL_cell_15 (by decide) ?_
    refine lv_iadd hx hb dL_cell_16 ?_
    refine lv_imul hx hb dL_cell_17 ?_
    refine lv_istore_n (lv' := [(2, .int ((916318735 : Int32) * (k + (3 : Int32)))), (0, .ref b), (1, .int k)]) hx hb dL_cell_18 rfl hl (by decide) rfl (fun ls hl => ?_)
    refine lv_iload_n hx hb dL_cell_19 rfl (lv_at hl 0 rfl) ?_
    refine lv_iload_n hx hb dL_cell_20 rfl (lv_at hl 0 rfl) ?_
    refine lv_bipush (v := (15 : Int32)) hx hb dL_cell_21 (by decide) ?_
    refine lv_iushr (v := ((((916318735 : Int32) * (k + (3 : Int32)))).toUInt32 >>> ((15 : Int32).toUInt32 &&& Int32.toUInt32 31)).toInt32) hx hb dL_cell_23 rfl ?_
    refine lv_ixor hx hb dL_cell_24 ?_
    exact W.iret (v := _) hx hb hr (fun t ht hW => ⟨⟨_, (), rfl, by unfold t_L_cell bV; rw [if_pos (show nI L ≤ k from hc)], trivial⟩, hS.F ht⟩) hS.2.2 dL_cell_25 hlocks
  · refine lv_aload_n hx hb dL_cell_6 rfl (lv_at hl 0 rfl) ?_
    refine lv_iload_n hx hb dL_cell_7 rfl (lv_at hl 1 rfl) ?_
    refine va_sld hx hb hXs hbl hbA hS (vin_n hL hk hc) dL_cell_8 ?_
    refine lv_goto (tgt := 18) hx hb dL_cell_9 (by decide) ?_
    refine lv_istore_n (lv' := [(2, .int (xs k.toNatClampNeg)), (0, .ref b), (1, .int k)]) hx hb dL_cell_18 rfl hl (by decide) rfl (fun ls hl => ?_)
    refine lv_iload_n hx hb dL_cell_19 rfl (lv_at hl 0 rfl) ?_
    refine lv_iload_n hx hb dL_cell_20 rfl (lv_at hl 0 rfl) ?_
    refine lv_bipush (v := (15 : Int32)) hx hb dL_cell_21 (by decide) ?_
    refine lv_iushr (v := ((xs k.toNatClampNeg).toUInt32 >>> ((15 : Int32).toUInt32 &&& Int32.toUInt32 31)).toInt32) hx hb dL_cell_23 rfl ?_
    refine lv_ixor hx hb dL_cell_24 ?_
    exact W.iret (v := _) hx hb hr (fun t ht hW => ⟨⟨_, (), rfl, by unfold t_L_cell bV; rw [if_neg (show ¬ nI L ≤ k from hc)], trivial⟩, hS.F ht⟩) hS.2.2 dL_cell_25 hlocks
theorem kLcell {p : Program} {l : Launch} {e : Env} {R : Room} {s : State} {m : MethodId} {args : Array Value} {below : List Frame} {meth : Method} {c : Code} {H : Heap} {locs : List Loc} {cells slots pc idx nL : Nat} {Q : State → Prop} {ls : Array Slot} {rest : List Value} {A : Nat → Prop} {dC : Nat → ClassId} {dI : Nat → Nat → Nat} {cy : gC} {G : gT} {qc : Nat} {cc : ByteArray} {wsM : List Cond} {g : gS} {b L : Nat} {xs : Nat → Int32} {k r : Int32}
    (C : CX p s m c args cc wsM nL A dC dI cy G) (hX : WX dC dI cy qc A s g H locs) (hXs : va_X b L xs s s.heap) (hbl : b < s.heap.size) (hbA : ¬ A b) (hL : L < 2 ^ 31) (hk : ¬ k < 0) (hv : t_L_cell xs L k = r) (hsz : ls.size = nL) (hst : (rest.map fun v => v.category).sum ≤ 8) (gi : GoodIn wsM (va_wsS RL idx yL_cell wsL_cell)) (hdg : decode cc pc = .ok (.invokestatic idx, 3)) (hcs : cells ≤ R.cells ∧ slots ≤ R.slots) (hR : rm_L_cell.frames + 1 ≤ R.frames ∧ 8 + (3 + 11) + rm_L_cell.locals ≤ R.locals)
    (kk : ∀ (H1 : Heap) (locs1 : List Loc), WX dC dI cy qc A s g H1 locs1 → W p l e R s m args below meth c H1 locs1 cells slots Q (F0 m (pc + 3) ls (.int r :: rest))) : W p l e R s m args below meth c H locs cells slots Q (F0 m pc ls (.int k :: .ref b :: rest)) := by
  obtain ⟨hx, hb, hml, hown, hts, hK, hG, hA⟩ := C
  obtain ⟨ws, hI, hP, hD, hS⟩ := hX
  have hF : ∀ q, va_A [] H.size q → A q := fun q h => h.elim (fun ⟨k, x, hk⟩ => by simp at hk) (fun h => hA q (Nat.le_trans hS.1 h))
  have hblind : FrameBlind (va_Pc [.ref b, .int k] (fun U => U.heap.size = H.size ∧ va_X b L xs U U.heap ∧ b < H.size)) := by
    intro a U g mk h
    obtain ⟨h1, h2, h3, h4⟩ := h
    exact ⟨h1, h2, va_X.moved (u := U) (U := U.calling g mk a) (Vm.Alike.refl U.vm) h3, h4⟩
  have hpre : ∀ U : State, U.heap = H → s.WarmedH U.vm → (U.heap.size = H.size ∧ va_X b L xs U U.heap ∧ b < H.size) := by
    intro U h1 h2
    rw [h1]
    exact ⟨rfl, (hXs.kept (hS.2.1 b hbl hbA)).moved h2.alike, Nat.lt_of_lt_of_le hbl hS.1⟩
  refine va_calli (va_runS (As := [.ref b, .int k]) (rest := rest) ⟨hx, hb, hml, hown, hts⟩ (c_L_cell l b L xs k H.size hk hL) (va_cwS 2 hts gi rfl rfl rfl hdL_cell.2 hR) ⟨hblind, fun U h1 h2 => ⟨rfl, hpre U h1 h2⟩⟩ rfl rfl hsz rfl (lv_room hst) hdg ⟨hcs.1, hcs.2⟩) hS (fun q _ h => hF q h) hF (fun r' u t H1 locs1 ht hvm hw hB1 hz hk hS1 => ?_)
  rw [hw, hv]
  exact kk H1 locs1 ⟨ws, hI, hP.kept (fun k q hq => hk q.1 (hP k q hq).lt (fun h => h.elim (fun ⟨k, x, hk⟩ => by simp at hk) (fun h => absurd (hP k q hq).lt (by omega)))), hD, hS1⟩

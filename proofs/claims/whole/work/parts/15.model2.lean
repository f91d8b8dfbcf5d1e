noncomputable def f_X11_draw (it_drawn : Int32) (va1 : Int32) : Option (Int32 × Int32) :=
  if va1 = 0 then none else
  some ((((((75 : Int32) * it_drawn) + (74 : Int32)) - (((75 : Int32) * it_drawn) + (74 : Int32)) / (65537 : Int32) * (65537 : Int32)) - ((((75 : Int32) * it_drawn) + (74 : Int32)) - (((75 : Int32) * it_drawn) + (74 : Int32)) / (65537 : Int32) * (65537 : Int32)) / va1 * va1), ((((75 : Int32) * it_drawn) + (74 : Int32)) - (((75 : Int32) * it_drawn) + (74 : Int32)) / (65537 : Int32) * (65537 : Int32)))
abbrev rm_X11_draw : Room := { frames := 0, cells := 0, slots := 0, locals := 0 }
set_option maxHeartbeats 4000000 in
set_option maxRecDepth 100000 in
theorem c_X11_draw (l : Launch) (dC : Nat → ClassId) (dI : Nat → Nat → Nat) (cy : gC) (G : gT) (sz : Nat) (qt : Nat) (xt_now : Nat) (xt_past : Nat) (xt_text : Nat) (xt_doors : Nat) (xt_label : Nat) (xt_far : Nat) (xt_ring : Nat) (xt_was : Nat) (it_saved : Int32) (it_length : Int32) (it_doorMany : Int32) (it_walker : Int32) (it_from : Int32) (it_steps : Int32) (it_faultAt : Int32) (it_mover : Int32) (it_drawn : Int32) (va1 : Int32) (out : Int32 × Int32) (hf : f_X11_draw it_drawn va1 = some out) : Met l yX11_draw wsX11_draw rm_X11_draw (va_Pc [.ref qt, .int va1] (kP (dC, dI) cy G [(qt, .inr (11, [.ref xt_now, .ref xt_past, .int (it_saved), .ref xt_text, .int (it_length), .ref xt_doors, .int (it_doorMany), .ref xt_label, .int (it_drawn), .ref xt_far, .ref xt_ring, .int (it_walker), .int (it_from), .ref xt_was, .int (it_steps), .int (it_faultAt), .int (it_mover)]))] sz)) (va_Qi (fun r (_ : Unit) => r = out.1) (fun _ => kQ (dC, dI) cy [(qt, .inr (11, [.ref xt_now, .ref xt_past, .int (it_saved), .ref xt_text, .int (it_length), .ref xt_doors, .int (it_doorMany), .ref xt_label, .int (out.2), .ref xt_far, .ref xt_ring, .int (it_walker), .int (it_from), .ref xt_was, .int (it_steps), .int (it_faultAt), .int (it_mover)]))] (va_A [(qt, .inr (11, [.ref xt_now, .ref xt_past, .int (it_saved), .ref xt_text, .int (it_length), .ref xt_doors, .int (it_doorMany), .ref xt_label, .int (it_drawn), .ref xt_far, .ref xt_ring, .int (it_walker), .int (it_from), .ref xt_was, .int (it_steps), .int (it_faultAt), .int (it_mover)]))] sz)) (va_A [(qt, .inr (11, [.ref xt_now, .ref xt_past, .int (it_saved), .ref xt_text, .int (it_length), .ref xt_doors, .int (it_doorMany), .ref xt_label, .int (it_drawn), .ref xt_far, .ref xt_ring, .int (it_walker), .int (it_from), .ref xt_was, .int (it_steps), .int (it_faultAt), .int (it_mover)]))] sz)) 0 0 (va_A [(qt, .inr (11, [.ref xt_now, .ref xt_past, .int (it_saved), .ref xt_text, .int (it_length), .ref xt_doors, .int (it_doorMany), .ref xt_label, .int (it_drawn), .ref xt_far, .ref xt_ring, .int (it_walker), .int (it_from), .ref xt_was, .int (it_steps), .int (it_faultAt), .int (it_mover)]))] sz) := by
  refine Met.ofW (cc := cX11_draw) (maxL := 2) (ret := (some .int)) (by decide) rfl ?_
  intro p e s m args below meth c s₁ B hml hv
  obtain ⟨rfl, hsz, hP, hK, hD0, hG⟩ := hv
  have hx := B.exec
  have hb := B.bytes
  have hr := B.returns
  have hts := atoms_spec (ws := wsX11_draw) B.pre
  have hown : s.vm.findClass RX11 = some m.cls := findClass_of_methodNamed B.named
  have hlocks := B.notSynchronized
  subst hsz
  have hD := hD0.self (sz := s.heap.size)
  generalize hAe : va_A [(qt, .inr (11, [.ref xt_now, .ref xt_past, .int (it_saved), .ref xt_text, .int (it_length), .ref xt_doors, .int (it_doorMany), .ref xt_label, .int (it_drawn), .ref xt_far, .ref xt_ring, .int (it_walker), .int (it_from), .ref xt_was, .int (it_steps), .int (it_faultAt), .int (it_mover)]))] s.heap.size = A at hD hG ⊢
  have hA : ∀ q : Nat, s.heap.size ≤ q → A q := fun q h => by rw [← hAe]; exact Or.inr h
  have hS : va_S A s.heap s.heap [] := va_S.rf
  have hP : va_P (dC, dI) vwCl [(qt, .inr (11, [.ref xt_now, .ref xt_past, .int (it_saved), .ref xt_text, .int (it_length), .ref xt_doors, .int (it_doorMany), .ref xt_label, .int (it_drawn), .ref xt_far, .ref xt_ring, .int (it_walker), .int (it_from), .ref xt_was, .int (it_steps), .int (it_faultAt), .int (it_mover)]))] s.heap := hP
  have hl := lv_entry ([.ref qt, .int va1]) (n := 2) (Nat.le_of_ble_eq_true rfl)
  rw [lg_entry_eq]
  generalize (lg_sl ([.ref qt, .int va1]) ++ List.replicate (2 - (lg_sl ([.ref qt, .int va1])).length) Slot.unset).toArray = ls at hl ⊢
  have hl : lv_has ls 2 [(0, .ref qt), (1, .int va1)] := hl
  refine kgen (fun Q hQ => ?_)
  rw [f_X11_draw] at hf
  refine lv_aload_n hx hb dX11_draw_0 rfl (lv_at hl 0 rfl) ?_
  refine lv_bipush (v := (75 : Int32)) hx hb dX11_draw_1 (by decide) ?_
  refine lv_aload_n hx hb dX11_draw_3 rfl (lv_at hl 0 rfl) ?_
  refine va_get (D := (dC, dI)) (ci := 11) (C := RX11) (T := TX11) (N := 17) hx hb hts (fun _ h => (List.mem_cons_of_mem _ (List.mem_append_right _ h))) hown hK hP 0 rfl rfl 8 (by decide) (hts _ (List.mem_cons_of_mem _ (List.mem_append_left _ (List.mem_of_getElem? (i := 0) rfl)))) (fun _ h => h) rfl dX11_draw_4 ?_
  refine lv_imul hx hb dX11_draw_7 ?_
  refine lv_bipush (v := (74 : Int32)) hx hb dX11_draw_8 (by decide) ?_
  refine lv_iadd hx hb dX11_draw_10 ?_
  refine lv_ldc (v := (65537 : Int32)) hx hb hown (hts _ (List.mem_cons_of_mem _ (List.mem_append_left _ (List.mem_of_getElem? (i := 1) rfl)))) dX11_draw_11 ?_
  refine lv_irem hx hb dX11_draw_13 (by decide) ?_
  refine va_put (D := (dC, dI)) (ci := 11) (v := .int ((((75 : Int32) * it_drawn) + (74 : Int32)) - (((75 : Int32) * it_drawn) + (74 : Int32)) / (65537 : Int32) * (65537 : Int32))) (ty := .int) (C := RX11) (T := TX11) (N := 17) hx hb hts (fun _ h => (List.mem_cons_of_mem _ (List.mem_append_right _ h))) tyX11 tyX11_ok nmX11 hown hK hP hD hS 0 rfl rfl 8 (by decide) (hts _ (List.mem_cons_of_mem _ (List.mem_append_left _ (List.mem_of_getElem? (i := 0) rfl)))) (fun _ h => h) rfl (by decide +kernel) rfl rfl (Nat.le_of_ble_eq_true rfl) dX11_draw_14 (fun H locs hP hD hS => ?_)
  have hP : va_P (dC, dI) vwCl [(qt, .inr (11, [.ref xt_now, .ref xt_past, .int (it_saved), .ref xt_text, .int (it_length), .ref xt_doors, .int (it_doorMany), .ref xt_label, .int (((((75 : Int32) * it_drawn) + (74 : Int32)) - (((75 : Int32) * it_drawn) + (74 : Int32)) / (65537 : Int32) * (65537 : Int32))), .ref xt_far, .ref xt_ring, .int (it_walker), .int (it_from), .ref xt_was, .int (it_steps), .int (it_faultAt), .int (it_mover)]))] H := hP
  have hD : va_D A [(qt, .inr (11, [.ref xt_now, .ref xt_past, .int (it_saved), .ref xt_text, .int (it_length), .ref xt_doors, .int (it_doorMany), .ref xt_label, .int (((((75 : Int32) * it_drawn) + (74 : Int32)) - (((75 : Int32) * it_drawn) + (74 : Int32)) / (65537 : Int32) * (65537 : Int32))), .ref xt_far, .ref xt_ring, .int (it_walker), .int (it_from), .ref xt_was, .int (it_steps), .int (it_faultAt), .int (it_mover)]))] := hD
  refine lv_aload_n hx hb dX11_draw_17 rfl (lv_at hl 0 rfl) ?_
  refine va_get (D := (dC, dI)) (ci := 11) (C := RX11) (T := TX11) (N := 17) hx hb hts (fun _ h => (List.mem_cons_of_mem _ (List.mem_append_right _ h))) hown hK hP 0 rfl rfl 8 (by decide) (hts _ (List.mem_cons_of_mem _ (List.mem_append_left _ (List.mem_of_getElem? (i := 0) rfl)))) (fun _ h => h) rfl dX11_draw_18 ?_
  refine lv_iload_n hx hb dX11_draw_21 rfl (lv_at hl 1 rfl) ?_
  obtain ⟨hk_22, hf⟩ := chk_s hf
  refine lv_irem hx hb dX11_draw_22 hk_22 ?_
  cases hf
  subst hQ
  exact kiret hx hb hr hlocks hK (hP.sub [0] rfl) (hD.sub [0] (by decide) rfl) hS rfl dX11_draw_23
theorem hdX11_draw : yX11_draw.cls = RX11 ∧ yX11_draw.cls ≠ "java/lang/invoke/MethodHandle" ∧ yX11_draw.cls ≠ "java/lang/invoke/VarHandle" ∧ (parseMethodDescriptor yX11_draw.desc).map (fun d => d.parameters.length) = some 1 := by decide +kernel
noncomputable def b_X11_openDoors_5 (N : Nat) (ft_now : Nat → Int32) : Nat → Int32 → Int32 → Option (Int32)
  | 0, _, _ => none
  | n + 1, l1, l2 =>
    if (429 : Int32) ≤ l2 then
      some (l1)
    else
      if l2 < 0 ∨ 639 ≤ (l2).toNatClampNeg then none else
      b_X11_openDoors_5 N ft_now n ((l1 + (ft_now (l2).toNatClampNeg))) ((l2 + (1 : Int32)))
noncomputable def f_X11_openDoors (N : Nat) (ft_now : Nat → Int32) : Option (Int32) :=
  b_X11_openDoors_5 N ft_now N ((0 : Int32)) ((9 : Int32))
abbrev rm_X11_openDoors : Room := { frames := 0, cells := 0, slots := 0, locals := 0 }
set_option maxHeartbeats 4000000 in
set_option maxRecDepth 100000 in
theorem c_X11_openDoors (l : Launch) (dC : Nat → ClassId) (dI : Nat → Nat → Nat) (cy : gC) (G : gT) (sz : Nat) (qt : Nat) (qt_now : Nat) (xt_past : Nat) (xt_text : Nat) (xt_doors : Nat) (xt_label : Nat) (xt_far : Nat) (xt_ring : Nat) (xt_was : Nat) (it_saved : Int32) (it_length : Int32) (it_doorMany : Int32) (it_drawn : Int32) (it_walker : Int32) (it_from : Int32) (it_steps : Int32) (it_faultAt : Int32) (it_mover : Int32) (N : Nat) (ft_now : Nat → Int32) (out : Int32) (hf : f_X11_openDoors N ft_now = some out) : Met l yX11_openDoors wsX11_openDoors rm_X11_openDoors (va_Pc [.ref qt] (kP (dC, dI) cy G [(qt, .inr (11, [.ref qt_now, .ref xt_past, .int (it_saved), .ref xt_text, .int (it_length), .ref xt_doors, .int (it_doorMany), .ref xt_label, .int (it_drawn), .ref xt_far, .ref xt_ring, .int (it_walker), .int (it_from), .ref xt_was, .int (it_steps), .int (it_faultAt), .int (it_mover)])), (qt_now, .inl (cy.1, 639, .inl (ft_now)))] sz)) (va_Qi (fun r (_ : Unit) => r = out) (fun _ => kQ (dC, dI) cy [(qt, .inr (11, [.ref qt_now, .ref xt_past, .int (it_saved), .ref xt_text, .int (it_length), .ref xt_doors, .int (it_doorMany), .ref xt_label, .int (it_drawn), .ref xt_far, .ref xt_ring, .int (it_walker), .int (it_from), .ref xt_was, .int (it_steps), .int (it_faultAt), .int (it_mover)])), (qt_now, .inl (cy.1, 639, .inl (ft_now)))] (va_A [(qt, .inr (11, [.ref qt_now, .ref xt_past, .int (it_saved), .ref xt_text, .int (it_length), .ref xt_doors, .int (it_doorMany), .ref xt_label, .int (it_drawn), .ref xt_far, .ref xt_ring, .int (it_walker), .int (it_from), .ref xt_was, .int (it_steps), .int (it_faultAt), .int (it_mover)])), (qt_now, .inl (cy.1, 639, .inl (ft_now)))] sz)) (va_A [(qt, .inr (11, [.ref qt_now, .ref xt_past, .int (it_saved), .ref xt_text, .int (it_length), .ref xt_doors, .int (it_doorMany), .ref xt_label, .int (it_drawn), .ref xt_far, .ref xt_ring, .int (it_walker), .int (it_from), .ref xt_was, .int (it_steps), .int (it_faultAt), .int (it_mover)])), (qt_now, .inl (cy.1, 639, .inl (ft_now)))] sz)) 0 0 (va_A [(qt, .inr (11, [.ref qt_now, .ref xt_past, .int (it_saved), .ref xt_text, .int (it_length), .ref xt_doors, .int (it_doorMany), .ref xt_label, .int (it_drawn), .ref xt_far, .ref xt_ring, .int (it_walker), .int (it_from), .ref xt_was, .int (it_steps), .int (it_faultAt), .int (it_mover)])), (qt_now, .inl (cy.1, 639, .inl (ft_now)))] sz) := by
  refine Met.ofW (cc := cX11_openDoors) (maxL := 3) (ret := (some .int)) (by decide) rfl ?_
  intro p e s m args below meth c s₁ B hml hv
  obtain ⟨rfl, hsz, hP, hK, hD0, hG⟩ := hv
  have hx := B.exec
  have hb := B.bytes
  have hr := B.returns
  have hts := atoms_spec (ws := wsX11_openDoors) B.pre
  have hown : s.vm.findClass RX11 = some m.cls := findClass_of_methodNamed B.named
  have hlocks := B.notSynchronized
  subst hsz
  have hD := hD0.self (sz := s.heap.size)
  generalize hAe : va_A [(qt, .inr (11, [.ref qt_now, .ref xt_past, .int (it_saved), .ref xt_text, .int (it_length), .ref xt_doors, .int (it_doorMany), .ref xt_label, .int (it_drawn), .ref xt_far, .ref xt_ring, .int (it_walker), .int (it_from), .ref xt_was, .int (it_steps), .int (it_faultAt), .int (it_mover)])), (qt_now, .inl (cy.1, 639, .inl (ft_now)))] s.heap.size = A at hD hG ⊢
  have hA : ∀ q : Nat, s.heap.size ≤ q → A q := fun q h => by rw [← hAe]; exact Or.inr h
  have hS : va_S A s.heap s.heap [] := va_S.rf
  have hP : va_P (dC, dI) vwCl [(qt, .inr (11, [.ref qt_now, .ref xt_past, .int (it_saved), .ref xt_text, .int (it_length), .ref xt_doors, .int (it_doorMany), .ref xt_label, .int (it_drawn), .ref xt_far, .ref xt_ring, .int (it_walker), .int (it_from), .ref xt_was, .int (it_steps), .int (it_faultAt), .int (it_mover)])), (qt_now, .inl (cy.1, 639, .inl (ft_now)))] s.heap := hP
  have hl := lv_entry ([.ref qt]) (n := 3) (Nat.le_of_ble_eq_true rfl)
  rw [lg_entry_eq]
  generalize (lg_sl ([.ref qt]) ++ List.replicate (3 - (lg_sl ([.ref qt])).length) Slot.unset).toArray = ls at hl ⊢
  have hl : lv_has ls 3 [(0, .ref qt)] := hl
  refine kgen (fun Q hQ => ?_)
  have B5 : ∀ (n5 : Nat) (l1 : Int32) (l2 : Int32) (H : Heap) (locs : List Loc), va_P (dC, dI) vwCl [(qt, .inr (11, [.ref qt_now, .ref xt_past, .int (it_saved), .ref xt_text, .int (it_length), .ref xt_doors, .int (it_doorMany), .ref xt_label, .int (it_drawn), .ref xt_far, .ref xt_ring, .int (it_walker), .int (it_from), .ref xt_was, .int (it_steps), .int (it_faultAt), .int (it_mover)])), (qt_now, .inl (cy.1, 639, .inl (ft_now)))] H → va_D A [(qt, .inr (11, [.ref qt_now, .ref xt_past, .int (it_saved), .ref xt_text, .int (it_length), .ref xt_doors, .int (it_doorMany), .ref xt_label, .int (it_drawn), .ref xt_far, .ref xt_ring, .int (it_walker), .int (it_from), .ref xt_was, .int (it_steps), .int (it_faultAt), .int (it_mover)])), (qt_now, .inl (cy.1, 639, .inl (ft_now)))] → va_S A s.heap H locs → ∀ (ls : Array Slot), lv_has ls 3 [(0, .ref qt), (1, .int l1), (2, .int l2)] → b_X11_openDoors_5 N ft_now n5 l1 l2 = some out → W p l e (headSpec wsX11_openDoors rm_X11_openDoors).room s m ([.ref qt] : List Value).toArray below meth c H locs 0 0 Q (F0 m 5 ls []) := by
    intro n5
    induction n5 with
    | zero => intro l1 l2 H locs hP hD hS ls hl hf; rw [b_X11_openDoors_5] at hf; cases hf
    | succ n5 ih5 =>
      intro l1 l2 H locs hP hD hS ls hl hf
      rw [b_X11_openDoors_5] at hf
      refine lv_iload_n hx hb dX11_openDoors_5 rfl (lv_at hl 2 rfl) ?_
      refine lv_sipush (v := (429 : Int32)) hx hb dX11_openDoors_6 (by decide) ?_
      refine lv_icmp_ge (tgt := 27) hx hb dX11_openDoors_9 (by decide) (fun hc_9 => ?_) (fun hc_9 => ?_)
      · rw [if_pos hc_9] at hf
        refine lv_iload_n hx hb dX11_openDoors_27 rfl (lv_at hl 1 rfl) ?_
        cases hf
        subst hQ
        exact kiret hx hb hr hlocks hK (hP.sub [0, 1] rfl) (hD.sub [0, 1] (by decide) rfl) hS rfl dX11_openDoors_28
      · rw [if_neg hc_9] at hf
        refine lv_iload_n hx hb dX11_openDoors_12 rfl (lv_at hl 1 rfl) ?_
        refine lv_aload_n hx hb dX11_openDoors_13 rfl (lv_at hl 0 rfl) ?_
        refine va_get (D := (dC, dI)) (ci := 11) (C := RX11) (T := TX11) (N := 17) hx hb hts (fun _ h => (List.mem_cons_of_mem _ (List.mem_append_right _ h))) hown hK hP 0 rfl rfl 0 (by decide) (hts _ (List.mem_cons_of_mem _ (List.mem_append_left _ (List.mem_of_getElem? (i := 0) rfl)))) (fun _ h => h) rfl dX11_openDoors_14 ?_
        refine lv_iload_n hx hb dX11_openDoors_17 rfl (lv_at hl 2 rfl) ?_
        obtain ⟨hk_18, hf⟩ := chk_s hf
        refine va_iald hx hb hK hP 1 0 rfl rfl hk_18 dX11_openDoors_18 ?_
        refine lv_iadd hx hb dX11_openDoors_19 ?_
        refine lv_istore_n (lv' := [(1, .int (l1 + (ft_now (l2).toNatClampNeg))), (0, .ref qt), (2, .int l2)]) hx hb dX11_openDoors_20 rfl hl (by decide) rfl (fun ls hl => ?_)
        refine lv_iinc (v := (l2 + (1 : Int32))) (lv' := [(2, .int (l2 + (1 : Int32))), (1, .int (l1 + (ft_now (l2).toNatClampNeg))), (0, .ref qt)]) hx hb dX11_openDoors_21 hl (k := 2) rfl rfl (by decide) rfl (fun ls hl => ?_)
        refine lv_goto (tgt := 5) hx hb dX11_openDoors_24 (by decide) ?_
        exact ih5 ((l1 + (ft_now (l2).toNatClampNeg))) ((l2 + (1 : Int32))) _ _ (hP.sub [0, 1] rfl) (hD.sub [0, 1] (by decide) rfl) hS _ (lv_sub hl [2, 1, 0] rfl) hf
  rw [f_X11_openDoors] at hf
  refine lv_iconst (v := (0 : Int32)) hx hb dX11_openDoors_0 (by decide) ?_
  refine lv_istore_n (lv' := [(1, .int (0 : Int32)), (0, .ref qt)]) hx hb dX11_openDoors_1 rfl hl (by decide) rfl (fun ls hl => ?_)
  refine lv_bipush (v := (9 : Int32)) hx hb dX11_openDoors_2 (by decide) ?_
  refine lv_istore_n (lv' := [(2, .int (9 : Int32)), (1, .int (0 : Int32)), (0, .ref qt)]) hx hb dX11_openDoors_4 rfl hl (by decide) rfl (fun ls hl => ?_)
  exact B5 N ((0 : Int32)) ((9 : Int32)) _ _ (hP.sub [0, 1] rfl) (hD.sub [0, 1] (by decide) rfl) hS _ (lv_sub hl [2, 1, 0] rfl) hf
theorem hdX11_openDoors : yX11_openDoors.cls = RX11 ∧ yX11_openDoors.cls ≠ "java/lang/invoke/MethodHandle" ∧ yX11_openDoors.cls ≠ "java/lang/invoke/VarHandle" ∧ (parseMethodDescriptor yX11_openDoors.desc).map (fun d => d.parameters.length) = some 0 := by decide +kernel
noncomputable def b_X11_make_107 (N : Nat) (va1 : Int32) : Nat → Int32 → Int32 → Int32 → Int32 → (Nat → Int32) → (Nat → Int32) → (Nat → Int32) → (Nat → Int32) → Option (Int32 × Int32 × Int32 × Int32 × (Nat → Int32) × (Nat → Int32) × (Nat → Int32) × (Nat → Int32))
  | 0, _, _, _, _, _, _, _, _ => none
  | n + 1, l2, cit_saved, cit_doorMany, cit_drawn, cft_now, cft_past, cft_doors, cft_label =>
    if cit_doorMany ≤ l2 then
      bnd1 (f_X11_openDoors N (cft_now)) fun r198 =>
      some (r198, cit_saved, cit_doorMany, cit_drawn, cft_now, cft_past, cft_doors, cft_label)
    else
      if l2 < 0 ∨ 420 ≤ (l2).toNatClampNeg then none else
      if l2 < 0 ∨ 420 ≤ (l2).toNatClampNeg then none else
      bnd1 (f_X11_beside (cft_now) (((cft_doors (l2).toNatClampNeg) / (2 : Int32))) (((1 : Int32) + ((cft_doors (l2).toNatClampNeg) - (cft_doors (l2).toNatClampNeg) / (2 : Int32) * (2 : Int32))))) fun r140 =>
      if ((cft_doors (l2).toNatClampNeg) / (2 : Int32)) < 0 ∨ 210 ≤ (((cft_doors (l2).toNatClampNeg) / (2 : Int32))).toNatClampNeg then none else
      if r140 < 0 ∨ 210 ≤ (r140).toNatClampNeg then none else
      if (cft_label (((cft_doors (l2).toNatClampNeg) / (2 : Int32))).toNatClampNeg) = (cft_label (r140).toNatClampNeg) then
        b_X11_make_107 N va1 n ((l2 + (1 : Int32))) (cit_saved) (cit_doorMany) (cit_drawn) (cft_now) (cft_past) (cft_doors) (cft_label)
      else
        if (t_X11_doorAt (cft_now) (((cft_doors (l2).toNatClampNeg) / (2 : Int32))) (((1 : Int32) + ((cft_doors (l2).toNatClampNeg) - (cft_doors (l2).toNatClampNeg) / (2 : Int32) * (2 : Int32))))) < 0 ∨ 639 ≤ ((t_X11_doorAt (cft_now) (((cft_doors (l2).toNatClampNeg) / (2 : Int32))) (((1 : Int32) + ((cft_doors (l2).toNatClampNeg) - (cft_doors (l2).toNatClampNeg) / (2 : Int32) * (2 : Int32)))))).toNatClampNeg then none else
        if ((cft_doors (l2).toNatClampNeg) / (2 : Int32)) < 0 ∨ 210 ≤ (((cft_doors (l2).toNatClampNeg) / (2 : Int32))).toNatClampNeg then none else
        if r140 < 0 ∨ 210 ≤ (r140).toNatClampNeg then none else
        bnd1 (f_X11_joinsTwo N ((upd cft_now ((t_X11_doorAt (cft_now) (((cft_doors (l2).toNatClampNeg) / (2 : Int32))) (((1 : Int32) + ((cft_doors (l2).toNatClampNeg) - (cft_doors (l2).toNatClampNeg) / (2 : Int32) * (2 : Int32)))))).toNatClampNeg (1 : Int32))) (cft_label) ((cft_label (((cft_doors (l2).toNatClampNeg) / (2 : Int32))).toNatClampNeg)) ((cft_label (r140).toNatClampNeg))) fun o188_0 =>
        b_X11_make_107 N va1 n ((l2 + (1 : Int32))) (cit_saved) (cit_doorMany) (cit_drawn) ((upd cft_now ((t_X11_doorAt (cft_now) (((cft_doors (l2).toNatClampNeg) / (2 : Int32))) (((1 : Int32) + ((cft_doors (l2).toNatClampNeg) - (cft_doors (l2).toNatClampNeg) / (2 : Int32) * (2 : Int32)))))).toNatClampNeg (1 : Int32))) (cft_past) (cft_doors) (o188_0)
noncomputable def b_X11_make_55 (N : Nat) (va1 : Int32) : Nat → Int32 → Int32 → Int32 → Int32 → (Nat → Int32) → (Nat → Int32) → (Nat → Int32) → (Nat → Int32) → Option (Int32 × Int32 × Int32 × Int32 × (Nat → Int32) × (Nat → Int32) × (Nat → Int32) × (Nat → Int32))
  | 0, _, _, _, _, _, _, _, _ => none
  | n + 1, l2, cit_saved, cit_doorMany, cit_drawn, cft_now, cft_past, cft_doors, cft_label =>
    if l2 ≤ 0 then
      bnd1 (f_X11_labels N (cft_now) (cft_label)) fun o102_0 =>
      b_X11_make_107 N va1 N ((0 : Int32)) (cit_saved) (cit_doorMany) (cit_drawn) (cft_now) (cft_past) (cft_doors) (o102_0)
    else
      bnd2 (f_X11_draw (cit_drawn) ((l2 + (1 : Int32)))) fun r63 o63_0 =>
      if l2 < 0 ∨ 420 ≤ (l2).toNatClampNeg then none else
      if r63 < 0 ∨ 420 ≤ (r63).toNatClampNeg then none else
      if l2 < 0 ∨ 420 ≤ (l2).toNatClampNeg then none else
      if r63 < 0 ∨ 420 ≤ (r63).toNatClampNeg then none else
      b_X11_make_55 N va1 n ((l2 + (-1 : Int32))) (cit_saved) (cit_doorMany) (o63_0) (cft_now) (cft_past) ((upd (upd cft_doors (l2).toNatClampNeg (cft_doors (r63).toNatClampNeg)) (r63).toNatClampNeg (cft_doors (l2).toNatClampNeg))) (cft_label)
noncomputable def b_X11_make_19 (N : Nat) (va1 : Int32) : Nat → Int32 → Int32 → Int32 → Int32 → (Nat → Int32) → (Nat → Int32) → (Nat → Int32) → (Nat → Int32) → Option (Int32 × Int32 × Int32 × Int32 × (Nat → Int32) × (Nat → Int32) × (Nat → Int32) × (Nat → Int32))
  | 0, _, _, _, _, _, _, _, _ => none
  | n + 1, l2, cit_saved, cit_doorMany, cit_drawn, cft_now, cft_past, cft_doors, cft_label =>
    if (429 : Int32) ≤ l2 then
      bnd2 (f_X11_countsDoors N (cit_doorMany) (cft_now) (cft_doors)) fun o45_0 o45_1 =>
      b_X11_make_55 N va1 N ((o45_0 - (1 : Int32))) (cit_saved) (o45_0) (va1) (cft_now) (cft_past) (o45_1) (cft_label)
    else
      if l2 < 0 ∨ 639 ≤ (l2).toNatClampNeg then none else
      b_X11_make_19 N va1 n ((l2 + (1 : Int32))) (cit_saved) (cit_doorMany) (cit_drawn) ((upd cft_now (l2).toNatClampNeg (0 : Int32))) (cft_past) (cft_doors) (cft_label)
noncomputable def f_X11_make (N : Nat) (it_saved : Int32) (it_doorMany : Int32) (it_drawn : Int32) (ft_now : Nat → Int32) (ft_past : Nat → Int32) (ft_doors : Nat → Int32) (ft_label : Nat → Int32) (va1 : Int32) : Option (Int32 × Int32 × Int32 × Int32 × (Nat → Int32) × (Nat → Int32) × (Nat → Int32) × (Nat → Int32)) :=
  if (t_X11_in (va1) ((0 : Int32)) ((65535 : Int32))) = 0 then
    some ((-1 : Int32), it_saved, it_doorMany, it_drawn, ft_now, ft_past, ft_doors, ft_label)
  else
    bnd2 (f_X11_records N (it_saved) (ft_now) (ft_past)) fun o13_0 o13_1 =>
    b_X11_make_19 N va1 N ((9 : Int32)) (o13_0) (it_doorMany) (it_drawn) (ft_now) (o13_1) (ft_doors) (ft_label)
abbrev rm_X11_make : Room := { frames := 7, cells := 0, slots := 0, locals := 157 }
set_option maxHeartbeats 4000000 in
set_option maxRecDepth 100000 in
theorem c_X11_make (l : Launch) (dC : Nat → ClassId) (dI : Nat → Nat → Nat) (cy : gC) (G : gT) (sz : Nat) (qt : Nat) (qt_now : Nat) (qt_past : Nat) (qt_doors : Nat) (qt_label : Nat) (xt_text : Nat) (xt_far : Nat) (xt_ring : Nat) (xt_was : Nat) (it_length : Int32) (it_walker : Int32) (it_from : Int32) (it_steps : Int32) (it_faultAt : Int32) (it_mover : Int32) (N : Nat) (it_saved : Int32) (it_doorMany : Int32) (it_drawn : Int32) (ft_now : Nat → Int32) (ft_past : Nat → Int32) (ft_doors : Nat → Int32) (ft_label : Nat → Int32) (va1 : Int32) (out : Int32 × Int32 × Int32 × Int32 × (Nat → Int32) × (Nat → Int32) × (Nat → Int32) × (Nat → Int32)) (hf : f_X11_make N it_saved it_doorMany it_drawn ft_now ft_past ft_doors ft_label va1 = some out) : Met l yX11_make wsX11_make rm_X11_make (va_Pc [.ref qt, .int va1] (kP (dC, dI) cy G [(qt, .inr (11, [.ref qt_now, .ref qt_past, .int (it_saved), .ref xt_text, .int (it_length), .ref qt_doors, .int (it_doorMany), .ref qt_label, .int (it_drawn), .ref xt_far, .ref xt_ring, .int (it_walker), .int (it_from), .ref xt_was, .int (it_steps), .int (it_faultAt), .int (it_mover)])), (qt_now, .inl (cy.1, 639, .inl (ft_now))), (qt_past, .inl (cy.1, 3195, .inl (ft_past))), (qt_doors, .inl (cy.1, 420, .inl (ft_doors))), (qt_label, .inl (cy.1, 210, .inl (ft_label)))] sz)) (va_Qi (fun r (_ : Unit) => r = out.1) (fun _ => kQ (dC, dI) cy [(qt, .inr (11, [.ref qt_now, .ref qt_past, .int (out.2.1), .ref xt_text, .int (it_length), .ref qt_doors, .int (out.2.2.1), .ref qt_label, .int (out.2.2.2.1), .ref xt_far, .ref xt_ring, .int (it_walker), .int (it_from), .ref xt_was, .int (it_steps), .int (it_faultAt), .int (it_mover)])), (qt_now, .inl (cy.1, 639, .inl (out.2.2.2.2.1))), (qt_past, .inl (cy.1, 3195, .inl (out.2.2.2.2.2.1))), (qt_doors, .inl (cy.1, 420, .inl (out.2.2.2.2.2.2.1))), (qt_label, .inl (cy.1, 210, .inl (out.2.2.2.2.2.2.2)))] (va_A [(qt, .inr (11, [.ref qt_now, .ref qt_past, .int (it_saved), .ref xt_text, .int (it_length), .ref qt_doors, .int (it_doorMany), .ref qt_label, .int (it_drawn), .ref xt_far, .ref xt_ring, .int (it_walker), .int (it_from), .ref xt_was, .int (it_steps), .int (it_faultAt), .int (it_mover)])), (qt_now, .inl (cy.1, 639, .inl (ft_now))), (qt_past, .inl (cy.1, 3195, .inl (ft_past))), (qt_doors, .inl (cy.1, 420, .inl (ft_doors))), (qt_label, .inl (cy.1, 210, .inl (ft_label)))] sz)) (va_A [(qt, .inr (11, [.ref qt_now, .ref qt_past, .int (it_saved), .ref xt_text, .int (it_length), .ref qt_doors, .int (it_doorMany), .ref qt_label, .int (it_drawn), .ref xt_far, .ref xt_ring, .int (it_walker), .int (it_from), .ref xt_was, .int (it_steps), .int (it_faultAt), .int (it_mover)])), (qt_now, .inl (cy.1, 639, .inl (ft_now))), (qt_past, .inl (cy.1, 3195, .inl (ft_past))), (qt_doors, .inl (cy.1, 420, .inl (ft_doors))), (qt_label, .inl (cy.1, 210, .inl (ft_label)))] sz)) 0 0 (va_A [(qt, .inr (11, [.ref qt_now, .ref qt_past, .int (it_saved), .ref xt_text, .int (it_length), .ref qt_doors, .int (it_doorMany), .ref qt_label, .int (it_drawn), .ref xt_far, .ref xt_ring, .int (it_walker), .int (it_from), .ref xt_was, .int (it_steps), .int (it_faultAt), .int (it_mover)])), (qt_now, .inl (cy.1, 639, .inl (ft_now))), (qt_past, .inl (cy.1, 3195, .inl (ft_past))), (qt_doors, .inl (cy.1, 420, .inl (ft_doors))), (qt_label, .inl (cy.1, 210, .inl (ft_label)))] sz) := by
  refine Met.ofW (cc := cX11_make) (maxL := 6) (ret := (some .int)) (by decide) rfl ?_
  intro p e s m args below meth c s₁ B hml hv
  obtain ⟨rfl, hsz, hP, hK, hD0, hG⟩ := hv
  have hx := B.exec
  have hb := B.bytes
  have hr := B.returns
  have hts := atoms_spec (ws := wsX11_make) B.pre
  have hown : s.vm.findClass RX11 = some m.cls := findClass_of_methodNamed B.named
  have hlocks := B.notSynchronized
  subst hsz
  have hD := hD0.self (sz := s.heap.size)
  generalize hAe : va_A [(qt, .inr (11, [.ref qt_now, .ref qt_past, .int (it_saved), .ref xt_text, .int (it_length), .ref qt_doors, .int (it_doorMany), .ref qt_label, .int (it_drawn), .ref xt_far, .ref xt_ring, .int (it_walker), .int (it_from), .ref xt_was, .int (it_steps), .int (it_faultAt), .int (it_mover)])), (qt_now, .inl (cy.1, 639, .inl (ft_now))), (qt_past, .inl (cy.1, 3195, .inl (ft_past))), (qt_doors, .inl (cy.1, 420, .inl (ft_doors))), (qt_label, .inl (cy.1, 210, .inl (ft_label)))] s.heap.size = A at hD hG ⊢
  have hA : ∀ q : Nat, s.heap.size ≤ q → A q := fun q h => by rw [← hAe]; exact Or.inr h
  have hS : va_S A s.heap s.heap [] := va_S.rf
  have hP : va_P (dC, dI) vwCl [(qt, .inr (11, [.ref qt_now, .ref qt_past, .int (it_saved), .ref xt_text, .int (it_length), .ref qt_doors, .int (it_doorMany), .ref qt_label, .int (it_drawn), .ref xt_far, .ref xt_ring, .int (it_walker), .int (it_from), .ref xt_was, .int (it_steps), .int (it_faultAt), .int (it_mover)])), (qt_now, .inl (cy.1, 639, .inl (ft_now))), (qt_past, .inl (cy.1, 3195, .inl (ft_past))), (qt_doors, .inl (cy.1, 420, .inl (ft_doors))), (qt_label, .inl (cy.1, 210, .inl (ft_label)))] s.heap := hP
  have hl := lv_entry ([.ref qt, .int va1]) (n := 6) (Nat.le_of_ble_eq_true rfl)
  rw [lg_entry_eq]
  generalize (lg_sl ([.ref qt, .int va1]) ++ List.replicate (6 - (lg_sl ([.ref qt, .int va1])).length) Slot.unset).toArray = ls at hl ⊢
  have hl : lv_has ls 6 [(0, .ref qt), (1, .int va1)] := hl
  refine kgen (fun Q hQ => ?_)
  have B107 : ∀ (n107 : Nat) (l2 : Int32) (cit_saved : Int32) (cit_doorMany : Int32) (cit_drawn : Int32) (cft_now : Nat → Int32) (cft_past : Nat → Int32) (cft_doors : Nat → Int32) (cft_label : Nat → Int32) (H : Heap) (locs : List Loc), va_P (dC, dI) vwCl [(qt, .inr (11, [.ref qt_now, .ref qt_past, .int (cit_saved), .ref xt_text, .int (it_length), .ref qt_doors, .int (cit_doorMany), .ref qt_label, .int (cit_drawn), .ref xt_far, .ref xt_ring, .int (it_walker), .int (it_from), .ref xt_was, .int (it_steps), .int (it_faultAt), .int (it_mover)])), (qt_now, .inl (cy.1, 639, .inl (cft_now))), (qt_past, .inl (cy.1, 3195, .inl (cft_past))), (qt_doors, .inl (cy.1, 420, .inl (cft_doors))), (qt_label, .inl (cy.1, 210, .inl (cft_label)))] H → va_D A [(qt, .inr (11, [.ref qt_now, .ref qt_past, .int (cit_saved), .ref xt_text, .int (it_length), .ref qt_doors, .int (cit_doorMany), .ref qt_label, .int (cit_drawn), .ref xt_far, .ref xt_ring, .int (it_walker), .int (it_from), .ref xt_was, .int (it_steps), .int (it_faultAt), .int (it_mover)])), (qt_now, .inl (cy.1, 639, .inl (cft_now))), (qt_past, .inl (cy.1, 3195, .inl (cft_past))), (qt_doors, .inl (cy.1, 420, .inl (cft_doors))), (qt_label, .inl (cy.1, 210, .inl (cft_label)))] → va_S A s.heap H locs → ∀ (ls : Array Slot), lv_has ls 6 [(0, .ref qt), (2, .int l2)] → b_X11_make_107 N va1 n107 l2 cit_saved cit_doorMany cit_drawn cft_now cft_past cft_doors cft_label = some out → W p l e (headSpec wsX11_make rm_X11_make).room s m ([.ref qt, .int va1] : List Value).toArray below meth c H locs 0 0 Q (F0 m 107 ls []) := by
    intro n107
    induction n107 with
    | zero => intro l2 cit_saved cit_doorMany cit_drawn cft_now cft_past cft_doors cft_label H locs hP hD hS ls hl hf; rw [b_X11_make_107] at hf; cases hf
    | succ n107 ih107 =>
      intro l2 cit_saved cit_doorMany cit_drawn cft_now cft_past cft_doors cft_label H locs hP hD hS ls hl hf
      rw [b_X11_make_107] at hf
      refine lv_iload_n hx hb dX11_make_107 rfl (lv_at hl 1 rfl) ?_
      refine lv_aload_n hx hb dX11_make_108 rfl (lv_at hl 0 rfl) ?_
      refine va_get (D := (dC, dI)) (ci := 11) (C := RX11) (T := TX11) (N := 17) hx hb hts (fun _ h => (List.mem_cons_of_mem _ (List.mem_append_right _ h))) hown hK hP 0 rfl rfl 6 (by decide) (hts _ (List.mem_cons_of_mem _ (List.mem_append_left _ (List.mem_append_left _ (List.mem_of_getElem? (i := 3) rfl))))) (fun _ h => h) rfl dX11_make_109 ?_
      refine lv_icmp_ge (tgt := 197) hx hb dX11_make_112 (by decide) (fun hc_112 => ?_) (fun hc_112 => ?_)
      · rw [if_pos hc_112] at hf
        refine lv_aload_n hx hb dX11_make_197 rfl (lv_at hl 0 rfl) ?_
        obtain ⟨r198, hq_198, hf⟩ := bnd1_s hf
        refine kcalli (wc := [(qt, .inr (11, [.ref qt_now, .ref qt_past, .int (cit_saved), .ref xt_text, .int (it_length), .ref qt_doors, .int (cit_doorMany), .ref qt_label, .int (cit_drawn), .ref xt_far, .ref xt_ring, .int (it_walker), .int (it_from), .ref xt_was, .int (it_steps), .int (it_faultAt), .int (it_mover)])), (qt_now, .inl (cy.1, 639, .inl (cft_now)))]) (wr := [(qt_past, .inl (cy.1, 3195, .inl (cft_past))), (qt_doors, .inl (cy.1, 420, .inl (cft_doors))), (qt_label, .inl (cy.1, 210, .inl (cft_label)))]) (w1 := [(qt, .inr (11, [.ref qt_now, .ref qt_past, .int (cit_saved), .ref xt_text, .int (it_length), .ref qt_doors, .int (cit_doorMany), .ref qt_label, .int (cit_drawn), .ref xt_far, .ref xt_ring, .int (it_walker), .int (it_from), .ref xt_was, .int (it_steps), .int (it_faultAt), .int (it_mover)])), (qt_now, .inl (cy.1, 639, .inl (cft_now)))]) hK hP hD hS hA hG [0, 1] [2, 3, 4] rfl rfl rfl rfl rfl (fun hU hPc => va_runV (As := []) (rest := []) ⟨hx, hb, hml, hown, hts⟩ (c_X11_openDoors l dC dI cy G H.size qt qt_now qt_past xt_text qt_doors qt_label xt_far xt_ring xt_was (cit_saved) (it_length) (cit_doorMany) (cit_drawn) (it_walker) (it_from) (it_steps) (it_faultAt) (it_mover) N (cft_now) r198 hq_198) (cwV 0 hts gX11_make_X11_openDoors rfl rfl rfl hdX11_openDoors ⟨Nat.le_of_ble_eq_true rfl, Nat.le_of_ble_eq_true rfl⟩) ⟨kBlind, (va_recv hK hP (ci := 11) (q0 := 0) rfl rfl), fun U h1 h2 => ⟨rfl, hU U h1 h2⟩⟩ rfl rfl hl.1 rfl (lv_room (Nat.le_of_ble_eq_true rfl)) dX11_make_198 ⟨Nat.zero_le _, Nat.zero_le _⟩) (r198) (fun _ _ h => h) (fun _ _ h => h) (fun H locs hP hD hS => ?_)
        have hP : va_P (dC, dI) vwCl [(qt_past, .inl (cy.1, 3195, .inl (cft_past))), (qt_doors, .inl (cy.1, 420, .inl (cft_doors))), (qt_label, .inl (cy.1, 210, .inl (cft_label))), (qt, .inr (11, [.ref qt_now, .ref qt_past, .int (cit_saved), .ref xt_text, .int (it_length), .ref qt_doors, .int (cit_doorMany), .ref qt_label, .int (cit_drawn), .ref xt_far, .ref xt_ring, .int (it_walker), .int (it_from), .ref xt_was, .int (it_steps), .int (it_faultAt), .int (it_mover)])), (qt_now, .inl (cy.1, 639, .inl (cft_now)))] H := hP
        have hD : va_D A [(qt_past, .inl (cy.1, 3195, .inl (cft_past))), (qt_doors, .inl (cy.1, 420, .inl (cft_doors))), (qt_label, .inl (cy.1, 210, .inl (cft_label))), (qt, .inr (11, [.ref qt_now, .ref qt_past, .int (cit_saved), .ref xt_text, .int (it_length), .ref qt_doors, .int (cit_doorMany), .ref qt_label, .int (cit_drawn), .ref xt_far, .ref xt_ring, .int (it_walker), .int (it_from), .ref xt_was, .int (it_steps), .int (it_faultAt), .int (it_mover)])), (qt_now, .inl (cy.1, 639, .inl (cft_now)))] := hD
        cases hf
        subst hQ
        exact kiret hx hb hr hlocks hK (hP.sub [3, 4, 0, 1, 2] rfl) (hD.sub [3, 4, 0, 1, 2] (by decide) rfl) hS rfl dX11_make_201
      · rw [if_neg hc_112] at hf
        refine lv_aload_n hx hb dX11_make_115 rfl (lv_at hl 0 rfl) ?_
        refine va_get (D := (dC, dI)) (ci := 11) (C := RX11) (T := TX11) (N := 17) hx hb hts (fun _ h => (List.mem_cons_of_mem _ (List.mem_append_right _ h))) hown hK hP 0 rfl rfl 5 (by decide) (hts _ (List.mem_cons_of_mem _ (List.mem_append_left _ (List.mem_append_left _ (List.mem_of_getElem? (i := 4) rfl))))) (fun _ h => h) rfl dX11_make_116 ?_
        refine lv_iload_n hx hb dX11_make_119 rfl (lv_at hl 1 rfl) ?_
        obtain ⟨hk_120, hf⟩ := chk_s hf
        refine va_iald hx hb hK hP 3 0 rfl rfl hk_120 dX11_make_120 ?_
        refine lv_iconst (v := (2 : Int32)) hx hb dX11_make_121 (by decide) ?_
        refine lv_idiv hx hb dX11_make_122 (by decide) ?_
        refine lv_istore_n (lv' := [(3, .int ((cft_doors (l2).toNatClampNeg) / (2 : Int32))), (0, .ref qt), (2, .int l2)]) hx hb dX11_make_123 rfl hl (by decide) rfl (fun ls hl => ?_)
        refine lv_iconst (v := (1 : Int32)) hx hb dX11_make_124 (by decide) ?_
        refine lv_aload_n hx hb dX11_make_125 rfl (lv_at hl 1 rfl) ?_
        refine va_get (D := (dC, dI)) (ci := 11) (C := RX11) (T := TX11) (N := 17) hx hb hts (fun _ h => (List.mem_cons_of_mem _ (List.mem_append_right _ h))) hown hK hP 0 rfl rfl 5 (by decide) (hts _ (List.mem_cons_of_mem _ (List.mem_append_left _ (List.mem_append_left _ (List.mem_of_getElem? (i := 4) rfl))))) (fun _ h => h) rfl dX11_make_126 ?_
        refine lv_iload_n hx hb dX11_make_129 rfl (lv_at hl 2 rfl) ?_
        obtain ⟨hk_130, hf⟩ := chk_s hf
        refine va_iald hx hb hK hP 3 0 rfl rfl hk_130 dX11_make_130 ?_
        refine lv_iconst (v := (2 : Int32)) hx hb dX11_make_131 (by decide) ?_
        refine lv_irem hx hb dX11_make_132 (by decide) ?_
        refine lv_iadd hx hb dX11_make_133 ?_
        refine lv_istore (lv' := [(4, .int ((1 : Int32) + ((cft_doors (l2).toNatClampNeg) - (cft_doors (l2).toNatClampNeg) / (2 : Int32) * (2 : Int32)))), (3, .int ((cft_doors (l2).toNatClampNeg) / (2 : Int32))), (0, .ref qt), (2, .int l2)]) hx hb dX11_make_134 hl (by decide) rfl (fun ls hl => ?_)
        refine lv_aload_n hx hb dX11_make_136 rfl (lv_at hl 2 rfl) ?_
        refine lv_iload_n hx hb dX11_make_137 rfl (lv_at hl 1 rfl) ?_
        refine lv_iload hx hb dX11_make_138 (lv_at hl 0 rfl) ?_
        obtain ⟨r140, hq_140, hf⟩ := bnd1_s hf
        refine kcalli (wc := [(qt, .inr (11, [.ref qt_now, .ref qt_past, .int (cit_saved), .ref xt_text, .int (it_length), .ref qt_doors, .int (cit_doorMany), .ref qt_label, .int (cit_drawn), .ref xt_far, .ref xt_ring, .int (it_walker), .int (it_from), .ref xt_was, .int (it_steps), .int (it_faultAt), .int (it_mover)])), (qt_now, .inl (cy.1, 639, .inl (cft_now)))]) (wr := [(qt_past, .inl (cy.1, 3195, .inl (cft_past))), (qt_doors, .inl (cy.1, 420, .inl (cft_doors))), (qt_label, .inl (cy.1, 210, .inl (cft_label)))]) (w1 := [(qt, .inr (11, [.ref qt_now, .ref qt_past, .int (cit_saved), .ref xt_text, .int (it_length), .ref qt_doors, .int (cit_doorMany), .ref qt_label, .int (cit_drawn), .ref xt_far, .ref xt_ring, .int (it_walker), .int (it_from), .ref xt_was, .int (it_steps), .int (it_faultAt), .int (it_mover)])), (qt_now, .inl (cy.1, 639, .inl (cft_now)))]) hK hP hD hS hA hG [0, 1] [2, 3, 4] rfl rfl rfl rfl rfl (fun hU hPc => va_runV (As := [.int ((cft_doors (l2).toNatClampNeg) / (2 : Int32)), .int ((1 : Int32) + ((cft_doors (l2).toNatClampNeg) - (cft_doors (l2).toNatClampNeg) / (2 : Int32) * (2 : Int32)))]) (rest := []) ⟨hx, hb, hml, hown, hts⟩ (c_X11_beside l dC dI cy G H.size qt qt_now qt_past xt_text qt_doors qt_label xt_far xt_ring xt_was (cit_saved) (it_length) (cit_doorMany) (cit_drawn) (it_walker) (it_from) (it_steps) (it_faultAt) (it_mover) (cft_now) (((cft_doors (l2).toNatClampNeg) / (2 : Int32))) (((1 : Int32) + ((cft_doors (l2).toNatClampNeg) - (cft_doors (l2).toNatClampNeg) / (2 : Int32) * (2 : Int32)))) r140 hq_140) (cwV 2 hts gX11_make_X11_beside rfl rfl rfl hdX11_beside ⟨Nat.le_of_ble_eq_true rfl, Nat.le_of_ble_eq_true rfl⟩) ⟨kBlind, (va_recv hK hP (ci := 11) (q0 := 0) rfl rfl), fun U h1 h2 => ⟨rfl, hU U h1 h2⟩⟩ rfl rfl hl.1 rfl (lv_room (Nat.le_of_ble_eq_true rfl)) dX11_make_140 ⟨Nat.zero_le _, Nat.zero_le _⟩) (r140) (fun _ _ h => h) (fun _ _ h => h) (fun H locs hP hD hS => ?_)
        have hP : va_P (dC, dI) vwCl [(qt_past, .inl (cy.1, 3195, .inl (cft_past))), (qt_doors, .inl (cy.1, 420, .inl (cft_doors))), (qt_label, .inl (cy.1, 210, .inl (cft_label))), (qt, .inr (11, [.ref qt_now, .ref qt_past, .int (cit_saved), .ref xt_text, .int (it_length), .ref qt_doors, .int (cit_doorMany), .ref qt_label, .int (cit_drawn), .ref xt_far, .ref xt_ring, .int (it_walker), .int (it_from), .ref xt_was, .int (it_steps), .int (it_faultAt), .int (it_mover)])), (qt_now, .inl (cy.1, 639, .inl (cft_now)))] H := hP
        have hD : va_D A [(qt_past, .inl (cy.1, 3195, .inl (cft_past))), (qt_doors, .inl (cy.1, 420, .inl (cft_doors))), (qt_label, .inl (cy.1, 210, .inl (cft_label))), (qt, .inr (11, [.ref qt_now, .ref qt_past, .int (cit_saved), .ref xt_text, .int (it_length), .ref qt_doors, .int (cit_doorMany), .ref qt_label, .int (cit_drawn), .ref xt_far, .ref xt_ring, .int (it_walker), .int (it_from), .ref xt_was, .int (it_steps), .int (it_faultAt), .int (it_mover)])), (qt_now, .inl (cy.1, 639, .inl (cft_now)))] := hD
        refine lv_istore (lv' := [(5, .int r140), (4, .int ((1 : Int32) + ((cft_doors (l2).toNatClampNeg) - (cft_doors (l2).toNatClampNeg) / (2 : Int32) * (2 : Int32)))), (3, .int ((cft_doors (l2).toNatClampNeg) / (2 : Int32))), (0, .ref qt), (2, .int l2)]) hx hb dX11_make_143 hl (by decide) rfl (fun ls hl => ?_)
        refine lv_aload_n hx hb dX11_make_145 rfl (lv_at hl 3 rfl) ?_
        refine va_get (D := (dC, dI)) (ci := 11) (C := RX11) (T := TX11) (N := 17) hx hb hts (fun _ h => (List.mem_cons_of_mem _ (List.mem_append_right _ h))) hown hK hP 3 rfl rfl 7 (by decide) (hts _ (List.mem_cons_of_mem _ (List.mem_append_left _ (List.mem_append_left _ (List.mem_of_getElem? (i := 5) rfl))))) (fun _ h => h) rfl dX11_make_146 ?_
        refine lv_iload_n hx hb dX11_make_149 rfl (lv_at hl 2 rfl) ?_
        obtain ⟨hk_150, hf⟩ := chk_s hf
        refine va_iald hx hb hK hP 2 0 rfl rfl hk_150 dX11_make_150 ?_
        refine lv_aload_n hx hb dX11_make_151 rfl (lv_at hl 3 rfl) ?_
        refine va_get (D := (dC, dI)) (ci := 11) (C := RX11) (T := TX11) (N := 17) hx hb hts (fun _ h => (List.mem_cons_of_mem _ (List.mem_append_right _ h))) hown hK hP 3 rfl rfl 7 (by decide) (hts _ (List.mem_cons_of_mem _ (List.mem_append_left _ (List.mem_append_left _ (List.mem_of_getElem? (i := 5) rfl))))) (fun _ h => h) rfl dX11_make_152 ?_
        refine lv_iload hx hb dX11_make_155 (lv_at hl 0 rfl) ?_
        obtain ⟨hk_157, hf⟩ := chk_s hf
        refine va_iald hx hb hK hP 2 0 rfl rfl hk_157 dX11_make_157 ?_
        refine lv_icmp_eq (tgt := 191) hx hb dX11_make_158 (by decide) (fun hc_158 => ?_) (fun hc_158 => ?_)
        · rw [if_pos hc_158] at hf
          refine lv_iinc (v := (l2 + (1 : Int32))) (lv' := [(2, .int (l2 + (1 : Int32))), (5, .int r140), (4, .int ((1 : Int32) + ((cft_doors (l2).toNatClampNeg) - (cft_doors (l2).toNatClampNeg) / (2 : Int32) * (2 : Int32)))), (3, .int ((cft_doors (l2).toNatClampNeg) / (2 : Int32))), (0, .ref qt)]) hx hb dX11_make_191 hl (k := 4) rfl rfl (by decide) rfl (fun ls hl => ?_)
          refine lv_goto (tgt := 107) hx hb dX11_make_194 (by decide) ?_
          exact ih107 ((l2 + (1 : Int32))) (cit_saved) (cit_doorMany) (cit_drawn) (cft_now) (cft_past) (cft_doors) (cft_label) _ _ (hP.sub [3, 4, 0, 1, 2] rfl) (hD.sub [3, 4, 0, 1, 2] (by decide) rfl) hS _ (lv_sub hl [4, 0] rfl) hf
        · rw [if_neg hc_158] at hf
          refine lv_aload_n hx hb dX11_make_161 rfl (lv_at hl 3 rfl) ?_
          refine va_get (D := (dC, dI)) (ci := 11) (C := RX11) (T := TX11) (N := 17) hx hb hts (fun _ h => (List.mem_cons_of_mem _ (List.mem_append_right _ h))) hown hK hP 3 rfl rfl 0 (by decide) (hts _ (List.mem_cons_of_mem _ (List.mem_append_left _ (List.mem_append_left _ (List.mem_of_getElem? (i := 1) rfl))))) (fun _ h => h) rfl dX11_make_162 ?_
          refine lv_aload_n hx hb dX11_make_165 rfl (lv_at hl 3 rfl) ?_
          refine lv_iload_n hx hb dX11_make_166 rfl (lv_at hl 2 rfl) ?_
          refine lv_iload hx hb dX11_make_167 (lv_at hl 1 rfl) ?_
          refine kcalli (wc := [(qt, .inr (11, [.ref qt_now, .ref qt_past, .int (cit_saved), .ref xt_text, .int (it_length), .ref qt_doors, .int (cit_doorMany), .ref qt_label, .int (cit_drawn), .ref xt_far, .ref xt_ring, .int (it_walker), .int (it_from), .ref xt_was, .int (it_steps), .int (it_faultAt), .int (it_mover)])), (qt_now, .inl (cy.1, 639, .inl (cft_now)))]) (wr := [(qt_past, .inl (cy.1, 3195, .inl (cft_past))), (qt_doors, .inl (cy.1, 420, .inl (cft_doors))), (qt_label, .inl (cy.1, 210, .inl (cft_label)))]) (w1 := [(qt, .inr (11, [.ref qt_now, .ref qt_past, .int (cit_saved), .ref xt_text, .int (it_length), .ref qt_doors, .int (cit_doorMany), .ref qt_label, .int (cit_drawn), .ref xt_far, .ref xt_ring, .int (it_walker), .int (it_from), .ref xt_was, .int (it_steps), .int (it_faultAt), .int (it_mover)])), (qt_now, .inl (cy.1, 639, .inl (cft_now)))]) hK hP hD hS hA hG [3, 4] [0, 1, 2] rfl rfl rfl rfl rfl (fun hU hPc => va_runV (As := [.int ((cft_doors (l2).toNatClampNeg) / (2 : Int32)), .int ((1 : Int32) + ((cft_doors (l2).toNatClampNeg) - (cft_doors (l2).toNatClampNeg) / (2 : Int32) * (2 : Int32)))]) (rest := [.ref qt_now]) ⟨hx, hb, hml, hown, hts⟩ (c_X11_doorAt l dC dI cy G H.size qt qt_now qt_past xt_text qt_doors qt_label xt_far xt_ring xt_was (cit_saved) (it_length) (cit_doorMany) (cit_drawn) (it_walker) (it_from) (it_steps) (it_faultAt) (it_mover) (cft_now) (((cft_doors (l2).toNatClampNeg) / (2 : Int32))) (((1 : Int32) + ((cft_doors (l2).toNatClampNeg) - (cft_doors (l2).toNatClampNeg) / (2 : Int32) * (2 : Int32)))) (t_X11_doorAt (cft_now) (((cft_doors (l2).toNatClampNeg) / (2 : Int32))) (((1 : Int32) + ((cft_doors (l2).toNatClampNeg) - (cft_doors (l2).toNatClampNeg) / (2 : Int32) * (2 : Int32))))) (tot_X11_doorAt (cft_now) (((cft_doors (l2).toNatClampNeg) / (2 : Int32))) (((1 : Int32) + ((cft_doors (l2).toNatClampNeg) - (cft_doors (l2).toNatClampNeg) / (2 : Int32) * (2 : Int32)))))) (cwV 2 hts gX11_make_X11_doorAt rfl rfl rfl hdX11_doorAt ⟨Nat.le_of_ble_eq_true rfl, Nat.le_of_ble_eq_true rfl⟩) ⟨kBlind, (va_recv hK hP (ci := 11) (q0 := 3) rfl rfl), fun U h1 h2 => ⟨rfl, hU U h1 h2⟩⟩ rfl rfl hl.1 rfl (lv_room (Nat.le_of_ble_eq_true rfl)) dX11_make_169 ⟨Nat.zero_le _, Nat.zero_le _⟩) ((t_X11_doorAt (cft_now) (((cft_doors (l2).toNatClampNeg) / (2 : Int32))) (((1 : Int32) + ((cft_doors (l2).toNatClampNeg) - (cft_doors (l2).toNatClampNeg) / (2 : Int32) * (2 : Int32)))))) (fun _ _ h => h) (fun _ _ h => h) (fun H locs hP hD hS => ?_)
          have hP : va_P (dC, dI) vwCl [(qt_past, .inl (cy.1, 3195, .inl (cft_past))), (qt_doors, .inl (cy.1, 420, .inl (cft_doors))), (qt_label, .inl (cy.1, 210, .inl (cft_label))), (qt, .inr (11, [.ref qt_now, .ref qt_past, .int (cit_saved), .ref xt_text, .int (it_length), .ref qt_doors, .int (cit_doorMany), .ref qt_label, .int (cit_drawn), .ref xt_far, .ref xt_ring, .int (it_walker), .int (it_from), .ref xt_was, .int (it_steps), .int (it_faultAt), .int (it_mover)])), (qt_now, .inl (cy.1, 639, .inl (cft_now)))] H := hP
          have hD : va_D A [(qt_past, .inl (cy.1, 3195, .inl (cft_past))), (qt_doors, .inl (cy.1, 420, .inl (cft_doors))), (qt_label, .inl (cy.1, 210, .inl (cft_label))), (qt, .inr (11, [.ref qt_now, .ref qt_past, .int (cit_saved), .ref xt_text, .int (it_length), .ref qt_doors, .int (cit_doorMany), .ref qt_label, .int (cit_drawn), .ref xt_far, .ref xt_ring, .int (it_walker), .int (it_from), .ref xt_was, .int (it_steps), .int (it_faultAt), .int (it_mover)])), (qt_now, .inl (cy.1, 639, .inl (cft_now)))] := hD
          refine lv_iconst (v := (1 : Int32)) hx hb dX11_make_172 (by decide) ?_
          obtain ⟨hk_173, hf⟩ := chk_s hf
          refine va_iast hx hb hK hP hD hS 4 0 rfl rfl hk_173 dX11_make_173 (fun H locs hP hD hS => ?_)
          have hP : va_P (dC, dI) vwCl [(qt_past, .inl (cy.1, 3195, .inl (cft_past))), (qt_doors, .inl (cy.1, 420, .inl (cft_doors))), (qt_label, .inl (cy.1, 210, .inl (cft_label))), (qt, .inr (11, [.ref qt_now, .ref qt_past, .int (cit_saved), .ref xt_text, .int (it_length), .ref qt_doors, .int (cit_doorMany), .ref qt_label, .int (cit_drawn), .ref xt_far, .ref xt_ring, .int (it_walker), .int (it_from), .ref xt_was, .int (it_steps), .int (it_faultAt), .int (it_mover)])), (qt_now, .inl (cy.1, 639, .inl ((upd cft_now ((t_X11_doorAt (cft_now) (((cft_doors (l2).toNatClampNeg) / (2 : Int32))) (((1 : Int32) + ((cft_doors (l2).toNatClampNeg) - (cft_doors (l2).toNatClampNeg) / (2 : Int32) * (2 : Int32)))))).toNatClampNeg (1 : Int32)))))] H := hP
          have hD : va_D A [(qt_past, .inl (cy.1, 3195, .inl (cft_past))), (qt_doors, .inl (cy.1, 420, .inl (cft_doors))), (qt_label, .inl (cy.1, 210, .inl (cft_label))), (qt, .inr (11, [.ref qt_now, .ref qt_past, .int (cit_saved), .ref xt_text, .int (it_length), .ref qt_doors, .int (cit_doorMany), .ref qt_label, .int (cit_drawn), .ref xt_far, .ref xt_ring, .int (it_walker), .int (it_from), .ref xt_was, .int (it_steps), .int (it_faultAt), .int (it_mover)])), (qt_now, .inl (cy.1, 639, .inl ((upd cft_now ((t_X11_doorAt (cft_now) (((cft_doors (l2).toNatClampNeg) / (2 : Int32))) (((1 : Int32) + ((cft_doors (l2).toNatClampNeg) - (cft_doors (l2).toNatClampNeg) / (2 : Int32) * (2 : Int32)))))).toNatClampNeg (1 : Int32)))))] := hD
          refine lv_aload_n hx hb dX11_make_174 rfl (lv_at hl 3 rfl) ?_
          refine lv_aload_n hx hb dX11_make_175 rfl (lv_at hl 3 rfl) ?_
          refine va_get (D := (dC, dI)) (ci := 11) (C := RX11) (T := TX11) (N := 17) hx hb hts (fun _ h => (List.mem_cons_of_mem _ (List.mem_append_right _ h))) hown hK hP 3 rfl rfl 7 (by decide) (hts _ (List.mem_cons_of_mem _ (List.mem_append_left _ (List.mem_append_left _ (List.mem_of_getElem? (i := 5) rfl))))) (fun _ h => h) rfl dX11_make_176 ?_
          refine lv_iload_n hx hb dX11_make_179 rfl (lv_at hl 2 rfl) ?_
          obtain ⟨hk_180, hf⟩ := chk_s hf
          refine va_iald hx hb hK hP 2 0 rfl rfl hk_180 dX11_make_180 ?_
          refine lv_aload_n hx hb dX11_make_181 rfl (lv_at hl 3 rfl) ?_
          refine va_get (D := (dC, dI)) (ci := 11) (C := RX11) (T := TX11) (N := 17) hx hb hts (fun _ h => (List.mem_cons_of_mem _ (List.mem_append_right _ h))) hown hK hP 3 rfl rfl 7 (by decide) (hts _ (List.mem_cons_of_mem _ (List.mem_append_left _ (List.mem_append_left _ (List.mem_of_getElem? (i := 5) rfl))))) (fun _ h => h) rfl dX11_make_182 ?_
          refine lv_iload hx hb dX11_make_185 (lv_at hl 0 rfl) ?_
          obtain ⟨hk_187, hf⟩ := chk_s hf
          refine va_iald hx hb hK hP 2 0 rfl rfl hk_187 dX11_make_187 ?_
          obtain ⟨o188_0, hq_188, hf⟩ := bnd1_s hf
          refine kcallv (wc := [(qt, .inr (11, [.ref qt_now, .ref qt_past, .int (cit_saved), .ref xt_text, .int (it_length), .ref qt_doors, .int (cit_doorMany), .ref qt_label, .int (cit_drawn), .ref xt_far, .ref xt_ring, .int (it_walker), .int (it_from), .ref xt_was, .int (it_steps), .int (it_faultAt), .int (it_mover)])), (qt_now, .inl (cy.1, 639, .inl ((upd cft_now ((t_X11_doorAt (cft_now) (((cft_doors (l2).toNatClampNeg) / (2 : Int32))) (((1 : Int32) + ((cft_doors (l2).toNatClampNeg) - (cft_doors (l2).toNatClampNeg) / (2 : Int32) * (2 : Int32)))))).toNatClampNeg (1 : Int32))))), (qt_label, .inl (cy.1, 210, .inl (cft_label)))]) (wr := [(qt_past, .inl (cy.1, 3195, .inl (cft_past))), (qt_doors, .inl (cy.1, 420, .inl (cft_doors)))]) (w1 := [(qt, .inr (11, [.ref qt_now, .ref qt_past, .int (cit_saved), .ref xt_text, .int (it_length), .ref qt_doors, .int (cit_doorMany), .ref qt_label, .int (cit_drawn), .ref xt_far, .ref xt_ring, .int (it_walker), .int (it_from), .ref xt_was, .int (it_steps), .int (it_faultAt), .int (it_mover)])), (qt_now, .inl (cy.1, 639, .inl ((upd cft_now ((t_X11_doorAt (cft_now) (((cft_doors (l2).toNatClampNeg) / (2 : Int32))) (((1 : Int32) + ((cft_doors (l2).toNatClampNeg) - (cft_doors (l2).toNatClampNeg) / (2 : Int32) * (2 : Int32)))))).toNatClampNeg (1 : Int32))))), (qt_label, .inl (cy.1, 210, .inl (o188_0)))]) hK hP hD hS hA hG [3, 4, 2] [0, 1] rfl rfl rfl rfl rfl (fun hU hPc => va_runV (As := [.int (cft_label (((cft_doors (l2).toNatClampNeg) / (2 : Int32))).toNatClampNeg), .int (cft_label (r140).toNatClampNeg)]) (rest := []) ⟨hx, hb, hml, hown, hts⟩ (c_X11_joinsTwo l dC dI cy G H.size qt qt_now qt_label qt_past xt_text qt_doors xt_far xt_ring xt_was (cit_saved) (it_length) (cit_doorMany) (cit_drawn) (it_walker) (it_from) (it_steps) (it_faultAt) (it_mover) N ((upd cft_now ((t_X11_doorAt (cft_now) (((cft_doors (l2).toNatClampNeg) / (2 : Int32))) (((1 : Int32) + ((cft_doors (l2).toNatClampNeg) - (cft_doors (l2).toNatClampNeg) / (2 : Int32) * (2 : Int32)))))).toNatClampNeg (1 : Int32))) (cft_label) ((cft_label (((cft_doors (l2).toNatClampNeg) / (2 : Int32))).toNatClampNeg)) ((cft_label (r140).toNatClampNeg)) o188_0 hq_188) (cwV 2 hts gX11_make_X11_joinsTwo rfl rfl rfl hdX11_joinsTwo ⟨Nat.le_of_ble_eq_true rfl, Nat.le_of_ble_eq_true rfl⟩) ⟨kBlind, (va_recv hK hP (ci := 11) (q0 := 3) rfl rfl), fun U h1 h2 => ⟨rfl, hU U h1 h2⟩⟩ rfl rfl hl.1 rfl (lv_room (Nat.le_of_ble_eq_true rfl)) dX11_make_188 ⟨Nat.zero_le _, Nat.zero_le _⟩) (fun _ _ h => h) (fun H locs hP hD hS => ?_)
          have hP : va_P (dC, dI) vwCl [(qt_past, .inl (cy.1, 3195, .inl (cft_past))), (qt_doors, .inl (cy.1, 420, .inl (cft_doors))), (qt, .inr (11, [.ref qt_now, .ref qt_past, .int (cit_saved), .ref xt_text, .int (it_length), .ref qt_doors, .int (cit_doorMany), .ref qt_label, .int (cit_drawn), .ref xt_far, .ref xt_ring, .int (it_walker), .int (it_from), .ref xt_was, .int (it_steps), .int (it_faultAt), .int (it_mover)])), (qt_now, .inl (cy.1, 639, .inl ((upd cft_now ((t_X11_doorAt (cft_now) (((cft_doors (l2).toNatClampNeg) / (2 : Int32))) (((1 : Int32) + ((cft_doors (l2).toNatClampNeg) - (cft_doors (l2).toNatClampNeg) / (2 : Int32) * (2 : Int32)))))).toNatClampNeg (1 : Int32))))), (qt_label, .inl (cy.1, 210, .inl (o188_0)))] H := hP
          have hD : va_D A [(qt_past, .inl (cy.1, 3195, .inl (cft_past))), (qt_doors, .inl (cy.1, 420, .inl (cft_doors))), (qt, .inr (11, [.ref qt_now, .ref qt_past, .int (cit_saved), .ref xt_text, .int (it_length), .ref qt_doors, .int (cit_doorMany), .ref qt_label, .int (cit_drawn), .ref xt_far, .ref xt_ring, .int (it_walker), .int (it_from), .ref xt_was, .int (it_steps), .int (it_faultAt), .int (it_mover)])), (qt_now, .inl (cy.1, 639, .inl ((upd cft_now ((t_X11_doorAt (cft_now) (((cft_doors (l2).toNatClampNeg) / (2 : Int32))) (((1 : Int32) + ((cft_doors (l2).toNatClampNeg) - (cft_doors (l2).toNatClampNeg) / (2 : Int32) * (2 : Int32)))))).toNatClampNeg (1 : Int32))))), (qt_label, .inl (cy.1, 210, .inl (o188_0)))] := hD
          refine lv_iinc (v := (l2 + (1 : Int32))) (lv' := [(2, .int (l2 + (1 : Int32))), (5, .int r140), (4, .int ((1 : Int32) + ((cft_doors (l2).toNatClampNeg) - (cft_doors (l2).toNatClampNeg) / (2 : Int32) * (2 : Int32)))), (3, .int ((cft_doors (l2).toNatClampNeg) / (2 : Int32))), (0, .ref qt)]) hx hb dX11_make_191 hl (k := 4) rfl rfl (by decide) rfl (fun ls hl => ?_)
          refine lv_goto (tgt := 107) hx hb dX11_make_194 (by decide) ?_
          exact ih107 ((l2 + (1 : Int32))) (cit_saved) (cit_doorMany) (cit_drawn) ((upd cft_now ((t_X11_doorAt (cft_now) (((cft_doors (l2).toNatClampNeg) / (2 : Int32))) (((1 : Int32) + ((cft_doors (l2).toNatClampNeg) - (cft_doors (l2).toNatClampNeg) / (2 : Int32) * (2 : Int32)))))).toNatClampNeg (1 : Int32))) (cft_past) (cft_doors) (o188_0) _ _ (hP.sub [2, 3, 0, 1, 4] rfl) (hD.sub [2, 3, 0, 1, 4] (by decide) rfl) hS _ (lv_sub hl [4, 0] rfl) hf
  have B55 : ∀ (n55 : Nat) (l2 : Int32) (cit_saved : Int32) (cit_doorMany : Int32) (cit_drawn : Int32) (cft_now : Nat → Int32) (cft_past : Nat → Int32) (cft_doors : Nat → Int32) (cft_label : Nat → Int32) (H : Heap) (locs : List Loc), va_P (dC, dI) vwCl [(qt, .inr (11, [.ref qt_now, .ref qt_past, .int (cit_saved), .ref xt_text, .int (it_length), .ref qt_doors, .int (cit_doorMany), .ref qt_label, .int (cit_drawn), .ref xt_far, .ref xt_ring, .int (it_walker), .int (it_from), .ref xt_was, .int (it_steps), .int (it_faultAt), .int (it_mover)])), (qt_now, .inl (cy.1, 639, .inl (cft_now))), (qt_past, .inl (cy.1, 3195, .inl (cft_past))), (qt_doors, .inl (cy.1, 420, .inl (cft_doors))), (qt_label, .inl (cy.1, 210, .inl (cft_label)))] H → va_D A [(qt, .inr (11, [.ref qt_now, .ref qt_past, .int (cit_saved), .ref xt_text, .int (it_length), .ref qt_doors, .int (cit_doorMany), .ref qt_label, .int (cit_drawn), .ref xt_far, .ref xt_ring, .int (it_walker), .int (it_from), .ref xt_was, .int (it_steps), .int (it_faultAt), .int (it_mover)])), (qt_now, .inl (cy.1, 639, .inl (cft_now))), (qt_past, .inl (cy.1, 3195, .inl (cft_past))), (qt_doors, .inl (cy.1, 420, .inl (cft_doors))), (qt_label, .inl (cy.1, 210, .inl (cft_label)))] → va_S A s.heap H locs → ∀ (ls : Array Slot), lv_has ls 6 [(0, .ref qt), (2, .int l2)] → b_X11_make_55 N va1 n55 l2 cit_saved cit_doorMany cit_drawn cft_now cft_past cft_doors cft_label = some out → W p l e (headSpec wsX11_make rm_X11_make).room s m ([.ref qt, .int va1] : List Value).toArray below meth c H locs 0 0 Q (F0 m 55 ls []) := by
    intro n55
    induction n55 with
    | zero => intro l2 cit_saved cit_doorMany cit_drawn cft_now cft_past cft_doors cft_label H locs hP hD hS ls hl hf; rw [b_X11_make_55] at hf; cases hf
    | succ n55 ih55 =>
      intro l2 cit_saved cit_doorMany cit_drawn cft_now cft_past cft_doors cft_label H locs hP hD hS ls hl hf
      rw [b_X11_make_55] at hf
      refine lv_iload_n hx hb dX11_make_55 rfl (lv_at hl 1 rfl) ?_
      refine lv_if_le (tgt := 101) hx hb dX11_make_56 (by decide) (fun hc_56 => ?_) (fun hc_56 => ?_)
      · rw [if_pos hc_56] at hf
        refine lv_aload_n hx hb dX11_make_101 rfl (lv_at hl 0 rfl) ?_
        obtain ⟨o102_0, hq_102, hf⟩ := bnd1_s hf
        refine kcallv (wc := [(qt, .inr (11, [.ref qt_now, .ref qt_past, .int (cit_saved), .ref xt_text, .int (it_length), .ref qt_doors, .int (cit_doorMany), .ref qt_label, .int (cit_drawn), .ref xt_far, .ref xt_ring, .int (it_walker), .int (it_from), .ref xt_was, .int (it_steps), .int (it_faultAt), .int (it_mover)])), (qt_now, .inl (cy.1, 639, .inl (cft_now))), (qt_label, .inl (cy.1, 210, .inl (cft_label)))]) (wr := [(qt_past, .inl (cy.1, 3195, .inl (cft_past))), (qt_doors, .inl (cy.1, 420, .inl (cft_doors)))]) (w1 := [(qt, .inr (11, [.ref qt_now, .ref qt_past, .int (cit_saved), .ref xt_text, .int (it_length), .ref qt_doors, .int (cit_doorMany), .ref qt_label, .int (cit_drawn), .ref xt_far, .ref xt_ring, .int (it_walker), .int (it_from), .ref xt_was, .int (it_steps), .int (it_faultAt), .int (it_mover)])), (qt_now, .inl (cy.1, 639, .inl (cft_now))), (qt_label, .inl (cy.1, 210, .inl (o102_0)))]) hK hP hD hS hA hG [0, 1, 4] [2, 3] rfl rfl rfl rfl rfl (fun hU hPc => va_runV (As := []) (rest := []) ⟨hx, hb, hml, hown, hts⟩ (c_X11_labels l dC dI cy G H.size qt qt_now qt_label qt_past xt_text qt_doors xt_far xt_ring xt_was (cit_saved) (it_length) (cit_doorMany) (cit_drawn) (it_walker) (it_from) (it_steps) (it_faultAt) (it_mover) N (cft_now) (cft_label) o102_0 hq_102) (cwV 0 hts gX11_make_X11_labels rfl rfl rfl hdX11_labels ⟨Nat.le_of_ble_eq_true rfl, Nat.le_of_ble_eq_true rfl⟩) ⟨kBlind, (va_recv hK hP (ci := 11) (q0 := 0) rfl rfl), fun U h1 h2 => ⟨rfl, hU U h1 h2⟩⟩ rfl rfl hl.1 rfl (lv_room (Nat.le_of_ble_eq_true rfl)) dX11_make_102 ⟨Nat.zero_le _, Nat.zero_le _⟩) (fun _ _ h => h) (fun H locs hP hD hS => ?_)
        have hP : va_P (dC, dI) vwCl [(qt_past, .inl (cy.1, 3195, .inl (cft_past))), (qt_doors, .inl (cy.1, 420, .inl (cft_doors))), (qt, .inr (11, [.ref qt_now, .ref qt_past, .int (cit_saved), .ref xt_text, .int (it_length), .ref qt_doors, .int (cit_doorMany), .ref qt_label, .int (cit_drawn), .ref xt_far, .ref xt_ring, .int (it_walker), .int (it_from), .ref xt_was, .int (it_steps), .int (it_faultAt), .int (it_mover)])), (qt_now, .inl (cy.1, 639, .inl (cft_now))), (qt_label, .inl (cy.1, 210, .inl (o102_0)))] H := hP
        have hD : va_D A [(qt_past, .inl (cy.1, 3195, .inl (cft_past))), (qt_doors, .inl (cy.1, 420, .inl (cft_doors))), (qt, .inr (11, [.ref qt_now, .ref qt_past, .int (cit_saved), .ref xt_text, .int (it_length), .ref qt_doors, .int (cit_doorMany), .ref qt_label, .int (cit_drawn), .ref xt_far, .ref xt_ring, .int (it_walker), .int (it_from), .ref xt_was, .int (it_steps), .int (it_faultAt), .int (it_mover)])), (qt_now, .inl (cy.1, 639, .inl (cft_now))), (qt_label, .inl (cy.1, 210, .inl (o102_0)))] := hD
        refine lv_iconst (v := (0 : Int32)) hx hb dX11_make_105 (by decide) ?_
        refine lv_istore_n (lv' := [(2, .int (0 : Int32)), (0, .ref qt)]) hx hb dX11_make_106 rfl hl (by decide) rfl (fun ls hl => ?_)
        exact B107 N ((0 : Int32)) (cit_saved) (cit_doorMany) (cit_drawn) (cft_now) (cft_past) (cft_doors) (o102_0) _ _ (hP.sub [2, 3, 0, 1, 4] rfl) (hD.sub [2, 3, 0, 1, 4] (by decide) rfl) hS _ (lv_sub hl [1, 0] rfl) hf
      · rw [if_neg hc_56] at hf
        refine lv_aload_n hx hb dX11_make_59 rfl (lv_at hl 0 rfl) ?_
        refine lv_iload_n hx hb dX11_make_60 rfl (lv_at hl 1 rfl) ?_
        refine lv_iconst (v := (1 : Int32)) hx hb dX11_make_61 (by decide) ?_
        refine lv_iadd hx hb dX11_make_62 ?_
        obtain ⟨r63, o63_0, hq_63, hf⟩ := bnd2_s hf
        refine kcalli (wc := [(qt, .inr (11, [.ref qt_now, .ref qt_past, .int (cit_saved), .ref xt_text, .int (it_length), .ref qt_doors, .int (cit_doorMany), .ref qt_label, .int (cit_drawn), .ref xt_far, .ref xt_ring, .int (it_walker), .int (it_from), .ref xt_was, .int (it_steps), .int (it_faultAt), .int (it_mover)]))]) (wr := [(qt_now, .inl (cy.1, 639, .inl (cft_now))), (qt_past, .inl (cy.1, 3195, .inl (cft_past))), (qt_doors, .inl (cy.1, 420, .inl (cft_doors))), (qt_label, .inl (cy.1, 210, .inl (cft_label)))]) (w1 := [(qt, .inr (11, [.ref qt_now, .ref qt_past, .int (cit_saved), .ref xt_text, .int (it_length), .ref qt_doors, .int (cit_doorMany), .ref qt_label, .int (o63_0), .ref xt_far, .ref xt_ring, .int (it_walker), .int (it_from), .ref xt_was, .int (it_steps), .int (it_faultAt), .int (it_mover)]))]) hK hP hD hS hA hG [0] [1, 2, 3, 4] rfl rfl rfl rfl rfl (fun hU hPc => va_runV (As := [.int (l2 + (1 : Int32))]) (rest := []) ⟨hx, hb, hml, hown, hts⟩ (c_X11_draw l dC dI cy G H.size qt qt_now qt_past xt_text qt_doors qt_label xt_far xt_ring xt_was (cit_saved) (it_length) (cit_doorMany) (it_walker) (it_from) (it_steps) (it_faultAt) (it_mover) (cit_drawn) ((l2 + (1 : Int32))) (r63, o63_0) hq_63) (cwV 1 hts gX11_make_X11_draw rfl rfl rfl hdX11_draw ⟨Nat.le_of_ble_eq_true rfl, Nat.le_of_ble_eq_true rfl⟩) ⟨kBlind, (va_recv hK hP (ci := 11) (q0 := 0) rfl rfl), fun U h1 h2 => ⟨rfl, hU U h1 h2⟩⟩ rfl rfl hl.1 rfl (lv_room (Nat.le_of_ble_eq_true rfl)) dX11_make_63 ⟨Nat.zero_le _, Nat.zero_le _⟩) (r63) (fun _ _ h => h) (fun _ _ h => h) (fun H locs hP hD hS => ?_)
        have hP : va_P (dC, dI) vwCl [(qt_now, .inl (cy.1, 639, .inl (cft_now))), (qt_past, .inl (cy.1, 3195, .inl (cft_past))), (qt_doors, .inl (cy.1, 420, .inl (cft_doors))), (qt_label, .inl (cy.1, 210, .inl (cft_label))), (qt, .inr (11, [.ref qt_now, .ref qt_past, .int (cit_saved), .ref xt_text, .int (it_length), .ref qt_doors, .int (cit_doorMany), .ref qt_label, .int (o63_0), .ref xt_far, .ref xt_ring, .int (it_walker), .int (it_from), .ref xt_was, .int (it_steps), .int (it_faultAt), .int (it_mover)]))] H := hP
        have hD : va_D A [(qt_now, .inl (cy.1, 639, .inl (cft_now))), (qt_past, .inl (cy.1, 3195, .inl (cft_past))), (qt_doors, .inl (cy.1, 420, .inl (cft_doors))), (qt_label, .inl (cy.1, 210, .inl (cft_label))), (qt, .inr (11, [.ref qt_now, .ref qt_past, .int (cit_saved), .ref xt_text, .int (it_length), .ref qt_doors, .int (cit_doorMany), .ref qt_label, .int (o63_0), .ref xt_far, .ref xt_ring, .int (it_walker), .int (it_from), .ref xt_was, .int (it_steps), .int (it_faultAt), .int (it_mover)]))] := hD
        refine lv_istore_n (lv' := [(3, .int r63), (0, .ref qt), (2, .int l2)]) hx hb dX11_make_66 rfl hl (by decide) rfl (fun ls hl => ?_)
        refine lv_aload_n hx hb dX11_make_67 rfl (lv_at hl 1 rfl) ?_
        refine va_get (D := (dC, dI)) (ci := 11) (C := RX11) (T := TX11) (N := 17) hx hb hts (fun _ h => (List.mem_cons_of_mem _ (List.mem_append_right _ h))) hown hK hP 4 rfl rfl 5 (by decide) (hts _ (List.mem_cons_of_mem _ (List.mem_append_left _ (List.mem_append_left _ (List.mem_of_getElem? (i := 4) rfl))))) (fun _ h => h) rfl dX11_make_68 ?_
        refine lv_iload_n hx hb dX11_make_71 rfl (lv_at hl 2 rfl) ?_
        obtain ⟨hk_72, hf⟩ := chk_s hf
        refine va_iald hx hb hK hP 2 0 rfl rfl hk_72 dX11_make_72 ?_
        refine lv_istore (lv' := [(4, .int (cft_doors (l2).toNatClampNeg)), (3, .int r63), (0, .ref qt), (2, .int l2)]) hx hb dX11_make_73 hl (by decide) rfl (fun ls hl => ?_)
        refine lv_aload_n hx hb dX11_make_75 rfl (lv_at hl 2 rfl) ?_
        refine va_get (D := (dC, dI)) (ci := 11) (C := RX11) (T := TX11) (N := 17) hx hb hts (fun _ h => (List.mem_cons_of_mem _ (List.mem_append_right _ h))) hown hK hP 4 rfl rfl 5 (by decide) (hts _ (List.mem_cons_of_mem _ (List.mem_append_left _ (List.mem_append_left _ (List.mem_of_getElem? (i := 4) rfl))))) (fun _ h => h) rfl dX11_make_76 ?_
        refine lv_iload_n hx hb dX11_make_79 rfl (lv_at hl 3 rfl) ?_
        refine lv_aload_n hx hb dX11_make_80 rfl (lv_at hl 2 rfl) ?_
        refine va_get (D := (dC, dI)) (ci := 11) (C := RX11) (T := TX11) (N := 17) hx hb hts (fun _ h => (List.mem_cons_of_mem _ (List.mem_append_right _ h))) hown hK hP 4 rfl rfl 5 (by decide) (hts _ (List.mem_cons_of_mem _ (List.mem_append_left _ (List.mem_append_left _ (List.mem_of_getElem? (i := 4) rfl))))) (fun _ h => h) rfl dX11_make_81 ?_
        refine lv_iload_n hx hb dX11_make_84 rfl (lv_at hl 1 rfl) ?_
        obtain ⟨hk_85, hf⟩ := chk_s hf
        refine va_iald hx hb hK hP 2 0 rfl rfl hk_85 dX11_make_85 ?_
        obtain ⟨hk_86, hf⟩ := chk_s hf
        refine va_iast hx hb hK hP hD hS 2 0 rfl rfl hk_86 dX11_make_86 (fun H locs hP hD hS => ?_)
        have hP : va_P (dC, dI) vwCl [(qt_now, .inl (cy.1, 639, .inl (cft_now))), (qt_past, .inl (cy.1, 3195, .inl (cft_past))), (qt_doors, .inl (cy.1, 420, .inl ((upd cft_doors (l2).toNatClampNeg (cft_doors (r63).toNatClampNeg))))), (qt_label, .inl (cy.1, 210, .inl (cft_label))), (qt, .inr (11, [.ref qt_now, .ref qt_past, .int (cit_saved), .ref xt_text, .int (it_length), .ref qt_doors, .int (cit_doorMany), .ref qt_label, .int (o63_0), .ref xt_far, .ref xt_ring, .int (it_walker), .int (it_from), .ref xt_was, .int (it_steps), .int (it_faultAt), .int (it_mover)]))] H := hP
        have hD : va_D A [(qt_now, .inl (cy.1, 639, .inl (cft_now))), (qt_past, .inl (cy.1, 3195, .inl (cft_past))), (qt_doors, .inl (cy.1, 420, .inl ((upd cft_doors (l2).toNatClampNeg (cft_doors (r63).toNatClampNeg))))), (qt_label, .inl (cy.1, 210, .inl (cft_label))), (qt, .inr (11, [.ref qt_now, .ref qt_past, .int (cit_saved), .ref xt_text, .int (it_length), .ref qt_doors, .int (cit_doorMany), .ref qt_label, .int (o63_0), .ref xt_far, .ref xt_ring, .int (it_walker), .int (it_from), .ref xt_was, .int (it_steps), .int (it_faultAt), .int (it_mover)]))] := hD
        refine lv_aload_n hx hb dX11_make_87 rfl (lv_at hl 2 rfl) ?_
        refine va_get (D := (dC, dI)) (ci := 11) (C := RX11) (T := TX11) (N := 17) hx hb hts (fun _ h => (List.mem_cons_of_mem _ (List.mem_append_right _ h))) hown hK hP 4 rfl rfl 5 (by decide) (hts _ (List.mem_cons_of_mem _ (List.mem_append_left _ (List.mem_append_left _ (List.mem_of_getElem? (i := 4) rfl))))) (fun _ h => h) rfl dX11_make_88 ?_
        refine lv_iload_n hx hb dX11_make_91 rfl (lv_at hl 1 rfl) ?_
        refine lv_iload hx hb dX11_make_92 (lv_at hl 0 rfl) ?_
        obtain ⟨hk_94, hf⟩ := chk_s hf
        refine va_iast hx hb hK hP hD hS 2 0 rfl rfl hk_94 dX11_make_94 (fun H locs hP hD hS => ?_)
        have hP : va_P (dC, dI) vwCl [(qt_now, .inl (cy.1, 639, .inl (cft_now))), (qt_past, .inl (cy.1, 3195, .inl (cft_past))), (qt_doors, .inl (cy.1, 420, .inl ((upd (upd cft_doors (l2).toNatClampNeg (cft_doors (r63).toNatClampNeg)) (r63).toNatClampNeg (cft_doors (l2).toNatClampNeg))))), (qt_label, .inl (cy.1, 210, .inl (cft_label))), (qt, .inr (11, [.ref qt_now, .ref qt_past, .int (cit_saved), .ref xt_text, .int (it_length), .ref qt_doors, .int (cit_doorMany), .ref qt_label, .int (o63_0), .ref xt_far, .ref xt_ring, .int (it_walker), .int (it_from), .ref xt_was, .int (it_steps), .int (it_faultAt), .int (it_mover)]))] H := hP
        have hD : va_D A [(qt_now, .inl (cy.1, 639, .inl (cft_now))), (qt_past, .inl (cy.1, 3195, .inl (cft_past))), (qt_doors, .inl (cy.1, 420, .inl ((upd (upd cft_doors (l2).toNatClampNeg (cft_doors (r63).toNatClampNeg)) (r63).toNatClampNeg (cft_doors (l2).toNatClampNeg))))), (qt_label, .inl (cy.1, 210, .inl (cft_label))), (qt, .inr (11, [.ref qt_now, .ref qt_past, .int (cit_saved), .ref xt_text, .int (it_length), .ref qt_doors, .int (cit_doorMany), .ref qt_label, .int (o63_0), .ref xt_far, .ref xt_ring, .int (it_walker), .int (it_from), .ref xt_was, .int (it_steps), .int (it_faultAt), .int (it_mover)]))] := hD
        refine lv_iinc (v := (l2 + (-1 : Int32))) (lv' := [(2, .int (l2 + (-1 : Int32))), (4, .int (cft_doors (l2).toNatClampNeg)), (3, .int r63), (0, .ref qt)]) hx hb dX11_make_95 hl (k := 3) rfl rfl (by decide) rfl (fun ls hl => ?_)
        refine lv_goto (tgt := 55) hx hb dX11_make_98 (by decide) ?_
        exact ih55 ((l2 + (-1 : Int32))) (cit_saved) (cit_doorMany) (o63_0) (cft_now) (cft_past) ((upd (upd cft_doors (l2).toNatClampNeg (cft_doors (r63).toNatClampNeg)) (r63).toNatClampNeg (cft_doors (l2).toNatClampNeg))) (cft_label) _ _ (hP.sub [4, 0, 1, 2, 3] rfl) (hD.sub [4, 0, 1, 2, 3] (by decide) rfl) hS _ (lv_sub hl [3, 0] rfl) hf
  have B19 : ∀ (n19 : Nat) (l2 : Int32) (cit_saved : Int32) (cit_doorMany : Int32) (cit_drawn : Int32) (cft_now : Nat → Int32) (cft_past : Nat → Int32) (cft_doors : Nat → Int32) (cft_label : Nat → Int32) (H : Heap) (locs : List Loc), va_P (dC, dI) vwCl [(qt, .inr (11, [.ref qt_now, .ref qt_past, .int (cit_saved), .ref xt_text, .int (it_length), .ref qt_doors, .int (cit_doorMany), .ref qt_label, .int (cit_drawn), .ref xt_far, .ref xt_ring, .int (it_walker), .int (it_from), .ref xt_was, .int (it_steps), .int (it_faultAt), .int (it_mover)])), (qt_now, .inl (cy.1, 639, .inl (cft_now))), (qt_past, .inl (cy.1, 3195, .inl (cft_past))), (qt_doors, .inl (cy.1, 420, .inl (cft_doors))), (qt_label, .inl (cy.1, 210, .inl (cft_label)))] H → va_D A [(qt, .inr (11, [.ref qt_now, .ref qt_past, .int (cit_saved), .ref xt_text, .int (it_length), .ref qt_doors, .int (cit_doorMany), .ref qt_label, .int (cit_drawn), .ref xt_far, .ref xt_ring, .int (it_walker), .int (it_from), .ref xt_was, .int (it_steps), .int (it_faultAt), .int (it_mover)])), (qt_now, .inl (cy.1, 639, .inl (cft_now))), (qt_past, .inl (cy.1, 3195, .inl (cft_past))), (qt_doors, .inl (cy.1, 420, .inl (cft_doors))), (qt_label, .inl (cy.1, 210, .inl (cft_label)))] → va_S A s.heap H locs → ∀ (ls : Array Slot), lv_has ls 6 [(0, .ref qt), (1, .int va1), (2, .int l2)] → b_X11_make_19 N va1 n19 l2 cit_saved cit_doorMany cit_drawn cft_now cft_past cft_doors cft_label = some out → W p l e (headSpec wsX11_make rm_X11_make).room s m ([.ref qt, .int va1] : List Value).toArray below meth c H locs 0 0 Q (F0 m 19 ls []) := by
    intro n19
    induction n19 with
    | zero => intro l2 cit_saved cit_doorMany cit_drawn cft_now cft_past cft_doors cft_label H locs hP hD hS ls hl hf; rw [b_X11_make_19] at hf; cases hf
    | succ n19 ih19 =>
      intro l2 cit_saved cit_doorMany cit_drawn cft_now cft_past cft_doors cft_label H locs hP hD hS ls hl hf
      rw [b_X11_make_19] at hf
      refine lv_iload_n hx hb dX11_make_19 rfl (lv_at hl 2 rfl) ?_
      refine lv_sipush (v := (429 : Int32)) hx hb dX11_make_20 (by decide) ?_
      refine lv_icmp_ge (tgt := 39) hx hb dX11_make_23 (by decide) (fun hc_23 => ?_) (fun hc_23 => ?_)
      · rw [if_pos hc_23] at hf
        refine lv_aload_n hx hb dX11_make_39 rfl (lv_at hl 0 rfl) ?_
        refine lv_iload_n hx hb dX11_make_40 rfl (lv_at hl 1 rfl) ?_
        refine va_put (D := (dC, dI)) (ci := 11) (v := .int va1) (ty := .int) (C := RX11) (T := TX11) (N := 17) hx hb hts (fun _ h => (List.mem_cons_of_mem _ (List.mem_append_right _ h))) tyX11 tyX11_ok nmX11 hown hK hP hD hS 0 rfl rfl 8 (by decide) (hts _ (List.mem_cons_of_mem _ (List.mem_append_left _ (List.mem_append_left _ (List.mem_of_getElem? (i := 2) rfl))))) (fun _ h => h) rfl (by decide +kernel) rfl rfl (Nat.le_of_ble_eq_true rfl) dX11_make_41 (fun H locs hP hD hS => ?_)
        have hP : va_P (dC, dI) vwCl [(qt, .inr (11, [.ref qt_now, .ref qt_past, .int (cit_saved), .ref xt_text, .int (it_length), .ref qt_doors, .int (cit_doorMany), .ref qt_label, .int (va1), .ref xt_far, .ref xt_ring, .int (it_walker), .int (it_from), .ref xt_was, .int (it_steps), .int (it_faultAt), .int (it_mover)])), (qt_now, .inl (cy.1, 639, .inl (cft_now))), (qt_past, .inl (cy.1, 3195, .inl (cft_past))), (qt_doors, .inl (cy.1, 420, .inl (cft_doors))), (qt_label, .inl (cy.1, 210, .inl (cft_label)))] H := hP
        have hD : va_D A [(qt, .inr (11, [.ref qt_now, .ref qt_past, .int (cit_saved), .ref xt_text, .int (it_length), .ref qt_doors, .int (cit_doorMany), .ref qt_label, .int (va1), .ref xt_far, .ref xt_ring, .int (it_walker), .int (it_from), .ref xt_was, .int (it_steps), .int (it_faultAt), .int (it_mover)])), (qt_now, .inl (cy.1, 639, .inl (cft_now))), (qt_past, .inl (cy.1, 3195, .inl (cft_past))), (qt_doors, .inl (cy.1, 420, .inl (cft_doors))), (qt_label, .inl (cy.1, 210, .inl (cft_label)))] := hD
        refine lv_aload_n hx hb dX11_make_44 rfl (lv_at hl 0 rfl) ?_
        obtain ⟨o45_0, o45_1, hq_45, hf⟩ := bnd2_s hf
        refine kcallv (wc := [(qt, .inr (11, [.ref qt_now, .ref qt_past, .int (cit_saved), .ref xt_text, .int (it_length), .ref qt_doors, .int (cit_doorMany), .ref qt_label, .int (va1), .ref xt_far, .ref xt_ring, .int (it_walker), .int (it_from), .ref xt_was, .int (it_steps), .int (it_faultAt), .int (it_mover)])), (qt_now, .inl (cy.1, 639, .inl (cft_now))), (qt_doors, .inl (cy.1, 420, .inl (cft_doors)))]) (wr := [(qt_past, .inl (cy.1, 3195, .inl (cft_past))), (qt_label, .inl (cy.1, 210, .inl (cft_label)))]) (w1 := [(qt, .inr (11, [.ref qt_now, .ref qt_past, .int (cit_saved), .ref xt_text, .int (it_length), .ref qt_doors, .int (o45_0), .ref qt_label, .int (va1), .ref xt_far, .ref xt_ring, .int (it_walker), .int (it_from), .ref xt_was, .int (it_steps), .int (it_faultAt), .int (it_mover)])), (qt_now, .inl (cy.1, 639, .inl (cft_now))), (qt_doors, .inl (cy.1, 420, .inl (o45_1)))]) hK hP hD hS hA hG [0, 1, 3] [2, 4] rfl rfl rfl rfl rfl (fun hU hPc => va_runV (As := []) (rest := []) ⟨hx, hb, hml, hown, hts⟩ (c_X11_countsDoors l dC dI cy G H.size qt qt_now qt_doors qt_past xt_text qt_label xt_far xt_ring xt_was (cit_saved) (it_length) (va1) (it_walker) (it_from) (it_steps) (it_faultAt) (it_mover) N (cit_doorMany) (cft_now) (cft_doors) (o45_0, o45_1) hq_45) (cwV 0 hts gX11_make_X11_countsDoors rfl rfl rfl hdX11_countsDoors ⟨Nat.le_of_ble_eq_true rfl, Nat.le_of_ble_eq_true rfl⟩) ⟨kBlind, (va_recv hK hP (ci := 11) (q0 := 0) rfl rfl), fun U h1 h2 => ⟨rfl, hU U h1 h2⟩⟩ rfl rfl hl.1 rfl (lv_room (Nat.le_of_ble_eq_true rfl)) dX11_make_45 ⟨Nat.zero_le _, Nat.zero_le _⟩) (fun _ _ h => h) (fun H locs hP hD hS => ?_)
        have hP : va_P (dC, dI) vwCl [(qt_past, .inl (cy.1, 3195, .inl (cft_past))), (qt_label, .inl (cy.1, 210, .inl (cft_label))), (qt, .inr (11, [.ref qt_now, .ref qt_past, .int (cit_saved), .ref xt_text, .int (it_length), .ref qt_doors, .int (o45_0), .ref qt_label, .int (va1), .ref xt_far, .ref xt_ring, .int (it_walker), .int (it_from), .ref xt_was, .int (it_steps), .int (it_faultAt), .int (it_mover)])), (qt_now, .inl (cy.1, 639, .inl (cft_now))), (qt_doors, .inl (cy.1, 420, .inl (o45_1)))] H := hP
        have hD : va_D A [(qt_past, .inl (cy.1, 3195, .inl (cft_past))), (qt_label, .inl (cy.1, 210, .inl (cft_label))), (qt, .inr (11, [.ref qt_now, .ref qt_past, .int (cit_saved), .ref xt_text, .int (it_length), .ref qt_doors, .int (o45_0), .ref qt_label, .int (va1), .ref xt_far, .ref xt_ring, .int (it_walker), .int (it_from), .ref xt_was, .int (it_steps), .int (it_faultAt), .int (it_mover)])), (qt_now, .inl (cy.1, 639, .inl (cft_now))), (qt_doors, .inl (cy.1, 420, .inl (o45_1)))] := hD
        refine lv_aload_n hx hb dX11_make_48 rfl (lv_at hl 0 rfl) ?_
        refine va_get (D := (dC, dI)) (ci := 11) (C := RX11) (T := TX11) (N := 17) hx hb hts (fun _ h => (List.mem_cons_of_mem _ (List.mem_append_right _ h))) hown hK hP 2 rfl rfl 6 (by decide) (hts _ (List.mem_cons_of_mem _ (List.mem_append_left _ (List.mem_append_left _ (List.mem_of_getElem? (i := 3) rfl))))) (fun _ h => h) rfl dX11_make_49 ?_
        refine lv_iconst (v := (1 : Int32)) hx hb dX11_make_52 (by decide) ?_
        refine lv_isub hx hb dX11_make_53 ?_
        refine lv_istore_n (lv' := [(2, .int (o45_0 - (1 : Int32))), (0, .ref qt), (1, .int va1)]) hx hb dX11_make_54 rfl hl (by decide) rfl (fun ls hl => ?_)
        exact B55 N ((o45_0 - (1 : Int32))) (cit_saved) (o45_0) (va1) (cft_now) (cft_past) (o45_1) (cft_label) _ _ (hP.sub [2, 3, 0, 4, 1] rfl) (hD.sub [2, 3, 0, 4, 1] (by decide) rfl) hS _ (lv_sub hl [1, 0] rfl) hf
      · rw [if_neg hc_23] at hf
        refine lv_aload_n hx hb dX11_make_26 rfl (lv_at hl 0 rfl) ?_
        refine va_get (D := (dC, dI)) (ci := 11) (C := RX11) (T := TX11) (N := 17) hx hb hts (fun _ h => (List.mem_cons_of_mem _ (List.mem_append_right _ h))) hown hK hP 0 rfl rfl 0 (by decide) (hts _ (List.mem_cons_of_mem _ (List.mem_append_left _ (List.mem_append_left _ (List.mem_of_getElem? (i := 1) rfl))))) (fun _ h => h) rfl dX11_make_27 ?_
        refine lv_iload_n hx hb dX11_make_30 rfl (lv_at hl 2 rfl) ?_
        refine lv_iconst (v := (0 : Int32)) hx hb dX11_make_31 (by decide) ?_
        obtain ⟨hk_32, hf⟩ := chk_s hf
        refine va_iast hx hb hK hP hD hS 1 0 rfl rfl hk_32 dX11_make_32 (fun H locs hP hD hS => ?_)
        have hP : va_P (dC, dI) vwCl [(qt, .inr (11, [.ref qt_now, .ref qt_past, .int (cit_saved), .ref xt_text, .int (it_length), .ref qt_doors, .int (cit_doorMany), .ref qt_label, .int (cit_drawn), .ref xt_far, .ref xt_ring, .int (it_walker), .int (it_from), .ref xt_was, .int (it_steps), .int (it_faultAt), .int (it_mover)])), (qt_now, .inl (cy.1, 639, .inl ((upd cft_now (l2).toNatClampNeg (0 : Int32))))), (qt_past, .inl (cy.1, 3195, .inl (cft_past))), (qt_doors, .inl (cy.1, 420, .inl (cft_doors))), (qt_label, .inl (cy.1, 210, .inl (cft_label)))] H := hP
        have hD : va_D A [(qt, .inr (11, [.ref qt_now, .ref qt_past, .int (cit_saved), .ref xt_text, .int (it_length), .ref qt_doors, .int (cit_doorMany), .ref qt_label, .int (cit_drawn), .ref xt_far, .ref xt_ring, .int (it_walker), .int (it_from), .ref xt_was, .int (it_steps), .int (it_faultAt), .int (it_mover)])), (qt_now, .inl (cy.1, 639, .inl ((upd cft_now (l2).toNatClampNeg (0 : Int32))))), (qt_past, .inl (cy.1, 3195, .inl (cft_past))), (qt_doors, .inl (cy.1, 420, .inl (cft_doors))), (qt_label, .inl (cy.1, 210, .inl (cft_label)))] := hD
        refine lv_iinc (v := (l2 + (1 : Int32))) (lv' := [(2, .int (l2 + (1 : Int32))), (0, .ref qt), (1, .int va1)]) hx hb dX11_make_33 hl (k := 2) rfl rfl (by decide) rfl (fun ls hl => ?_)
        refine lv_goto (tgt := 19) hx hb dX11_make_36 (by decide) ?_
        exact ih19 ((l2 + (1 : Int32))) (cit_saved) (cit_doorMany) (cit_drawn) ((upd cft_now (l2).toNatClampNeg (0 : Int32))) (cft_past) (cft_doors) (cft_label) _ _ (hP.sub [0, 1, 2, 3, 4] rfl) (hD.sub [0, 1, 2, 3, 4] (by decide) rfl) hS _ (lv_sub hl [1, 2, 0] rfl) hf
  rw [f_X11_make] at hf
  refine lv_iload_n hx hb dX11_make_0 rfl (lv_at hl 1 rfl) ?_
  refine lv_iconst (v := (0 : Int32)) hx hb dX11_make_1 (by decide) ?_
  refine lv_ldc (v := (65535 : Int32)) hx hb hown (hts _ (List.mem_cons_of_mem _ (List.mem_append_left _ (List.mem_append_left _ (List.mem_of_getElem? (i := 0) rfl))))) dX11_make_2 ?_
  refine kcalli (wc := []) (wr := [(qt, .inr (11, [.ref qt_now, .ref qt_past, .int (it_saved), .ref xt_text, .int (it_length), .ref qt_doors, .int (it_doorMany), .ref qt_label, .int (it_drawn), .ref xt_far, .ref xt_ring, .int (it_walker), .int (it_from), .ref xt_was, .int (it_steps), .int (it_faultAt), .int (it_mover)])), (qt_now, .inl (cy.1, 639, .inl (ft_now))), (qt_past, .inl (cy.1, 3195, .inl (ft_past))), (qt_doors, .inl (cy.1, 420, .inl (ft_doors))), (qt_label, .inl (cy.1, 210, .inl (ft_label)))]) (w1 := []) hK hP hD hS hA hG [] [0, 1, 2, 3, 4] rfl rfl rfl rfl rfl (fun hU hPc => va_runS (As := [.int va1, .int (0 : Int32), .int (65535 : Int32)]) (rest := []) ⟨hx, hb, hml, hown, hts⟩ (c_X11_in l dC dI cy G s.heap.size (va1) ((0 : Int32)) ((65535 : Int32)) (t_X11_in (va1) ((0 : Int32)) ((65535 : Int32))) (tot_X11_in (va1) ((0 : Int32)) ((65535 : Int32)))) (va_cwS 3 hts gX11_make_X11_in rfl rfl rfl hdX11_in.2 ⟨Nat.le_of_ble_eq_true rfl, Nat.le_of_ble_eq_true rfl⟩) ⟨kBlind, fun U h1 h2 => ⟨rfl, hU U h1 h2⟩⟩ rfl rfl hl.1 rfl (lv_room (Nat.le_of_ble_eq_true rfl)) dX11_make_4 ⟨Nat.zero_le _, Nat.zero_le _⟩) ((t_X11_in (va1) ((0 : Int32)) ((65535 : Int32)))) (fun _ _ h => h) (fun _ _ h => h) (fun H locs hP hD hS => ?_)
  have hP : va_P (dC, dI) vwCl [(qt, .inr (11, [.ref qt_now, .ref qt_past, .int (it_saved), .ref xt_text, .int (it_length), .ref qt_doors, .int (it_doorMany), .ref qt_label, .int (it_drawn), .ref xt_far, .ref xt_ring, .int (it_walker), .int (it_from), .ref xt_was, .int (it_steps), .int (it_faultAt), .int (it_mover)])), (qt_now, .inl (cy.1, 639, .inl (ft_now))), (qt_past, .inl (cy.1, 3195, .inl (ft_past))), (qt_doors, .inl (cy.1, 420, .inl (ft_doors))), (qt_label, .inl (cy.1, 210, .inl (ft_label)))] H := hP
  have hD : va_D A [(qt, .inr (11, [.ref qt_now, .ref qt_past, .int (it_saved), .ref xt_text, .int (it_length), .ref qt_doors, .int (it_doorMany), .ref qt_label, .int (it_drawn), .ref xt_far, .ref xt_ring, .int (it_walker), .int (it_from), .ref xt_was, .int (it_steps), .int (it_faultAt), .int (it_mover)])), (qt_now, .inl (cy.1, 639, .inl (ft_now))), (qt_past, .inl (cy.1, 3195, .inl (ft_past))), (qt_doors, .inl (cy.1, 420, .inl (ft_doors))), (qt_label, .inl (cy.1, 210, .inl (ft_label)))] := hD
  refine lv_if_ne (tgt := 12) hx hb dX11_make_7 (by decide) (fun hc_7 => ?_) (fun hc_7 => ?_)
  · rw [if_neg hc_7] at hf
    refine lv_aload_n hx hb dX11_make_12 rfl (lv_at hl 0 rfl) ?_
    obtain ⟨o13_0, o13_1, hq_13, hf⟩ := bnd2_s hf
    refine kcallv (wc := [(qt, .inr (11, [.ref qt_now, .ref qt_past, .int (it_saved), .ref xt_text, .int (it_length), .ref qt_doors, .int (it_doorMany), .ref qt_label, .int (it_drawn), .ref xt_far, .ref xt_ring, .int (it_walker), .int (it_from), .ref xt_was, .int (it_steps), .int (it_faultAt), .int (it_mover)])), (qt_now, .inl (cy.1, 639, .inl (ft_now))), (qt_past, .inl (cy.1, 3195, .inl (ft_past)))]) (wr := [(qt_doors, .inl (cy.1, 420, .inl (ft_doors))), (qt_label, .inl (cy.1, 210, .inl (ft_label)))]) (w1 := [(qt, .inr (11, [.ref qt_now, .ref qt_past, .int (o13_0), .ref xt_text, .int (it_length), .ref qt_doors, .int (it_doorMany), .ref qt_label, .int (it_drawn), .ref xt_far, .ref xt_ring, .int (it_walker), .int (it_from), .ref xt_was, .int (it_steps), .int (it_faultAt), .int (it_mover)])), (qt_now, .inl (cy.1, 639, .inl (ft_now))), (qt_past, .inl (cy.1, 3195, .inl (o13_1)))]) hK hP hD hS hA hG [0, 1, 2] [3, 4] rfl rfl rfl rfl rfl (fun hU hPc => va_runV (As := []) (rest := []) ⟨hx, hb, hml, hown, hts⟩ (c_X11_records l dC dI cy G H.size qt qt_now qt_past xt_text qt_doors qt_label xt_far xt_ring xt_was (it_length) (it_doorMany) (it_drawn) (it_walker) (it_from) (it_steps) (it_faultAt) (it_mover) N (it_saved) (ft_now) (ft_past) (o13_0, o13_1) hq_13) (cwV 0 hts gX11_make_X11_records rfl rfl rfl hdX11_records ⟨Nat.le_of_ble_eq_true rfl, Nat.le_of_ble_eq_true rfl⟩) ⟨kBlind, (va_recv hK hP (ci := 11) (q0 := 0) rfl rfl), fun U h1 h2 => ⟨rfl, hU U h1 h2⟩⟩ rfl rfl hl.1 rfl (lv_room (Nat.le_of_ble_eq_true rfl)) dX11_make_13 ⟨Nat.zero_le _, Nat.zero_le _⟩) (fun _ _ h => h) (fun H locs hP hD hS => ?_)
    have hP : va_P (dC, dI) vwCl [(qt_doors, .inl (cy.1, 420, .inl (ft_doors))), (qt_label, .inl (cy.1, 210, .inl (ft_label))), (qt, .inr (11, [.ref qt_now, .ref qt_past, .int (o13_0), .ref xt_text, .int (it_length), .ref qt_doors, .int (it_doorMany), .ref qt_label, .int (it_drawn), .ref xt_far, .ref xt_ring, .int (it_walker), .int (it_from), .ref xt_was, .int (it_steps), .int (it_faultAt), .int (it_mover)])), (qt_now, .inl (cy.1, 639, .inl (ft_now))), (qt_past, .inl (cy.1, 3195, .inl (o13_1)))] H := hP
    have hD : va_D A [(qt_doors, .inl (cy.1, 420, .inl (ft_doors))), (qt_label, .inl (cy.1, 210, .inl (ft_label))), (qt, .inr (11, [.ref qt_now, .ref qt_past, .int (o13_0), .ref xt_text, .int (it_length), .ref qt_doors, .int (it_doorMany), .ref qt_label, .int (it_drawn), .ref xt_far, .ref xt_ring, .int (it_walker), .int (it_from), .ref xt_was, .int (it_steps), .int (it_faultAt), .int (it_mover)])), (qt_now, .inl (cy.1, 639, .inl (ft_now))), (qt_past, .inl (cy.1, 3195, .inl (o13_1)))] := hD
    refine lv_bipush (v := (9 : Int32)) hx hb dX11_make_16 (by decide) ?_
    refine lv_istore_n (lv' := [(2, .int (9 : Int32)), (0, .ref qt), (1, .int va1)]) hx hb dX11_make_18 rfl hl (by decide) rfl (fun ls hl => ?_)
    exact B19 N ((9 : Int32)) (o13_0) (it_doorMany) (it_drawn) (ft_now) (o13_1) (ft_doors) (ft_label) _ _ (hP.sub [2, 3, 4, 0, 1] rfl) (hD.sub [2, 3, 4, 0, 1] (by decide) rfl) hS _ (lv_sub hl [1, 2, 0] rfl) hf
  · rw [if_pos hc_7] at hf
    refine lv_iconst (v := (-1 : Int32)) hx hb dX11_make_10 (by decide) ?_
    cases hf
    subst hQ
    exact kiret hx hb hr hlocks hK (hP.sub [0, 1, 2, 3, 4] rfl) (hD.sub [0, 1, 2, 3, 4] (by decide) rfl) hS rfl dX11_make_11
theorem hdX11_make : yX11_make.cls = RX11 ∧ yX11_make.cls ≠ "java/lang/invoke/MethodHandle" ∧ yX11_make.cls ≠ "java/lang/invoke/VarHandle" ∧ (parseMethodDescriptor yX11_make.desc).map (fun d => d.parameters.length) = some 1 := by decide +kernel
noncomputable def f_X11_door (N : Nat) (it_saved : Int32) (ft_now : Nat → Int32) (ft_past : Nat → Int32) (va1 : Int32) (va2 : Int32) (va3 : Int32) : Option (Int32 × Int32 × (Nat → Int32) × (Nat → Int32)) :=
  bnd1 (f_X11_hasRoom (ft_now) (va1)) fun r2 =>
  if r2 = 0 then
    some ((-1 : Int32), it_saved, ft_now, ft_past)
  else
    if (t_X11_in (va2) ((0 : Int32)) ((3 : Int32))) = 0 then
      some ((-1 : Int32), it_saved, ft_now, ft_past)
    else
      if (t_X11_in (va3) ((0 : Int32)) ((1 : Int32))) = 0 then
        some ((-1 : Int32), it_saved, ft_now, ft_past)
      else
        bnd1 (f_X11_beside (ft_now) (va1) (va2)) fun r31 =>
        if 0 ≤ r31 then
          bnd2 (f_X11_records N (it_saved) (ft_now) (ft_past)) fun o41_0 o41_1 =>
          if (t_X11_doorAt (ft_now) (va1) (va2)) < 0 ∨ 639 ≤ ((t_X11_doorAt (ft_now) (va1) (va2))).toNatClampNeg then none else
          if (t_X11_doorAt (ft_now) (va1) (va2)) < 0 ∨ 639 ≤ ((t_X11_doorAt (ft_now) (va1) (va2))).toNatClampNeg then none else
          some ((ft_now ((t_X11_doorAt (ft_now) (va1) (va2))).toNatClampNeg), o41_0, (upd ft_now ((t_X11_doorAt (ft_now) (va1) (va2))).toNatClampNeg va3), o41_1)
        else
          some ((-4 : Int32), it_saved, ft_now, ft_past)
abbrev rm_X11_door : Room := { frames := 5, cells := 0, slots := 0, locals := 113 }
set_option maxHeartbeats 4000000 in
set_option maxRecDepth 100000 in
theorem c_X11_door (l : Launch) (dC : Nat → ClassId) (dI : Nat → Nat → Nat) (cy : gC) (G : gT) (sz : Nat) (qt : Nat) (qt_now : Nat) (qt_past : Nat) (xt_text : Nat) (xt_doors : Nat) (xt_label : Nat) (xt_far : Nat) (xt_ring : Nat) (xt_was : Nat) (it_length : Int32) (it_doorMany : Int32) (it_drawn : Int32) (it_walker : Int32) (it_from : Int32) (it_steps : Int32) (it_faultAt : Int32) (it_mover : Int32) (N : Nat) (it_saved : Int32) (ft_now : Nat → Int32) (ft_past : Nat → Int32) (va1 : Int32) (va2 : Int32) (va3 : Int32) (out : Int32 × Int32 × (Nat → Int32) × (Nat → Int32)) (hf : f_X11_door N it_saved ft_now ft_past va1 va2 va3 = some out) : Met l yX11_door wsX11_door rm_X11_door (va_Pc [.ref qt, .int va1, .int va2, .int va3] (kP (dC, dI) cy G [(qt, .inr (11, [.ref qt_now, .ref qt_past, .int (it_saved), .ref xt_text, .int (it_length), .ref xt_doors, .int (it_doorMany), .ref xt_label, .int (it_drawn), .ref xt_far, .ref xt_ring, .int (it_walker), .int (it_from), .ref xt_was, .int (it_steps), .int (it_faultAt), .int (it_mover)])), (qt_now, .inl (cy.1, 639, .inl (ft_now))), (qt_past, .inl (cy.1, 3195, .inl (ft_past)))] sz)) (va_Qi (fun r (_ : Unit) => r = out.1) (fun _ => kQ (dC, dI) cy [(qt, .inr (11, [.ref qt_now, .ref qt_past, .int (out.2.1), .ref xt_text, .int (it_length), .ref xt_doors, .int (it_doorMany), .ref xt_label, .int (it_drawn), .ref xt_far, .ref xt_ring, .int (it_walker), .int (it_from), .ref xt_was, .int (it_steps), .int (it_faultAt), .int (it_mover)])), (qt_now, .inl (cy.1, 639, .inl (out.2.2.1))), (qt_past, .inl (cy.1, 3195, .inl (out.2.2.2)))] (va_A [(qt, .inr (11, [.ref qt_now, .ref qt_past, .int (it_saved), .ref xt_text, .int (it_length), .ref xt_doors, .int (it_doorMany), .ref xt_label, .int (it_drawn), .ref xt_far, .ref xt_ring, .int (it_walker), .int (it_from), .ref xt_was, .int (it_steps), .int (it_faultAt), .int (it_mover)])), (qt_now, .inl (cy.1, 639, .inl (ft_now))), (qt_past, .inl (cy.1, 3195, .inl (ft_past)))] sz)) (va_A [(qt, .inr (11, [.ref qt_now, .ref qt_past, .int (it_saved), .ref xt_text, .int (it_length), .ref xt_doors, .int (it_doorMany), .ref xt_label, .int (it_drawn), .ref xt_far, .ref xt_ring, .int (it_walker), .int (it_from), .ref xt_was, .int (it_steps), .int (it_faultAt), .int (it_mover)])), (qt_now, .inl (cy.1, 639, .inl (ft_now))), (qt_past, .inl (cy.1, 3195, .inl (ft_past)))] sz)) 0 0 (va_A [(qt, .inr (11, [.ref qt_now, .ref qt_past, .int (it_saved), .ref xt_text, .int (it_length), .ref xt_doors, .int (it_doorMany), .ref xt_label, .int (it_drawn), .ref xt_far, .ref xt_ring, .int (it_walker), .int (it_from), .ref xt_was, .int (it_steps), .int (it_faultAt), .int (it_mover)])), (qt_now, .inl (cy.1, 639, .inl (ft_now))), (qt_past, .inl (cy.1, 3195, .inl (ft_past)))] sz) := by
  refine Met.ofW (cc := cX11_door) (maxL := 6) (ret := (some .int)) (by decide) rfl ?_
  intro p e s m args below meth c s₁ B hml hv
  obtain ⟨rfl, hsz, hP, hK, hD0, hG⟩ := hv
  have hx := B.exec
  have hb := B.bytes
  have hr := B.returns
  have hts := atoms_spec (ws := wsX11_door) B.pre
  have hown : s.vm.findClass RX11 = some m.cls := findClass_of_methodNamed B.named
  have hlocks := B.notSynchronized
  subst hsz
  have hD := hD0.self (sz := s.heap.size)
  generalize hAe : va_A [(qt, .inr (11, [.ref qt_now, .ref qt_past, .int (it_saved), .ref xt_text, .int (it_length), .ref xt_doors, .int (it_doorMany), .ref xt_label, .int (it_drawn), .ref xt_far, .ref xt_ring, .int (it_walker), .int (it_from), .ref xt_was, .int (it_steps), .int (it_faultAt), .int (it_mover)])), (qt_now, .inl (cy.1, 639, .inl (ft_now))), (qt_past, .inl (cy.1, 3195, .inl (ft_past)))] s.heap.size = A at hD hG ⊢
  have hA : ∀ q : Nat, s.heap.size ≤ q → A q := fun q h => by rw [← hAe]; exact Or.inr h
  have hS : va_S A s.heap s.heap [] := va_S.rf
  have hP : va_P (dC, dI) vwCl [(qt, .inr (11, [.ref qt_now, .ref qt_past, .int (it_saved), .ref xt_text, .int (it_length), .ref xt_doors, .int (it_doorMany), .ref xt_label, .int (it_drawn), .ref xt_far, .ref xt_ring, .int (it_walker), .int (it_from), .ref xt_was, .int (it_steps), .int (it_faultAt), .int (it_mover)])), (qt_now, .inl (cy.1, 639, .inl (ft_now))), (qt_past, .inl (cy.1, 3195, .inl (ft_past)))] s.heap := hP
  have hl := lv_entry ([.ref qt, .int va1, .int va2, .int va3]) (n := 6) (Nat.le_of_ble_eq_true rfl)
  rw [lg_entry_eq]
  generalize (lg_sl ([.ref qt, .int va1, .int va2, .int va3]) ++ List.replicate (6 - (lg_sl ([.ref qt, .int va1, .int va2, .int va3])).length) Slot.unset).toArray = ls at hl ⊢
  have hl : lv_has ls 6 [(0, .ref qt), (1, .int va1), (2, .int va2), (3, .int va3)] := hl
  refine kgen (fun Q hQ => ?_)
  rw [f_X11_door] at hf
  refine lv_aload_n hx hb dX11_door_0 rfl (lv_at hl 0 rfl) ?_
  refine lv_iload_n hx hb dX11_door_1 rfl (lv_at hl 1 rfl) ?_
  obtain ⟨r2, hq_2, hf⟩ := bnd1_s hf
  refine kcalli (wc := [(qt, .inr (11, [.ref qt_now, .ref qt_past, .int (it_saved), .ref xt_text, .int (it_length), .ref xt_doors, .int (it_doorMany), .ref xt_label, .int (it_drawn), .ref xt_far, .ref xt_ring, .int (it_walker), .int (it_from), .ref xt_was, .int (it_steps), .int (it_faultAt), .int (it_mover)])), (qt_now, .inl (cy.1, 639, .inl (ft_now)))]) (wr := [(qt_past, .inl (cy.1, 3195, .inl (ft_past)))]) (w1 := [(qt, .inr (11, [.ref qt_now, .ref qt_past, .int (it_saved), .ref xt_text, .int (it_length), .ref xt_doors, .int (it_doorMany), .ref xt_label, .int (it_drawn), .ref xt_far, .ref xt_ring, .int (it_walker), .int (it_from), .ref xt_was, .int (it_steps), .int (it_faultAt), .int (it_mover)])), (qt_now, .inl (cy.1, 639, .inl (ft_now)))]) hK hP hD hS hA hG [0, 1] [2] rfl rfl rfl rfl rfl (fun hU hPc => va_runV (As := [.int va1]) (rest := []) ⟨hx, hb, hml, hown, hts⟩ (c_X11_hasRoom l dC dI cy G s.heap.size qt qt_now qt_past xt_text xt_doors xt_label xt_far xt_ring xt_was (it_saved) (it_length) (it_doorMany) (it_drawn) (it_walker) (it_from) (it_steps) (it_faultAt) (it_mover) (ft_now) (va1) r2 hq_2) (cwV 1 hts gX11_door_X11_hasRoom rfl rfl rfl hdX11_hasRoom ⟨Nat.le_of_ble_eq_true rfl, Nat.le_of_ble_eq_true rfl⟩) ⟨kBlind, (va_recv hK hP (ci := 11) (q0 := 0) rfl rfl), fun U h1 h2 => ⟨rfl, hU U h1 h2⟩⟩ rfl rfl hl.1 rfl (lv_room (Nat.le_of_ble_eq_true rfl)) dX11_door_2 ⟨Nat.zero_le _, Nat.zero_le _⟩) (r2) (fun _ _ h => h) (fun _ _ h => h) (fun H locs hP hD hS => ?_)
  have hP : va_P (dC, dI) vwCl [(qt_past, .inl (cy.1, 3195, .inl (ft_past))), (qt, .inr (11, [.ref qt_now, .ref qt_past, .int (it_saved), .ref xt_text, .int (it_length), .ref xt_doors, .int (it_doorMany), .ref xt_label, .int (it_drawn), .ref xt_far, .ref xt_ring, .int (it_walker), .int (it_from), .ref xt_was, .int (it_steps), .int (it_faultAt), .int (it_mover)])), (qt_now, .inl (cy.1, 639, .inl (ft_now)))] H := hP
  have hD : va_D A [(qt_past, .inl (cy.1, 3195, .inl (ft_past))), (qt, .inr (11, [.ref qt_now, .ref qt_past, .int (it_saved), .ref xt_text, .int (it_length), .ref xt_doors, .int (it_doorMany), .ref xt_label, .int (it_drawn), .ref xt_far, .ref xt_ring, .int (it_walker), .int (it_from), .ref xt_was, .int (it_steps), .int (it_faultAt), .int (it_mover)])), (qt_now, .inl (cy.1, 639, .inl (ft_now)))] := hD
  refine lv_if_eq (tgt := 26) hx hb dX11_door_5 (by decide) (fun hc_5 => ?_) (fun hc_5 => ?_)
  · rw [if_pos hc_5] at hf
    refine lv_iconst (v := (-1 : Int32)) hx hb dX11_door_26 (by decide) ?_
    cases hf
    subst hQ
    exact kiret hx hb hr hlocks hK (hP.sub [1, 2, 0] rfl) (hD.sub [1, 2, 0] (by decide) rfl) hS rfl dX11_door_27
  · rw [if_neg hc_5] at hf
    refine lv_iload_n hx hb dX11_door_8 rfl (lv_at hl 2 rfl) ?_
    refine lv_iconst (v := (0 : Int32)) hx hb dX11_door_9 (by decide) ?_
    refine lv_iconst (v := (3 : Int32)) hx hb dX11_door_10 (by decide) ?_
    refine kcalli (wc := []) (wr := [(qt_past, .inl (cy.1, 3195, .inl (ft_past))), (qt, .inr (11, [.ref qt_now, .ref qt_past, .int (it_saved), .ref xt_text, .int (it_length), .ref xt_doors, .int (it_doorMany), .ref xt_label, .int (it_drawn), .ref xt_far, .ref xt_ring, .int (it_walker), .int (it_from), .ref xt_was, .int (it_steps), .int (it_faultAt), .int (it_mover)])), (qt_now, .inl (cy.1, 639, .inl (ft_now)))]) (w1 := []) hK hP hD hS hA hG [] [0, 1, 2] rfl rfl rfl rfl rfl (fun hU hPc => va_runS (As := [.int va2, .int (0 : Int32), .int (3 : Int32)]) (rest := []) ⟨hx, hb, hml, hown, hts⟩ (c_X11_in l dC dI cy G H.size (va2) ((0 : Int32)) ((3 : Int32)) (t_X11_in (va2) ((0 : Int32)) ((3 : Int32))) (tot_X11_in (va2) ((0 : Int32)) ((3 : Int32)))) (va_cwS 3 hts gX11_door_X11_in rfl rfl rfl hdX11_in.2 ⟨Nat.le_of_ble_eq_true rfl, Nat.le_of_ble_eq_true rfl⟩) ⟨kBlind, fun U h1 h2 => ⟨rfl, hU U h1 h2⟩⟩ rfl rfl hl.1 rfl (lv_room (Nat.le_of_ble_eq_true rfl)) dX11_door_11 ⟨Nat.zero_le _, Nat.zero_le _⟩) ((t_X11_in (va2) ((0 : Int32)) ((3 : Int32)))) (fun _ _ h => h) (fun _ _ h => h) (fun H locs hP hD hS => ?_)
    have hP : va_P (dC, dI) vwCl [(qt_past, .inl (cy.1, 3195, .inl (ft_past))), (qt, .inr (11, [.ref qt_now, .ref qt_past, .int (it_saved), .ref xt_text, .int (it_length), .ref xt_doors, .int (it_doorMany), .ref xt_label, .int (it_drawn), .ref xt_far, .ref xt_ring, .int (it_walker), .int (it_from), .ref xt_was, .int (it_steps), .int (it_faultAt), .int (it_mover)])), (qt_now, .inl (cy.1, 639, .inl (ft_now)))] H := hP
    have hD : va_D A [(qt_past, .inl (cy.1, 3195, .inl (ft_past))), (qt, .inr (11, [.ref qt_now, .ref qt_past, .int (it_saved), .ref xt_text, .int (it_length), .ref xt_doors, .int (it_doorMany), .ref xt_label, .int (it_drawn), .ref xt_far, .ref xt_ring, .int (it_walker), .int (it_from), .ref xt_was, .int (it_steps), .int (it_faultAt), .int (it_mover)])), (qt_now, .inl (cy.1, 639, .inl (ft_now)))] := hD
    refine lv_if_eq (tgt := 26) hx hb dX11_door_14 (by decide) (fun hc_14 => ?_) (fun hc_14 => ?_)
    · rw [if_pos hc_14] at hf
      refine lv_iconst (v := (-1 : Int32)) hx hb dX11_door_26 (by decide) ?_
      cases hf
      subst hQ
      exact kiret hx hb hr hlocks hK (hP.sub [1, 2, 0] rfl) (hD.sub [1, 2, 0] (by decide) rfl) hS rfl dX11_door_27
    · rw [if_neg hc_14] at hf
      refine lv_iload_n hx hb dX11_door_17 rfl (lv_at hl 3 rfl) ?_
      refine lv_iconst (v := (0 : Int32)) hx hb dX11_door_18 (by decide) ?_
      refine lv_iconst (v := (1 : Int32)) hx hb dX11_door_19 (by decide) ?_
      refine kcalli (wc := []) (wr := [(qt_past, .inl (cy.1, 3195, .inl (ft_past))), (qt, .inr (11, [.ref qt_now, .ref qt_past, .int (it_saved), .ref xt_text, .int (it_length), .ref xt_doors, .int (it_doorMany), .ref xt_label, .int (it_drawn), .ref xt_far, .ref xt_ring, .int (it_walker), .int (it_from), .ref xt_was, .int (it_steps), .int (it_faultAt), .int (it_mover)])), (qt_now, .inl (cy.1, 639, .inl (ft_now)))]) (w1 := []) hK hP hD hS hA hG [] [0, 1, 2] rfl rfl rfl rfl rfl (fun hU hPc => va_runS (As := [.int va3, .int (0 : Int32), .int (1 : Int32)]) (rest := []) ⟨hx, hb, hml, hown, hts⟩ (c_X11_in l dC dI cy G H.size (va3) ((0 : Int32)) ((1 : Int32)) (t_X11_in (va3) ((0 : Int32)) ((1 : Int32))) (tot_X11_in (va3) ((0 : Int32)) ((1 : Int32)))) (va_cwS 3 hts gX11_door_X11_in rfl rfl rfl hdX11_in.2 ⟨Nat.le_of_ble_eq_true rfl, Nat.le_of_ble_eq_true rfl⟩) ⟨kBlind, fun U h1 h2 => ⟨rfl, hU U h1 h2⟩⟩ rfl rfl hl.1 rfl (lv_room (Nat.le_of_ble_eq_true rfl)) dX11_door_20 ⟨Nat.zero_le _, Nat.zero_le _⟩) ((t_X11_in (va3) ((0 : Int32)) ((1 : Int32)))) (fun _ _ h => h) (fun _ _ h => h) (fun H locs hP hD hS => ?_)
      have hP : va_P (dC, dI) vwCl [(qt_past, .inl (cy.1, 3195, .inl (ft_past))), (qt, .inr (11, [.ref qt_now, .ref qt_past, .int (it_saved), .ref xt_text, .int (it_length), .ref xt_doors, .int (it_doorMany), .ref xt_label, .int (it_drawn), .ref xt_far, .ref xt_ring, .int (it_walker), .int (it_from), .ref xt_was, .int (it_steps), .int (it_faultAt), .int (it_mover)])), (qt_now, .inl (cy.1, 639, .inl (ft_now)))] H := hP
      have hD : va_D A [(qt_past, .inl (cy.1, 3195, .inl (ft_past))), (qt, .inr (11, [.ref qt_now, .ref qt_past, .int (it_saved), .ref xt_text, .int (it_length), .ref xt_doors, .int (it_doorMany), .ref xt_label, .int (it_drawn), .ref xt_far, .ref xt_ring, .int (it_walker), .int (it_from), .ref xt_was, .int (it_steps), .int (it_faultAt), .int (it_mover)])), (qt_now, .inl (cy.1, 639, .inl (ft_now)))] := hD
      refine lv_if_ne (tgt := 28) hx hb dX11_door_23 (by decide) (fun hc_23 => ?_) (fun hc_23 => ?_)
      · rw [if_neg hc_23] at hf
        refine lv_aload_n hx hb dX11_door_28 rfl (lv_at hl 0 rfl) ?_
        refine lv_iload_n hx hb dX11_door_29 rfl (lv_at hl 1 rfl) ?_
        refine lv_iload_n hx hb dX11_door_30 rfl (lv_at hl 2 rfl) ?_
        obtain ⟨r31, hq_31, hf⟩ := bnd1_s hf
        refine kcalli (wc := [(qt, .inr (11, [.ref qt_now, .ref qt_past, .int (it_saved), .ref xt_text, .int (it_length), .ref xt_doors, .int (it_doorMany), .ref xt_label, .int (it_drawn), .ref xt_far, .ref xt_ring, .int (it_walker), .int (it_from), .ref xt_was, .int (it_steps), .int (it_faultAt), .int (it_mover)])), (qt_now, .inl (cy.1, 639, .inl (ft_now)))]) (wr := [(qt_past, .inl (cy.1, 3195, .inl (ft_past)))]) (w1 := [(qt, .inr (11, [.ref qt_now, .ref qt_past, .int (it_saved), .ref xt_text, .int (it_length), .ref xt_doors, .int (it_doorMany), .ref xt_label, .int (it_drawn), .ref xt_far, .ref xt_ring, .int (it_walker), .int (it_from), .ref xt_was, .int (it_steps), .int (it_faultAt), .int (it_mover)])), (qt_now, .inl (cy.1, 639, .inl (ft_now)))]) hK hP hD hS hA hG [1, 2] [0] rfl rfl rfl rfl rfl (fun hU hPc => va_runV (As := [.int va1, .int va2]) (rest := []) ⟨hx, hb, hml, hown, hts⟩ (c_X11_beside l dC dI cy G H.size qt qt_now qt_past xt_text xt_doors xt_label xt_far xt_ring xt_was (it_saved) (it_length) (it_doorMany) (it_drawn) (it_walker) (it_from) (it_steps) (it_faultAt) (it_mover) (ft_now) (va1) (va2) r31 hq_31) (cwV 2 hts gX11_door_X11_beside rfl rfl rfl hdX11_beside ⟨Nat.le_of_ble_eq_true rfl, Nat.le_of_ble_eq_true rfl⟩) ⟨kBlind, (va_recv hK hP (ci := 11) (q0 := 1) rfl rfl), fun U h1 h2 => ⟨rfl, hU U h1 h2⟩⟩ rfl rfl hl.1 rfl (lv_room (Nat.le_of_ble_eq_true rfl)) dX11_door_31 ⟨Nat.zero_le _, Nat.zero_le _⟩) (r31) (fun _ _ h => h) (fun _ _ h => h) (fun H locs hP hD hS => ?_)
        have hP : va_P (dC, dI) vwCl [(qt_past, .inl (cy.1, 3195, .inl (ft_past))), (qt, .inr (11, [.ref qt_now, .ref qt_past, .int (it_saved), .ref xt_text, .int (it_length), .ref xt_doors, .int (it_doorMany), .ref xt_label, .int (it_drawn), .ref xt_far, .ref xt_ring, .int (it_walker), .int (it_from), .ref xt_was, .int (it_steps), .int (it_faultAt), .int (it_mover)])), (qt_now, .inl (cy.1, 639, .inl (ft_now)))] H := hP
        have hD : va_D A [(qt_past, .inl (cy.1, 3195, .inl (ft_past))), (qt, .inr (11, [.ref qt_now, .ref qt_past, .int (it_saved), .ref xt_text, .int (it_length), .ref xt_doors, .int (it_doorMany), .ref xt_label, .int (it_drawn), .ref xt_far, .ref xt_ring, .int (it_walker), .int (it_from), .ref xt_was, .int (it_steps), .int (it_faultAt), .int (it_mover)])), (qt_now, .inl (cy.1, 639, .inl (ft_now)))] := hD
        refine lv_if_ge (tgt := 40) hx hb dX11_door_34 (by decide) (fun hc_34 => ?_) (fun hc_34 => ?_)
        · rw [if_pos hc_34] at hf
          refine lv_aload_n hx hb dX11_door_40 rfl (lv_at hl 0 rfl) ?_
          obtain ⟨o41_0, o41_1, hq_41, hf⟩ := bnd2_s hf
          refine kcallv (wc := [(qt, .inr (11, [.ref qt_now, .ref qt_past, .int (it_saved), .ref xt_text, .int (it_length), .ref xt_doors, .int (it_doorMany), .ref xt_label, .int (it_drawn), .ref xt_far, .ref xt_ring, .int (it_walker), .int (it_from), .ref xt_was, .int (it_steps), .int (it_faultAt), .int (it_mover)])), (qt_now, .inl (cy.1, 639, .inl (ft_now))), (qt_past, .inl (cy.1, 3195, .inl (ft_past)))]) (wr := []) (w1 := [(qt, .inr (11, [.ref qt_now, .ref qt_past, .int (o41_0), .ref xt_text, .int (it_length), .ref xt_doors, .int (it_doorMany), .ref xt_label, .int (it_drawn), .ref xt_far, .ref xt_ring, .int (it_walker), .int (it_from), .ref xt_was, .int (it_steps), .int (it_faultAt), .int (it_mover)])), (qt_now, .inl (cy.1, 639, .inl (ft_now))), (qt_past, .inl (cy.1, 3195, .inl (o41_1)))]) hK hP hD hS hA hG [1, 2, 0] [] rfl rfl rfl rfl rfl (fun hU hPc => va_runV (As := []) (rest := []) ⟨hx, hb, hml, hown, hts⟩ (c_X11_records l dC dI cy G H.size qt qt_now qt_past xt_text xt_doors xt_label xt_far xt_ring xt_was (it_length) (it_doorMany) (it_drawn) (it_walker) (it_from) (it_steps) (it_faultAt) (it_mover) N (it_saved) (ft_now) (ft_past) (o41_0, o41_1) hq_41) (cwV 0 hts gX11_door_X11_records rfl rfl rfl hdX11_records ⟨Nat.le_of_ble_eq_true rfl, Nat.le_of_ble_eq_true rfl⟩) ⟨kBlind, (va_recv hK hP (ci := 11) (q0 := 1) rfl rfl), fun U h1 h2 => ⟨rfl, hU U h1 h2⟩⟩ rfl rfl hl.1 rfl (lv_room (Nat.le_of_ble_eq_true rfl)) dX11_door_41 ⟨Nat.zero_le _, Nat.zero_le _⟩) (fun _ _ h => h) (fun H locs hP hD hS => ?_)
          have hP : va_P (dC, dI) vwCl [(qt, .inr (11, [.ref qt_now, .ref qt_past, .int (o41_0), .ref xt_text, .int (it_length), .ref xt_doors, .int (it_doorMany), .ref xt_label, .int (it_drawn), .ref xt_far, .ref xt_ring, .int (it_walker), .int (it_from), .ref xt_was, .int (it_steps), .int (it_faultAt), .int (it_mover)])), (qt_now, .inl (cy.1, 639, .inl (ft_now))), (qt_past, .inl (cy.1, 3195, .inl (o41_1)))] H := hP
          have hD : va_D A [(qt, .inr (11, [.ref qt_now, .ref qt_past, .int (o41_0), .ref xt_text, .int (it_length), .ref xt_doors, .int (it_doorMany), .ref xt_label, .int (it_drawn), .ref xt_far, .ref xt_ring, .int (it_walker), .int (it_from), .ref xt_was, .int (it_steps), .int (it_faultAt), .int (it_mover)])), (qt_now, .inl (cy.1, 639, .inl (ft_now))), (qt_past, .inl (cy.1, 3195, .inl (o41_1)))] := hD
          refine lv_aload_n hx hb dX11_door_44 rfl (lv_at hl 0 rfl) ?_
          refine lv_iload_n hx hb dX11_door_45 rfl (lv_at hl 1 rfl) ?_
          refine lv_iload_n hx hb dX11_door_46 rfl (lv_at hl 2 rfl) ?_
          refine kcalli (wc := [(qt, .inr (11, [.ref qt_now, .ref qt_past, .int (o41_0), .ref xt_text, .int (it_length), .ref xt_doors, .int (it_doorMany), .ref xt_label, .int (it_drawn), .ref xt_far, .ref xt_ring, .int (it_walker), .int (it_from), .ref xt_was, .int (it_steps), .int (it_faultAt), .int (it_mover)])), (qt_now, .inl (cy.1, 639, .inl (ft_now)))]) (wr := [(qt_past, .inl (cy.1, 3195, .inl (o41_1)))]) (w1 := [(qt, .inr (11, [.ref qt_now, .ref qt_past, .int (o41_0), .ref xt_text, .int (it_length), .ref xt_doors, .int (it_doorMany), .ref xt_label, .int (it_drawn), .ref xt_far, .ref xt_ring, .int (it_walker), .int (it_from), .ref xt_was, .int (it_steps), .int (it_faultAt), .int (it_mover)])), (qt_now, .inl (cy.1, 639, .inl (ft_now)))]) hK hP hD hS hA hG [0, 1] [2] rfl rfl rfl rfl rfl (fun hU hPc => va_runV (As := [.int va1, .int va2]) (rest := []) ⟨hx, hb, hml, hown, hts⟩ (c_X11_doorAt l dC dI cy G H.size qt qt_now qt_past xt_text xt_doors xt_label xt_far xt_ring xt_was (o41_0) (it_length) (it_doorMany) (it_drawn) (it_walker) (it_from) (it_steps) (it_faultAt) (it_mover) (ft_now) (va1) (va2) (t_X11_doorAt (ft_now) (va1) (va2)) (tot_X11_doorAt (ft_now) (va1) (va2))) (cwV 2 hts gX11_door_X11_doorAt rfl rfl rfl hdX11_doorAt ⟨Nat.le_of_ble_eq_true rfl, Nat.le_of_ble_eq_true rfl⟩) ⟨kBlind, (va_recv hK hP (ci := 11) (q0 := 0) rfl rfl), fun U h1 h2 => ⟨rfl, hU U h1 h2⟩⟩ rfl rfl hl.1 rfl (lv_room (Nat.le_of_ble_eq_true rfl)) dX11_door_47 ⟨Nat.zero_le _, Nat.zero_le _⟩) ((t_X11_doorAt (ft_now) (va1) (va2))) (fun _ _ h => h) (fun _ _ h => h) (fun H locs hP hD hS => ?_)
          have hP : va_P (dC, dI) vwCl [(qt_past, .inl (cy.1, 3195, .inl (o41_1))), (qt, .inr (11, [.ref qt_now, .ref qt_past, .int (o41_0), .ref xt_text, .int (it_length), .ref xt_doors, .int (it_doorMany), .ref xt_label, .int (it_drawn), .ref xt_far, .ref xt_ring, .int (it_walker), .int (it_from), .ref xt_was, .int (it_steps), .int (it_faultAt), .int (it_mover)])), (qt_now, .inl (cy.1, 639, .inl (ft_now)))] H := hP
          have hD : va_D A [(qt_past, .inl (cy.1, 3195, .inl (o41_1))), (qt, .inr (11, [.ref qt_now, .ref qt_past, .int (o41_0), .ref xt_text, .int (it_length), .ref xt_doors, .int (it_doorMany), .ref xt_label, .int (it_drawn), .ref xt_far, .ref xt_ring, .int (it_walker), .int (it_from), .ref xt_was, .int (it_steps), .int (it_faultAt), .int (it_mover)])), (qt_now, .inl (cy.1, 639, .inl (ft_now)))] := hD
          refine lv_istore (lv' := [(4, .int (t_X11_doorAt (ft_now) (va1) (va2))), (0, .ref qt), (1, .int va1), (2, .int va2), (3, .int va3)]) hx hb dX11_door_50 hl (by decide) rfl (fun ls hl => ?_)
          refine lv_aload_n hx hb dX11_door_52 rfl (lv_at hl 1 rfl) ?_
          refine va_get (D := (dC, dI)) (ci := 11) (C := RX11) (T := TX11) (N := 17) hx hb hts (fun _ h => (List.mem_cons_of_mem _ (List.mem_append_right _ h))) hown hK hP 1 rfl rfl 0 (by decide) (hts _ (List.mem_cons_of_mem _ (List.mem_append_left _ (List.mem_append_left _ (List.mem_of_getElem? (i := 0) rfl))))) (fun _ h => h) rfl dX11_door_53 ?_
          refine lv_iload hx hb dX11_door_56 (lv_at hl 0 rfl) ?_
          obtain ⟨hk_58, hf⟩ := chk_s hf
          refine va_iald hx hb hK hP 2 0 rfl rfl hk_58 dX11_door_58 ?_
          refine lv_istore (lv' := [(5, .int (ft_now ((t_X11_doorAt (ft_now) (va1) (va2))).toNatClampNeg)), (4, .int (t_X11_doorAt (ft_now) (va1) (va2))), (0, .ref qt), (1, .int va1), (2, .int va2), (3, .int va3)]) hx hb dX11_door_59 hl (by decide) rfl (fun ls hl => ?_)
          refine lv_aload_n hx hb dX11_door_61 rfl (lv_at hl 2 rfl) ?_
          refine va_get (D := (dC, dI)) (ci := 11) (C := RX11) (T := TX11) (N := 17) hx hb hts (fun _ h => (List.mem_cons_of_mem _ (List.mem_append_right _ h))) hown hK hP 1 rfl rfl 0 (by decide) (hts _ (List.mem_cons_of_mem _ (List.mem_append_left _ (List.mem_append_left _ (List.mem_of_getElem? (i := 0) rfl))))) (fun _ h => h) rfl dX11_door_62 ?_
          refine lv_iload hx hb dX11_door_65 (lv_at hl 1 rfl) ?_
          refine lv_iload_n hx hb dX11_door_67 rfl (lv_at hl 5 rfl) ?_
          obtain ⟨hk_68, hf⟩ := chk_s hf
          refine va_iast hx hb hK hP hD hS 2 0 rfl rfl hk_68 dX11_door_68 (fun H locs hP hD hS => ?_)
          have hP : va_P (dC, dI) vwCl [(qt_past, .inl (cy.1, 3195, .inl (o41_1))), (qt, .inr (11, [.ref qt_now, .ref qt_past, .int (o41_0), .ref xt_text, .int (it_length), .ref xt_doors, .int (it_doorMany), .ref xt_label, .int (it_drawn), .ref xt_far, .ref xt_ring, .int (it_walker), .int (it_from), .ref xt_was, .int (it_steps), .int (it_faultAt), .int (it_mover)])), (qt_now, .inl (cy.1, 639, .inl ((upd ft_now ((t_X11_doorAt (ft_now) (va1) (va2))).toNatClampNeg va3))))] H := hP
          have hD : va_D A [(qt_past, .inl (cy.1, 3195, .inl (o41_1))), (qt, .inr (11, [.ref qt_now, .ref qt_past, .int (o41_0), .ref xt_text, .int (it_length), .ref xt_doors, .int (it_doorMany), .ref xt_label, .int (it_drawn), .ref xt_far, .ref xt_ring, .int (it_walker), .int (it_from), .ref xt_was, .int (it_steps), .int (it_faultAt), .int (it_mover)])), (qt_now, .inl (cy.1, 639, .inl ((upd ft_now ((t_X11_doorAt (ft_now) (va1) (va2))).toNatClampNeg va3))))] := hD
          refine lv_iload hx hb dX11_door_69 (lv_at hl 0 rfl) ?_
          cases hf
          subst hQ
          exact kiret hx hb hr hlocks hK (hP.sub [1, 2, 0] rfl) (hD.sub [1, 2, 0] (by decide) rfl) hS rfl dX11_door_71
        · rw [if_neg hc_34] at hf
          refine lv_bipush (v := (-4 : Int32)) hx hb dX11_door_37 (by decide) ?_
          cases hf
          subst hQ
          exact kiret hx hb hr hlocks hK (hP.sub [1, 2, 0] rfl) (hD.sub [1, 2, 0] (by decide) rfl) hS rfl dX11_door_39
      · rw [if_pos hc_23] at hf
        refine lv_iconst (v := (-1 : Int32)) hx hb dX11_door_26 (by decide) ?_
        cases hf
        subst hQ
        exact kiret hx hb hr hlocks hK (hP.sub [1, 2, 0] rfl) (hD.sub [1, 2, 0] (by decide) rfl) hS rfl dX11_door_27
theorem hdX11_door : yX11_door.cls = RX11 ∧ yX11_door.cls ≠ "java/lang/invoke/MethodHandle" ∧ yX11_door.cls ≠ "java/lang/invoke/VarHandle" ∧ (parseMethodDescriptor yX11_door.desc).map (fun d => d.parameters.length) = some 3 := by decide +kernel
noncomputable def b_X11_doors_14 (N : Nat) (ft_now : Nat → Int32) (va1 : Int32) : Nat → Int32 → Int32 → Option (Int32)
  | 0, _, _ => none
  | n + 1, l2, l3 =>
    if (4 : Int32) ≤ l3 then
      some (l2)
    else
      bnd1 (f_X11_isOpen (ft_now) (va1) (l3)) fun r23 =>
      if r23 = 0 then
        b_X11_doors_14 N ft_now va1 n ((l2 ||| (0 : Int32))) ((l3 + (1 : Int32)))
      else
        b_X11_doors_14 N ft_now va1 n ((l2 ||| ((1 : Int32) <<< (l3 &&& 31)))) ((l3 + (1 : Int32)))
noncomputable def f_X11_doors (N : Nat) (ft_now : Nat → Int32) (va1 : Int32) : Option (Int32) :=
  bnd1 (f_X11_hasRoom (ft_now) (va1)) fun r2 =>
  if r2 = 0 then
    some ((-1 : Int32))
  else
    b_X11_doors_14 N ft_now va1 N ((0 : Int32)) ((0 : Int32))
abbrev rm_X11_doors : Room := { frames := 6, cells := 0, slots := 0, locals := 135 }
set_option maxHeartbeats 4000000 in
set_option maxRecDepth 100000 in
theorem c_X11_doors (l : Launch) (dC : Nat → ClassId) (dI : Nat → Nat → Nat) (cy : gC) (G : gT) (sz : Nat) (qt : Nat) (qt_now : Nat) (xt_past : Nat) (xt_text : Nat) (xt_doors : Nat) (xt_label : Nat) (xt_far : Nat) (xt_ring : Nat) (xt_was : Nat) (it_saved : Int32) (it_length : Int32) (it_doorMany : Int32) (it_drawn : Int32) (it_walker : Int32) (it_from : Int32) (it_steps : Int32) (it_faultAt : Int32) (it_mover : Int32) (N : Nat) (ft_now : Nat → Int32) (va1 : Int32) (out : Int32) (hf : f_X11_doors N ft_now va1 = some out) : Met l yX11_doors wsX11_doors rm_X11_doors (va_Pc [.ref qt, .int va1] (kP (dC, dI) cy G [(qt, .inr (11, [.ref qt_now, .ref xt_past, .int (it_saved), .ref xt_text, .int (it_length), .ref xt_doors, .int (it_doorMany), .ref xt_label, .int (it_drawn), .ref xt_far, .ref xt_ring, .int (it_walker), .int (it_from), .ref xt_was, .int (it_steps), .int (it_faultAt), .int (it_mover)])), (qt_now, .inl (cy.1, 639, .inl (ft_now)))] sz)) (va_Qi (fun r (_ : Unit) => r = out) (fun _ => kQ (dC, dI) cy [(qt, .inr (11, [.ref qt_now, .ref xt_past, .int (it_saved), .ref xt_text, .int (it_length), .ref xt_doors, .int (it_doorMany), .ref xt_label, .int (it_drawn), .ref xt_far, .ref xt_ring, .int (it_walker), .int (it_from), .ref xt_was, .int (it_steps), .int (it_faultAt), .int (it_mover)])), (qt_now, .inl (cy.1, 639, .inl (ft_now)))] (va_A [(qt, .inr (11, [.ref qt_now, .ref xt_past, .int (it_saved), .ref xt_text, .int (it_length), .ref xt_doors, .int (it_doorMany), .ref xt_label, .int (it_drawn), .ref xt_far, .ref xt_ring, .int (it_walker), .int (it_from), .ref xt_was, .int (it_steps), .int (it_faultAt), .int (it_mover)])), (qt_now, .inl (cy.1, 639, .inl (ft_now)))] sz)) (va_A [(qt, .inr (11, [.ref qt_now, .ref xt_past, .int (it_saved), .ref xt_text, .int (it_length), .ref xt_doors, .int (it_doorMany), .ref xt_label, .int (it_drawn), .ref xt_far, .ref xt_ring, .int (it_walker), .int (it_from), .ref xt_was, .int (it_steps), .int (it_faultAt), .int (it_mover)])), (qt_now, .inl (cy.1, 639, .inl (ft_now)))] sz)) 0 0 (va_A [(qt, .inr (11, [.ref qt_now, .ref xt_past, .int (it_saved), .ref xt_text, .int (it_length), .ref xt_doors, .int (it_doorMany), .ref xt_label, .int (it_drawn), .ref xt_far, .ref xt_ring, .int (it_walker), .int (it_from), .ref xt_was, .int (it_steps), .int (it_faultAt), .int (it_mover)])), (qt_now, .inl (cy.1, 639, .inl (ft_now)))] sz) := by
  refine Met.ofW (cc := cX11_doors) (maxL := 4) (ret := (some .int)) (by decide) rfl ?_
  intro p e s m args below meth c s₁ B hml hv
  obtain ⟨rfl, hsz, hP, hK, hD0, hG⟩ := hv
  have hx := B.exec
  have hb := B.bytes
  have hr := B.returns
  have hts := atoms_spec (ws := wsX11_doors) B.pre
  have hown : s.vm.findClass RX11 = some m.cls := findClass_of_methodNamed B.named
  have hlocks := B.notSynchronized
  subst hsz
  have hD := hD0.self (sz := s.heap.size)
  generalize hAe : va_A [(qt, .inr (11, [.ref qt_now, .ref xt_past, .int (it_saved), .ref xt_text, .int (it_length), .ref xt_doors, .int (it_doorMany), .ref xt_label, .int (it_drawn), .ref xt_far, .ref xt_ring, .int (it_walker), .int (it_from), .ref xt_was, .int (it_steps), .int (it_faultAt), .int (it_mover)])), (qt_now, .inl (cy.1, 639, .inl (ft_now)))] s.heap.size = A at hD hG ⊢
  have hA : ∀ q : Nat, s.heap.size ≤ q → A q := fun q h => by rw [← hAe]; exact Or.inr h
  have hS : va_S A s.heap s.heap [] := va_S.rf
  have hP : va_P (dC, dI) vwCl [(qt, .inr (11, [.ref qt_now, .ref xt_past, .int (it_saved), .ref xt_text, .int (it_length), .ref xt_doors, .int (it_doorMany), .ref xt_label, .int (it_drawn), .ref xt_far, .ref xt_ring, .int (it_walker), .int (it_from), .ref xt_was, .int (it_steps), .int (it_faultAt), .int (it_mover)])), (qt_now, .inl (cy.1, 639, .inl (ft_now)))] s.heap := hP
  have hl := lv_entry ([.ref qt, .int va1]) (n := 4) (Nat.le_of_ble_eq_true rfl)
  rw [lg_entry_eq]
  generalize (lg_sl ([.ref qt, .int va1]) ++ List.replicate (4 - (lg_sl ([.ref qt, .int va1])).length) Slot.unset).toArray = ls at hl ⊢
  have hl : lv_has ls 4 [(0, .ref qt), (1, .int va1)] := hl
  refine kgen (fun Q hQ => ?_)
  have B14 : ∀ (n14 : Nat) (l2 : Int32) (l3 : Int32) (H : Heap) (locs : List Loc), va_P (dC, dI) vwCl [(qt, .inr (11, [.ref qt_now, .ref xt_past, .int (it_saved), .ref xt_text, .int (it_length), .ref xt_doors, .int (it_doorMany), .ref xt_label, .int (it_drawn), .ref xt_far, .ref xt_ring, .int (it_walker), .int (it_from), .ref xt_was, .int (it_steps), .int (it_faultAt), .int (it_mover)])), (qt_now, .inl (cy.1, 639, .inl (ft_now)))] H → va_D A [(qt, .inr (11, [.ref qt_now, .ref xt_past, .int (it_saved), .ref xt_text, .int (it_length), .ref xt_doors, .int (it_doorMany), .ref xt_label, .int (it_drawn), .ref xt_far, .ref xt_ring, .int (it_walker), .int (it_from), .ref xt_was, .int (it_steps), .int (it_faultAt), .int (it_mover)])), (qt_now, .inl (cy.1, 639, .inl (ft_now)))] → va_S A s.heap H locs → ∀ (ls : Array Slot), lv_has ls 4 [(0, .ref qt), (1, .int va1), (2, .int l2), (3, .int l3)] → b_X11_doors_14 N ft_now va1 n14 l2 l3 = some out → W p l e (headSpec wsX11_doors rm_X11_doors).room s m ([.ref qt, .int va1] : List Value).toArray below meth c H locs 0 0 Q (F0 m 14 ls []) := by
    intro n14
    induction n14 with
    | zero => intro l2 l3 H locs hP hD hS ls hl hf; rw [b_X11_doors_14] at hf; cases hf
    | succ n14 ih14 =>
      intro l2 l3 H locs hP hD hS ls hl hf
      rw [b_X11_doors_14] at hf
      refine lv_iload_n hx hb dX11_doors_14 rfl (lv_at hl 3 rfl) ?_
      refine lv_iconst (v := (4 : Int32)) hx hb dX11_doors_15 (by decide) ?_
      refine lv_icmp_ge (tgt := 44) hx hb dX11_doors_16 (by decide) (fun hc_16 => ?_) (fun hc_16 => ?_)
      · rw [if_pos hc_16] at hf
        refine lv_iload_n hx hb dX11_doors_44 rfl (lv_at hl 2 rfl) ?_
        cases hf
        subst hQ
        exact kiret hx hb hr hlocks hK (hP.sub [0, 1] rfl) (hD.sub [0, 1] (by decide) rfl) hS rfl dX11_doors_45
      · rw [if_neg hc_16] at hf
        refine lv_iload_n hx hb dX11_doors_19 rfl (lv_at hl 2 rfl) ?_
        refine lv_aload_n hx hb dX11_doors_20 rfl (lv_at hl 0 rfl) ?_
        refine lv_iload_n hx hb dX11_doors_21 rfl (lv_at hl 1 rfl) ?_
        refine lv_iload_n hx hb dX11_doors_22 rfl (lv_at hl 3 rfl) ?_
        obtain ⟨r23, hq_23, hf⟩ := bnd1_s hf
        refine kcalli (wc := [(qt, .inr (11, [.ref qt_now, .ref xt_past, .int (it_saved), .ref xt_text, .int (it_length), .ref xt_doors, .int (it_doorMany), .ref xt_label, .int (it_drawn), .ref xt_far, .ref xt_ring, .int (it_walker), .int (it_from), .ref xt_was, .int (it_steps), .int (it_faultAt), .int (it_mover)])), (qt_now, .inl (cy.1, 639, .inl (ft_now)))]) (wr := []) (w1 := [(qt, .inr (11, [.ref qt_now, .ref xt_past, .int (it_saved), .ref xt_text, .int (it_length), .ref xt_doors, .int (it_doorMany), .ref xt_label, .int (it_drawn), .ref xt_far, .ref xt_ring, .int (it_walker), .int (it_from), .ref xt_was, .int (it_steps), .int (it_faultAt), .int (it_mover)])), (qt_now, .inl (cy.1, 639, .inl (ft_now)))]) hK hP hD hS hA hG [0, 1] [] rfl rfl rfl rfl rfl (fun hU hPc => va_runV (As := [.int va1, .int l3]) (rest := [.int l2]) ⟨hx, hb, hml, hown, hts⟩ (c_X11_isOpen l dC dI cy G H.size qt qt_now xt_past xt_text xt_doors xt_label xt_far xt_ring xt_was (it_saved) (it_length) (it_doorMany) (it_drawn) (it_walker) (it_from) (it_steps) (it_faultAt) (it_mover) (ft_now) (va1) (l3) r23 hq_23) (cwV 2 hts gX11_doors_X11_isOpen rfl rfl rfl hdX11_isOpen ⟨Nat.le_of_ble_eq_true rfl, Nat.le_of_ble_eq_true rfl⟩) ⟨kBlind, (va_recv hK hP (ci := 11) (q0 := 0) rfl rfl), fun U h1 h2 => ⟨rfl, hU U h1 h2⟩⟩ rfl rfl hl.1 rfl (lv_room (Nat.le_of_ble_eq_true rfl)) dX11_doors_23 ⟨Nat.zero_le _, Nat.zero_le _⟩) (r23) (fun _ _ h => h) (fun _ _ h => h) (fun H locs hP hD hS => ?_)
        have hP : va_P (dC, dI) vwCl [(qt, .inr (11, [.ref qt_now, .ref xt_past, .int (it_saved), .ref xt_text, .int (it_length), .ref xt_doors, .int (it_doorMany), .ref xt_label, .int (it_drawn), .ref xt_far, .ref xt_ring, .int (it_walker), .int (it_from), .ref xt_was, .int (it_steps), .int (it_faultAt), .int (it_mover)])), (qt_now, .inl (cy.1, 639, .inl (ft_now)))] H := hP
        have hD : va_D A [(qt, .inr (11, [.ref qt_now, .ref xt_past, .int (it_saved), .ref xt_text, .int (it_length), .ref xt_doors, .int (it_doorMany), .ref xt_label, .int (it_drawn), .ref xt_far, .ref xt_ring, .int (it_walker), .int (it_from), .ref xt_was, .int (it_steps), .int (it_faultAt), .int (it_mover)])), (qt_now, .inl (cy.1, 639, .inl (ft_now)))] := hD
        refine lv_if_eq (tgt := 35) hx hb dX11_doors_26 (by decide) (fun hc_26 => ?_) (fun hc_26 => ?_)
        · rw [if_pos hc_26] at hf
          refine lv_iconst (v := (0 : Int32)) hx hb dX11_doors_35 (by decide) ?_
          refine lv_ior hx hb dX11_doors_36 ?_
          refine lv_istore_n (lv' := [(2, .int (l2 ||| (0 : Int32))), (0, .ref qt), (1, .int va1), (3, .int l3)]) hx hb dX11_doors_37 rfl hl (by decide) rfl (fun ls hl => ?_)
          refine lv_iinc (v := (l3 + (1 : Int32))) (lv' := [(3, .int (l3 + (1 : Int32))), (2, .int (l2 ||| (0 : Int32))), (0, .ref qt), (1, .int va1)]) hx hb dX11_doors_38 hl (k := 3) rfl rfl (by decide) rfl (fun ls hl => ?_)
          refine lv_goto (tgt := 14) hx hb dX11_doors_41 (by decide) ?_
          exact ih14 ((l2 ||| (0 : Int32))) ((l3 + (1 : Int32))) _ _ (hP.sub [0, 1] rfl) (hD.sub [0, 1] (by decide) rfl) hS _ (lv_sub hl [2, 3, 1, 0] rfl) hf
        · rw [if_neg hc_26] at hf
          refine lv_iconst (v := (1 : Int32)) hx hb dX11_doors_29 (by decide) ?_
          refine lv_iload_n hx hb dX11_doors_30 rfl (lv_at hl 3 rfl) ?_
          refine lv_ishl hx hb dX11_doors_31 ?_
          refine lv_goto (tgt := 36) hx hb dX11_doors_32 (by decide) ?_
          refine lv_ior hx hb dX11_doors_36 ?_
          refine lv_istore_n (lv' := [(2, .int (l2 ||| ((1 : Int32) <<< (l3 &&& 31)))), (0, .ref qt), (1, .int va1), (3, .int l3)]) hx hb dX11_doors_37 rfl hl (by decide) rfl (fun ls hl => ?_)
          refine lv_iinc (v := (l3 + (1 : Int32))) (lv' := [(3, .int (l3 + (1 : Int32))), (2, .int (l2 ||| ((1 : Int32) <<< (l3 &&& 31)))), (0, .ref qt), (1, .int va1)]) hx hb dX11_doors_38 hl (k := 3) rfl rfl (by decide) rfl (fun ls hl => ?_)
          refine lv_goto (tgt := 14) hx hb dX11_doors_41 (by decide) ?_
          exact ih14 ((l2 ||| ((1 : Int32) <<< (l3 &&& 31)))) ((l3 + (1 : Int32))) _ _ (hP.sub [0, 1] rfl) (hD.sub [0, 1] (by decide) rfl) hS _ (lv_sub hl [2, 3, 1, 0] rfl) hf
  rw [f_X11_doors] at hf
  refine lv_aload_n hx hb dX11_doors_0 rfl (lv_at hl 0 rfl) ?_
  refine lv_iload_n hx hb dX11_doors_1 rfl (lv_at hl 1 rfl) ?_
  obtain ⟨r2, hq_2, hf⟩ := bnd1_s hf
  refine kcalli (wc := [(qt, .inr (11, [.ref qt_now, .ref xt_past, .int (it_saved), .ref xt_text, .int (it_length), .ref xt_doors, .int (it_doorMany), .ref xt_label, .int (it_drawn), .ref xt_far, .ref xt_ring, .int (it_walker), .int (it_from), .ref xt_was, .int (it_steps), .int (it_faultAt), .int (it_mover)])), (qt_now, .inl (cy.1, 639, .inl (ft_now)))]) (wr := []) (w1 := [(qt, .inr (11, [.ref qt_now, .ref xt_past, .int (it_saved), .ref xt_text, .int (it_length), .ref xt_doors, .int (it_doorMany), .ref xt_label, .int (it_drawn), .ref xt_far, .ref xt_ring, .int (it_walker), .int (it_from), .ref xt_was, .int (it_steps), .int (it_faultAt), .int (it_mover)])), (qt_now, .inl (cy.1, 639, .inl (ft_now)))]) hK hP hD hS hA hG [0, 1] [] rfl rfl rfl rfl rfl (fun hU hPc => va_runV (As := [.int va1]) (rest := []) ⟨hx, hb, hml, hown, hts⟩ (c_X11_hasRoom l dC dI cy G s.heap.size qt qt_now xt_past xt_text xt_doors xt_label xt_far xt_ring xt_was (it_saved) (it_length) (it_doorMany) (it_drawn) (it_walker) (it_from) (it_steps) (it_faultAt) (it_mover) (ft_now) (va1) r2 hq_2) (cwV 1 hts gX11_doors_X11_hasRoom rfl rfl rfl hdX11_hasRoom ⟨Nat.le_of_ble_eq_true rfl, Nat.le_of_ble_eq_true rfl⟩) ⟨kBlind, (va_recv hK hP (ci := 11) (q0 := 0) rfl rfl), fun U h1 h2 => ⟨rfl, hU U h1 h2⟩⟩ rfl rfl hl.1 rfl (lv_room (Nat.le_of_ble_eq_true rfl)) dX11_doors_2 ⟨Nat.zero_le _, Nat.zero_le _⟩) (r2) (fun _ _ h => h) (fun _ _ h => h) (fun H locs hP hD hS => ?_)
  have hP : va_P (dC, dI) vwCl [(qt, .inr (11, [.ref qt_now, .ref xt_past, .int (it_saved), .ref xt_text, .int (it_length), .ref xt_doors, .int (it_doorMany), .ref xt_label, .int (it_drawn), .ref xt_far, .ref xt_ring, .int (it_walker), .int (it_from), .ref xt_was, .int (it_steps), .int (it_faultAt), .int (it_mover)])), (qt_now, .inl (cy.1, 639, .inl (ft_now)))] H := hP
  have hD : va_D A [(qt, .inr (11, [.ref qt_now, .ref xt_past, .int (it_saved), .ref xt_text, .int (it_length), .ref xt_doors, .int (it_doorMany), .ref xt_label, .int (it_drawn), .ref xt_far, .ref xt_ring, .int (it_walker), .int (it_from), .ref xt_was, .int (it_steps), .int (it_faultAt), .int (it_mover)])), (qt_now, .inl (cy.1, 639, .inl (ft_now)))] := hD
  refine lv_if_ne (tgt := 10) hx hb dX11_doors_5 (by decide) (fun hc_5 => ?_) (fun hc_5 => ?_)
  · rw [if_neg hc_5] at hf
    refine lv_iconst (v := (0 : Int32)) hx hb dX11_doors_10 (by decide) ?_
    refine lv_istore_n (lv' := [(2, .int (0 : Int32)), (0, .ref qt), (1, .int va1)]) hx hb dX11_doors_11 rfl hl (by decide) rfl (fun ls hl => ?_)
    refine lv_iconst (v := (0 : Int32)) hx hb dX11_doors_12 (by decide) ?_
    refine lv_istore_n (lv' := [(3, .int (0 : Int32)), (2, .int (0 : Int32)), (0, .ref qt), (1, .int va1)]) hx hb dX11_doors_13 rfl hl (by decide) rfl (fun ls hl => ?_)
    exact B14 N ((0 : Int32)) ((0 : Int32)) _ _ (hP.sub [0, 1] rfl) (hD.sub [0, 1] (by decide) rfl) hS _ (lv_sub hl [2, 3, 1, 0] rfl) hf
  · rw [if_pos hc_5] at hf
    refine lv_iconst (v := (-1 : Int32)) hx hb dX11_doors_8 (by decide) ?_
    cases hf
    subst hQ
    exact kiret hx hb hr hlocks hK (hP.sub [0, 1] rfl) (hD.sub [0, 1] (by decide) rfl) hS rfl dX11_doors_9
theorem hdX11_doors : yX11_doors.cls = RX11 ∧ yX11_doors.cls ≠ "java/lang/invoke/MethodHandle" ∧ yX11_doors.cls ≠ "java/lang/invoke/VarHandle" ∧ (parseMethodDescriptor yX11_doors.desc).map (fun d => d.parameters.length) = some 1 := by decide +kernel
noncomputable def b_X11_parts_8 (N : Nat) (ft_now : Nat → Int32) : Nat → Int32 → Int32 → (Nat → Int32) → Option (Int32 × (Nat → Int32))
  | 0, _, _, _ => none
  | n + 1, l1, l2, cft_label =>
    if (t_X11_cells (ft_now)) ≤ l2 then
      some (l1, cft_label)
    else
      bnd1 (f_X11_isRoomAt (ft_now) (l2)) fun r19 =>
      if r19 = 0 then
        b_X11_parts_8 N ft_now n ((l1 + (0 : Int32))) ((l2 + (1 : Int32))) (cft_label)
      else
        if l2 < 0 ∨ 210 ≤ (l2).toNatClampNeg then none else
        if (cft_label (l2).toNatClampNeg) = l2 then
          b_X11_parts_8 N ft_now n ((l1 + (1 : Int32))) ((l2 + (1 : Int32))) (cft_label)
        else
          b_X11_parts_8 N ft_now n ((l1 + (0 : Int32))) ((l2 + (1 : Int32))) (cft_label)
noncomputable def f_X11_parts (N : Nat) (ft_now : Nat → Int32) (ft_label : Nat → Int32) : Option (Int32 × (Nat → Int32)) :=
  bnd1 (f_X11_labels N (ft_now) (ft_label)) fun o1_0 =>
  b_X11_parts_8 N ft_now N ((0 : Int32)) ((0 : Int32)) (o1_0)
abbrev rm_X11_parts : Room := { frames := 7, cells := 0, slots := 0, locals := 157 }
set_option maxHeartbeats 4000000 in
set_option maxRecDepth 100000 in
theorem c_X11_parts (l : Launch) (dC : Nat → ClassId) (dI : Nat → Nat → Nat) (cy : gC) (G : gT) (sz : Nat) (qt : Nat) (qt_now : Nat) (qt_label : Nat) (xt_past : Nat) (xt_text : Nat) (xt_doors : Nat) (xt_far : Nat) (xt_ring : Nat) (xt_was : Nat) (it_saved : Int32) (it_length : Int32) (it_doorMany : Int32) (it_drawn : Int32) (it_walker : Int32) (it_from : Int32) (it_steps : Int32) (it_faultAt : Int32) (it_mover : Int32) (N : Nat) (ft_now : Nat → Int32) (ft_label : Nat → Int32) (out : Int32 × (Nat → Int32)) (hf : f_X11_parts N ft_now ft_label = some out) : Met l yX11_parts wsX11_parts rm_X11_parts (va_Pc [.ref qt] (kP (dC, dI) cy G [(qt, .inr (11, [.ref qt_now, .ref xt_past, .int (it_saved), .ref xt_text, .int (it_length), .ref xt_doors, .int (it_doorMany), .ref qt_label, .int (it_drawn), .ref xt_far, .ref xt_ring, .int (it_walker), .int (it_from), .ref xt_was, .int (it_steps), .int (it_faultAt), .int (it_mover)])), (qt_now, .inl (cy.1, 639, .inl (ft_now))), (qt_label, .inl (cy.1, 210, .inl (ft_label)))] sz)) (va_Qi (fun r (_ : Unit) => r = out.1) (fun _ => kQ (dC, dI) cy [(qt, .inr (11, [.ref qt_now, .ref xt_past, .int (it_saved), .ref xt_text, .int (it_length), .ref xt_doors, .int (it_doorMany), .ref qt_label, .int (it_drawn), .ref xt_far, .ref xt_ring, .int (it_walker), .int (it_from), .ref xt_was, .int (it_steps), .int (it_faultAt), .int (it_mover)])), (qt_now, .inl (cy.1, 639, .inl (ft_now))), (qt_label, .inl (cy.1, 210, .inl (out.2)))] (va_A [(qt, .inr (11, [.ref qt_now, .ref xt_past, .int (it_saved), .ref xt_text, .int (it_length), .ref xt_doors, .int (it_doorMany), .ref qt_label, .int (it_drawn), .ref xt_far, .ref xt_ring, .int (it_walker), .int (it_from), .ref xt_was, .int (it_steps), .int (it_faultAt), .int (it_mover)])), (qt_now, .inl (cy.1, 639, .inl (ft_now))), (qt_label, .inl (cy.1, 210, .inl (ft_label)))] sz)) (va_A [(qt, .inr (11, [.ref qt_now, .ref xt_past, .int (it_saved), .ref xt_text, .int (it_length), .ref xt_doors, .int (it_doorMany), .ref qt_label, .int (it_drawn), .ref xt_far, .ref xt_ring, .int (it_walker), .int (it_from), .ref xt_was, .int (it_steps), .int (it_faultAt), .int (it_mover)])), (qt_now, .inl (cy.1, 639, .inl (ft_now))), (qt_label, .inl (cy.1, 210, .inl (ft_label)))] sz)) 0 0 (va_A [(qt, .inr (11, [.ref qt_now, .ref xt_past, .int (it_saved), .ref xt_text, .int (it_length), .ref xt_doors, .int (it_doorMany), .ref qt_label, .int (it_drawn), .ref xt_far, .ref xt_ring, .int (it_walker), .int (it_from), .ref xt_was, .int (it_steps), .int (it_faultAt), .int (it_mover)])), (qt_now, .inl (cy.1, 639, .inl (ft_now))), (qt_label, .inl (cy.1, 210, .inl (ft_label)))] sz) := by
  refine Met.ofW (cc := cX11_parts) (maxL := 3) (ret := (some .int)) (by decide) rfl ?_
  intro p e s m args below meth c s₁ B hml hv
  obtain ⟨rfl, hsz, hP, hK, hD0, hG⟩ := hv
  have hx := B.exec
  have hb := B.bytes
  have hr := B.returns
  have hts := atoms_spec (ws := wsX11_parts) B.pre
  have hown : s.vm.findClass RX11 = some m.cls := findClass_of_methodNamed B.named
  have hlocks := B.notSynchronized
  subst hsz
  have hD := hD0.self (sz := s.heap.size)
  generalize hAe : va_A [(qt, .inr (11, [.ref qt_now, .ref xt_past, .int (it_saved), .ref xt_text, .int (it_length), .ref xt_doors, .int (it_doorMany), .ref qt_label, .int (it_drawn), .ref xt_far, .ref xt_ring, .int (it_walker), .int (it_from), .ref xt_was, .int (it_steps), .int (it_faultAt), .int (it_mover)])), (qt_now, .inl (cy.1, 639, .inl (ft_now))), (qt_label, .inl (cy.1, 210, .inl (ft_label)))] s.heap.size = A at hD hG ⊢
  have hA : ∀ q : Nat, s.heap.size ≤ q → A q := fun q h => by rw [← hAe]; exact Or.inr h
  have hS : va_S A s.heap s.heap [] := va_S.rf
  have hP : va_P (dC, dI) vwCl [(qt, .inr (11, [.ref qt_now, .ref xt_past, .int (it_saved), .ref xt_text, .int (it_length), .ref xt_doors, .int (it_doorMany), .ref qt_label, .int (it_drawn), .ref xt_far, .ref xt_ring, .int (it_walker), .int (it_from), .ref xt_was, .int (it_steps), .int (it_faultAt), .int (it_mover)])), (qt_now, .inl (cy.1, 639, .inl (ft_now))), (qt_label, .inl (cy.1, 210, .inl (ft_label)))] s.heap := hP
  have hl := lv_entry ([.ref qt]) (n := 3) (Nat.le_of_ble_eq_true rfl)
  rw [lg_entry_eq]
  generalize (lg_sl ([.ref qt]) ++ List.replicate (3 - (lg_sl ([.ref qt])).length) Slot.unset).toArray = ls at hl ⊢
  have hl : lv_has ls 3 [(0, .ref qt)] := hl
  refine kgen (fun Q hQ => ?_)
  have B8 : ∀ (n8 : Nat) (l1 : Int32) (l2 : Int32) (cft_label : Nat → Int32) (H : Heap) (locs : List Loc), va_P (dC, dI) vwCl [(qt, .inr (11, [.ref qt_now, .ref xt_past, .int (it_saved), .ref xt_text, .int (it_length), .ref xt_doors, .int (it_doorMany), .ref qt_label, .int (it_drawn), .ref xt_far, .ref xt_ring, .int (it_walker), .int (it_from), .ref xt_was, .int (it_steps), .int (it_faultAt), .int (it_mover)])), (qt_now, .inl (cy.1, 639, .inl (ft_now))), (qt_label, .inl (cy.1, 210, .inl (cft_label)))] H → va_D A [(qt, .inr (11, [.ref qt_now, .ref xt_past, .int (it_saved), .ref xt_text, .int (it_length), .ref xt_doors, .int (it_doorMany), .ref qt_label, .int (it_drawn), .ref xt_far, .ref xt_ring, .int (it_walker), .int (it_from), .ref xt_was, .int (it_steps), .int (it_faultAt), .int (it_mover)])), (qt_now, .inl (cy.1, 639, .inl (ft_now))), (qt_label, .inl (cy.1, 210, .inl (cft_label)))] → va_S A s.heap H locs → ∀ (ls : Array Slot), lv_has ls 3 [(0, .ref qt), (1, .int l1), (2, .int l2)] → b_X11_parts_8 N ft_now n8 l1 l2 cft_label = some out → W p l e (headSpec wsX11_parts rm_X11_parts).room s m ([.ref qt] : List Value).toArray below meth c H locs 0 0 Q (F0 m 8 ls []) := by
    intro n8
    induction n8 with
    | zero => intro l1 l2 cft_label H locs hP hD hS ls hl hf; rw [b_X11_parts_8] at hf; cases hf
    | succ n8 ih8 =>
      intro l1 l2 cft_label H locs hP hD hS ls hl hf
      rw [b_X11_parts_8] at hf
      refine lv_iload_n hx hb dX11_parts_8 rfl (lv_at hl 2 rfl) ?_
      refine lv_aload_n hx hb dX11_parts_9 rfl (lv_at hl 0 rfl) ?_
      refine kcalli (wc := [(qt, .inr (11, [.ref qt_now, .ref xt_past, .int (it_saved), .ref xt_text, .int (it_length), .ref xt_doors, .int (it_doorMany), .ref qt_label, .int (it_drawn), .ref xt_far, .ref xt_ring, .int (it_walker), .int (it_from), .ref xt_was, .int (it_steps), .int (it_faultAt), .int (it_mover)])), (qt_now, .inl (cy.1, 639, .inl (ft_now)))]) (wr := [(qt_label, .inl (cy.1, 210, .inl (cft_label)))]) (w1 := [(qt, .inr (11, [.ref qt_now, .ref xt_past, .int (it_saved), .ref xt_text, .int (it_length), .ref xt_doors, .int (it_doorMany), .ref qt_label, .int (it_drawn), .ref xt_far, .ref xt_ring, .int (it_walker), .int (it_from), .ref xt_was, .int (it_steps), .int (it_faultAt), .int (it_mover)])), (qt_now, .inl (cy.1, 639, .inl (ft_now)))]) hK hP hD hS hA hG [0, 1] [2] rfl rfl rfl rfl rfl (fun hU hPc => va_runV (As := []) (rest := [.int l2]) ⟨hx, hb, hml, hown, hts⟩ (c_X11_cells l dC dI cy G H.size qt qt_now xt_past xt_text xt_doors qt_label xt_far xt_ring xt_was (it_saved) (it_length) (it_doorMany) (it_drawn) (it_walker) (it_from) (it_steps) (it_faultAt) (it_mover) (ft_now) (t_X11_cells (ft_now)) (tot_X11_cells (ft_now))) (cwV 0 hts gX11_parts_X11_cells rfl rfl rfl hdX11_cells ⟨Nat.le_of_ble_eq_true rfl, Nat.le_of_ble_eq_true rfl⟩) ⟨kBlind, (va_recv hK hP (ci := 11) (q0 := 0) rfl rfl), fun U h1 h2 => ⟨rfl, hU U h1 h2⟩⟩ rfl rfl hl.1 rfl (lv_room (Nat.le_of_ble_eq_true rfl)) dX11_parts_10 ⟨Nat.zero_le _, Nat.zero_le _⟩) ((t_X11_cells (ft_now))) (fun _ _ h => h) (fun _ _ h => h) (fun H locs hP hD hS => ?_)
      have hP : va_P (dC, dI) vwCl [(qt_label, .inl (cy.1, 210, .inl (cft_label))), (qt, .inr (11, [.ref qt_now, .ref xt_past, .int (it_saved), .ref xt_text, .int (it_length), .ref xt_doors, .int (it_doorMany), .ref qt_label, .int (it_drawn), .ref xt_far, .ref xt_ring, .int (it_walker), .int (it_from), .ref xt_was, .int (it_steps), .int (it_faultAt), .int (it_mover)])), (qt_now, .inl (cy.1, 639, .inl (ft_now)))] H := hP
      have hD : va_D A [(qt_label, .inl (cy.1, 210, .inl (cft_label))), (qt, .inr (11, [.ref qt_now, .ref xt_past, .int (it_saved), .ref xt_text, .int (it_length), .ref xt_doors, .int (it_doorMany), .ref qt_label, .int (it_drawn), .ref xt_far, .ref xt_ring, .int (it_walker), .int (it_from), .ref xt_was, .int (it_steps), .int (it_faultAt), .int (it_mover)])), (qt_now, .inl (cy.1, 639, .inl (ft_now)))] := hD
      refine lv_icmp_ge (tgt := 48) hx hb dX11_parts_13 (by decide) (fun hc_13 => ?_) (fun hc_13 => ?_)
      · rw [if_pos hc_13] at hf
        refine lv_iload_n hx hb dX11_parts_48 rfl (lv_at hl 1 rfl) ?_
        cases hf
        subst hQ
        exact kiret hx hb hr hlocks hK (hP.sub [1, 2, 0] rfl) (hD.sub [1, 2, 0] (by decide) rfl) hS rfl dX11_parts_49
      · rw [if_neg hc_13] at hf
        refine lv_iload_n hx hb dX11_parts_16 rfl (lv_at hl 1 rfl) ?_
        refine lv_aload_n hx hb dX11_parts_17 rfl (lv_at hl 0 rfl) ?_
        refine lv_iload_n hx hb dX11_parts_18 rfl (lv_at hl 2 rfl) ?_
        obtain ⟨r19, hq_19, hf⟩ := bnd1_s hf
        refine kcalli (wc := [(qt, .inr (11, [.ref qt_now, .ref xt_past, .int (it_saved), .ref xt_text, .int (it_length), .ref xt_doors, .int (it_doorMany), .ref qt_label, .int (it_drawn), .ref xt_far, .ref xt_ring, .int (it_walker), .int (it_from), .ref xt_was, .int (it_steps), .int (it_faultAt), .int (it_mover)])), (qt_now, .inl (cy.1, 639, .inl (ft_now)))]) (wr := [(qt_label, .inl (cy.1, 210, .inl (cft_label)))]) (w1 := [(qt, .inr (11, [.ref qt_now, .ref xt_past, .int (it_saved), .ref xt_text, .int (it_length), .ref xt_doors, .int (it_doorMany), .ref qt_label, .int (it_drawn), .ref xt_far, .ref xt_ring, .int (it_walker), .int (it_from), .ref xt_was, .int (it_steps), .int (it_faultAt), .int (it_mover)])), (qt_now, .inl (cy.1, 639, .inl (ft_now)))]) hK hP hD hS hA hG [1, 2] [0] rfl rfl rfl rfl rfl (fun hU hPc => va_runV (As := [.int l2]) (rest := [.int l1]) ⟨hx, hb, hml, hown, hts⟩ (c_X11_isRoomAt l dC dI cy G H.size qt qt_now xt_past xt_text xt_doors qt_label xt_far xt_ring xt_was (it_saved) (it_length) (it_doorMany) (it_drawn) (it_walker) (it_from) (it_steps) (it_faultAt) (it_mover) (ft_now) (l2) r19 hq_19) (cwV 1 hts gX11_parts_X11_isRoomAt rfl rfl rfl hdX11_isRoomAt ⟨Nat.le_of_ble_eq_true rfl, Nat.le_of_ble_eq_true rfl⟩) ⟨kBlind, (va_recv hK hP (ci := 11) (q0 := 1) rfl rfl), fun U h1 h2 => ⟨rfl, hU U h1 h2⟩⟩ rfl rfl hl.1 rfl (lv_room (Nat.le_of_ble_eq_true rfl)) dX11_parts_19 ⟨Nat.zero_le _, Nat.zero_le _⟩) (r19) (fun _ _ h => h) (fun _ _ h => h) (fun H locs hP hD hS => ?_)
        have hP : va_P (dC, dI) vwCl [(qt_label, .inl (cy.1, 210, .inl (cft_label))), (qt, .inr (11, [.ref qt_now, .ref xt_past, .int (it_saved), .ref xt_text, .int (it_length), .ref xt_doors, .int (it_doorMany), .ref qt_label, .int (it_drawn), .ref xt_far, .ref xt_ring, .int (it_walker), .int (it_from), .ref xt_was, .int (it_steps), .int (it_faultAt), .int (it_mover)])), (qt_now, .inl (cy.1, 639, .inl (ft_now)))] H := hP
        have hD : va_D A [(qt_label, .inl (cy.1, 210, .inl (cft_label))), (qt, .inr (11, [.ref qt_now, .ref xt_past, .int (it_saved), .ref xt_text, .int (it_length), .ref xt_doors, .int (it_doorMany), .ref qt_label, .int (it_drawn), .ref xt_far, .ref xt_ring, .int (it_walker), .int (it_from), .ref xt_was, .int (it_steps), .int (it_faultAt), .int (it_mover)])), (qt_now, .inl (cy.1, 639, .inl (ft_now)))] := hD
        refine lv_if_eq (tgt := 39) hx hb dX11_parts_22 (by decide) (fun hc_22 => ?_) (fun hc_22 => ?_)
        · rw [if_pos hc_22] at hf
          refine lv_iconst (v := (0 : Int32)) hx hb dX11_parts_39 (by decide) ?_
          refine lv_iadd hx hb dX11_parts_40 ?_
          refine lv_istore_n (lv' := [(1, .int (l1 + (0 : Int32))), (0, .ref qt), (2, .int l2)]) hx hb dX11_parts_41 rfl hl (by decide) rfl (fun ls hl => ?_)
          refine lv_iinc (v := (l2 + (1 : Int32))) (lv' := [(2, .int (l2 + (1 : Int32))), (1, .int (l1 + (0 : Int32))), (0, .ref qt)]) hx hb dX11_parts_42 hl (k := 2) rfl rfl (by decide) rfl (fun ls hl => ?_)
          refine lv_goto (tgt := 8) hx hb dX11_parts_45 (by decide) ?_
          exact ih8 ((l1 + (0 : Int32))) ((l2 + (1 : Int32))) (cft_label) _ _ (hP.sub [1, 2, 0] rfl) (hD.sub [1, 2, 0] (by decide) rfl) hS _ (lv_sub hl [2, 1, 0] rfl) hf
        · rw [if_neg hc_22] at hf
          refine lv_aload_n hx hb dX11_parts_25 rfl (lv_at hl 0 rfl) ?_
          refine va_get (D := (dC, dI)) (ci := 11) (C := RX11) (T := TX11) (N := 17) hx hb hts (fun _ h => (List.mem_cons_of_mem _ (List.mem_append_right _ h))) hown hK hP 1 rfl rfl 7 (by decide) (hts _ (List.mem_cons_of_mem _ (List.mem_append_left _ (List.mem_append_left _ (List.mem_of_getElem? (i := 0) rfl))))) (fun _ h => h) rfl dX11_parts_26 ?_
          refine lv_iload_n hx hb dX11_parts_29 rfl (lv_at hl 2 rfl) ?_
          obtain ⟨hk_30, hf⟩ := chk_s hf
          refine va_iald hx hb hK hP 0 0 rfl rfl hk_30 dX11_parts_30 ?_
          refine lv_iload_n hx hb dX11_parts_31 rfl (lv_at hl 2 rfl) ?_
          refine lv_icmp_ne (tgt := 39) hx hb dX11_parts_32 (by decide) (fun hc_32 => ?_) (fun hc_32 => ?_)
          · rw [if_neg hc_32] at hf
            refine lv_iconst (v := (0 : Int32)) hx hb dX11_parts_39 (by decide) ?_
            refine lv_iadd hx hb dX11_parts_40 ?_
            refine lv_istore_n (lv' := [(1, .int (l1 + (0 : Int32))), (0, .ref qt), (2, .int l2)]) hx hb dX11_parts_41 rfl hl (by decide) rfl (fun ls hl => ?_)
            refine lv_iinc (v := (l2 + (1 : Int32))) (lv' := [(2, .int (l2 + (1 : Int32))), (1, .int (l1 + (0 : Int32))), (0, .ref qt)]) hx hb dX11_parts_42 hl (k := 2) rfl rfl (by decide) rfl (fun ls hl => ?_)
            refine lv_goto (tgt := 8) hx hb dX11_parts_45 (by decide) ?_
            exact ih8 ((l1 + (0 : Int32))) ((l2 + (1 : Int32))) (cft_label) _ _ (hP.sub [1, 2, 0] rfl) (hD.sub [1, 2, 0] (by decide) rfl) hS _ (lv_sub hl [2, 1, 0] rfl) hf
          · rw [if_pos hc_32] at hf
            refine lv_iconst (v := (1 : Int32)) hx hb dX11_parts_35 (by decide) ?_
            refine lv_goto (tgt := 40) hx hb dX11_parts_36 (by decide) ?_
            refine lv_iadd hx hb dX11_parts_40 ?_
            refine lv_istore_n (lv' := [(1, .int (l1 + (1 : Int32))), (0, .ref qt), (2, .int l2)]) hx hb dX11_parts_41 rfl hl (by decide) rfl (fun ls hl => ?_)
            refine lv_iinc (v := (l2 + (1 : Int32))) (lv' := [(2, .int (l2 + (1 : Int32))), (1, .int (l1 + (1 : Int32))), (0, .ref qt)]) hx hb dX11_parts_42 hl (k := 2) rfl rfl (by decide) rfl (fun ls hl => ?_)
            refine lv_goto (tgt := 8) hx hb dX11_parts_45 (by decide) ?_
            exact ih8 ((l1 + (1 : Int32))) ((l2 + (1 : Int32))) (cft_label) _ _ (hP.sub [1, 2, 0] rfl) (hD.sub [1, 2, 0] (by decide) rfl) hS _ (lv_sub hl [2, 1, 0] rfl) hf
  rw [f_X11_parts] at hf
  refine lv_aload_n hx hb dX11_parts_0 rfl (lv_at hl 0 rfl) ?_
  obtain ⟨o1_0, hq_1, hf⟩ := bnd1_s hf
  refine kcallv (wc := [(qt, .inr (11, [.ref qt_now, .ref xt_past, .int (it_saved), .ref xt_text, .int (it_length), .ref xt_doors, .int (it_doorMany), .ref qt_label, .int (it_drawn), .ref xt_far, .ref xt_ring, .int (it_walker), .int (it_from), .ref xt_was, .int (it_steps), .int (it_faultAt), .int (it_mover)])), (qt_now, .inl (cy.1, 639, .inl (ft_now))), (qt_label, .inl (cy.1, 210, .inl (ft_label)))]) (wr := []) (w1 := [(qt, .inr (11, [.ref qt_now, .ref xt_past, .int (it_saved), .ref xt_text, .int (it_length), .ref xt_doors, .int (it_doorMany), .ref qt_label, .int (it_drawn), .ref xt_far, .ref xt_ring, .int (it_walker), .int (it_from), .ref xt_was, .int (it_steps), .int (it_faultAt), .int (it_mover)])), (qt_now, .inl (cy.1, 639, .inl (ft_now))), (qt_label, .inl (cy.1, 210, .inl (o1_0)))]) hK hP hD hS hA hG [0, 1, 2] [] rfl rfl rfl rfl rfl (fun hU hPc => va_runV (As := []) (rest := []) ⟨hx, hb, hml, hown, hts⟩ (c_X11_labels l dC dI cy G s.heap.size qt qt_now qt_label xt_past xt_text xt_doors xt_far xt_ring xt_was (it_saved) (it_length) (it_doorMany) (it_drawn) (it_walker) (it_from) (it_steps) (it_faultAt) (it_mover) N (ft_now) (ft_label) o1_0 hq_1) (cwV 0 hts gX11_parts_X11_labels rfl rfl rfl hdX11_labels ⟨Nat.le_of_ble_eq_true rfl, Nat.le_of_ble_eq_true rfl⟩) ⟨kBlind, (va_recv hK hP (ci := 11) (q0 := 0) rfl rfl), fun U h1 h2 => ⟨rfl, hU U h1 h2⟩⟩ rfl rfl hl.1 rfl (lv_room (Nat.le_of_ble_eq_true rfl)) dX11_parts_1 ⟨Nat.zero_le _, Nat.zero_le _⟩) (fun _ _ h => h) (fun H locs hP hD hS => ?_)
  have hP : va_P (dC, dI) vwCl [(qt, .inr (11, [.ref qt_now, .ref xt_past, .int (it_saved), .ref xt_text, .int (it_length), .ref xt_doors, .int (it_doorMany), .ref qt_label, .int (it_drawn), .ref xt_far, .ref xt_ring, .int (it_walker), .int (it_from), .ref xt_was, .int (it_steps), .int (it_faultAt), .int (it_mover)])), (qt_now, .inl (cy.1, 639, .inl (ft_now))), (qt_label, .inl (cy.1, 210, .inl (o1_0)))] H := hP
  have hD : va_D A [(qt, .inr (11, [.ref qt_now, .ref xt_past, .int (it_saved), .ref xt_text, .int (it_length), .ref xt_doors, .int (it_doorMany), .ref qt_label, .int (it_drawn), .ref xt_far, .ref xt_ring, .int (it_walker), .int (it_from), .ref xt_was, .int (it_steps), .int (it_faultAt), .int (it_mover)])), (qt_now, .inl (cy.1, 639, .inl (ft_now))), (qt_label, .inl (cy.1, 210, .inl (o1_0)))] := hD
  refine lv_iconst (v := (0 : Int32)) hx hb dX11_parts_4 (by decide) ?_
  refine lv_istore_n (lv' := [(1, .int (0 : Int32)), (0, .ref qt)]) hx hb dX11_parts_5 rfl hl (by decide) rfl (fun ls hl => ?_)
  refine lv_iconst (v := (0 : Int32)) hx hb dX11_parts_6 (by decide) ?_
  refine lv_istore_n (lv' := [(2, .int (0 : Int32)), (1, .int (0 : Int32)), (0, .ref qt)]) hx hb dX11_parts_7 rfl hl (by decide) rfl (fun ls hl => ?_)
  exact B8 N ((0 : Int32)) ((0 : Int32)) (o1_0) _ _ (hP.sub [0, 1, 2] rfl) (hD.sub [0, 1, 2] (by decide) rfl) hS _ (lv_sub hl [2, 1, 0] rfl) hf
theorem hdX11_parts : yX11_parts.cls = RX11 ∧ yX11_parts.cls ≠ "java/lang/invoke/MethodHandle" ∧ yX11_parts.cls ≠ "java/lang/invoke/VarHandle" ∧ (parseMethodDescriptor yX11_parts.desc).map (fun d => d.parameters.length) = some 0 := by decide +kernel
noncomputable def f_X11_loops (N : Nat) (ft_now : Nat → Int32) (ft_label : Nat → Int32) : Option (Int32 × (Nat → Int32)) :=
  bnd1 (f_X11_openDoors N (ft_now)) fun r1 =>
  bnd1 (f_X11_rooms N (ft_now)) fun r5 =>
  bnd2 (f_X11_parts N (ft_now) (ft_label)) fun r10 o10_0 =>
  some (((r1 - r5) + r10), o10_0)
abbrev rm_X11_loops : Room := { frames := 8, cells := 0, slots := 0, locals := 179 }
set_option maxHeartbeats 4000000 in
set_option maxRecDepth 100000 in
theorem c_X11_loops (l : Launch) (dC : Nat → ClassId) (dI : Nat → Nat → Nat) (cy : gC) (G : gT) (sz : Nat) (qt : Nat) (qt_now : Nat) (qt_label : Nat) (xt_past : Nat) (xt_text : Nat) (xt_doors : Nat) (xt_far : Nat) (xt_ring : Nat) (xt_was : Nat) (it_saved : Int32) (it_length : Int32) (it_doorMany : Int32) (it_drawn : Int32) (it_walker : Int32) (it_from : Int32) (it_steps : Int32) (it_faultAt : Int32) (it_mover : Int32) (N : Nat) (ft_now : Nat → Int32) (ft_label : Nat → Int32) (out : Int32 × (Nat → Int32)) (hf : f_X11_loops N ft_now ft_label = some out) : Met l yX11_loops wsX11_loops rm_X11_loops (va_Pc [.ref qt] (kP (dC, dI) cy G [(qt, .inr (11, [.ref qt_now, .ref xt_past, .int (it_saved), .ref xt_text, .int (it_length), .ref xt_doors, .int (it_doorMany), .ref qt_label, .int (it_drawn), .ref xt_far, .ref xt_ring, .int (it_walker), .int (it_from), .ref xt_was, .int (it_steps), .int (it_faultAt), .int (it_mover)])), (qt_now, .inl (cy.1, 639, .inl (ft_now))), (qt_label, .inl (cy.1, 210, .inl (ft_label)))] sz)) (va_Qi (fun r (_ : Unit) => r = out.1) (fun _ => kQ (dC, dI) cy [(qt, .inr (11, [.ref qt_now, .ref xt_past, .int (it_saved), .ref xt_text, .int (it_length), .ref xt_doors, .int (it_doorMany), .ref qt_label, .int (it_drawn), .ref xt_far, .ref xt_ring, .int (it_walker), .int (it_from), .ref xt_was, .int (it_steps), .int (it_faultAt), .int (it_mover)])), (qt_now, .inl (cy.1, 639, .inl (ft_now))), (qt_label, .inl (cy.1, 210, .inl (out.2)))] (va_A [(qt, .inr (11, [.ref qt_now, .ref xt_past, .int (it_saved), .ref xt_text, .int (it_length), .ref xt_doors, .int (it_doorMany), .ref qt_label, .int (it_drawn), .ref xt_far, .ref xt_ring, .int (it_walker), .int (it_from), .ref xt_was, .int (it_steps), .int (it_faultAt), .int (it_mover)])), (qt_now, .inl (cy.1, 639, .inl (ft_now))), (qt_label, .inl (cy.1, 210, .inl (ft_label)))] sz)) (va_A [(qt, .inr (11, [.ref qt_now, .ref xt_past, .int (it_saved), .ref xt_text, .int (it_length), .ref xt_doors, .int (it_doorMany), .ref qt_label, .int (it_drawn), .ref xt_far, .ref xt_ring, .int (it_walker), .int (it_from), .ref xt_was, .int (it_steps), .int (it_faultAt), .int (it_mover)])), (qt_now, .inl (cy.1, 639, .inl (ft_now))), (qt_label, .inl (cy.1, 210, .inl (ft_label)))] sz)) 0 0 (va_A [(qt, .inr (11, [.ref qt_now, .ref xt_past, .int (it_saved), .ref xt_text, .int (it_length), .ref xt_doors, .int (it_doorMany), .ref qt_label, .int (it_drawn), .ref xt_far, .ref xt_ring, .int (it_walker), .int (it_from), .ref xt_was, .int (it_steps), .int (it_faultAt), .int (it_mover)])), (qt_now, .inl (cy.1, 639, .inl (ft_now))), (qt_label, .inl (cy.1, 210, .inl (ft_label)))] sz) := by
  refine Met.ofW (cc := cX11_loops) (maxL := 1) (ret := (some .int)) (by decide) rfl ?_
  intro p e s m args below meth c s₁ B hml hv
  obtain ⟨rfl, hsz, hP, hK, hD0, hG⟩ := hv
  have hx := B.exec
  have hb := B.bytes
  have hr := B.returns
  have hts := atoms_spec (ws := wsX11_loops) B.pre
  have hown : s.vm.findClass RX11 = some m.cls := findClass_of_methodNamed B.named
  have hlocks := B.notSynchronized
  subst hsz
  have hD := hD0.self (sz := s.heap.size)
  generalize hAe : va_A [(qt, .inr (11, [.ref qt_now, .ref xt_past, .int (it_saved), .ref xt_text, .int (it_length), .ref xt_doors, .int (it_doorMany), .ref qt_label, .int (it_drawn), .ref xt_far, .ref xt_ring, .int (it_walker), .int (it_from), .ref xt_was, .int (it_steps), .int (it_faultAt), .int (it_mover)])), (qt_now, .inl (cy.1, 639, .inl (ft_now))), (qt_label, .inl (cy.1, 210, .inl (ft_label)))] s.heap.size = A at hD hG ⊢
  have hA : ∀ q : Nat, s.heap.size ≤ q → A q := fun q h => by rw [← hAe]; exact Or.inr h
  have hS : va_S A s.heap s.heap [] := va_S.rf
  have hP : va_P (dC, dI) vwCl [(qt, .inr (11, [.ref qt_now, .ref xt_past, .int (it_saved), .ref xt_text, .int (it_length), .ref xt_doors, .int (it_doorMany), .ref qt_label, .int (it_drawn), .ref xt_far, .ref xt_ring, .int (it_walker), .int (it_from), .ref xt_was, .int (it_steps), .int (it_faultAt), .int (it_mover)])), (qt_now, .inl (cy.1, 639, .inl (ft_now))), (qt_label, .inl (cy.1, 210, .inl (ft_label)))] s.heap := hP
  have hl := lv_entry ([.ref qt]) (n := 1) (Nat.le_of_ble_eq_true rfl)
  rw [lg_entry_eq]
  generalize (lg_sl ([.ref qt]) ++ List.replicate (1 - (lg_sl ([.ref qt])).length) Slot.unset).toArray = ls at hl ⊢
  have hl : lv_has ls 1 [(0, .ref qt)] := hl
  refine kgen (fun Q hQ => ?_)
  rw [f_X11_loops] at hf
  refine lv_aload_n hx hb dX11_loops_0 rfl (lv_at hl 0 rfl) ?_
  obtain ⟨r1, hq_1, hf⟩ := bnd1_s hf
  refine kcalli (wc := [(qt, .inr (11, [.ref qt_now, .ref xt_past, .int (it_saved), .ref xt_text, .int (it_length), .ref xt_doors, .int (it_doorMany), .ref qt_label, .int (it_drawn), .ref xt_far, .ref xt_ring, .int (it_walker), .int (it_from), .ref xt_was, .int (it_steps), .int (it_faultAt), .int (it_mover)])), (qt_now, .inl (cy.1, 639, .inl (ft_now)))]) (wr := [(qt_label, .inl (cy.1, 210, .inl (ft_label)))]) (w1 := [(qt, .inr (11, [.ref qt_now, .ref xt_past, .int (it_saved), .ref xt_text, .int (it_length), .ref xt_doors, .int (it_doorMany), .ref qt_label, .int (it_drawn), .ref xt_far, .ref xt_ring, .int (it_walker), .int (it_from), .ref xt_was, .int (it_steps), .int (it_faultAt), .int (it_mover)])), (qt_now, .inl (cy.1, 639, .inl (ft_now)))]) hK hP hD hS hA hG [0, 1] [2] rfl rfl rfl rfl rfl (fun hU hPc => va_runV (As := []) (rest := []) ⟨hx, hb, hml, hown, hts⟩ (c_X11_openDoors l dC dI cy G s.heap.size qt qt_now xt_past xt_text xt_doors qt_label xt_far xt_ring xt_was (it_saved) (it_length) (it_doorMany) (it_drawn) (it_walker) (it_from) (it_steps) (it_faultAt) (it_mover) N (ft_now) r1 hq_1) (cwV 0 hts gX11_loops_X11_openDoors rfl rfl rfl hdX11_openDoors ⟨Nat.le_of_ble_eq_true rfl, Nat.le_of_ble_eq_true rfl⟩) ⟨kBlind, (va_recv hK hP (ci := 11) (q0 := 0) rfl rfl), fun U h1 h2 => ⟨rfl, hU U h1 h2⟩⟩ rfl rfl hl.1 rfl (lv_room (Nat.le_of_ble_eq_true rfl)) dX11_loops_1 ⟨Nat.zero_le _, Nat.zero_le _⟩) (r1) (fun _ _ h => h) (fun _ _ h => h) (fun H locs hP hD hS => ?_)
  have hP : va_P (dC, dI) vwCl [(qt_label, .inl (cy.1, 210, .inl (ft_label))), (qt, .inr (11, [.ref qt_now, .ref xt_past, .int (it_saved), .ref xt_text, .int (it_length), .ref xt_doors, .int (it_doorMany), .ref qt_label, .int (it_drawn), .ref xt_far, .ref xt_ring, .int (it_walker), .int (it_from), .ref xt_was, .int (it_steps), .int (it_faultAt), .int (it_mover)])), (qt_now, .inl (cy.1, 639, .inl (ft_now)))] H := hP
  have hD : va_D A [(qt_label, .inl (cy.1, 210, .inl (ft_label))), (qt, .inr (11, [.ref qt_now, .ref xt_past, .int (it_saved), .ref xt_text, .int (it_length), .ref xt_doors, .int (it_doorMany), .ref qt_label, .int (it_drawn), .ref xt_far, .ref xt_ring, .int (it_walker), .int (it_from), .ref xt_was, .int (it_steps), .int (it_faultAt), .int (it_mover)])), (qt_now, .inl (cy.1, 639, .inl (ft_now)))] := hD
  refine lv_aload_n hx hb dX11_loops_4 rfl (lv_at hl 0 rfl) ?_
  obtain ⟨r5, hq_5, hf⟩ := bnd1_s hf
  refine kcalli (wc := [(qt, .inr (11, [.ref qt_now, .ref xt_past, .int (it_saved), .ref xt_text, .int (it_length), .ref xt_doors, .int (it_doorMany), .ref qt_label, .int (it_drawn), .ref xt_far, .ref xt_ring, .int (it_walker), .int (it_from), .ref xt_was, .int (it_steps), .int (it_faultAt), .int (it_mover)])), (qt_now, .inl (cy.1, 639, .inl (ft_now)))]) (wr := [(qt_label, .inl (cy.1, 210, .inl (ft_label)))]) (w1 := [(qt, .inr (11, [.ref qt_now, .ref xt_past, .int (it_saved), .ref xt_text, .int (it_length), .ref xt_doors, .int (it_doorMany), .ref qt_label, .int (it_drawn), .ref xt_far, .ref xt_ring, .int (it_walker), .int (it_from), .ref xt_was, .int (it_steps), .int (it_faultAt), .int (it_mover)])), (qt_now, .inl (cy.1, 639, .inl (ft_now)))]) hK hP hD hS hA hG [1, 2] [0] rfl rfl rfl rfl rfl (fun hU hPc => va_runV (As := []) (rest := [.int r1]) ⟨hx, hb, hml, hown, hts⟩ (c_X11_rooms l dC dI cy G H.size qt qt_now xt_past xt_text xt_doors qt_label xt_far xt_ring xt_was (it_saved) (it_length) (it_doorMany) (it_drawn) (it_walker) (it_from) (it_steps) (it_faultAt) (it_mover) N (ft_now) r5 hq_5) (cwV 0 hts gX11_loops_X11_rooms rfl rfl rfl hdX11_rooms ⟨Nat.le_of_ble_eq_true rfl, Nat.le_of_ble_eq_true rfl⟩) ⟨kBlind, (va_recv hK hP (ci := 11) (q0 := 1) rfl rfl), fun U h1 h2 => ⟨rfl, hU U h1 h2⟩⟩ rfl rfl hl.1 rfl (lv_room (Nat.le_of_ble_eq_true rfl)) dX11_loops_5 ⟨Nat.zero_le _, Nat.zero_le _⟩) (r5) (fun _ _ h => h) (fun _ _ h => h) (fun H locs hP hD hS => ?_)
  have hP : va_P (dC, dI) vwCl [(qt_label, .inl (cy.1, 210, .inl (ft_label))), (qt, .inr (11, [.ref qt_now, .ref xt_past, .int (it_saved), .ref xt_text, .int (it_length), .ref xt_doors, .int (it_doorMany), .ref qt_label, .int (it_drawn), .ref xt_far, .ref xt_ring, .int (it_walker), .int (it_from), .ref xt_was, .int (it_steps), .int (it_faultAt), .int (it_mover)])), (qt_now, .inl (cy.1, 639, .inl (ft_now)))] H := hP
  have hD : va_D A [(qt_label, .inl (cy.1, 210, .inl (ft_label))), (qt, .inr (11, [.ref qt_now, .ref xt_past, .int (it_saved), .ref xt_text, .int (it_length), .ref xt_doors, .int (it_doorMany), .ref qt_label, .int (it_drawn), .ref xt_far, .ref xt_ring, .int (it_walker), .int (it_from), .ref xt_was, .int (it_steps), .int (it_faultAt), .int (it_mover)])), (qt_now, .inl (cy.1, 639, .inl (ft_now)))] := hD
  refine lv_isub hx hb dX11_loops_8 ?_
  refine lv_aload_n hx hb dX11_loops_9 rfl (lv_at hl 0 rfl) ?_
  obtain ⟨r10, o10_0, hq_10, hf⟩ := bnd2_s hf
  refine kcalli (wc := [(qt, .inr (11, [.ref qt_now, .ref xt_past, .int (it_saved), .ref xt_text, .int (it_length), .ref xt_doors, .int (it_doorMany), .ref qt_label, .int (it_drawn), .ref xt_far, .ref xt_ring, .int (it_walker), .int (it_from), .ref xt_was, .int (it_steps), .int (it_faultAt), .int (it_mover)])), (qt_now, .inl (cy.1, 639, .inl (ft_now))), (qt_label, .inl (cy.1, 210, .inl (ft_label)))]) (wr := []) (w1 := [(qt, .inr (11, [.ref qt_now, .ref xt_past, .int (it_saved), .ref xt_text, .int (it_length), .ref xt_doors, .int (it_doorMany), .ref qt_label, .int (it_drawn), .ref xt_far, .ref xt_ring, .int (it_walker), .int (it_from), .ref xt_was, .int (it_steps), .int (it_faultAt), .int (it_mover)])), (qt_now, .inl (cy.1, 639, .inl (ft_now))), (qt_label, .inl (cy.1, 210, .inl (o10_0)))]) hK hP hD hS hA hG [1, 2, 0] [] rfl rfl rfl rfl rfl (fun hU hPc => va_runV (As := []) (rest := [.int (r1 - r5)]) ⟨hx, hb, hml, hown, hts⟩ (c_X11_parts l dC dI cy G H.size qt qt_now qt_label xt_past xt_text xt_doors xt_far xt_ring xt_was (it_saved) (it_length) (it_doorMany) (it_drawn) (it_walker) (it_from) (it_steps) (it_faultAt) (it_mover) N (ft_now) (ft_label) (r10, o10_0) hq_10) (cwV 0 hts gX11_loops_X11_parts rfl rfl rfl hdX11_parts ⟨Nat.le_of_ble_eq_true rfl, Nat.le_of_ble_eq_true rfl⟩) ⟨kBlind, (va_recv hK hP (ci := 11) (q0 := 1) rfl rfl), fun U h1 h2 => ⟨rfl, hU U h1 h2⟩⟩ rfl rfl hl.1 rfl (lv_room (Nat.le_of_ble_eq_true rfl)) dX11_loops_10 ⟨Nat.zero_le _, Nat.zero_le _⟩) (r10) (fun _ _ h => h) (fun _ _ h => h) (fun H locs hP hD hS => ?_)
  have hP : va_P (dC, dI) vwCl [(qt, .inr (11, [.ref qt_now, .ref xt_past, .int (it_saved), .ref xt_text, .int (it_length), .ref xt_doors, .int (it_doorMany), .ref qt_label, .int (it_drawn), .ref xt_far, .ref xt_ring, .int (it_walker), .int (it_from), .ref xt_was, .int (it_steps), .int (it_faultAt), .int (it_mover)])), (qt_now, .inl (cy.1, 639, .inl (ft_now))), (qt_label, .inl (cy.1, 210, .inl (o10_0)))] H := hP
  have hD : va_D A [(qt, .inr (11, [.ref qt_now, .ref xt_past, .int (it_saved), .ref xt_text, .int (it_length), .ref xt_doors, .int (it_doorMany), .ref qt_label, .int (it_drawn), .ref xt_far, .ref xt_ring, .int (it_walker), .int (it_from), .ref xt_was, .int (it_steps), .int (it_faultAt), .int (it_mover)])), (qt_now, .inl (cy.1, 639, .inl (ft_now))), (qt_label, .inl (cy.1, 210, .inl (o10_0)))] := hD
  refine lv_iadd hx hb dX11_loops_13 ?_
  cases hf
  subst hQ
  exact kiret hx hb hr hlocks hK (hP.sub [0, 1, 2] rfl) (hD.sub [0, 1, 2] (by decide) rfl) hS rfl dX11_loops_14
theorem hdX11_loops : yX11_loops.cls = RX11 ∧ yX11_loops.cls ≠ "java/lang/invoke/MethodHandle" ∧ yX11_loops.cls ≠ "java/lang/invoke/VarHandle" ∧ (parseMethodDescriptor yX11_loops.desc).map (fun d => d.parameters.length) = some 0 := by decide +kernel
noncomputable def f_X11_isSingle (N : Nat) (ft_now : Nat → Int32) (ft_label : Nat → Int32) : Option (Int32 × (Nat → Int32)) :=
  bnd2 (f_X11_parts N (ft_now) (ft_label)) fun r1 o1_0 =>
  if r1 = (1 : Int32) then
    bnd2 (f_X11_loops N (ft_now) (o1_0)) fun r9 o9_0 =>
    if r9 = 0 then
      some ((1 : Int32), o9_0)
    else
      some ((0 : Int32), o9_0)
  else
    some ((0 : Int32), o1_0)
abbrev rm_X11_isSingle : Room := { frames := 9, cells := 0, slots := 0, locals := 199 }
set_option maxHeartbeats 4000000 in
set_option maxRecDepth 100000 in
theorem c_X11_isSingle (l : Launch) (dC : Nat → ClassId) (dI : Nat → Nat → Nat) (cy : gC) (G : gT) (sz : Nat) (qt : Nat) (qt_now : Nat) (qt_label : Nat) (xt_past : Nat) (xt_text : Nat) (xt_doors : Nat) (xt_far : Nat) (xt_ring : Nat) (xt_was : Nat) (it_saved : Int32) (it_length : Int32) (it_doorMany : Int32) (it_drawn : Int32) (it_walker : Int32) (it_from : Int32) (it_steps : Int32) (it_faultAt : Int32) (it_mover : Int32) (N : Nat) (ft_now : Nat → Int32) (ft_label : Nat → Int32) (out : Int32 × (Nat → Int32)) (hf : f_X11_isSingle N ft_now ft_label = some out) : Met l yX11_isSingle wsX11_isSingle rm_X11_isSingle (va_Pc [.ref qt] (kP (dC, dI) cy G [(qt, .inr (11, [.ref qt_now, .ref xt_past, .int (it_saved), .ref xt_text, .int (it_length), .ref xt_doors, .int (it_doorMany), .ref qt_label, .int (it_drawn), .ref xt_far, .ref xt_ring, .int (it_walker), .int (it_from), .ref xt_was, .int (it_steps), .int (it_faultAt), .int (it_mover)])), (qt_now, .inl (cy.1, 639, .inl (ft_now))), (qt_label, .inl (cy.1, 210, .inl (ft_label)))] sz)) (va_Qi (fun r (_ : Unit) => r = out.1) (fun _ => kQ (dC, dI) cy [(qt, .inr (11, [.ref qt_now, .ref xt_past, .int (it_saved), .ref xt_text, .int (it_length), .ref xt_doors, .int (it_doorMany), .ref qt_label, .int (it_drawn), .ref xt_far, .ref xt_ring, .int (it_walker), .int (it_from), .ref xt_was, .int (it_steps), .int (it_faultAt), .int (it_mover)])), (qt_now, .inl (cy.1, 639, .inl (ft_now))), (qt_label, .inl (cy.1, 210, .inl (out.2)))] (va_A [(qt, .inr (11, [.ref qt_now, .ref xt_past, .int (it_saved), .ref xt_text, .int (it_length), .ref xt_doors, .int (it_doorMany), .ref qt_label, .int (it_drawn), .ref xt_far, .ref xt_ring, .int (it_walker), .int (it_from), .ref xt_was, .int (it_steps), .int (it_faultAt), .int (it_mover)])), (qt_now, .inl (cy.1, 639, .inl (ft_now))), (qt_label, .inl (cy.1, 210, .inl (ft_label)))] sz)) (va_A [(qt, .inr (11, [.ref qt_now, .ref xt_past, .int (it_saved), .ref xt_text, .int (it_length), .ref xt_doors, .int (it_doorMany), .ref qt_label, .int (it_drawn), .ref xt_far, .ref xt_ring, .int (it_walker), .int (it_from), .ref xt_was, .int (it_steps), .int (it_faultAt), .int (it_mover)])), (qt_now, .inl (cy.1, 639, .inl (ft_now))), (qt_label, .inl (cy.1, 210, .inl (ft_label)))] sz)) 0 0 (va_A [(qt, .inr (11, [.ref qt_now, .ref xt_past, .int (it_saved), .ref xt_text, .int (it_length), .ref xt_doors, .int (it_doorMany), .ref qt_label, .int (it_drawn), .ref xt_far, .ref xt_ring, .int (it_walker), .int (it_from), .ref xt_was, .int (it_steps), .int (it_faultAt), .int (it_mover)])), (qt_now, .inl (cy.1, 639, .inl (ft_now))), (qt_label, .inl (cy.1, 210, .inl (ft_label)))] sz) := by
  refine Met.ofW (cc := cX11_isSingle) (maxL := 1) (ret := (some .boolean)) (by decide) rfl ?_
  intro p e s m args below meth c s₁ B hml hv
  obtain ⟨rfl, hsz, hP, hK, hD0, hG⟩ := hv
  have hx := B.exec
  have hb := B.bytes
  have hr := B.returns
  have hts := atoms_spec (ws := wsX11_isSingle) B.pre
  have hown : s.vm.findClass RX11 = some m.cls := findClass_of_methodNamed B.named
  have hlocks := B.notSynchronized
  subst hsz
  have hD := hD0.self (sz := s.heap.size)
  generalize hAe : va_A [(qt, .inr (11, [.ref qt_now, .ref xt_past, .int (it_saved), .ref xt_text, .int (it_length), .ref xt_doors, .int (it_doorMany), .ref qt_label, .int (it_drawn), .ref xt_far, .ref xt_ring, .int (it_walker), .int (it_from), .ref xt_was, .int (it_steps), .int (it_faultAt), .int (it_mover)])), (qt_now, .inl (cy.1, 639, .inl (ft_now))), (qt_label, .inl (cy.1, 210, .inl (ft_label)))] s.heap.size = A at hD hG ⊢
  have hA : ∀ q : Nat, s.heap.size ≤ q → A q := fun q h => by rw [← hAe]; exact Or.inr h
  have hS : va_S A s.heap s.heap [] := va_S.rf
  have hP : va_P (dC, dI) vwCl [(qt, .inr (11, [.ref qt_now, .ref xt_past, .int (it_saved), .ref xt_text, .int (it_length), .ref xt_doors, .int (it_doorMany), .ref qt_label, .int (it_drawn), .ref xt_far, .ref xt_ring, .int (it_walker), .int (it_from), .ref xt_was, .int (it_steps), .int (it_faultAt), .int (it_mover)])), (qt_now, .inl (cy.1, 639, .inl (ft_now))), (qt_label, .inl (cy.1, 210, .inl (ft_label)))] s.heap := hP
  have hl := lv_entry ([.ref qt]) (n := 1) (Nat.le_of_ble_eq_true rfl)
  rw [lg_entry_eq]
  generalize (lg_sl ([.ref qt]) ++ List.replicate (1 - (lg_sl ([.ref qt])).length) Slot.unset).toArray = ls at hl ⊢
  have hl : lv_has ls 1 [(0, .ref qt)] := hl
  refine kgen (fun Q hQ => ?_)
  rw [f_X11_isSingle] at hf
  refine lv_aload_n hx hb dX11_isSingle_0 rfl (lv_at hl 0 rfl) ?_
  obtain ⟨r1, o1_0, hq_1, hf⟩ := bnd2_s hf
  refine kcalli (wc := [(qt, .inr (11, [.ref qt_now, .ref xt_past, .int (it_saved), .ref xt_text, .int (it_length), .ref xt_doors, .int (it_doorMany), .ref qt_label, .int (it_drawn), .ref xt_far, .ref xt_ring, .int (it_walker), .int (it_from), .ref xt_was, .int (it_steps), .int (it_faultAt), .int (it_mover)])), (qt_now, .inl (cy.1, 639, .inl (ft_now))), (qt_label, .inl (cy.1, 210, .inl (ft_label)))]) (wr := []) (w1 := [(qt, .inr (11, [.ref qt_now, .ref xt_past, .int (it_saved), .ref xt_text, .int (it_length), .ref xt_doors, .int (it_doorMany), .ref qt_label, .int (it_drawn), .ref xt_far, .ref xt_ring, .int (it_walker), .int (it_from), .ref xt_was, .int (it_steps), .int (it_faultAt), .int (it_mover)])), (qt_now, .inl (cy.1, 639, .inl (ft_now))), (qt_label, .inl (cy.1, 210, .inl (o1_0)))]) hK hP hD hS hA hG [0, 1, 2] [] rfl rfl rfl rfl rfl (fun hU hPc => va_runV (As := []) (rest := []) ⟨hx, hb, hml, hown, hts⟩ (c_X11_parts l dC dI cy G s.heap.size qt qt_now qt_label xt_past xt_text xt_doors xt_far xt_ring xt_was (it_saved) (it_length) (it_doorMany) (it_drawn) (it_walker) (it_from) (it_steps) (it_faultAt) (it_mover) N (ft_now) (ft_label) (r1, o1_0) hq_1) (cwV 0 hts gX11_isSingle_X11_parts rfl rfl rfl hdX11_parts ⟨Nat.le_of_ble_eq_true rfl, Nat.le_of_ble_eq_true rfl⟩) ⟨kBlind, (va_recv hK hP (ci := 11) (q0 := 0) rfl rfl), fun U h1 h2 => ⟨rfl, hU U h1 h2⟩⟩ rfl rfl hl.1 rfl (lv_room (Nat.le_of_ble_eq_true rfl)) dX11_isSingle_1 ⟨Nat.zero_le _, Nat.zero_le _⟩) (r1) (fun _ _ h => h) (fun _ _ h => h) (fun H locs hP hD hS => ?_)
  have hP : va_P (dC, dI) vwCl [(qt, .inr (11, [.ref qt_now, .ref xt_past, .int (it_saved), .ref xt_text, .int (it_length), .ref xt_doors, .int (it_doorMany), .ref qt_label, .int (it_drawn), .ref xt_far, .ref xt_ring, .int (it_walker), .int (it_from), .ref xt_was, .int (it_steps), .int (it_faultAt), .int (it_mover)])), (qt_now, .inl (cy.1, 639, .inl (ft_now))), (qt_label, .inl (cy.1, 210, .inl (o1_0)))] H := hP
  have hD : va_D A [(qt, .inr (11, [.ref qt_now, .ref xt_past, .int (it_saved), .ref xt_text, .int (it_length), .ref xt_doors, .int (it_doorMany), .ref qt_label, .int (it_drawn), .ref xt_far, .ref xt_ring, .int (it_walker), .int (it_from), .ref xt_was, .int (it_steps), .int (it_faultAt), .int (it_mover)])), (qt_now, .inl (cy.1, 639, .inl (ft_now))), (qt_label, .inl (cy.1, 210, .inl (o1_0)))] := hD
  refine lv_iconst (v := (1 : Int32)) hx hb dX11_isSingle_4 (by decide) ?_
  refine lv_icmp_ne (tgt := 19) hx hb dX11_isSingle_5 (by decide) (fun hc_5 => ?_) (fun hc_5 => ?_)
  · rw [if_neg hc_5] at hf
    refine lv_iconst (v := (0 : Int32)) hx hb dX11_isSingle_19 (by decide) ?_
    cases hf
    subst hQ
    exact kzret hx hb hr hlocks rfl hK (hP.sub [0, 1, 2] rfl) (hD.sub [0, 1, 2] (by decide) rfl) hS rfl dX11_isSingle_20
  · rw [if_pos hc_5] at hf
    refine lv_aload_n hx hb dX11_isSingle_8 rfl (lv_at hl 0 rfl) ?_
    obtain ⟨r9, o9_0, hq_9, hf⟩ := bnd2_s hf
    refine kcalli (wc := [(qt, .inr (11, [.ref qt_now, .ref xt_past, .int (it_saved), .ref xt_text, .int (it_length), .ref xt_doors, .int (it_doorMany), .ref qt_label, .int (it_drawn), .ref xt_far, .ref xt_ring, .int (it_walker), .int (it_from), .ref xt_was, .int (it_steps), .int (it_faultAt), .int (it_mover)])), (qt_now, .inl (cy.1, 639, .inl (ft_now))), (qt_label, .inl (cy.1, 210, .inl (o1_0)))]) (wr := []) (w1 := [(qt, .inr (11, [.ref qt_now, .ref xt_past, .int (it_saved), .ref xt_text, .int (it_length), .ref xt_doors, .int (it_doorMany), .ref qt_label, .int (it_drawn), .ref xt_far, .ref xt_ring, .int (it_walker), .int (it_from), .ref xt_was, .int (it_steps), .int (it_faultAt), .int (it_mover)])), (qt_now, .inl (cy.1, 639, .inl (ft_now))), (qt_label, .inl (cy.1, 210, .inl (o9_0)))]) hK hP hD hS hA hG [0, 1, 2] [] rfl rfl rfl rfl rfl (fun hU hPc => va_runV (As := []) (rest := []) ⟨hx, hb, hml, hown, hts⟩ (c_X11_loops l dC dI cy G H.size qt qt_now qt_label xt_past xt_text xt_doors xt_far xt_ring xt_was (it_saved) (it_length) (it_doorMany) (it_drawn) (it_walker) (it_from) (it_steps) (it_faultAt) (it_mover) N (ft_now) (o1_0) (r9, o9_0) hq_9) (cwV 0 hts gX11_isSingle_X11_loops rfl rfl rfl hdX11_loops ⟨Nat.le_of_ble_eq_true rfl, Nat.le_of_ble_eq_true rfl⟩) ⟨kBlind, (va_recv hK hP (ci := 11) (q0 := 0) rfl rfl), fun U h1 h2 => ⟨rfl, hU U h1 h2⟩⟩ rfl rfl hl.1 rfl (lv_room (Nat.le_of_ble_eq_true rfl)) dX11_isSingle_9 ⟨Nat.zero_le _, Nat.zero_le _⟩) (r9) (fun _ _ h => h) (fun _ _ h => h) (fun H locs hP hD hS => ?_)
    have hP : va_P (dC, dI) vwCl [(qt, .inr (11, [.ref qt_now, .ref xt_past, .int (it_saved), .ref xt_text, .int (it_length), .ref xt_doors, .int (it_doorMany), .ref qt_label, .int (it_drawn), .ref xt_far, .ref xt_ring, .int (it_walker), .int (it_from), .ref xt_was, .int (it_steps), .int (it_faultAt), .int (it_mover)])), (qt_now, .inl (cy.1, 639, .inl (ft_now))), (qt_label, .inl (cy.1, 210, .inl (o9_0)))] H := hP
    have hD : va_D A [(qt, .inr (11, [.ref qt_now, .ref xt_past, .int (it_saved), .ref xt_text, .int (it_length), .ref xt_doors, .int (it_doorMany), .ref qt_label, .int (it_drawn), .ref xt_far, .ref xt_ring, .int (it_walker), .int (it_from), .ref xt_was, .int (it_steps), .int (it_faultAt), .int (it_mover)])), (qt_now, .inl (cy.1, 639, .inl (ft_now))), (qt_label, .inl (cy.1, 210, .inl (o9_0)))] := hD
    refine lv_if_ne (tgt := 19) hx hb dX11_isSingle_12 (by decide) (fun hc_12 => ?_) (fun hc_12 => ?_)
    · rw [if_neg hc_12] at hf
      refine lv_iconst (v := (0 : Int32)) hx hb dX11_isSingle_19 (by decide) ?_
      cases hf
      subst hQ
      exact kzret hx hb hr hlocks rfl hK (hP.sub [0, 1, 2] rfl) (hD.sub [0, 1, 2] (by decide) rfl) hS rfl dX11_isSingle_20
    · rw [if_pos hc_12] at hf
      refine lv_iconst (v := (1 : Int32)) hx hb dX11_isSingle_15 (by decide) ?_
      refine lv_goto (tgt := 20) hx hb dX11_isSingle_16 (by decide) ?_
      cases hf
      subst hQ
      exact kzret hx hb hr hlocks rfl hK (hP.sub [0, 1, 2] rfl) (hD.sub [0, 1, 2] (by decide) rfl) hS rfl dX11_isSingle_20
theorem hdX11_isSingle : yX11_isSingle.cls = RX11 ∧ yX11_isSingle.cls ≠ "java/lang/invoke/MethodHandle" ∧ yX11_isSingle.cls ≠ "java/lang/invoke/VarHandle" ∧ (parseMethodDescriptor yX11_isSingle.desc).map (fun d => d.parameters.length) = some 0 := by decide +kernel
noncomputable def f_X11_isFork (N : Nat) (ft_now : Nat → Int32) (va1 : Int32) : Option (Int32) :=
  bnd1 (f_X11_isRoomAt (ft_now) (va1)) fun r2 =>
  if r2 = 0 then
    some ((0 : Int32))
  else
    bnd1 (f_X11_openOnes N (ft_now) (va1)) fun r10 =>
    if r10 ≤ (2 : Int32) then
      some ((0 : Int32))
    else
      some ((1 : Int32))
abbrev rm_X11_isFork : Room := { frames := 7, cells := 0, slots := 0, locals := 158 }
set_option maxHeartbeats 4000000 in
set_option maxRecDepth 100000 in
theorem c_X11_isFork (l : Launch) (dC : Nat → ClassId) (dI : Nat → Nat → Nat) (cy : gC) (G : gT) (sz : Nat) (qt : Nat) (qt_now : Nat) (xt_past : Nat) (xt_text : Nat) (xt_doors : Nat) (xt_label : Nat) (xt_far : Nat) (xt_ring : Nat) (xt_was : Nat) (it_saved : Int32) (it_length : Int32) (it_doorMany : Int32) (it_drawn : Int32) (it_walker : Int32) (it_from : Int32) (it_steps : Int32) (it_faultAt : Int32) (it_mover : Int32) (N : Nat) (ft_now : Nat → Int32) (va1 : Int32) (out : Int32) (hf : f_X11_isFork N ft_now va1 = some out) : Met l yX11_isFork wsX11_isFork rm_X11_isFork (va_Pc [.ref qt, .int va1] (kP (dC, dI) cy G [(qt, .inr (11, [.ref qt_now, .ref xt_past, .int (it_saved), .ref xt_text, .int (it_length), .ref xt_doors, .int (it_doorMany), .ref xt_label, .int (it_drawn), .ref xt_far, .ref xt_ring, .int (it_walker), .int (it_from), .ref xt_was, .int (it_steps), .int (it_faultAt), .int (it_mover)])), (qt_now, .inl (cy.1, 639, .inl (ft_now)))] sz)) (va_Qi (fun r (_ : Unit) => r = out) (fun _ => kQ (dC, dI) cy [(qt, .inr (11, [.ref qt_now, .ref xt_past, .int (it_saved), .ref xt_text, .int (it_length), .ref xt_doors, .int (it_doorMany), .ref xt_label, .int (it_drawn), .ref xt_far, .ref xt_ring, .int (it_walker), .int (it_from), .ref xt_was, .int (it_steps), .int (it_faultAt), .int (it_mover)])), (qt_now, .inl (cy.1, 639, .inl (ft_now)))] (va_A [(qt, .inr (11, [.ref qt_now, .ref xt_past, .int (it_saved), .ref xt_text, .int (it_length), .ref xt_doors, .int (it_doorMany), .ref xt_label, .int (it_drawn), .ref xt_far, .ref xt_ring, .int (it_walker), .int (it_from), .ref xt_was, .int (it_steps), .int (it_faultAt), .int (it_mover)])), (qt_now, .inl (cy.1, 639, .inl (ft_now)))] sz)) (va_A [(qt, .inr (11, [.ref qt_now, .ref xt_past, .int (it_saved), .ref xt_text, .int (it_length), .ref xt_doors, .int (it_doorMany), .ref xt_label, .int (it_drawn), .ref xt_far, .ref xt_ring, .int (it_walker), .int (it_from), .ref xt_was, .int (it_steps), .int (it_faultAt), .int (it_mover)])), (qt_now, .inl (cy.1, 639, .inl (ft_now)))] sz)) 0 0 (va_A [(qt, .inr (11, [.ref qt_now, .ref xt_past, .int (it_saved), .ref xt_text, .int (it_length), .ref xt_doors, .int (it_doorMany), .ref xt_label, .int (it_drawn), .ref xt_far, .ref xt_ring, .int (it_walker), .int (it_from), .ref xt_was, .int (it_steps), .int (it_faultAt), .int (it_mover)])), (qt_now, .inl (cy.1, 639, .inl (ft_now)))] sz) := by
  refine Met.ofW (cc := cX11_isFork) (maxL := 2) (ret := (some .boolean)) (by decide) rfl ?_
  intro p e s m args below meth c s₁ B hml hv
  obtain ⟨rfl, hsz, hP, hK, hD0, hG⟩ := hv
  have hx := B.exec
  have hb := B.bytes
  have hr := B.returns
  have hts := atoms_spec (ws := wsX11_isFork) B.pre
  have hown : s.vm.findClass RX11 = some m.cls := findClass_of_methodNamed B.named
  have hlocks := B.notSynchronized
  subst hsz
  have hD := hD0.self (sz := s.heap.size)
  generalize hAe : va_A [(qt, .inr (11, [.ref qt_now, .ref xt_past, .int (it_saved), .ref xt_text, .int (it_length), .ref xt_doors, .int (it_doorMany), .ref xt_label, .int (it_drawn), .ref xt_far, .ref xt_ring, .int (it_walker), .int (it_from), .ref xt_was, .int (it_steps), .int (it_faultAt), .int (it_mover)])), (qt_now, .inl (cy.1, 639, .inl (ft_now)))] s.heap.size = A at hD hG ⊢
  have hA : ∀ q : Nat, s.heap.size ≤ q → A q := fun q h => by rw [← hAe]; exact Or.inr h
  have hS : va_S A s.heap s.heap [] := va_S.rf
  have hP : va_P (dC, dI) vwCl [(qt, .inr (11, [.ref qt_now, .ref xt_past, .int (it_saved), .ref xt_text, .int (it_length), .ref xt_doors, .int (it_doorMany), .ref xt_label, .int (it_drawn), .ref xt_far, .ref xt_ring, .int (it_walker), .int (it_from), .ref xt_was, .int (it_steps), .int (it_faultAt), .int (it_mover)])), (qt_now, .inl (cy.1, 639, .inl (ft_now)))] s.heap := hP
  have hl := lv_entry ([.ref qt, .int va1]) (n := 2) (Nat.le_of_ble_eq_true rfl)
  rw [lg_entry_eq]
  generalize (lg_sl ([.ref qt, .int va1]) ++ List.replicate (2 - (lg_sl ([.ref qt, .int va1])).length) Slot.unset).toArray = ls at hl ⊢
  have hl : lv_has ls 2 [(0, .ref qt), (1, .int va1)] := hl
  refine kgen (fun Q hQ => ?_)
  rw [f_X11_isFork] at hf
  refine lv_aload_n hx hb dX11_isFork_0 rfl (lv_at hl 0 rfl) ?_
  refine lv_iload_n hx hb dX11_isFork_1 rfl (lv_at hl 1 rfl) ?_
  obtain ⟨r2, hq_2, hf⟩ := bnd1_s hf
  refine kcalli (wc := [(qt, .inr (11, [.ref qt_now, .ref xt_past, .int (it_saved), .ref xt_text, .int (it_length), .ref xt_doors, .int (it_doorMany), .ref xt_label, .int (it_drawn), .ref xt_far, .ref xt_ring, .int (it_walker), .int (it_from), .ref xt_was, .int (it_steps), .int (it_faultAt), .int (it_mover)])), (qt_now, .inl (cy.1, 639, .inl (ft_now)))]) (wr := []) (w1 := [(qt, .inr (11, [.ref qt_now, .ref xt_past, .int (it_saved), .ref xt_text, .int (it_length), .ref xt_doors, .int (it_doorMany), .ref xt_label, .int (it_drawn), .ref xt_far, .ref xt_ring, .int (it_walker), .int (it_from), .ref xt_was, .int (it_steps), .int (it_faultAt), .int (it_mover)])), (qt_now, .inl (cy.1, 639, .inl (ft_now)))]) hK hP hD hS hA hG [0, 1] [] rfl rfl rfl rfl rfl (fun hU hPc => va_runV (As := [.int va1]) (rest := []) ⟨hx, hb, hml, hown, hts⟩ (c_X11_isRoomAt l dC dI cy G s.heap.size qt qt_now xt_past xt_text xt_doors xt_label xt_far xt_ring xt_was (it_saved) (it_length) (it_doorMany) (it_drawn) (it_walker) (it_from) (it_steps) (it_faultAt) (it_mover) (ft_now) (va1) r2 hq_2) (cwV 1 hts gX11_isFork_X11_isRoomAt rfl rfl rfl hdX11_isRoomAt ⟨Nat.le_of_ble_eq_true rfl, Nat.le_of_ble_eq_true rfl⟩) ⟨kBlind, (va_recv hK hP (ci := 11) (q0 := 0) rfl rfl), fun U h1 h2 => ⟨rfl, hU U h1 h2⟩⟩ rfl rfl hl.1 rfl (lv_room (Nat.le_of_ble_eq_true rfl)) dX11_isFork_2 ⟨Nat.zero_le _, Nat.zero_le _⟩) (r2) (fun _ _ h => h) (fun _ _ h => h) (fun H locs hP hD hS => ?_)
  have hP : va_P (dC, dI) vwCl [(qt, .inr (11, [.ref qt_now, .ref xt_past, .int (it_saved), .ref xt_text, .int (it_length), .ref xt_doors, .int (it_doorMany), .ref xt_label, .int (it_drawn), .ref xt_far, .ref xt_ring, .int (it_walker), .int (it_from), .ref xt_was, .int (it_steps), .int (it_faultAt), .int (it_mover)])), (qt_now, .inl (cy.1, 639, .inl (ft_now)))] H := hP
  have hD : va_D A [(qt, .inr (11, [.ref qt_now, .ref xt_past, .int (it_saved), .ref xt_text, .int (it_length), .ref xt_doors, .int (it_doorMany), .ref xt_label, .int (it_drawn), .ref xt_far, .ref xt_ring, .int (it_walker), .int (it_from), .ref xt_was, .int (it_steps), .int (it_faultAt), .int (it_mover)])), (qt_now, .inl (cy.1, 639, .inl (ft_now)))] := hD
  refine lv_if_eq (tgt := 21) hx hb dX11_isFork_5 (by decide) (fun hc_5 => ?_) (fun hc_5 => ?_)
  · rw [if_pos hc_5] at hf
    refine lv_iconst (v := (0 : Int32)) hx hb dX11_isFork_21 (by decide) ?_
    cases hf
    subst hQ
    exact kzret hx hb hr hlocks rfl hK (hP.sub [0, 1] rfl) (hD.sub [0, 1] (by decide) rfl) hS rfl dX11_isFork_22
  · rw [if_neg hc_5] at hf
    refine lv_aload_n hx hb dX11_isFork_8 rfl (lv_at hl 0 rfl) ?_
    refine lv_iload_n hx hb dX11_isFork_9 rfl (lv_at hl 1 rfl) ?_
    obtain ⟨r10, hq_10, hf⟩ := bnd1_s hf
    refine kcalli (wc := [(qt, .inr (11, [.ref qt_now, .ref xt_past, .int (it_saved), .ref xt_text, .int (it_length), .ref xt_doors, .int (it_doorMany), .ref xt_label, .int (it_drawn), .ref xt_far, .ref xt_ring, .int (it_walker), .int (it_from), .ref xt_was, .int (it_steps), .int (it_faultAt), .int (it_mover)])), (qt_now, .inl (cy.1, 639, .inl (ft_now)))]) (wr := []) (w1 := [(qt, .inr (11, [.ref qt_now, .ref xt_past, .int (it_saved), .ref xt_text, .int (it_length), .ref xt_doors, .int (it_doorMany), .ref xt_label, .int (it_drawn), .ref xt_far, .ref xt_ring, .int (it_walker), .int (it_from), .ref xt_was, .int (it_steps), .int (it_faultAt), .int (it_mover)])), (qt_now, .inl (cy.1, 639, .inl (ft_now)))]) hK hP hD hS hA hG [0, 1] [] rfl rfl rfl rfl rfl (fun hU hPc => va_runV (As := [.int va1]) (rest := []) ⟨hx, hb, hml, hown, hts⟩ (c_X11_openOnes l dC dI cy G H.size qt qt_now xt_past xt_text xt_doors xt_label xt_far xt_ring xt_was (it_saved) (it_length) (it_doorMany) (it_drawn) (it_walker) (it_from) (it_steps) (it_faultAt) (it_mover) N (ft_now) (va1) r10 hq_10) (cwV 1 hts gX11_isFork_X11_openOnes rfl rfl rfl hdX11_openOnes ⟨Nat.le_of_ble_eq_true rfl, Nat.le_of_ble_eq_true rfl⟩) ⟨kBlind, (va_recv hK hP (ci := 11) (q0 := 0) rfl rfl), fun U h1 h2 => ⟨rfl, hU U h1 h2⟩⟩ rfl rfl hl.1 rfl (lv_room (Nat.le_of_ble_eq_true rfl)) dX11_isFork_10 ⟨Nat.zero_le _, Nat.zero_le _⟩) (r10) (fun _ _ h => h) (fun _ _ h => h) (fun H locs hP hD hS => ?_)
    have hP : va_P (dC, dI) vwCl [(qt, .inr (11, [.ref qt_now, .ref xt_past, .int (it_saved), .ref xt_text, .int (it_length), .ref xt_doors, .int (it_doorMany), .ref xt_label, .int (it_drawn), .ref xt_far, .ref xt_ring, .int (it_walker), .int (it_from), .ref xt_was, .int (it_steps), .int (it_faultAt), .int (it_mover)])), (qt_now, .inl (cy.1, 639, .inl (ft_now)))] H := hP
    have hD : va_D A [(qt, .inr (11, [.ref qt_now, .ref xt_past, .int (it_saved), .ref xt_text, .int (it_length), .ref xt_doors, .int (it_doorMany), .ref xt_label, .int (it_drawn), .ref xt_far, .ref xt_ring, .int (it_walker), .int (it_from), .ref xt_was, .int (it_steps), .int (it_faultAt), .int (it_mover)])), (qt_now, .inl (cy.1, 639, .inl (ft_now)))] := hD
    refine lv_iconst (v := (2 : Int32)) hx hb dX11_isFork_13 (by decide) ?_
    refine lv_icmp_le (tgt := 21) hx hb dX11_isFork_14 (by decide) (fun hc_14 => ?_) (fun hc_14 => ?_)
    · rw [if_pos hc_14] at hf
      refine lv_iconst (v := (0 : Int32)) hx hb dX11_isFork_21 (by decide) ?_
      cases hf
      subst hQ
      exact kzret hx hb hr hlocks rfl hK (hP.sub [0, 1] rfl) (hD.sub [0, 1] (by decide) rfl) hS rfl dX11_isFork_22
    · rw [if_neg hc_14] at hf
      refine lv_iconst (v := (1 : Int32)) hx hb dX11_isFork_17 (by decide) ?_
      refine lv_goto (tgt := 22) hx hb dX11_isFork_18 (by decide) ?_
      cases hf
      subst hQ
      exact kzret hx hb hr hlocks rfl hK (hP.sub [0, 1] rfl) (hD.sub [0, 1] (by decide) rfl) hS rfl dX11_isFork_22
theorem hdX11_isFork : yX11_isFork.cls = RX11 ∧ yX11_isFork.cls ≠ "java/lang/invoke/MethodHandle" ∧ yX11_isFork.cls ≠ "java/lang/invoke/VarHandle" ∧ (parseMethodDescriptor yX11_isFork.desc).map (fun d => d.parameters.length) = some 1 := by decide +kernel
noncomputable def b_X11_roomsWith_5 (N : Nat) (ft_now : Nat → Int32) (va1 : Int32) (va2 : Int32) : Nat → Int32 → Int32 → Option (Int32)
  | 0, _, _ => none
  | n + 1, l3, l4 =>
    if (t_X11_cells (ft_now)) ≤ l4 then
      some (l3)
    else
      bnd1 (f_X11_isRoomAt (ft_now) (l4)) fun r18 =>
      if r18 = 0 then
        b_X11_roomsWith_5 N ft_now va1 va2 n ((l3 + (0 : Int32))) ((l4 + (1 : Int32)))
      else
        bnd1 (f_X11_openOnes N (ft_now) (l4)) fun r27 =>
        if (t_X11_in (r27) (va1) (va2)) = 0 then
          b_X11_roomsWith_5 N ft_now va1 va2 n ((l3 + (0 : Int32))) ((l4 + (1 : Int32)))
        else
          b_X11_roomsWith_5 N ft_now va1 va2 n ((l3 + (1 : Int32))) ((l4 + (1 : Int32)))
noncomputable def f_X11_roomsWith (N : Nat) (ft_now : Nat → Int32) (va1 : Int32) (va2 : Int32) : Option (Int32) :=
  b_X11_roomsWith_5 N ft_now va1 va2 N ((0 : Int32)) ((0 : Int32))
abbrev rm_X11_roomsWith : Room := { frames := 7, cells := 0, slots := 0, locals := 158 }
set_option maxHeartbeats 4000000 in
set_option maxRecDepth 100000 in
theorem c_X11_roomsWith (l : Launch) (dC : Nat → ClassId) (dI : Nat → Nat → Nat) (cy : gC) (G : gT) (sz : Nat) (qt : Nat) (qt_now : Nat) (xt_past : Nat) (xt_text : Nat) (xt_doors : Nat) (xt_label : Nat) (xt_far : Nat) (xt_ring : Nat) (xt_was : Nat) (it_saved : Int32) (it_length : Int32) (it_doorMany : Int32) (it_drawn : Int32) (it_walker : Int32) (it_from : Int32) (it_steps : Int32) (it_faultAt : Int32) (it_mover : Int32) (N : Nat) (ft_now : Nat → Int32) (va1 : Int32) (va2 : Int32) (out : Int32) (hf : f_X11_roomsWith N ft_now va1 va2 = some out) : Met l yX11_roomsWith wsX11_roomsWith rm_X11_roomsWith (va_Pc [.ref qt, .int va1, .int va2] (kP (dC, dI) cy G [(qt, .inr (11, [.ref qt_now, .ref xt_past, .int (it_saved), .ref xt_text, .int (it_length), .ref xt_doors, .int (it_doorMany), .ref xt_label, .int (it_drawn), .ref xt_far, .ref xt_ring, .int (it_walker), .int (it_from), .ref xt_was, .int (it_steps), .int (it_faultAt), .int (it_mover)])), (qt_now, .inl (cy.1, 639, .inl (ft_now)))] sz)) (va_Qi (fun r (_ : Unit) => r = out) (fun _ => kQ (dC, dI) cy [(qt, .inr (11, [.ref qt_now, .ref xt_past, .int (it_saved), .ref xt_text, .int (it_length), .ref xt_doors, .int (it_doorMany), .ref xt_label, .int (it_drawn), .ref xt_far, .ref xt_ring, .int (it_walker), .int (it_from), .ref xt_was, .int (it_steps), .int (it_faultAt), .int (it_mover)])), (qt_now, .inl (cy.1, 639, .inl (ft_now)))] (va_A [(qt, .inr (11, [.ref qt_now, .ref xt_past, .int (it_saved), .ref xt_text, .int (it_length), .ref xt_doors, .int (it_doorMany), .ref xt_label, .int (it_drawn), .ref xt_far, .ref xt_ring, .int (it_walker), .int (it_from), .ref xt_was, .int (it_steps), .int (it_faultAt), .int (it_mover)])), (qt_now, .inl (cy.1, 639, .inl (ft_now)))] sz)) (va_A [(qt, .inr (11, [.ref qt_now, .ref xt_past, .int (it_saved), .ref xt_text, .int (it_length), .ref xt_doors, .int (it_doorMany), .ref xt_label, .int (it_drawn), .ref xt_far, .ref xt_ring, .int (it_walker), .int (it_from), .ref xt_was, .int (it_steps), .int (it_faultAt), .int (it_mover)])), (qt_now, .inl (cy.1, 639, .inl (ft_now)))] sz)) 0 0 (va_A [(qt, .inr (11, [.ref qt_now, .ref xt_past, .int (it_saved), .ref xt_text, .int (it_length), .ref xt_doors, .int (it_doorMany), .ref xt_label, .int (it_drawn), .ref xt_far, .ref xt_ring, .int (it_walker), .int (it_from), .ref xt_was, .int (it_steps), .int (it_faultAt), .int (it_mover)])), (qt_now, .inl (cy.1, 639, .inl (ft_now)))] sz) := by
  refine Met.ofW (cc := cX11_roomsWith) (maxL := 5) (ret := (some .int)) (by decide) rfl ?_
  intro p e s m args below meth c s₁ B hml hv
  obtain ⟨rfl, hsz, hP, hK, hD0, hG⟩ := hv
  have hx := B.exec
  have hb := B.bytes
  have hr := B.returns
  have hts := atoms_spec (ws := wsX11_roomsWith) B.pre
  have hown : s.vm.findClass RX11 = some m.cls := findClass_of_methodNamed B.named
  have hlocks := B.notSynchronized
  subst hsz
  have hD := hD0.self (sz := s.heap.size)
  generalize hAe : va_A [(qt, .inr (11, [.ref qt_now, .ref xt_past, .int (it_saved), .ref xt_text, .int (it_length), .ref xt_doors, .int (it_doorMany), .ref xt_label, .int (it_drawn), .ref xt_far, .ref xt_ring, .int (it_walker), .int (it_from), .ref xt_was, .int (it_steps), .int (it_faultAt), .int (it_mover)])), (qt_now, .inl (cy.1, 639, .inl (ft_now)))] s.heap.size = A at hD hG ⊢
  have hA : ∀ q : Nat, s.heap.size ≤ q → A q := fun q h => by rw [← hAe]; exact Or.inr h
  have hS : va_S A s.heap s.heap [] := va_S.rf
  have hP : va_P (dC, dI) vwCl [(qt, .inr (11, [.ref qt_now, .ref xt_past, .int (it_saved), .ref xt_text, .int (it_length), .ref xt_doors, .int (it_doorMany), .ref xt_label, .int (it_drawn), .ref xt_far, .ref xt_ring, .int (it_walker), .int (it_from), .ref xt_was, .int (it_steps), .int (it_faultAt), .int (it_mover)])), (qt_now, .inl (cy.1, 639, .inl (ft_now)))] s.heap := hP
  have hl := lv_entry ([.ref qt, .int va1, .int va2]) (n := 5) (Nat.le_of_ble_eq_true rfl)
  rw [lg_entry_eq]
  generalize (lg_sl ([.ref qt, .int va1, .int va2]) ++ List.replicate (5 - (lg_sl ([.ref qt, .int va1, .int va2])).length) Slot.unset).toArray = ls at hl ⊢
  have hl : lv_has ls 5 [(0, .ref qt), (1, .int va1), (2, .int va2)] := hl
  refine kgen (fun Q hQ => ?_)
  have B5 : ∀ (n5 : Nat) (l3 : Int32) (l4 : Int32) (H : Heap) (locs : List Loc), va_P (dC, dI) vwCl [(qt, .inr (11, [.ref qt_now, .ref xt_past, .int (it_saved), .ref xt_text, .int (it_length), .ref xt_doors, .int (it_doorMany), .ref xt_label, .int (it_drawn), .ref xt_far, .ref xt_ring, .int (it_walker), .int (it_from), .ref xt_was, .int (it_steps), .int (it_faultAt), .int (it_mover)])), (qt_now, .inl (cy.1, 639, .inl (ft_now)))] H → va_D A [(qt, .inr (11, [.ref qt_now, .ref xt_past, .int (it_saved), .ref xt_text, .int (it_length), .ref xt_doors, .int (it_doorMany), .ref xt_label, .int (it_drawn), .ref xt_far, .ref xt_ring, .int (it_walker), .int (it_from), .ref xt_was, .int (it_steps), .int (it_faultAt), .int (it_mover)])), (qt_now, .inl (cy.1, 639, .inl (ft_now)))] → va_S A s.heap H locs → ∀ (ls : Array Slot), lv_has ls 5 [(0, .ref qt), (1, .int va1), (2, .int va2), (3, .int l3), (4, .int l4)] → b_X11_roomsWith_5 N ft_now va1 va2 n5 l3 l4 = some out → W p l e (headSpec wsX11_roomsWith rm_X11_roomsWith).room s m ([.ref qt, .int va1, .int va2] : List Value).toArray below meth c H locs 0 0 Q (F0 m 5 ls []) := by
    intro n5
    induction n5 with
    | zero => intro l3 l4 H locs hP hD hS ls hl hf; rw [b_X11_roomsWith_5] at hf; cases hf
    | succ n5 ih5 =>
      intro l3 l4 H locs hP hD hS ls hl hf
      rw [b_X11_roomsWith_5] at hf
      refine lv_iload hx hb dX11_roomsWith_5 (lv_at hl 4 rfl) ?_
      refine lv_aload_n hx hb dX11_roomsWith_7 rfl (lv_at hl 0 rfl) ?_
      refine kcalli (wc := [(qt, .inr (11, [.ref qt_now, .ref xt_past, .int (it_saved), .ref xt_text, .int (it_length), .ref xt_doors, .int (it_doorMany), .ref xt_label, .int (it_drawn), .ref xt_far, .ref xt_ring, .int (it_walker), .int (it_from), .ref xt_was, .int (it_steps), .int (it_faultAt), .int (it_mover)])), (qt_now, .inl (cy.1, 639, .inl (ft_now)))]) (wr := []) (w1 := [(qt, .inr (11, [.ref qt_now, .ref xt_past, .int (it_saved), .ref xt_text, .int (it_length), .ref xt_doors, .int (it_doorMany), .ref xt_label, .int (it_drawn), .ref xt_far, .ref xt_ring, .int (it_walker), .int (it_from), .ref xt_was, .int (it_steps), .int (it_faultAt), .int (it_mover)])), (qt_now, .inl (cy.1, 639, .inl (ft_now)))]) hK hP hD hS hA hG [0, 1] [] rfl rfl rfl rfl rfl (fun hU hPc => va_runV (As := []) (rest := [.int l4]) ⟨hx, hb, hml, hown, hts⟩ (c_X11_cells l dC dI cy G H.size qt qt_now xt_past xt_text xt_doors xt_label xt_far xt_ring xt_was (it_saved) (it_length) (it_doorMany) (it_drawn) (it_walker) (it_from) (it_steps) (it_faultAt) (it_mover) (ft_now) (t_X11_cells (ft_now)) (tot_X11_cells (ft_now))) (cwV 0 hts gX11_roomsWith_X11_cells rfl rfl rfl hdX11_cells ⟨Nat.le_of_ble_eq_true rfl, Nat.le_of_ble_eq_true rfl⟩) ⟨kBlind, (va_recv hK hP (ci := 11) (q0 := 0) rfl rfl), fun U h1 h2 => ⟨rfl, hU U h1 h2⟩⟩ rfl rfl hl.1 rfl (lv_room (Nat.le_of_ble_eq_true rfl)) dX11_roomsWith_8 ⟨Nat.zero_le _, Nat.zero_le _⟩) ((t_X11_cells (ft_now))) (fun _ _ h => h) (fun _ _ h => h) (fun H locs hP hD hS => ?_)
      have hP : va_P (dC, dI) vwCl [(qt, .inr (11, [.ref qt_now, .ref xt_past, .int (it_saved), .ref xt_text, .int (it_length), .ref xt_doors, .int (it_doorMany), .ref xt_label, .int (it_drawn), .ref xt_far, .ref xt_ring, .int (it_walker), .int (it_from), .ref xt_was, .int (it_steps), .int (it_faultAt), .int (it_mover)])), (qt_now, .inl (cy.1, 639, .inl (ft_now)))] H := hP
      have hD : va_D A [(qt, .inr (11, [.ref qt_now, .ref xt_past, .int (it_saved), .ref xt_text, .int (it_length), .ref xt_doors, .int (it_doorMany), .ref xt_label, .int (it_drawn), .ref xt_far, .ref xt_ring, .int (it_walker), .int (it_from), .ref xt_was, .int (it_steps), .int (it_faultAt), .int (it_mover)])), (qt_now, .inl (cy.1, 639, .inl (ft_now)))] := hD
      refine lv_icmp_ge (tgt := 51) hx hb dX11_roomsWith_11 (by decide) (fun hc_11 => ?_) (fun hc_11 => ?_)
      · rw [if_pos hc_11] at hf
        refine lv_iload_n hx hb dX11_roomsWith_51 rfl (lv_at hl 3 rfl) ?_
        cases hf
        subst hQ
        exact kiret hx hb hr hlocks hK (hP.sub [0, 1] rfl) (hD.sub [0, 1] (by decide) rfl) hS rfl dX11_roomsWith_52
      · rw [if_neg hc_11] at hf
        refine lv_iload_n hx hb dX11_roomsWith_14 rfl (lv_at hl 3 rfl) ?_
        refine lv_aload_n hx hb dX11_roomsWith_15 rfl (lv_at hl 0 rfl) ?_
        refine lv_iload hx hb dX11_roomsWith_16 (lv_at hl 4 rfl) ?_
        obtain ⟨r18, hq_18, hf⟩ := bnd1_s hf
        refine kcalli (wc := [(qt, .inr (11, [.ref qt_now, .ref xt_past, .int (it_saved), .ref xt_text, .int (it_length), .ref xt_doors, .int (it_doorMany), .ref xt_label, .int (it_drawn), .ref xt_far, .ref xt_ring, .int (it_walker), .int (it_from), .ref xt_was, .int (it_steps), .int (it_faultAt), .int (it_mover)])), (qt_now, .inl (cy.1, 639, .inl (ft_now)))]) (wr := []) (w1 := [(qt, .inr (11, [.ref qt_now, .ref xt_past, .int (it_saved), .ref xt_text, .int (it_length), .ref xt_doors, .int (it_doorMany), .ref xt_label, .int (it_drawn), .ref xt_far, .ref xt_ring, .int (it_walker), .int (it_from), .ref xt_was, .int (it_steps), .int (it_faultAt), .int (it_mover)])), (qt_now, .inl (cy.1, 639, .inl (ft_now)))]) hK hP hD hS hA hG [0, 1] [] rfl rfl rfl rfl rfl (fun hU hPc => va_runV (As := [.int l4]) (rest := [.int l3]) ⟨hx, hb, hml, hown, hts⟩ (c_X11_isRoomAt l dC dI cy G H.size qt qt_now xt_past xt_text xt_doors xt_label xt_far xt_ring xt_was (it_saved) (it_length) (it_doorMany) (it_drawn) (it_walker) (it_from) (it_steps) (it_faultAt) (it_mover) (ft_now) (l4) r18 hq_18) (cwV 1 hts gX11_roomsWith_X11_isRoomAt rfl rfl rfl hdX11_isRoomAt ⟨Nat.le_of_ble_eq_true rfl, Nat.le_of_ble_eq_true rfl⟩) ⟨kBlind, (va_recv hK hP (ci := 11) (q0 := 0) rfl rfl), fun U h1 h2 => ⟨rfl, hU U h1 h2⟩⟩ rfl rfl hl.1 rfl (lv_room (Nat.le_of_ble_eq_true rfl)) dX11_roomsWith_18 ⟨Nat.zero_le _, Nat.zero_le _⟩) (r18) (fun _ _ h => h) (fun _ _ h => h) (fun H locs hP hD hS => ?_)
        have hP : va_P (dC, dI) vwCl [(qt, .inr (11, [.ref qt_now, .ref xt_past, .int (it_saved), .ref xt_text, .int (it_length), .ref xt_doors, .int (it_doorMany), .ref xt_label, .int (it_drawn), .ref xt_far, .ref xt_ring, .int (it_walker), .int (it_from), .ref xt_was, .int (it_steps), .int (it_faultAt), .int (it_mover)])), (qt_now, .inl (cy.1, 639, .inl (ft_now)))] H := hP
        have hD : va_D A [(qt, .inr (11, [.ref qt_now, .ref xt_past, .int (it_saved), .ref xt_text, .int (it_length), .ref xt_doors, .int (it_doorMany), .ref xt_label, .int (it_drawn), .ref xt_far, .ref xt_ring, .int (it_walker), .int (it_from), .ref xt_was, .int (it_steps), .int (it_faultAt), .int (it_mover)])), (qt_now, .inl (cy.1, 639, .inl (ft_now)))] := hD
        refine lv_if_eq (tgt := 42) hx hb dX11_roomsWith_21 (by decide) (fun hc_21 => ?_) (fun hc_21 => ?_)
        · rw [if_pos hc_21] at hf
          refine lv_iconst (v := (0 : Int32)) hx hb dX11_roomsWith_42 (by decide) ?_
          refine lv_iadd hx hb dX11_roomsWith_43 ?_
          refine lv_istore_n (lv' := [(3, .int (l3 + (0 : Int32))), (0, .ref qt), (1, .int va1), (2, .int va2), (4, .int l4)]) hx hb dX11_roomsWith_44 rfl hl (by decide) rfl (fun ls hl => ?_)
          refine lv_iinc (v := (l4 + (1 : Int32))) (lv' := [(4, .int (l4 + (1 : Int32))), (3, .int (l3 + (0 : Int32))), (0, .ref qt), (1, .int va1), (2, .int va2)]) hx hb dX11_roomsWith_45 hl (k := 4) rfl rfl (by decide) rfl (fun ls hl => ?_)
          refine lv_goto (tgt := 5) hx hb dX11_roomsWith_48 (by decide) ?_
          exact ih5 ((l3 + (0 : Int32))) ((l4 + (1 : Int32))) _ _ (hP.sub [0, 1] rfl) (hD.sub [0, 1] (by decide) rfl) hS _ (lv_sub hl [2, 3, 4, 1, 0] rfl) hf
        · rw [if_neg hc_21] at hf
          refine lv_aload_n hx hb dX11_roomsWith_24 rfl (lv_at hl 0 rfl) ?_
          refine lv_iload hx hb dX11_roomsWith_25 (lv_at hl 4 rfl) ?_
          obtain ⟨r27, hq_27, hf⟩ := bnd1_s hf
          refine kcalli (wc := [(qt, .inr (11, [.ref qt_now, .ref xt_past, .int (it_saved), .ref xt_text, .int (it_length), .ref xt_doors, .int (it_doorMany), .ref xt_label, .int (it_drawn), .ref xt_far, .ref xt_ring, .int (it_walker), .int (it_from), .ref xt_was, .int (it_steps), .int (it_faultAt), .int (it_mover)])), (qt_now, .inl (cy.1, 639, .inl (ft_now)))]) (wr := []) (w1 := [(qt, .inr (11, [.ref qt_now, .ref xt_past, .int (it_saved), .ref xt_text, .int (it_length), .ref xt_doors, .int (it_doorMany), .ref xt_label, .int (it_drawn), .ref xt_far, .ref xt_ring, .int (it_walker), .int (it_from), .ref xt_was, .int (it_steps), .int (it_faultAt), .int (it_mover)])), (qt_now, .inl (cy.1, 639, .inl (ft_now)))]) hK hP hD hS hA hG [0, 1] [] rfl rfl rfl rfl rfl (fun hU hPc => va_runV (As := [.int l4]) (rest := [.int l3]) ⟨hx, hb, hml, hown, hts⟩ (c_X11_openOnes l dC dI cy G H.size qt qt_now xt_past xt_text xt_doors xt_label xt_far xt_ring xt_was (it_saved) (it_length) (it_doorMany) (it_drawn) (it_walker) (it_from) (it_steps) (it_faultAt) (it_mover) N (ft_now) (l4) r27 hq_27) (cwV 1 hts gX11_roomsWith_X11_openOnes rfl rfl rfl hdX11_openOnes ⟨Nat.le_of_ble_eq_true rfl, Nat.le_of_ble_eq_true rfl⟩) ⟨kBlind, (va_recv hK hP (ci := 11) (q0 := 0) rfl rfl), fun U h1 h2 => ⟨rfl, hU U h1 h2⟩⟩ rfl rfl hl.1 rfl (lv_room (Nat.le_of_ble_eq_true rfl)) dX11_roomsWith_27 ⟨Nat.zero_le _, Nat.zero_le _⟩) (r27) (fun _ _ h => h) (fun _ _ h => h) (fun H locs hP hD hS => ?_)
          have hP : va_P (dC, dI) vwCl [(qt, .inr (11, [.ref qt_now, .ref xt_past, .int (it_saved), .ref xt_text, .int (it_length), .ref xt_doors, .int (it_doorMany), .ref xt_label, .int (it_drawn), .ref xt_far, .ref xt_ring, .int (it_walker), .int (it_from), .ref xt_was, .int (it_steps), .int (it_faultAt), .int (it_mover)])), (qt_now, .inl (cy.1, 639, .inl (ft_now)))] H := hP
          have hD : va_D A [(qt, .inr (11, [.ref qt_now, .ref xt_past, .int (it_saved), .ref xt_text, .int (it_length), .ref xt_doors, .int (it_doorMany), .ref xt_label, .int (it_drawn), .ref xt_far, .ref xt_ring, .int (it_walker), .int (it_from), .ref xt_was, .int (it_steps), .int (it_faultAt), .int (it_mover)])), (qt_now, .inl (cy.1, 639, .inl (ft_now)))] := hD
          refine lv_iload_n hx hb dX11_roomsWith_30 rfl (lv_at hl 1 rfl) ?_
          refine lv_iload_n hx hb dX11_roomsWith_31 rfl (lv_at hl 2 rfl) ?_
          refine kcalli (wc := []) (wr := [(qt, .inr (11, [.ref qt_now, .ref xt_past, .int (it_saved), .ref xt_text, .int (it_length), .ref xt_doors, .int (it_doorMany), .ref xt_label, .int (it_drawn), .ref xt_far, .ref xt_ring, .int (it_walker), .int (it_from), .ref xt_was, .int (it_steps), .int (it_faultAt), .int (it_mover)])), (qt_now, .inl (cy.1, 639, .inl (ft_now)))]) (w1 := []) hK hP hD hS hA hG [] [0, 1] rfl rfl rfl rfl rfl (fun hU hPc => va_runS (As := [.int r27, .int va1, .int va2]) (rest := [.int l3]) ⟨hx, hb, hml, hown, hts⟩ (c_X11_in l dC dI cy G H.size (r27) (va1) (va2) (t_X11_in (r27) (va1) (va2)) (tot_X11_in (r27) (va1) (va2))) (va_cwS 3 hts gX11_roomsWith_X11_in rfl rfl rfl hdX11_in.2 ⟨Nat.le_of_ble_eq_true rfl, Nat.le_of_ble_eq_true rfl⟩) ⟨kBlind, fun U h1 h2 => ⟨rfl, hU U h1 h2⟩⟩ rfl rfl hl.1 rfl (lv_room (Nat.le_of_ble_eq_true rfl)) dX11_roomsWith_32 ⟨Nat.zero_le _, Nat.zero_le _⟩) ((t_X11_in (r27) (va1) (va2))) (fun _ _ h => h) (fun _ _ h => h) (fun H locs hP hD hS => ?_)
          have hP : va_P (dC, dI) vwCl [(qt, .inr (11, [.ref qt_now, .ref xt_past, .int (it_saved), .ref xt_text, .int (it_length), .ref xt_doors, .int (it_doorMany), .ref xt_label, .int (it_drawn), .ref xt_far, .ref xt_ring, .int (it_walker), .int (it_from), .ref xt_was, .int (it_steps), .int (it_faultAt), .int (it_mover)])), (qt_now, .inl (cy.1, 639, .inl (ft_now)))] H := hP
          have hD : va_D A [(qt, .inr (11, [.ref qt_now, .ref xt_past, .int (it_saved), .ref xt_text, .int (it_length), .ref xt_doors, .int (it_doorMany), .ref xt_label, .int (it_drawn), .ref xt_far, .ref xt_ring, .int (it_walker), .int (it_from), .ref xt_was, .int (it_steps), .int (it_faultAt), .int (it_mover)])), (qt_now, .inl (cy.1, 639, .inl (ft_now)))] := hD
          refine lv_if_eq (tgt := 42) hx hb dX11_roomsWith_35 (by decide) (fun hc_35 => ?_) (fun hc_35 => ?_)
          · rw [if_pos hc_35] at hf
            refine lv_iconst (v := (0 : Int32)) hx hb dX11_roomsWith_42 (by decide) ?_
            refine lv_iadd hx hb dX11_roomsWith_43 ?_
            refine lv_istore_n (lv' := [(3, .int (l3 + (0 : Int32))), (0, .ref qt), (1, .int va1), (2, .int va2), (4, .int l4)]) hx hb dX11_roomsWith_44 rfl hl (by decide) rfl (fun ls hl => ?_)
            refine lv_iinc (v := (l4 + (1 : Int32))) (lv' := [(4, .int (l4 + (1 : Int32))), (3, .int (l3 + (0 : Int32))), (0, .ref qt), (1, .int va1), (2, .int va2)]) hx hb dX11_roomsWith_45 hl (k := 4) rfl rfl (by decide) rfl (fun ls hl => ?_)
            refine lv_goto (tgt := 5) hx hb dX11_roomsWith_48 (by decide) ?_
            exact ih5 ((l3 + (0 : Int32))) ((l4 + (1 : Int32))) _ _ (hP.sub [0, 1] rfl) (hD.sub [0, 1] (by decide) rfl) hS _ (lv_sub hl [2, 3, 4, 1, 0] rfl) hf
          · rw [if_neg hc_35] at hf
            refine lv_iconst (v := (1 : Int32)) hx hb dX11_roomsWith_38 (by decide) ?_
            refine lv_goto (tgt := 43) hx hb dX11_roomsWith_39 (by decide) ?_
            refine lv_iadd hx hb dX11_roomsWith_43 ?_
            refine lv_istore_n (lv' := [(3, .int (l3 + (1 : Int32))), (0, .ref qt), (1, .int va1), (2, .int va2), (4, .int l4)]) hx hb dX11_roomsWith_44 rfl hl (by decide) rfl (fun ls hl => ?_)
            refine lv_iinc (v := (l4 + (1 : Int32))) (lv' := [(4, .int (l4 + (1 : Int32))), (3, .int (l3 + (1 : Int32))), (0, .ref qt), (1, .int va1), (2, .int va2)]) hx hb dX11_roomsWith_45 hl (k := 4) rfl rfl (by decide) rfl (fun ls hl => ?_)
            refine lv_goto (tgt := 5) hx hb dX11_roomsWith_48 (by decide) ?_
            exact ih5 ((l3 + (1 : Int32))) ((l4 + (1 : Int32))) _ _ (hP.sub [0, 1] rfl) (hD.sub [0, 1] (by decide) rfl) hS _ (lv_sub hl [2, 3, 4, 1, 0] rfl) hf
  rw [f_X11_roomsWith] at hf
  refine lv_iconst (v := (0 : Int32)) hx hb dX11_roomsWith_0 (by decide) ?_
  refine lv_istore_n (lv' := [(3, .int (0 : Int32)), (0, .ref qt), (1, .int va1), (2, .int va2)]) hx hb dX11_roomsWith_1 rfl hl (by decide) rfl (fun ls hl => ?_)
  refine lv_iconst (v := (0 : Int32)) hx hb dX11_roomsWith_2 (by decide) ?_
  refine lv_istore (lv' := [(4, .int (0 : Int32)), (3, .int (0 : Int32)), (0, .ref qt), (1, .int va1), (2, .int va2)]) hx hb dX11_roomsWith_3 hl (by decide) rfl (fun ls hl => ?_)
  exact B5 N ((0 : Int32)) ((0 : Int32)) _ _ (hP.sub [0, 1] rfl) (hD.sub [0, 1] (by decide) rfl) hS _ (lv_sub hl [2, 3, 4, 1, 0] rfl) hf
theorem hdX11_roomsWith : yX11_roomsWith.cls = RX11 ∧ yX11_roomsWith.cls ≠ "java/lang/invoke/MethodHandle" ∧ yX11_roomsWith.cls ≠ "java/lang/invoke/VarHandle" ∧ (parseMethodDescriptor yX11_roomsWith.desc).map (fun d => d.parameters.length) = some 2 := by decide +kernel
noncomputable def b_X11_signs_4 (N : Nat) (ft_now : Nat → Int32) (va1 : Int32) : Nat → Int32 → Int32 → Option (Int32)
  | 0, _, _ => none
  | n + 1, l2, l3 =>
    if (t_X11_cells (ft_now)) ≤ l3 then
      some (l2)
    else
      if ((429 : Int32) + l3) < 0 ∨ 639 ≤ (((429 : Int32) + l3)).toNatClampNeg then none else
      if (ft_now (((429 : Int32) + l3)).toNatClampNeg) ≤ 0 then
        b_X11_signs_4 N ft_now va1 n ((l2 + (0 : Int32))) ((l3 + (1 : Int32)))
      else
        if va1 = 0 then
          b_X11_signs_4 N ft_now va1 n ((l2 + (1 : Int32))) ((l3 + (1 : Int32)))
        else
          bnd1 (f_X11_isFork N (ft_now) (l3)) fun r32 =>
          if r32 = 0 then
            b_X11_signs_4 N ft_now va1 n ((l2 + (0 : Int32))) ((l3 + (1 : Int32)))
          else
            b_X11_signs_4 N ft_now va1 n ((l2 + (1 : Int32))) ((l3 + (1 : Int32)))
noncomputable def f_X11_signs (N : Nat) (ft_now : Nat → Int32) (va1 : Int32) : Option (Int32) :=
  b_X11_signs_4 N ft_now va1 N ((0 : Int32)) ((0 : Int32))
abbrev rm_X11_signs : Room := { frames := 8, cells := 0, slots := 0, locals := 179 }
set_option maxHeartbeats 4000000 in
set_option maxRecDepth 100000 in
theorem c_X11_signs (l : Launch) (dC : Nat → ClassId) (dI : Nat → Nat → Nat) (cy : gC) (G : gT) (sz : Nat) (qt : Nat) (qt_now : Nat) (xt_past : Nat) (xt_text : Nat) (xt_doors : Nat) (xt_label : Nat) (xt_far : Nat) (xt_ring : Nat) (xt_was : Nat) (it_saved : Int32) (it_length : Int32) (it_doorMany : Int32) (it_drawn : Int32) (it_walker : Int32) (it_from : Int32) (it_steps : Int32) (it_faultAt : Int32) (it_mover : Int32) (N : Nat) (ft_now : Nat → Int32) (va1 : Int32) (out : Int32) (hf : f_X11_signs N ft_now va1 = some out) : Met l yX11_signs wsX11_signs rm_X11_signs (va_Pc [.ref qt, .int va1] (kP (dC, dI) cy G [(qt, .inr (11, [.ref qt_now, .ref xt_past, .int (it_saved), .ref xt_text, .int (it_length), .ref xt_doors, .int (it_doorMany), .ref xt_label, .int (it_drawn), .ref xt_far, .ref xt_ring, .int (it_walker), .int (it_from), .ref xt_was, .int (it_steps), .int (it_faultAt), .int (it_mover)])), (qt_now, .inl (cy.1, 639, .inl (ft_now)))] sz)) (va_Qi (fun r (_ : Unit) => r = out) (fun _ => kQ (dC, dI) cy [(qt, .inr (11, [.ref qt_now, .ref xt_past, .int (it_saved), .ref xt_text, .int (it_length), .ref xt_doors, .int (it_doorMany), .ref xt_label, .int (it_drawn), .ref xt_far, .ref xt_ring, .int (it_walker), .int (it_from), .ref xt_was, .int (it_steps), .int (it_faultAt), .int (it_mover)])), (qt_now, .inl (cy.1, 639, .inl (ft_now)))] (va_A [(qt, .inr (11, [.ref qt_now, .ref xt_past, .int (it_saved), .ref xt_text, .int (it_length), .ref xt_doors, .int (it_doorMany), .ref xt_label, .int (it_drawn), .ref xt_far, .ref xt_ring, .int (it_walker), .int (it_from), .ref xt_was, .int (it_steps), .int (it_faultAt), .int (it_mover)])), (qt_now, .inl (cy.1, 639, .inl (ft_now)))] sz)) (va_A [(qt, .inr (11, [.ref qt_now, .ref xt_past, .int (it_saved), .ref xt_text, .int (it_length), .ref xt_doors, .int (it_doorMany), .ref xt_label, .int (it_drawn), .ref xt_far, .ref xt_ring, .int (it_walker), .int (it_from), .ref xt_was, .int (it_steps), .int (it_faultAt), .int (it_mover)])), (qt_now, .inl (cy.1, 639, .inl (ft_now)))] sz)) 0 0 (va_A [(qt, .inr (11, [.ref qt_now, .ref xt_past, .int (it_saved), .ref xt_text, .int (it_length), .ref xt_doors, .int (it_doorMany), .ref xt_label, .int (it_drawn), .ref xt_far, .ref xt_ring, .int (it_walker), .int (it_from), .ref xt_was, .int (it_steps), .int (it_faultAt), .int (it_mover)])), (qt_now, .inl (cy.1, 639, .inl (ft_now)))] sz) := by
  refine Met.ofW (cc := cX11_signs) (maxL := 4) (ret := (some .int)) (by decide) rfl ?_
  intro p e s m args below meth c s₁ B hml hv
  obtain ⟨rfl, hsz, hP, hK, hD0, hG⟩ := hv
  have hx := B.exec
  have hb := B.bytes
  have hr := B.returns
  have hts := atoms_spec (ws := wsX11_signs) B.pre
  have hown : s.vm.findClass RX11 = some m.cls := findClass_of_methodNamed B.named
  have hlocks := B.notSynchronized
  subst hsz
  have hD := hD0.self (sz := s.heap.size)
  generalize hAe : va_A [(qt, .inr (11, [.ref qt_now, .ref xt_past, .int (it_saved), .ref xt_text, .int (it_length), .ref xt_doors, .int (it_doorMany), .ref xt_label, .int (it_drawn), .ref xt_far, .ref xt_ring, .int (it_walker), .int (it_from), .ref xt_was, .int (it_steps), .int (it_faultAt), .int (it_mover)])), (qt_now, .inl (cy.1, 639, .inl (ft_now)))] s.heap.size = A at hD hG ⊢
  have hA : ∀ q : Nat, s.heap.size ≤ q → A q := fun q h => by rw [← hAe]; exact Or.inr h
  have hS : va_S A s.heap s.heap [] := va_S.rf
  have hP : va_P (dC, dI) vwCl [(qt, .inr (11, [.ref qt_now, .ref xt_past, .int (it_saved), .ref xt_text, .int (it_length), .ref xt_doors, .int (it_doorMany), .ref xt_label, .int (it_drawn), .ref xt_far, .ref xt_ring, .int (it_walker), .int (it_from), .ref xt_was, .int (it_steps), .int (it_faultAt), .int (it_mover)])), (qt_now, .inl (cy.1, 639, .inl (ft_now)))] s.heap := hP
  have hl := lv_entry ([.ref qt, .int va1]) (n := 4) (Nat.le_of_ble_eq_true rfl)
  rw [lg_entry_eq]
  generalize (lg_sl ([.ref qt, .int va1]) ++ List.replicate (4 - (lg_sl ([.ref qt, .int va1])).length) Slot.unset).toArray = ls at hl ⊢
  have hl : lv_has ls 4 [(0, .ref qt), (1, .int va1)] := hl
  refine kgen (fun Q hQ => ?_)
  have B4 : ∀ (n4 : Nat) (l2 : Int32) (l3 : Int32) (H : Heap) (locs : List Loc), va_P (dC, dI) vwCl [(qt, .inr (11, [.ref qt_now, .ref xt_past, .int (it_saved), .ref xt_text, .int (it_length), .ref xt_doors, .int (it_doorMany), .ref xt_label, .int (it_drawn), .ref xt_far, .ref xt_ring, .int (it_walker), .int (it_from), .ref xt_was, .int (it_steps), .int (it_faultAt), .int (it_mover)])), (qt_now, .inl (cy.1, 639, .inl (ft_now)))] H → va_D A [(qt, .inr (11, [.ref qt_now, .ref xt_past, .int (it_saved), .ref xt_text, .int (it_length), .ref xt_doors, .int (it_doorMany), .ref xt_label, .int (it_drawn), .ref xt_far, .ref xt_ring, .int (it_walker), .int (it_from), .ref xt_was, .int (it_steps), .int (it_faultAt), .int (it_mover)])), (qt_now, .inl (cy.1, 639, .inl (ft_now)))] → va_S A s.heap H locs → ∀ (ls : Array Slot), lv_has ls 4 [(0, .ref qt), (1, .int va1), (2, .int l2), (3, .int l3)] → b_X11_signs_4 N ft_now va1 n4 l2 l3 = some out → W p l e (headSpec wsX11_signs rm_X11_signs).room s m ([.ref qt, .int va1] : List Value).toArray below meth c H locs 0 0 Q (F0 m 4 ls []) := by
    intro n4
    induction n4 with
    | zero => intro l2 l3 H locs hP hD hS ls hl hf; rw [b_X11_signs_4] at hf; cases hf
    | succ n4 ih4 =>
      intro l2 l3 H locs hP hD hS ls hl hf
      rw [b_X11_signs_4] at hf
      refine lv_iload_n hx hb dX11_signs_4 rfl (lv_at hl 3 rfl) ?_
      refine lv_aload_n hx hb dX11_signs_5 rfl (lv_at hl 0 rfl) ?_
      refine kcalli (wc := [(qt, .inr (11, [.ref qt_now, .ref xt_past, .int (it_saved), .ref xt_text, .int (it_length), .ref xt_doors, .int (it_doorMany), .ref xt_label, .int (it_drawn), .ref xt_far, .ref xt_ring, .int (it_walker), .int (it_from), .ref xt_was, .int (it_steps), .int (it_faultAt), .int (it_mover)])), (qt_now, .inl (cy.1, 639, .inl (ft_now)))]) (wr := []) (w1 := [(qt, .inr (11, [.ref qt_now, .ref xt_past, .int (it_saved), .ref xt_text, .int (it_length), .ref xt_doors, .int (it_doorMany), .ref xt_label, .int (it_drawn), .ref xt_far, .ref xt_ring, .int (it_walker), .int (it_from), .ref xt_was, .int (it_steps), .int (it_faultAt), .int (it_mover)])), (qt_now, .inl (cy.1, 639, .inl (ft_now)))]) hK hP hD hS hA hG [0, 1] [] rfl rfl rfl rfl rfl (fun hU hPc => va_runV (As := []) (rest := [.int l3]) ⟨hx, hb, hml, hown, hts⟩ (c_X11_cells l dC dI cy G H.size qt qt_now xt_past xt_text xt_doors xt_label xt_far xt_ring xt_was (it_saved) (it_length) (it_doorMany) (it_drawn) (it_walker) (it_from) (it_steps) (it_faultAt) (it_mover) (ft_now) (t_X11_cells (ft_now)) (tot_X11_cells (ft_now))) (cwV 0 hts gX11_signs_X11_cells rfl rfl rfl hdX11_cells ⟨Nat.le_of_ble_eq_true rfl, Nat.le_of_ble_eq_true rfl⟩) ⟨kBlind, (va_recv hK hP (ci := 11) (q0 := 0) rfl rfl), fun U h1 h2 => ⟨rfl, hU U h1 h2⟩⟩ rfl rfl hl.1 rfl (lv_room (Nat.le_of_ble_eq_true rfl)) dX11_signs_6 ⟨Nat.zero_le _, Nat.zero_le _⟩) ((t_X11_cells (ft_now))) (fun _ _ h => h) (fun _ _ h => h) (fun H locs hP hD hS => ?_)
      have hP : va_P (dC, dI) vwCl [(qt, .inr (11, [.ref qt_now, .ref xt_past, .int (it_saved), .ref xt_text, .int (it_length), .ref xt_doors, .int (it_doorMany), .ref xt_label, .int (it_drawn), .ref xt_far, .ref xt_ring, .int (it_walker), .int (it_from), .ref xt_was, .int (it_steps), .int (it_faultAt), .int (it_mover)])), (qt_now, .inl (cy.1, 639, .inl (ft_now)))] H := hP
      have hD : va_D A [(qt, .inr (11, [.ref qt_now, .ref xt_past, .int (it_saved), .ref xt_text, .int (it_length), .ref xt_doors, .int (it_doorMany), .ref xt_label, .int (it_drawn), .ref xt_far, .ref xt_ring, .int (it_walker), .int (it_from), .ref xt_was, .int (it_steps), .int (it_faultAt), .int (it_mover)])), (qt_now, .inl (cy.1, 639, .inl (ft_now)))] := hD
      refine lv_icmp_ge (tgt := 51) hx hb dX11_signs_9 (by decide) (fun hc_9 => ?_) (fun hc_9 => ?_)
      · rw [if_pos hc_9] at hf
        refine lv_iload_n hx hb dX11_signs_51 rfl (lv_at hl 2 rfl) ?_
        cases hf
        subst hQ
        exact kiret hx hb hr hlocks hK (hP.sub [0, 1] rfl) (hD.sub [0, 1] (by decide) rfl) hS rfl dX11_signs_52
      · rw [if_neg hc_9] at hf
        refine lv_iload_n hx hb dX11_signs_12 rfl (lv_at hl 2 rfl) ?_
        refine lv_aload_n hx hb dX11_signs_13 rfl (lv_at hl 0 rfl) ?_
        refine va_get (D := (dC, dI)) (ci := 11) (C := RX11) (T := TX11) (N := 17) hx hb hts (fun _ h => (List.mem_cons_of_mem _ (List.mem_append_right _ h))) hown hK hP 0 rfl rfl 0 (by decide) (hts _ (List.mem_cons_of_mem _ (List.mem_append_left _ (List.mem_append_left _ (List.mem_of_getElem? (i := 0) rfl))))) (fun _ h => h) rfl dX11_signs_14 ?_
        refine lv_sipush (v := (429 : Int32)) hx hb dX11_signs_17 (by decide) ?_
        refine lv_iload_n hx hb dX11_signs_20 rfl (lv_at hl 3 rfl) ?_
        refine lv_iadd hx hb dX11_signs_21 ?_
        obtain ⟨hk_22, hf⟩ := chk_s hf
        refine va_iald hx hb hK hP 1 0 rfl rfl hk_22 dX11_signs_22 ?_
        refine lv_if_le (tgt := 42) hx hb dX11_signs_23 (by decide) (fun hc_23 => ?_) (fun hc_23 => ?_)
        · rw [if_pos hc_23] at hf
          refine lv_iconst (v := (0 : Int32)) hx hb dX11_signs_42 (by decide) ?_
          refine lv_iadd hx hb dX11_signs_43 ?_
          refine lv_istore_n (lv' := [(2, .int (l2 + (0 : Int32))), (0, .ref qt), (1, .int va1), (3, .int l3)]) hx hb dX11_signs_44 rfl hl (by decide) rfl (fun ls hl => ?_)
          refine lv_iinc (v := (l3 + (1 : Int32))) (lv' := [(3, .int (l3 + (1 : Int32))), (2, .int (l2 + (0 : Int32))), (0, .ref qt), (1, .int va1)]) hx hb dX11_signs_45 hl (k := 3) rfl rfl (by decide) rfl (fun ls hl => ?_)
          refine lv_goto (tgt := 4) hx hb dX11_signs_48 (by decide) ?_
          exact ih4 ((l2 + (0 : Int32))) ((l3 + (1 : Int32))) _ _ (hP.sub [0, 1] rfl) (hD.sub [0, 1] (by decide) rfl) hS _ (lv_sub hl [2, 3, 1, 0] rfl) hf
        · rw [if_neg hc_23] at hf
          refine lv_iload_n hx hb dX11_signs_26 rfl (lv_at hl 1 rfl) ?_
          refine lv_if_eq (tgt := 38) hx hb dX11_signs_27 (by decide) (fun hc_27 => ?_) (fun hc_27 => ?_)
          · rw [if_pos hc_27] at hf
            refine lv_iconst (v := (1 : Int32)) hx hb dX11_signs_38 (by decide) ?_
            refine lv_goto (tgt := 43) hx hb dX11_signs_39 (by decide) ?_
            refine lv_iadd hx hb dX11_signs_43 ?_
            refine lv_istore_n (lv' := [(2, .int (l2 + (1 : Int32))), (0, .ref qt), (1, .int va1), (3, .int l3)]) hx hb dX11_signs_44 rfl hl (by decide) rfl (fun ls hl => ?_)
            refine lv_iinc (v := (l3 + (1 : Int32))) (lv' := [(3, .int (l3 + (1 : Int32))), (2, .int (l2 + (1 : Int32))), (0, .ref qt), (1, .int va1)]) hx hb dX11_signs_45 hl (k := 3) rfl rfl (by decide) rfl (fun ls hl => ?_)
            refine lv_goto (tgt := 4) hx hb dX11_signs_48 (by decide) ?_
            exact ih4 ((l2 + (1 : Int32))) ((l3 + (1 : Int32))) _ _ (hP.sub [0, 1] rfl) (hD.sub [0, 1] (by decide) rfl) hS _ (lv_sub hl [2, 3, 1, 0] rfl) hf
          · rw [if_neg hc_27] at hf
            refine lv_aload_n hx hb dX11_signs_30 rfl (lv_at hl 0 rfl) ?_
            refine lv_iload_n hx hb dX11_signs_31 rfl (lv_at hl 3 rfl) ?_
            obtain ⟨r32, hq_32, hf⟩ := bnd1_s hf
            refine kcalli (wc := [(qt, .inr (11, [.ref qt_now, .ref xt_past, .int (it_saved), .ref xt_text, .int (it_length), .ref xt_doors, .int (it_doorMany), .ref xt_label, .int (it_drawn), .ref xt_far, .ref xt_ring, .int (it_walker), .int (it_from), .ref xt_was, .int (it_steps), .int (it_faultAt), .int (it_mover)])), (qt_now, .inl (cy.1, 639, .inl (ft_now)))]) (wr := []) (w1 := [(qt, .inr (11, [.ref qt_now, .ref xt_past, .int (it_saved), .ref xt_text, .int (it_length), .ref xt_doors, .int (it_doorMany), .ref xt_label, .int (it_drawn), .ref xt_far, .ref xt_ring, .int (it_walker), .int (it_from), .ref xt_was, .int (it_steps), .int (it_faultAt), .int (it_mover)])), (qt_now, .inl (cy.1, 639, .inl (ft_now)))]) hK hP hD hS hA hG [0, 1] [] rfl rfl rfl rfl rfl (fun hU hPc => va_runV (As := [.int l3]) (rest := [.int l2]) ⟨hx, hb, hml, hown, hts⟩ (c_X11_isFork l dC dI cy G H.size qt qt_now xt_past xt_text xt_doors xt_label xt_far xt_ring xt_was (it_saved) (it_length) (it_doorMany) (it_drawn) (it_walker) (it_from) (it_steps) (it_faultAt) (it_mover) N (ft_now) (l3) r32 hq_32) (cwV 1 hts gX11_signs_X11_isFork rfl rfl rfl hdX11_isFork ⟨Nat.le_of_ble_eq_true rfl, Nat.le_of_ble_eq_true rfl⟩) ⟨kBlind, (va_recv hK hP (ci := 11) (q0 := 0) rfl rfl), fun U h1 h2 => ⟨rfl, hU U h1 h2⟩⟩ rfl rfl hl.1 rfl (lv_room (Nat.le_of_ble_eq_true rfl)) dX11_signs_32 ⟨Nat.zero_le _, Nat.zero_le _⟩) (r32) (fun _ _ h => h) (fun _ _ h => h) (fun H locs hP hD hS => ?_)
            have hP : va_P (dC, dI) vwCl [(qt, .inr (11, [.ref qt_now, .ref xt_past, .int (it_saved), .ref xt_text, .int (it_length), .ref xt_doors, .int (it_doorMany), .ref xt_label, .int (it_drawn), .ref xt_far, .ref xt_ring, .int (it_walker), .int (it_from), .ref xt_was, .int (it_steps), .int (it_faultAt), .int (it_mover)])), (qt_now, .inl (cy.1, 639, .inl (ft_now)))] H := hP
            have hD : va_D A [(qt, .inr (11, [.ref qt_now, .ref xt_past, .int (it_saved), .ref xt_text, .int (it_length), .ref xt_doors, .int (it_doorMany), .ref xt_label, .int (it_drawn), .ref xt_far, .ref xt_ring, .int (it_walker), .int (it_from), .ref xt_was, .int (it_steps), .int (it_faultAt), .int (it_mover)])), (qt_now, .inl (cy.1, 639, .inl (ft_now)))] := hD
            refine lv_if_eq (tgt := 42) hx hb dX11_signs_35 (by decide) (fun hc_35 => ?_) (fun hc_35 => ?_)
            · rw [if_pos hc_35] at hf
              refine lv_iconst (v := (0 : Int32)) hx hb dX11_signs_42 (by decide) ?_
              refine lv_iadd hx hb dX11_signs_43 ?_
              refine lv_istore_n (lv' := [(2, .int (l2 + (0 : Int32))), (0, .ref qt), (1, .int va1), (3, .int l3)]) hx hb dX11_signs_44 rfl hl (by decide) rfl (fun ls hl => ?_)
              refine lv_iinc (v := (l3 + (1 : Int32))) (lv' := [(3, .int (l3 + (1 : Int32))), (2, .int (l2 + (0 : Int32))), (0, .ref qt), (1, .int va1)]) hx hb dX11_signs_45 hl (k := 3) rfl rfl (by decide) rfl (fun ls hl => ?_)
              refine lv_goto (tgt := 4) hx hb dX11_signs_48 (by decide) ?_
              exact ih4 ((l2 + (0 : Int32))) ((l3 + (1 : Int32))) _ _ (hP.sub [0, 1] rfl) (hD.sub [0, 1] (by decide) rfl) hS _ (lv_sub hl [2, 3, 1, 0] rfl) hf
            · rw [if_neg hc_35] at hf
              refine lv_iconst (v := (1 : Int32)) hx hb dX11_signs_38 (by decide) ?_
              refine lv_goto (tgt := 43) hx hb dX11_signs_39 (by decide) ?_
              refine lv_iadd hx hb dX11_signs_43 ?_
              refine lv_istore_n (lv' := [(2, .int (l2 + (1 : Int32))), (0, .ref qt), (1, .int va1), (3, .int l3)]) hx hb dX11_signs_44 rfl hl (by decide) rfl (fun ls hl => ?_)
              refine lv_iinc (v := (l3 + (1 : Int32))) (lv' := [(3, .int (l3 + (1 : Int32))), (2, .int (l2 + (1 : Int32))), (0, .ref qt), (1, .int va1)]) hx hb dX11_signs_45 hl (k := 3) rfl rfl (by decide) rfl (fun ls hl => ?_)
              refine lv_goto (tgt := 4) hx hb dX11_signs_48 (by decide) ?_
              exact ih4 ((l2 + (1 : Int32))) ((l3 + (1 : Int32))) _ _ (hP.sub [0, 1] rfl) (hD.sub [0, 1] (by decide) rfl) hS _ (lv_sub hl [2, 3, 1, 0] rfl) hf
  rw [f_X11_signs] at hf
  refine lv_iconst (v := (0 : Int32)) hx hb dX11_signs_0 (by decide) ?_
  refine lv_istore_n (lv' := [(2, .int (0 : Int32)), (0, .ref qt), (1, .int va1)]) hx hb dX11_signs_1 rfl hl (by decide) rfl (fun ls hl => ?_)
  refine lv_iconst (v := (0 : Int32)) hx hb dX11_signs_2 (by decide) ?_
  refine lv_istore_n (lv' := [(3, .int (0 : Int32)), (2, .int (0 : Int32)), (0, .ref qt), (1, .int va1)]) hx hb dX11_signs_3 rfl hl (by decide) rfl (fun ls hl => ?_)
  exact B4 N ((0 : Int32)) ((0 : Int32)) _ _ (hP.sub [0, 1] rfl) (hD.sub [0, 1] (by decide) rfl) hS _ (lv_sub hl [2, 3, 1, 0] rfl) hf
theorem hdX11_signs : yX11_signs.cls = RX11 ∧ yX11_signs.cls ≠ "java/lang/invoke/MethodHandle" ∧ yX11_signs.cls ≠ "java/lang/invoke/VarHandle" ∧ (parseMethodDescriptor yX11_signs.desc).map (fun d => d.parameters.length) = some 1 := by decide +kernel
noncomputable def f_X11_count (N : Nat) (it_saved : Int32) (it_length : Int32) (it_doorMany : Int32) (ft_now : Nat → Int32) (ft_doors : Nat → Int32) (ft_label : Nat → Int32) (va1 : Int32) : Option (Int32 × Int32 × (Nat → Int32) × (Nat → Int32)) :=
  if va1 = (0 : Int32) then
    some ((ft_now ((0 : Int32)).toNatClampNeg), it_doorMany, ft_doors, ft_label)
  else
    if va1 = (1 : Int32) then
      some ((t_X11_wide (ft_now)), it_doorMany, ft_doors, ft_label)
    else
      if va1 = (2 : Int32) then
        bnd1 (f_X11_rooms N (ft_now)) fun r93 =>
        some (r93, it_doorMany, ft_doors, ft_label)
      else
        if va1 = (3 : Int32) then
          bnd2 (f_X11_countsDoors N (it_doorMany) (ft_now) (ft_doors)) fun o98_0 o98_1 =>
          some (o98_0, o98_0, o98_1, ft_label)
        else
          if va1 = (4 : Int32) then
            bnd1 (f_X11_openDoors N (ft_now)) fun r107 =>
            some (r107, it_doorMany, ft_doors, ft_label)
          else
            if va1 = (5 : Int32) then
              bnd2 (f_X11_parts N (ft_now) (ft_label)) fun r112 o112_0 =>
              some (r112, it_doorMany, ft_doors, o112_0)
            else
              if va1 = (6 : Int32) then
                bnd2 (f_X11_loops N (ft_now) (ft_label)) fun r117 o117_0 =>
                some (r117, it_doorMany, ft_doors, o117_0)
              else
                if va1 = (7 : Int32) then
                  bnd2 (f_X11_isSingle N (ft_now) (ft_label)) fun r122 o122_0 =>
                  if r122 = 0 then
                    some ((0 : Int32), it_doorMany, ft_doors, o122_0)
                  else
                    some ((1 : Int32), it_doorMany, ft_doors, o122_0)
                else
                  if va1 = (8 : Int32) then
                    bnd1 (f_X11_roomsWith N (ft_now) ((1 : Int32)) ((1 : Int32))) fun r137 =>
                    some (r137, it_doorMany, ft_doors, ft_label)
                  else
                    if va1 = (9 : Int32) then
                      bnd1 (f_X11_roomsWith N (ft_now) ((3 : Int32)) ((4 : Int32))) fun r144 =>
                      some (r144, it_doorMany, ft_doors, ft_label)
                    else
                      if va1 = (10 : Int32) then
                        if (((7 : Int32) + va1) - (10 : Int32)) < 0 ∨ 639 ≤ ((((7 : Int32) + va1) - (10 : Int32))).toNatClampNeg then none else
                        some ((ft_now ((((7 : Int32) + va1) - (10 : Int32))).toNatClampNeg), it_doorMany, ft_doors, ft_label)
                      else
                        if va1 = (11 : Int32) then
                          if (((7 : Int32) + va1) - (10 : Int32)) < 0 ∨ 639 ≤ ((((7 : Int32) + va1) - (10 : Int32))).toNatClampNeg then none else
                          some ((ft_now ((((7 : Int32) + va1) - (10 : Int32))).toNatClampNeg), it_doorMany, ft_doors, ft_label)
                        else
                          if va1 = (12 : Int32) then
                            bnd1 (f_X11_signs N (ft_now) ((0 : Int32))) fun r163 =>
                            some (r163, it_doorMany, ft_doors, ft_label)
                          else
                            if va1 = (13 : Int32) then
                              bnd1 (f_X11_signs N (ft_now) ((1 : Int32))) fun r169 =>
                              some (r169, it_doorMany, ft_doors, ft_label)
                            else
                              if va1 = (14 : Int32) then
                                some (it_saved, it_doorMany, ft_doors, ft_label)
                              else
                                if va1 = (15 : Int32) then
                                  some (it_length, it_doorMany, ft_doors, ft_label)
                                else
                                  some ((-1 : Int32), it_doorMany, ft_doors, ft_label)
abbrev rm_X11_count : Room := { frames := 10, cells := 0, slots := 0, locals := 219 }
set_option maxHeartbeats 4000000 in
set_option maxRecDepth 100000 in
theorem c_X11_count (l : Launch) (dC : Nat → ClassId) (dI : Nat → Nat → Nat) (cy : gC) (G : gT) (sz : Nat) (qt : Nat) (qt_now : Nat) (qt_doors : Nat) (qt_label : Nat) (xt_past : Nat) (xt_text : Nat) (xt_far : Nat) (xt_ring : Nat) (xt_was : Nat) (it_drawn : Int32) (it_walker : Int32) (it_from : Int32) (it_steps : Int32) (it_faultAt : Int32) (it_mover : Int32) (N : Nat) (it_saved : Int32) (it_length : Int32) (it_doorMany : Int32) (ft_now : Nat → Int32) (ft_doors : Nat → Int32) (ft_label : Nat → Int32) (va1 : Int32) (out : Int32 × Int32 × (Nat → Int32) × (Nat → Int32)) (hf : f_X11_count N it_saved it_length it_doorMany ft_now ft_doors ft_label va1 = some out) : Met l yX11_count wsX11_count rm_X11_count (va_Pc [.ref qt, .int va1] (kP (dC, dI) cy G [(qt, .inr (11, [.ref qt_now, .ref xt_past, .int (it_saved), .ref xt_text, .int (it_length), .ref qt_doors, .int (it_doorMany), .ref qt_label, .int (it_drawn), .ref xt_far, .ref xt_ring, .int (it_walker), .int (it_from), .ref xt_was, .int (it_steps), .int (it_faultAt), .int (it_mover)])), (qt_now, .inl (cy.1, 639, .inl (ft_now))), (qt_doors, .inl (cy.1, 420, .inl (ft_doors))), (qt_label, .inl (cy.1, 210, .inl (ft_label)))] sz)) (va_Qi (fun r (_ : Unit) => r = out.1) (fun _ => kQ (dC, dI) cy [(qt, .inr (11, [.ref qt_now, .ref xt_past, .int (it_saved), .ref xt_text, .int (it_length), .ref qt_doors, .int (out.2.1), .ref qt_label, .int (it_drawn), .ref xt_far, .ref xt_ring, .int (it_walker), .int (it_from), .ref xt_was, .int (it_steps), .int (it_faultAt), .int (it_mover)])), (qt_now, .inl (cy.1, 639, .inl (ft_now))), (qt_doors, .inl (cy.1, 420, .inl (out.2.2.1))), (qt_label, .inl (cy.1, 210, .inl (out.2.2.2)))] (va_A [(qt, .inr (11, [.ref qt_now, .ref xt_past, .int (it_saved), .ref xt_text, .int (it_length), .ref qt_doors, .int (it_doorMany), .ref qt_label, .int (it_drawn), .ref xt_far, .ref xt_ring, .int (it_walker), .int (it_from), .ref xt_was, .int (it_steps), .int (it_faultAt), .int (it_mover)])), (qt_now, .inl (cy.1, 639, .inl (ft_now))), (qt_doors, .inl (cy.1, 420, .inl (ft_doors))), (qt_label, .inl (cy.1, 210, .inl (ft_label)))] sz)) (va_A [(qt, .inr (11, [.ref qt_now, .ref xt_past, .int (it_saved), .ref xt_text, .int (it_length), .ref qt_doors, .int (it_doorMany), .ref qt_label, .int (it_drawn), .ref xt_far, .ref xt_ring, .int (it_walker), .int (it_from), .ref xt_was, .int (it_steps), .int (it_faultAt), .int (it_mover)])), (qt_now, .inl (cy.1, 639, .inl (ft_now))), (qt_doors, .inl (cy.1, 420, .inl (ft_doors))), (qt_label, .inl (cy.1, 210, .inl (ft_label)))] sz)) 0 0 (va_A [(qt, .inr (11, [.ref qt_now, .ref xt_past, .int (it_saved), .ref xt_text, .int (it_length), .ref qt_doors, .int (it_doorMany), .ref qt_label, .int (it_drawn), .ref xt_far, .ref xt_ring, .int (it_walker), .int (it_from), .ref xt_was, .int (it_steps), .int (it_faultAt), .int (it_mover)])), (qt_now, .inl (cy.1, 639, .inl (ft_now))), (qt_doors, .inl (cy.1, 420, .inl (ft_doors))), (qt_label, .inl (cy.1, 210, .inl (ft_label)))] sz) := by
  refine Met.ofW (cc := cX11_count) (maxL := 2) (ret := (some .int)) (by decide) rfl ?_
  intro p e s m args below meth c s₁ B hml hv
  obtain ⟨rfl, hsz, hP, hK, hD0, hG⟩ := hv
  have hx := B.exec
  have hb := B.bytes
  have hr := B.returns
  have hts := atoms_spec (ws := wsX11_count) B.pre
  have hown : s.vm.findClass RX11 = some m.cls := findClass_of_methodNamed B.named
  have hlocks := B.notSynchronized
  subst hsz
  have hD := hD0.self (sz := s.heap.size)
  generalize hAe : va_A [(qt, .inr (11, [.ref qt_now, .ref xt_past, .int (it_saved), .ref xt_text, .int (it_length), .ref qt_doors, .int (it_doorMany), .ref qt_label, .int (it_drawn), .ref xt_far, .ref xt_ring, .int (it_walker), .int (it_from), .ref xt_was, .int (it_steps), .int (it_faultAt), .int (it_mover)])), (qt_now, .inl (cy.1, 639, .inl (ft_now))), (qt_doors, .inl (cy.1, 420, .inl (ft_doors))), (qt_label, .inl (cy.1, 210, .inl (ft_label)))] s.heap.size = A at hD hG ⊢
  have hA : ∀ q : Nat, s.heap.size ≤ q → A q := fun q h => by rw [← hAe]; exact Or.inr h
  have hS : va_S A s.heap s.heap [] := va_S.rf
  have hP : va_P (dC, dI) vwCl [(qt, .inr (11, [.ref qt_now, .ref xt_past, .int (it_saved), .ref xt_text, .int (it_length), .ref qt_doors, .int (it_doorMany), .ref qt_label, .int (it_drawn), .ref xt_far, .ref xt_ring, .int (it_walker), .int (it_from), .ref xt_was, .int (it_steps), .int (it_faultAt), .int (it_mover)])), (qt_now, .inl (cy.1, 639, .inl (ft_now))), (qt_doors, .inl (cy.1, 420, .inl (ft_doors))), (qt_label, .inl (cy.1, 210, .inl (ft_label)))] s.heap := hP
  have hl := lv_entry ([.ref qt, .int va1]) (n := 2) (Nat.le_of_ble_eq_true rfl)
  rw [lg_entry_eq]
  generalize (lg_sl ([.ref qt, .int va1]) ++ List.replicate (2 - (lg_sl ([.ref qt, .int va1])).length) Slot.unset).toArray = ls at hl ⊢
  have hl : lv_has ls 2 [(0, .ref qt), (1, .int va1)] := hl
  refine kgen (fun Q hQ => ?_)
  rw [f_X11_count] at hf
  refine lv_iload_n hx hb dX11_count_0 rfl (lv_at hl 1 rfl) ?_
  by_cases hc_1_0 : va1 = (0 : Int32)
  · rw [if_pos hc_1_0] at hf
    refine lv_tableIn (tgt := 80) hx hb dX11_count_1 (by rw [hc_1_0]; decide) (by rw [hc_1_0]; decide) (by rw [hc_1_0]; rfl) (by decide) ?_
    refine lv_aload_n hx hb dX11_count_80 rfl (lv_at hl 0 rfl) ?_
    refine va_get (D := (dC, dI)) (ci := 11) (C := RX11) (T := TX11) (N := 17) hx hb hts (fun _ h => (List.mem_cons_of_mem _ (List.mem_append_right _ h))) hown hK hP 0 rfl rfl 0 (by decide) (hts _ (List.mem_cons_of_mem _ (List.mem_append_left _ (List.mem_append_left _ (List.mem_of_getElem? (i := 0) rfl))))) (fun _ h => h) rfl dX11_count_81 ?_
    refine lv_iconst (v := (0 : Int32)) hx hb dX11_count_84 (by decide) ?_
    refine va_iald hx hb hK hP 1 0 rfl rfl (by unfold vp_in; decide) dX11_count_85 ?_
    cases hf
    subst hQ
    exact kiret hx hb hr hlocks hK (hP.sub [0, 1, 2, 3] rfl) (hD.sub [0, 1, 2, 3] (by decide) rfl) hS rfl dX11_count_86
  rw [if_neg hc_1_0] at hf
  by_cases hc_1_1 : va1 = (1 : Int32)
  · rw [if_pos hc_1_1] at hf
    refine lv_tableIn (tgt := 87) hx hb dX11_count_1 (by rw [hc_1_1]; decide) (by rw [hc_1_1]; decide) (by rw [hc_1_1]; rfl) (by decide) ?_
    refine lv_aload_n hx hb dX11_count_87 rfl (lv_at hl 0 rfl) ?_
    refine kcalli (wc := [(qt, .inr (11, [.ref qt_now, .ref xt_past, .int (it_saved), .ref xt_text, .int (it_length), .ref qt_doors, .int (it_doorMany), .ref qt_label, .int (it_drawn), .ref xt_far, .ref xt_ring, .int (it_walker), .int (it_from), .ref xt_was, .int (it_steps), .int (it_faultAt), .int (it_mover)])), (qt_now, .inl (cy.1, 639, .inl (ft_now)))]) (wr := [(qt_doors, .inl (cy.1, 420, .inl (ft_doors))), (qt_label, .inl (cy.1, 210, .inl (ft_label)))]) (w1 := [(qt, .inr (11, [.ref qt_now, .ref xt_past, .int (it_saved), .ref xt_text, .int (it_length), .ref qt_doors, .int (it_doorMany), .ref qt_label, .int (it_drawn), .ref xt_far, .ref xt_ring, .int (it_walker), .int (it_from), .ref xt_was, .int (it_steps), .int (it_faultAt), .int (it_mover)])), (qt_now, .inl (cy.1, 639, .inl (ft_now)))]) hK hP hD hS hA hG [0, 1] [2, 3] rfl rfl rfl rfl rfl (fun hU hPc => va_runV (As := []) (rest := []) ⟨hx, hb, hml, hown, hts⟩ (c_X11_wide l dC dI cy G s.heap.size qt qt_now xt_past xt_text qt_doors qt_label xt_far xt_ring xt_was (it_saved) (it_length) (it_doorMany) (it_drawn) (it_walker) (it_from) (it_steps) (it_faultAt) (it_mover) (ft_now) (t_X11_wide (ft_now)) (tot_X11_wide (ft_now))) (cwV 0 hts gX11_count_X11_wide rfl rfl rfl hdX11_wide ⟨Nat.le_of_ble_eq_true rfl, Nat.le_of_ble_eq_true rfl⟩) ⟨kBlind, (va_recv hK hP (ci := 11) (q0 := 0) rfl rfl), fun U h1 h2 => ⟨rfl, hU U h1 h2⟩⟩ rfl rfl hl.1 rfl (lv_room (Nat.le_of_ble_eq_true rfl)) dX11_count_88 ⟨Nat.zero_le _, Nat.zero_le _⟩) ((t_X11_wide (ft_now))) (fun _ _ h => h) (fun _ _ h => h) (fun H locs hP hD hS => ?_)
    have hP : va_P (dC, dI) vwCl [(qt_doors, .inl (cy.1, 420, .inl (ft_doors))), (qt_label, .inl (cy.1, 210, .inl (ft_label))), (qt, .inr (11, [.ref qt_now, .ref xt_past, .int (it_saved), .ref xt_text, .int (it_length), .ref qt_doors, .int (it_doorMany), .ref qt_label, .int (it_drawn), .ref xt_far, .ref xt_ring, .int (it_walker), .int (it_from), .ref xt_was, .int (it_steps), .int (it_faultAt), .int (it_mover)])), (qt_now, .inl (cy.1, 639, .inl (ft_now)))] H := hP
    have hD : va_D A [(qt_doors, .inl (cy.1, 420, .inl (ft_doors))), (qt_label, .inl (cy.1, 210, .inl (ft_label))), (qt, .inr (11, [.ref qt_now, .ref xt_past, .int (it_saved), .ref xt_text, .int (it_length), .ref qt_doors, .int (it_doorMany), .ref qt_label, .int (it_drawn), .ref xt_far, .ref xt_ring, .int (it_walker), .int (it_from), .ref xt_was, .int (it_steps), .int (it_faultAt), .int (it_mover)])), (qt_now, .inl (cy.1, 639, .inl (ft_now)))] := hD
    cases hf
    subst hQ
    exact kiret hx hb hr hlocks hK (hP.sub [2, 3, 0, 1] rfl) (hD.sub [2, 3, 0, 1] (by decide) rfl) hS rfl dX11_count_91
  rw [if_neg hc_1_1] at hf
  by_cases hc_1_2 : va1 = (2 : Int32)
  · rw [if_pos hc_1_2] at hf
    refine lv_tableIn (tgt := 92) hx hb dX11_count_1 (by rw [hc_1_2]; decide) (by rw [hc_1_2]; decide) (by rw [hc_1_2]; rfl) (by decide) ?_
    refine lv_aload_n hx hb dX11_count_92 rfl (lv_at hl 0 rfl) ?_
    obtain ⟨r93, hq_93, hf⟩ := bnd1_s hf
    refine kcalli (wc := [(qt, .inr (11, [.ref qt_now, .ref xt_past, .int (it_saved), .ref xt_text, .int (it_length), .ref qt_doors, .int (it_doorMany), .ref qt_label, .int (it_drawn), .ref xt_far, .ref xt_ring, .int (it_walker), .int (it_from), .ref xt_was, .int (it_steps), .int (it_faultAt), .int (it_mover)])), (qt_now, .inl (cy.1, 639, .inl (ft_now)))]) (wr := [(qt_doors, .inl (cy.1, 420, .inl (ft_doors))), (qt_label, .inl (cy.1, 210, .inl (ft_label)))]) (w1 := [(qt, .inr (11, [.ref qt_now, .ref xt_past, .int (it_saved), .ref xt_text, .int (it_length), .ref qt_doors, .int (it_doorMany), .ref qt_label, .int (it_drawn), .ref xt_far, .ref xt_ring, .int (it_walker), .int (it_from), .ref xt_was, .int (it_steps), .int (it_faultAt), .int (it_mover)])), (qt_now, .inl (cy.1, 639, .inl (ft_now)))]) hK hP hD hS hA hG [0, 1] [2, 3] rfl rfl rfl rfl rfl (fun hU hPc => va_runV (As := []) (rest := []) ⟨hx, hb, hml, hown, hts⟩ (c_X11_rooms l dC dI cy G s.heap.size qt qt_now xt_past xt_text qt_doors qt_label xt_far xt_ring xt_was (it_saved) (it_length) (it_doorMany) (it_drawn) (it_walker) (it_from) (it_steps) (it_faultAt) (it_mover) N (ft_now) r93 hq_93) (cwV 0 hts gX11_count_X11_rooms rfl rfl rfl hdX11_rooms ⟨Nat.le_of_ble_eq_true rfl, Nat.le_of_ble_eq_true rfl⟩) ⟨kBlind, (va_recv hK hP (ci := 11) (q0 := 0) rfl rfl), fun U h1 h2 => ⟨rfl, hU U h1 h2⟩⟩ rfl rfl hl.1 rfl (lv_room (Nat.le_of_ble_eq_true rfl)) dX11_count_93 ⟨Nat.zero_le _, Nat.zero_le _⟩) (r93) (fun _ _ h => h) (fun _ _ h => h) (fun H locs hP hD hS => ?_)
    have hP : va_P (dC, dI) vwCl [(qt_doors, .inl (cy.1, 420, .inl (ft_doors))), (qt_label, .inl (cy.1, 210, .inl (ft_label))), (qt, .inr (11, [.ref qt_now, .ref xt_past, .int (it_saved), .ref xt_text, .int (it_length), .ref qt_doors, .int (it_doorMany), .ref qt_label, .int (it_drawn), .ref xt_far, .ref xt_ring, .int (it_walker), .int (it_from), .ref xt_was, .int (it_steps), .int (it_faultAt), .int (it_mover)])), (qt_now, .inl (cy.1, 639, .inl (ft_now)))] H := hP
    have hD : va_D A [(qt_doors, .inl (cy.1, 420, .inl (ft_doors))), (qt_label, .inl (cy.1, 210, .inl (ft_label))), (qt, .inr (11, [.ref qt_now, .ref xt_past, .int (it_saved), .ref xt_text, .int (it_length), .ref qt_doors, .int (it_doorMany), .ref qt_label, .int (it_drawn), .ref xt_far, .ref xt_ring, .int (it_walker), .int (it_from), .ref xt_was, .int (it_steps), .int (it_faultAt), .int (it_mover)])), (qt_now, .inl (cy.1, 639, .inl (ft_now)))] := hD
    cases hf
    subst hQ
    exact kiret hx hb hr hlocks hK (hP.sub [2, 3, 0, 1] rfl) (hD.sub [2, 3, 0, 1] (by decide) rfl) hS rfl dX11_count_96
  rw [if_neg hc_1_2] at hf
  by_cases hc_1_3 : va1 = (3 : Int32)
  · rw [if_pos hc_1_3] at hf
    refine lv_tableIn (tgt := 97) hx hb dX11_count_1 (by rw [hc_1_3]; decide) (by rw [hc_1_3]; decide) (by rw [hc_1_3]; rfl) (by decide) ?_
    refine lv_aload_n hx hb dX11_count_97 rfl (lv_at hl 0 rfl) ?_
    obtain ⟨o98_0, o98_1, hq_98, hf⟩ := bnd2_s hf
    refine kcallv (wc := [(qt, .inr (11, [.ref qt_now, .ref xt_past, .int (it_saved), .ref xt_text, .int (it_length), .ref qt_doors, .int (it_doorMany), .ref qt_label, .int (it_drawn), .ref xt_far, .ref xt_ring, .int (it_walker), .int (it_from), .ref xt_was, .int (it_steps), .int (it_faultAt), .int (it_mover)])), (qt_now, .inl (cy.1, 639, .inl (ft_now))), (qt_doors, .inl (cy.1, 420, .inl (ft_doors)))]) (wr := [(qt_label, .inl (cy.1, 210, .inl (ft_label)))]) (w1 := [(qt, .inr (11, [.ref qt_now, .ref xt_past, .int (it_saved), .ref xt_text, .int (it_length), .ref qt_doors, .int (o98_0), .ref qt_label, .int (it_drawn), .ref xt_far, .ref xt_ring, .int (it_walker), .int (it_from), .ref xt_was, .int (it_steps), .int (it_faultAt), .int (it_mover)])), (qt_now, .inl (cy.1, 639, .inl (ft_now))), (qt_doors, .inl (cy.1, 420, .inl (o98_1)))]) hK hP hD hS hA hG [0, 1, 2] [3] rfl rfl rfl rfl rfl (fun hU hPc => va_runV (As := []) (rest := []) ⟨hx, hb, hml, hown, hts⟩ (c_X11_countsDoors l dC dI cy G s.heap.size qt qt_now qt_doors xt_past xt_text qt_label xt_far xt_ring xt_was (it_saved) (it_length) (it_drawn) (it_walker) (it_from) (it_steps) (it_faultAt) (it_mover) N (it_doorMany) (ft_now) (ft_doors) (o98_0, o98_1) hq_98) (cwV 0 hts gX11_count_X11_countsDoors rfl rfl rfl hdX11_countsDoors ⟨Nat.le_of_ble_eq_true rfl, Nat.le_of_ble_eq_true rfl⟩) ⟨kBlind, (va_recv hK hP (ci := 11) (q0 := 0) rfl rfl), fun U h1 h2 => ⟨rfl, hU U h1 h2⟩⟩ rfl rfl hl.1 rfl (lv_room (Nat.le_of_ble_eq_true rfl)) dX11_count_98 ⟨Nat.zero_le _, Nat.zero_le _⟩) (fun _ _ h => h) (fun H locs hP hD hS => ?_)
    have hP : va_P (dC, dI) vwCl [(qt_label, .inl (cy.1, 210, .inl (ft_label))), (qt, .inr (11, [.ref qt_now, .ref xt_past, .int (it_saved), .ref xt_text, .int (it_length), .ref qt_doors, .int (o98_0), .ref qt_label, .int (it_drawn), .ref xt_far, .ref xt_ring, .int (it_walker), .int (it_from), .ref xt_was, .int (it_steps), .int (it_faultAt), .int (it_mover)])), (qt_now, .inl (cy.1, 639, .inl (ft_now))), (qt_doors, .inl (cy.1, 420, .inl (o98_1)))] H := hP
    have hD : va_D A [(qt_label, .inl (cy.1, 210, .inl (ft_label))), (qt, .inr (11, [.ref qt_now, .ref xt_past, .int (it_saved), .ref xt_text, .int (it_length), .ref qt_doors, .int (o98_0), .ref qt_label, .int (it_drawn), .ref xt_far, .ref xt_ring, .int (it_walker), .int (it_from), .ref xt_was, .int (it_steps), .int (it_faultAt), .int (it_mover)])), (qt_now, .inl (cy.1, 639, .inl (ft_now))), (qt_doors, .inl (cy.1, 420, .inl (o98_1)))] := hD
    refine lv_aload_n hx hb dX11_count_101 rfl (lv_at hl 0 rfl) ?_
    refine va_get (D := (dC, dI)) (ci := 11) (C := RX11) (T := TX11) (N := 17) hx hb hts (fun _ h => (List.mem_cons_of_mem _ (List.mem_append_right _ h))) hown hK hP 1 rfl rfl 6 (by decide) (hts _ (List.mem_cons_of_mem _ (List.mem_append_left _ (List.mem_append_left _ (List.mem_of_getElem? (i := 1) rfl))))) (fun _ h => h) rfl dX11_count_102 ?_
    cases hf
    subst hQ
    exact kiret hx hb hr hlocks hK (hP.sub [1, 2, 3, 0] rfl) (hD.sub [1, 2, 3, 0] (by decide) rfl) hS rfl dX11_count_105
  rw [if_neg hc_1_3] at hf
  by_cases hc_1_4 : va1 = (4 : Int32)
  · rw [if_pos hc_1_4] at hf
    refine lv_tableIn (tgt := 106) hx hb dX11_count_1 (by rw [hc_1_4]; decide) (by rw [hc_1_4]; decide) (by rw [hc_1_4]; rfl) (by decide) ?_
    refine lv_aload_n hx hb dX11_count_106 rfl (lv_at hl 0 rfl) ?_
    obtain ⟨r107, hq_107, hf⟩ := bnd1_s hf
    refine kcalli (wc := [(qt, .inr (11, [.ref qt_now, .ref xt_past, .int (it_saved), .ref xt_text, .int (it_length), .ref qt_doors, .int (it_doorMany), .ref qt_label, .int (it_drawn), .ref xt_far, .ref xt_ring, .int (it_walker), .int (it_from), .ref xt_was, .int (it_steps), .int (it_faultAt), .int (it_mover)])), (qt_now, .inl (cy.1, 639, .inl (ft_now)))]) (wr := [(qt_doors, .inl (cy.1, 420, .inl (ft_doors))), (qt_label, .inl (cy.1, 210, .inl (ft_label)))]) (w1 := [(qt, .inr (11, [.ref qt_now, .ref xt_past, .int (it_saved), .ref xt_text, .int (it_length), .ref qt_doors, .int (it_doorMany), .ref qt_label, .int (it_drawn), .ref xt_far, .ref xt_ring, .int (it_walker), .int (it_from), .ref xt_was, .int (it_steps), .int (it_faultAt), .int (it_mover)])), (qt_now, .inl (cy.1, 639, .inl (ft_now)))]) hK hP hD hS hA hG [0, 1] [2, 3] rfl rfl rfl rfl rfl (fun hU hPc => va_runV (As := []) (rest := []) ⟨hx, hb, hml, hown, hts⟩ (c_X11_openDoors l dC dI cy G s.heap.size qt qt_now xt_past xt_text qt_doors qt_label xt_far xt_ring xt_was (it_saved) (it_length) (it_doorMany) (it_drawn) (it_walker) (it_from) (it_steps) (it_faultAt) (it_mover) N (ft_now) r107 hq_107) (cwV 0 hts gX11_count_X11_openDoors rfl rfl rfl hdX11_openDoors ⟨Nat.le_of_ble_eq_true rfl, Nat.le_of_ble_eq_true rfl⟩) ⟨kBlind, (va_recv hK hP (ci := 11) (q0 := 0) rfl rfl), fun U h1 h2 => ⟨rfl, hU U h1 h2⟩⟩ rfl rfl hl.1 rfl (lv_room (Nat.le_of_ble_eq_true rfl)) dX11_count_107 ⟨Nat.zero_le _, Nat.zero_le _⟩) (r107) (fun _ _ h => h) (fun _ _ h => h) (fun H locs hP hD hS => ?_)
    have hP : va_P (dC, dI) vwCl [(qt_doors, .inl (cy.1, 420, .inl (ft_doors))), (qt_label, .inl (cy.1, 210, .inl (ft_label))), (qt, .inr (11, [.ref qt_now, .ref xt_past, .int (it_saved), .ref xt_text, .int (it_length), .ref qt_doors, .int (it_doorMany), .ref qt_label, .int (it_drawn), .ref xt_far, .ref xt_ring, .int (it_walker), .int (it_from), .ref xt_was, .int (it_steps), .int (it_faultAt), .int (it_mover)])), (qt_now, .inl (cy.1, 639, .inl (ft_now)))] H := hP
    have hD : va_D A [(qt_doors, .inl (cy.1, 420, .inl (ft_doors))), (qt_label, .inl (cy.1, 210, .inl (ft_label))), (qt, .inr (11, [.ref qt_now, .ref xt_past, .int (it_saved), .ref xt_text, .int (it_length), .ref qt_doors, .int (it_doorMany), .ref qt_label, .int (it_drawn), .ref xt_far, .ref xt_ring, .int (it_walker), .int (it_from), .ref xt_was, .int (it_steps), .int (it_faultAt), .int (it_mover)])), (qt_now, .inl (cy.1, 639, .inl (ft_now)))] := hD
    cases hf
    subst hQ
    exact kiret hx hb hr hlocks hK (hP.sub [2, 3, 0, 1] rfl) (hD.sub [2, 3, 0, 1] (by decide) rfl) hS rfl dX11_count_110
  rw [if_neg hc_1_4] at hf
  by_cases hc_1_5 : va1 = (5 : Int32)
  · rw [if_pos hc_1_5] at hf
    refine lv_tableIn (tgt := 111) hx hb dX11_count_1 (by rw [hc_1_5]; decide) (by rw [hc_1_5]; decide) (by rw [hc_1_5]; rfl) (by decide) ?_
    refine lv_aload_n hx hb dX11_count_111 rfl (lv_at hl 0 rfl) ?_
    obtain ⟨r112, o112_0, hq_112, hf⟩ := bnd2_s hf
    refine kcalli (wc := [(qt, .inr (11, [.ref qt_now, .ref xt_past, .int (it_saved), .ref xt_text, .int (it_length), .ref qt_doors, .int (it_doorMany), .ref qt_label, .int (it_drawn), .ref xt_far, .ref xt_ring, .int (it_walker), .int (it_from), .ref xt_was, .int (it_steps), .int (it_faultAt), .int (it_mover)])), (qt_now, .inl (cy.1, 639, .inl (ft_now))), (qt_label, .inl (cy.1, 210, .inl (ft_label)))]) (wr := [(qt_doors, .inl (cy.1, 420, .inl (ft_doors)))]) (w1 := [(qt, .inr (11, [.ref qt_now, .ref xt_past, .int (it_saved), .ref xt_text, .int (it_length), .ref qt_doors, .int (it_doorMany), .ref qt_label, .int (it_drawn), .ref xt_far, .ref xt_ring, .int (it_walker), .int (it_from), .ref xt_was, .int (it_steps), .int (it_faultAt), .int (it_mover)])), (qt_now, .inl (cy.1, 639, .inl (ft_now))), (qt_label, .inl (cy.1, 210, .inl (o112_0)))]) hK hP hD hS hA hG [0, 1, 3] [2] rfl rfl rfl rfl rfl (fun hU hPc => va_runV (As := []) (rest := []) ⟨hx, hb, hml, hown, hts⟩ (c_X11_parts l dC dI cy G s.heap.size qt qt_now qt_label xt_past xt_text qt_doors xt_far xt_ring xt_was (it_saved) (it_length) (it_doorMany) (it_drawn) (it_walker) (it_from) (it_steps) (it_faultAt) (it_mover) N (ft_now) (ft_label) (r112, o112_0) hq_112) (cwV 0 hts gX11_count_X11_parts rfl rfl rfl hdX11_parts ⟨Nat.le_of_ble_eq_true rfl, Nat.le_of_ble_eq_true rfl⟩) ⟨kBlind, (va_recv hK hP (ci := 11) (q0 := 0) rfl rfl), fun U h1 h2 => ⟨rfl, hU U h1 h2⟩⟩ rfl rfl hl.1 rfl (lv_room (Nat.le_of_ble_eq_true rfl)) dX11_count_112 ⟨Nat.zero_le _, Nat.zero_le _⟩) (r112) (fun _ _ h => h) (fun _ _ h => h) (fun H locs hP hD hS => ?_)
    have hP : va_P (dC, dI) vwCl [(qt_doors, .inl (cy.1, 420, .inl (ft_doors))), (qt, .inr (11, [.ref qt_now, .ref xt_past, .int (it_saved), .ref xt_text, .int (it_length), .ref qt_doors, .int (it_doorMany), .ref qt_label, .int (it_drawn), .ref xt_far, .ref xt_ring, .int (it_walker), .int (it_from), .ref xt_was, .int (it_steps), .int (it_faultAt), .int (it_mover)])), (qt_now, .inl (cy.1, 639, .inl (ft_now))), (qt_label, .inl (cy.1, 210, .inl (o112_0)))] H := hP
    have hD : va_D A [(qt_doors, .inl (cy.1, 420, .inl (ft_doors))), (qt, .inr (11, [.ref qt_now, .ref xt_past, .int (it_saved), .ref xt_text, .int (it_length), .ref qt_doors, .int (it_doorMany), .ref qt_label, .int (it_drawn), .ref xt_far, .ref xt_ring, .int (it_walker), .int (it_from), .ref xt_was, .int (it_steps), .int (it_faultAt), .int (it_mover)])), (qt_now, .inl (cy.1, 639, .inl (ft_now))), (qt_label, .inl (cy.1, 210, .inl (o112_0)))] := hD
    cases hf
    subst hQ
    exact kiret hx hb hr hlocks hK (hP.sub [1, 2, 0, 3] rfl) (hD.sub [1, 2, 0, 3] (by decide) rfl) hS rfl dX11_count_115
  rw [if_neg hc_1_5] at hf
  by_cases hc_1_6 : va1 = (6 : Int32)
  · rw [if_pos hc_1_6] at hf
    refine lv_tableIn (tgt := 116) hx hb dX11_count_1 (by rw [hc_1_6]; decide) (by rw [hc_1_6]; decide) (by rw [hc_1_6]; rfl) (by decide) ?_
    refine lv_aload_n hx hb dX11_count_116 rfl (lv_at hl 0 rfl) ?_
    obtain ⟨r117, o117_0, hq_117, hf⟩ := bnd2_s hf
    refine kcalli (wc := [(qt, .inr (11, [.ref qt_now, .ref xt_past, .int (it_saved), .ref xt_text, .int (it_length), .ref qt_doors, .int (it_doorMany), .ref qt_label, .int (it_drawn), .ref xt_far, .ref xt_ring, .int (it_walker), .int (it_from), .ref xt_was, .int (it_steps), .int (it_faultAt), .int (it_mover)])), (qt_now, .inl (cy.1, 639, .inl (ft_now))), (qt_label, .inl (cy.1, 210, .inl (ft_label)))]) (wr := [(qt_doors, .inl (cy.1, 420, .inl (ft_doors)))]) (w1 := [(qt, .inr (11, [.ref qt_now, .ref xt_past, .int (it_saved), .ref xt_text, .int (it_length), .ref qt_doors, .int (it_doorMany), .ref qt_label, .int (it_drawn), .ref xt_far, .ref xt_ring, .int (it_walker), .int (it_from), .ref xt_was, .int (it_steps), .int (it_faultAt), .int (it_mover)])), (qt_now, .inl (cy.1, 639, .inl (ft_now))), (qt_label, .inl (cy.1, 210, .inl (o117_0)))]) hK hP hD hS hA hG [0, 1, 3] [2] rfl rfl rfl rfl rfl (fun hU hPc => va_runV (As := []) (rest := []) ⟨hx, hb, hml, hown, hts⟩ (c_X11_loops l dC dI cy G s.heap.size qt qt_now qt_label xt_past xt_text qt_doors xt_far xt_ring xt_was (it_saved) (it_length) (it_doorMany) (it_drawn) (it_walker) (it_from) (it_steps) (it_faultAt) (it_mover) N (ft_now) (ft_label) (r117, o117_0) hq_117) (cwV 0 hts gX11_count_X11_loops rfl rfl rfl hdX11_loops ⟨Nat.le_of_ble_eq_true rfl, Nat.le_of_ble_eq_true rfl⟩) ⟨kBlind, (va_recv hK hP (ci := 11) (q0 := 0) rfl rfl), fun U h1 h2 => ⟨rfl, hU U h1 h2⟩⟩ rfl rfl hl.1 rfl (lv_room (Nat.le_of_ble_eq_true rfl)) dX11_count_117 ⟨Nat.zero_le _, Nat.zero_le _⟩) (r117) (fun _ _ h => h) (fun _ _ h => h) (fun H locs hP hD hS => ?_)
    have hP : va_P (dC, dI) vwCl [(qt_doors, .inl (cy.1, 420, .inl (ft_doors))), (qt, .inr (11, [.ref qt_now, .ref xt_past, .int (it_saved), .ref xt_text, .int (it_length), .ref qt_doors, .int (it_doorMany), .ref qt_label, .int (it_drawn), .ref xt_far, .ref xt_ring, .int (it_walker), .int (it_from), .ref xt_was, .int (it_steps), .int (it_faultAt), .int (it_mover)])), (qt_now, .inl (cy.1, 639, .inl (ft_now))), (qt_label, .inl (cy.1, 210, .inl (o117_0)))] H := hP
    have hD : va_D A [(qt_doors, .inl (cy.1, 420, .inl (ft_doors))), (qt, .inr (11, [.ref qt_now, .ref xt_past, .int (it_saved), .ref xt_text, .int (it_length), .ref qt_doors, .int (it_doorMany), .ref qt_label, .int (it_drawn), .ref xt_far, .ref xt_ring, .int (it_walker), .int (it_from), .ref xt_was, .int (it_steps), .int (it_faultAt), .int (it_mover)])), (qt_now, .inl (cy.1, 639, .inl (ft_now))), (qt_label, .inl (cy.1, 210, .inl (o117_0)))] := hD
    cases hf
    subst hQ
    exact kiret hx hb hr hlocks hK (hP.sub [1, 2, 0, 3] rfl) (hD.sub [1, 2, 0, 3] (by decide) rfl) hS rfl dX11_count_120
  rw [if_neg hc_1_6] at hf
  by_cases hc_1_7 : va1 = (7 : Int32)
  · rw [if_pos hc_1_7] at hf
    refine lv_tableIn (tgt := 121) hx hb dX11_count_1 (by rw [hc_1_7]; decide) (by rw [hc_1_7]; decide) (by rw [hc_1_7]; rfl) (by decide) ?_
    refine lv_aload_n hx hb dX11_count_121 rfl (lv_at hl 0 rfl) ?_
    obtain ⟨r122, o122_0, hq_122, hf⟩ := bnd2_s hf
    refine kcalli (wc := [(qt, .inr (11, [.ref qt_now, .ref xt_past, .int (it_saved), .ref xt_text, .int (it_length), .ref qt_doors, .int (it_doorMany), .ref qt_label, .int (it_drawn), .ref xt_far, .ref xt_ring, .int (it_walker), .int (it_from), .ref xt_was, .int (it_steps), .int (it_faultAt), .int (it_mover)])), (qt_now, .inl (cy.1, 639, .inl (ft_now))), (qt_label, .inl (cy.1, 210, .inl (ft_label)))]) (wr := [(qt_doors, .inl (cy.1, 420, .inl (ft_doors)))]) (w1 := [(qt, .inr (11, [.ref qt_now, .ref xt_past, .int (it_saved), .ref xt_text, .int (it_length), .ref qt_doors, .int (it_doorMany), .ref qt_label, .int (it_drawn), .ref xt_far, .ref xt_ring, .int (it_walker), .int (it_from), .ref xt_was, .int (it_steps), .int (it_faultAt), .int (it_mover)])), (qt_now, .inl (cy.1, 639, .inl (ft_now))), (qt_label, .inl (cy.1, 210, .inl (o122_0)))]) hK hP hD hS hA hG [0, 1, 3] [2] rfl rfl rfl rfl rfl (fun hU hPc => va_runV (As := []) (rest := []) ⟨hx, hb, hml, hown, hts⟩ (c_X11_isSingle l dC dI cy G s.heap.size qt qt_now qt_label xt_past xt_text qt_doors xt_far xt_ring xt_was (it_saved) (it_length) (it_doorMany) (it_drawn) (it_walker) (it_from) (it_steps) (it_faultAt) (it_mover) N (ft_now) (ft_label) (r122, o122_0) hq_122) (cwV 0 hts gX11_count_X11_isSingle rfl rfl rfl hdX11_isSingle ⟨Nat.le_of_ble_eq_true rfl, Nat.le_of_ble_eq_true rfl⟩) ⟨kBlind, (va_recv hK hP (ci := 11) (q0 := 0) rfl rfl), fun U h1 h2 => ⟨rfl, hU U h1 h2⟩⟩ rfl rfl hl.1 rfl (lv_room (Nat.le_of_ble_eq_true rfl)) dX11_count_122 ⟨Nat.zero_le _, Nat.zero_le _⟩) (r122) (fun _ _ h => h) (fun _ _ h => h) (fun H locs hP hD hS => ?_)
    have hP : va_P (dC, dI) vwCl [(qt_doors, .inl (cy.1, 420, .inl (ft_doors))), (qt, .inr (11, [.ref qt_now, .ref xt_past, .int (it_saved), .ref xt_text, .int (it_length), .ref qt_doors, .int (it_doorMany), .ref qt_label, .int (it_drawn), .ref xt_far, .ref xt_ring, .int (it_walker), .int (it_from), .ref xt_was, .int (it_steps), .int (it_faultAt), .int (it_mover)])), (qt_now, .inl (cy.1, 639, .inl (ft_now))), (qt_label, .inl (cy.1, 210, .inl (o122_0)))] H := hP
    have hD : va_D A [(qt_doors, .inl (cy.1, 420, .inl (ft_doors))), (qt, .inr (11, [.ref qt_now, .ref xt_past, .int (it_saved), .ref xt_text, .int (it_length), .ref qt_doors, .int (it_doorMany), .ref qt_label, .int (it_drawn), .ref xt_far, .ref xt_ring, .int (it_walker), .int (it_from), .ref xt_was, .int (it_steps), .int (it_faultAt), .int (it_mover)])), (qt_now, .inl (cy.1, 639, .inl (ft_now))), (qt_label, .inl (cy.1, 210, .inl (o122_0)))] := hD
    refine lv_if_eq (tgt := 132) hx hb dX11_count_125 (by decide) (fun hc_125 => ?_) (fun hc_125 => ?_)
    · rw [if_pos hc_125] at hf
      refine lv_iconst (v := (0 : Int32)) hx hb dX11_count_132 (by decide) ?_
      cases hf
      subst hQ
      exact kiret hx hb hr hlocks hK (hP.sub [1, 2, 0, 3] rfl) (hD.sub [1, 2, 0, 3] (by decide) rfl) hS rfl dX11_count_133
    · rw [if_neg hc_125] at hf
      refine lv_iconst (v := (1 : Int32)) hx hb dX11_count_128 (by decide) ?_
      refine lv_goto (tgt := 133) hx hb dX11_count_129 (by decide) ?_
      cases hf
      subst hQ
      exact kiret hx hb hr hlocks hK (hP.sub [1, 2, 0, 3] rfl) (hD.sub [1, 2, 0, 3] (by decide) rfl) hS rfl dX11_count_133
  rw [if_neg hc_1_7] at hf
  by_cases hc_1_8 : va1 = (8 : Int32)
  · rw [if_pos hc_1_8] at hf
    refine lv_tableIn (tgt := 134) hx hb dX11_count_1 (by rw [hc_1_8]; decide) (by rw [hc_1_8]; decide) (by rw [hc_1_8]; rfl) (by decide) ?_
    refine lv_aload_n hx hb dX11_count_134 rfl (lv_at hl 0 rfl) ?_
    refine lv_iconst (v := (1 : Int32)) hx hb dX11_count_135 (by decide) ?_
    refine lv_iconst (v := (1 : Int32)) hx hb dX11_count_136 (by decide) ?_
    obtain ⟨r137, hq_137, hf⟩ := bnd1_s hf
    refine kcalli (wc := [(qt, .inr (11, [.ref qt_now, .ref xt_past, .int (it_saved), .ref xt_text, .int (it_length), .ref qt_doors, .int (it_doorMany), .ref qt_label, .int (it_drawn), .ref xt_far, .ref xt_ring, .int (it_walker), .int (it_from), .ref xt_was, .int (it_steps), .int (it_faultAt), .int (it_mover)])), (qt_now, .inl (cy.1, 639, .inl (ft_now)))]) (wr := [(qt_doors, .inl (cy.1, 420, .inl (ft_doors))), (qt_label, .inl (cy.1, 210, .inl (ft_label)))]) (w1 := [(qt, .inr (11, [.ref qt_now, .ref xt_past, .int (it_saved), .ref xt_text, .int (it_length), .ref qt_doors, .int (it_doorMany), .ref qt_label, .int (it_drawn), .ref xt_far, .ref xt_ring, .int (it_walker), .int (it_from), .ref xt_was, .int (it_steps), .int (it_faultAt), .int (it_mover)])), (qt_now, .inl (cy.1, 639, .inl (ft_now)))]) hK hP hD hS hA hG [0, 1] [2, 3] rfl rfl rfl rfl rfl (fun hU hPc => va_runV (As := [.int (1 : Int32), .int (1 : Int32)]) (rest := []) ⟨hx, hb, hml, hown, hts⟩ (c_X11_roomsWith l dC dI cy G s.heap.size qt qt_now xt_past xt_text qt_doors qt_label xt_far xt_ring xt_was (it_saved) (it_length) (it_doorMany) (it_drawn) (it_walker) (it_from) (it_steps) (it_faultAt) (it_mover) N (ft_now) ((1 : Int32)) ((1 : Int32)) r137 hq_137) (cwV 2 hts gX11_count_X11_roomsWith rfl rfl rfl hdX11_roomsWith ⟨Nat.le_of_ble_eq_true rfl, Nat.le_of_ble_eq_true rfl⟩) ⟨kBlind, (va_recv hK hP (ci := 11) (q0 := 0) rfl rfl), fun U h1 h2 => ⟨rfl, hU U h1 h2⟩⟩ rfl rfl hl.1 rfl (lv_room (Nat.le_of_ble_eq_true rfl)) dX11_count_137 ⟨Nat.zero_le _, Nat.zero_le _⟩) (r137) (fun _ _ h => h) (fun _ _ h => h) (fun H locs hP hD hS => ?_)
    have hP : va_P (dC, dI) vwCl [(qt_doors, .inl (cy.1, 420, .inl (ft_doors))), (qt_label, .inl (cy.1, 210, .inl (ft_label))), (qt, .inr (11, [.ref qt_now, .ref xt_past, .int (it_saved), .ref xt_text, .int (it_length), .ref qt_doors, .int (it_doorMany), .ref qt_label, .int (it_drawn), .ref xt_far, .ref xt_ring, .int (it_walker), .int (it_from), .ref xt_was, .int (it_steps), .int (it_faultAt), .int (it_mover)])), (qt_now, .inl (cy.1, 639, .inl (ft_now)))] H := hP
    have hD : va_D A [(qt_doors, .inl (cy.1, 420, .inl (ft_doors))), (qt_label, .inl (cy.1, 210, .inl (ft_label))), (qt, .inr (11, [.ref qt_now, .ref xt_past, .int (it_saved), .ref xt_text, .int (it_length), .ref qt_doors, .int (it_doorMany), .ref qt_label, .int (it_drawn), .ref xt_far, .ref xt_ring, .int (it_walker), .int (it_from), .ref xt_was, .int (it_steps), .int (it_faultAt), .int (it_mover)])), (qt_now, .inl (cy.1, 639, .inl (ft_now)))] := hD
    cases hf
    subst hQ
    exact kiret hx hb hr hlocks hK (hP.sub [2, 3, 0, 1] rfl) (hD.sub [2, 3, 0, 1] (by decide) rfl) hS rfl dX11_count_140
  rw [if_neg hc_1_8] at hf
  by_cases hc_1_9 : va1 = (9 : Int32)
  · rw [if_pos hc_1_9] at hf
    refine lv_tableIn (tgt := 141) hx hb dX11_count_1 (by rw [hc_1_9]; decide) (by rw [hc_1_9]; decide) (by rw [hc_1_9]; rfl) (by decide) ?_
    refine lv_aload_n hx hb dX11_count_141 rfl (lv_at hl 0 rfl) ?_
    refine lv_iconst (v := (3 : Int32)) hx hb dX11_count_142 (by decide) ?_
    refine lv_iconst (v := (4 : Int32)) hx hb dX11_count_143 (by decide) ?_
    obtain ⟨r144, hq_144, hf⟩ := bnd1_s hf
    refine kcalli (wc := [(qt, .inr (11, [.ref qt_now, .ref xt_past, .int (it_saved), .ref xt_text, .int (it_length), .ref qt_doors, .int (it_doorMany), .ref qt_label, .int (it_drawn), .ref xt_far, .ref xt_ring, .int (it_walker), .int (it_from), .ref xt_was, .int (it_steps), .int (it_faultAt), .int (it_mover)])), (qt_now, .inl (cy.1, 639, .inl (ft_now)))]) (wr := [(qt_doors, .inl (cy.1, 420, .inl (ft_doors))), (qt_label, .inl (cy.1, 210, .inl (ft_label)))]) (w1 := [(qt, .inr (11, [.ref qt_now, .ref xt_past, .int (it_saved), .ref xt_text, .int (it_length), .ref qt_doors, .int (it_doorMany), .ref qt_label, .int (it_drawn), .ref xt_far, .ref xt_ring, .int (it_walker), .int (it_from), .ref xt_was, .int (it_steps), .int (it_faultAt), .int (it_mover)])), (qt_now, .inl (cy.1, 639, .inl (ft_now)))]) hK hP hD hS hA hG [0, 1] [2, 3] rfl rfl rfl rfl rfl (fun hU hPc => va_runV (As := [.int (3 : Int32), .int (4 : Int32)]) (rest := []) ⟨hx, hb, hml, hown, hts⟩ (c_X11_roomsWith l dC dI cy G s.heap.size qt qt_now xt_past xt_text qt_doors qt_label xt_far xt_ring xt_was (it_saved) (it_length) (it_doorMany) (it_drawn) (it_walker) (it_from) (it_steps) (it_faultAt) (it_mover) N (ft_now) ((3 : Int32)) ((4 : Int32)) r144 hq_144) (cwV 2 hts gX11_count_X11_roomsWith rfl rfl rfl hdX11_roomsWith ⟨Nat.le_of_ble_eq_true rfl, Nat.le_of_ble_eq_true rfl⟩) ⟨kBlind, (va_recv hK hP (ci := 11) (q0 := 0) rfl rfl), fun U h1 h2 => ⟨rfl, hU U h1 h2⟩⟩ rfl rfl hl.1 rfl (lv_room (Nat.le_of_ble_eq_true rfl)) dX11_count_144 ⟨Nat.zero_le _, Nat.zero_le _⟩) (r144) (fun _ _ h => h) (fun _ _ h => h) (fun H locs hP hD hS => ?_)
    have hP : va_P (dC, dI) vwCl [(qt_doors, .inl (cy.1, 420, .inl (ft_doors))), (qt_label, .inl (cy.1, 210, .inl (ft_label))), (qt, .inr (11, [.ref qt_now, .ref xt_past, .int (it_saved), .ref xt_text, .int (it_length), .ref qt_doors, .int (it_doorMany), .ref qt_label, .int (it_drawn), .ref xt_far, .ref xt_ring, .int (it_walker), .int (it_from), .ref xt_was, .int (it_steps), .int (it_faultAt), .int (it_mover)])), (qt_now, .inl (cy.1, 639, .inl (ft_now)))] H := hP
    have hD : va_D A [(qt_doors, .inl (cy.1, 420, .inl (ft_doors))), (qt_label, .inl (cy.1, 210, .inl (ft_label))), (qt, .inr (11, [.ref qt_now, .ref xt_past, .int (it_saved), .ref xt_text, .int (it_length), .ref qt_doors, .int (it_doorMany), .ref qt_label, .int (it_drawn), .ref xt_far, .ref xt_ring, .int (it_walker), .int (it_from), .ref xt_was, .int (it_steps), .int (it_faultAt), .int (it_mover)])), (qt_now, .inl (cy.1, 639, .inl (ft_now)))] := hD
    cases hf
    subst hQ
    exact kiret hx hb hr hlocks hK (hP.sub [2, 3, 0, 1] rfl) (hD.sub [2, 3, 0, 1] (by decide) rfl) hS rfl dX11_count_147
  rw [if_neg hc_1_9] at hf
  by_cases hc_1_10 : va1 = (10 : Int32)
  · rw [if_pos hc_1_10] at hf
    refine lv_tableIn (tgt := 148) hx hb dX11_count_1 (by rw [hc_1_10]; decide) (by rw [hc_1_10]; decide) (by rw [hc_1_10]; rfl) (by decide) ?_
    refine lv_aload_n hx hb dX11_count_148 rfl (lv_at hl 0 rfl) ?_
    refine va_get (D := (dC, dI)) (ci := 11) (C := RX11) (T := TX11) (N := 17) hx hb hts (fun _ h => (List.mem_cons_of_mem _ (List.mem_append_right _ h))) hown hK hP 0 rfl rfl 0 (by decide) (hts _ (List.mem_cons_of_mem _ (List.mem_append_left _ (List.mem_append_left _ (List.mem_of_getElem? (i := 0) rfl))))) (fun _ h => h) rfl dX11_count_149 ?_
    refine lv_bipush (v := (7 : Int32)) hx hb dX11_count_152 (by decide) ?_
    refine lv_iload_n hx hb dX11_count_154 rfl (lv_at hl 1 rfl) ?_
    refine lv_iadd hx hb dX11_count_155 ?_
    refine lv_bipush (v := (10 : Int32)) hx hb dX11_count_156 (by decide) ?_
    refine lv_isub hx hb dX11_count_158 ?_
    obtain ⟨hk_159, hf⟩ := chk_s hf
    refine va_iald hx hb hK hP 1 0 rfl rfl hk_159 dX11_count_159 ?_
    cases hf
    subst hQ
    exact kiret hx hb hr hlocks hK (hP.sub [0, 1, 2, 3] rfl) (hD.sub [0, 1, 2, 3] (by decide) rfl) hS rfl dX11_count_160
  rw [if_neg hc_1_10] at hf
  by_cases hc_1_11 : va1 = (11 : Int32)
  · rw [if_pos hc_1_11] at hf
    refine lv_tableIn (tgt := 148) hx hb dX11_count_1 (by rw [hc_1_11]; decide) (by rw [hc_1_11]; decide) (by rw [hc_1_11]; rfl) (by decide) ?_
    refine lv_aload_n hx hb dX11_count_148 rfl (lv_at hl 0 rfl) ?_
    refine va_get (D := (dC, dI)) (ci := 11) (C := RX11) (T := TX11) (N := 17) hx hb hts (fun _ h => (List.mem_cons_of_mem _ (List.mem_append_right _ h))) hown hK hP 0 rfl rfl 0 (by decide) (hts _ (List.mem_cons_of_mem _ (List.mem_append_left _ (List.mem_append_left _ (List.mem_of_getElem? (i := 0) rfl))))) (fun _ h => h) rfl dX11_count_149 ?_
    refine lv_bipush (v := (7 : Int32)) hx hb dX11_count_152 (by decide) ?_
    refine lv_iload_n hx hb dX11_count_154 rfl (lv_at hl 1 rfl) ?_
    refine lv_iadd hx hb dX11_count_155 ?_
    refine lv_bipush (v := (10 : Int32)) hx hb dX11_count_156 (by decide) ?_
    refine lv_isub hx hb dX11_count_158 ?_
    obtain ⟨hk_159, hf⟩ := chk_s hf
    refine va_iald hx hb hK hP 1 0 rfl rfl hk_159 dX11_count_159 ?_
    cases hf
    subst hQ
    exact kiret hx hb hr hlocks hK (hP.sub [0, 1, 2, 3] rfl) (hD.sub [0, 1, 2, 3] (by decide) rfl) hS rfl dX11_count_160
  rw [if_neg hc_1_11] at hf
  by_cases hc_1_12 : va1 = (12 : Int32)
  · rw [if_pos hc_1_12] at hf
    refine lv_tableIn (tgt := 161) hx hb dX11_count_1 (by rw [hc_1_12]; decide) (by rw [hc_1_12]; decide) (by rw [hc_1_12]; rfl) (by decide) ?_
    refine lv_aload_n hx hb dX11_count_161 rfl (lv_at hl 0 rfl) ?_
    refine lv_iconst (v := (0 : Int32)) hx hb dX11_count_162 (by decide) ?_
    obtain ⟨r163, hq_163, hf⟩ := bnd1_s hf
    refine kcalli (wc := [(qt, .inr (11, [.ref qt_now, .ref xt_past, .int (it_saved), .ref xt_text, .int (it_length), .ref qt_doors, .int (it_doorMany), .ref qt_label, .int (it_drawn), .ref xt_far, .ref xt_ring, .int (it_walker), .int (it_from), .ref xt_was, .int (it_steps), .int (it_faultAt), .int (it_mover)])), (qt_now, .inl (cy.1, 639, .inl (ft_now)))]) (wr := [(qt_doors, .inl (cy.1, 420, .inl (ft_doors))), (qt_label, .inl (cy.1, 210, .inl (ft_label)))]) (w1 := [(qt, .inr (11, [.ref qt_now, .ref xt_past, .int (it_saved), .ref xt_text, .int (it_length), .ref qt_doors, .int (it_doorMany), .ref qt_label, .int (it_drawn), .ref xt_far, .ref xt_ring, .int (it_walker), .int (it_from), .ref xt_was, .int (it_steps), .int (it_faultAt), .int (it_mover)])), (qt_now, .inl (cy.1, 639, .inl (ft_now)))]) hK hP hD hS hA hG [0, 1] [2, 3] rfl rfl rfl rfl rfl (fun hU hPc => va_runV (As := [.int (0 : Int32)]) (rest := []) ⟨hx, hb, hml, hown, hts⟩ (c_X11_signs l dC dI cy G s.heap.size qt qt_now xt_past xt_text qt_doors qt_label xt_far xt_ring xt_was (it_saved) (it_length) (it_doorMany) (it_drawn) (it_walker) (it_from) (it_steps) (it_faultAt) (it_mover) N (ft_now) ((0 : Int32)) r163 hq_163) (cwV 1 hts gX11_count_X11_signs rfl rfl rfl hdX11_signs ⟨Nat.le_of_ble_eq_true rfl, Nat.le_of_ble_eq_true rfl⟩) ⟨kBlind, (va_recv hK hP (ci := 11) (q0 := 0) rfl rfl), fun U h1 h2 => ⟨rfl, hU U h1 h2⟩⟩ rfl rfl hl.1 rfl (lv_room (Nat.le_of_ble_eq_true rfl)) dX11_count_163 ⟨Nat.zero_le _, Nat.zero_le _⟩) (r163) (fun _ _ h => h) (fun _ _ h => h) (fun H locs hP hD hS => ?_)
    have hP : va_P (dC, dI) vwCl [(qt_doors, .inl (cy.1, 420, .inl (ft_doors))), (qt_label, .inl (cy.1, 210, .inl (ft_label))), (qt, .inr (11, [.ref qt_now, .ref xt_past, .int (it_saved), .ref xt_text, .int (it_length), .ref qt_doors, .int (it_doorMany), .ref qt_label, .int (it_drawn), .ref xt_far, .ref xt_ring, .int (it_walker), .int (it_from), .ref xt_was, .int (it_steps), .int (it_faultAt), .int (it_mover)])), (qt_now, .inl (cy.1, 639, .inl (ft_now)))] H := hP
    have hD : va_D A [(qt_doors, .inl (cy.1, 420, .inl (ft_doors))), (qt_label, .inl (cy.1, 210, .inl (ft_label))), (qt, .inr (11, [.ref qt_now, .ref xt_past, .int (it_saved), .ref xt_text, .int (it_length), .ref qt_doors, .int (it_doorMany), .ref qt_label, .int (it_drawn), .ref xt_far, .ref xt_ring, .int (it_walker), .int (it_from), .ref xt_was, .int (it_steps), .int (it_faultAt), .int (it_mover)])), (qt_now, .inl (cy.1, 639, .inl (ft_now)))] := hD
    cases hf
    subst hQ
    exact kiret hx hb hr hlocks hK (hP.sub [2, 3, 0, 1] rfl) (hD.sub [2, 3, 0, 1] (by decide) rfl) hS rfl dX11_count_166
  rw [if_neg hc_1_12] at hf
  by_cases hc_1_13 : va1 = (13 : Int32)
  · rw [if_pos hc_1_13] at hf
    refine lv_tableIn (tgt := 167) hx hb dX11_count_1 (by rw [hc_1_13]; decide) (by rw [hc_1_13]; decide) (by rw [hc_1_13]; rfl) (by decide) ?_
    refine lv_aload_n hx hb dX11_count_167 rfl (lv_at hl 0 rfl) ?_
    refine lv_iconst (v := (1 : Int32)) hx hb dX11_count_168 (by decide) ?_
    obtain ⟨r169, hq_169, hf⟩ := bnd1_s hf
    refine kcalli (wc := [(qt, .inr (11, [.ref qt_now, .ref xt_past, .int (it_saved), .ref xt_text, .int (it_length), .ref qt_doors, .int (it_doorMany), .ref qt_label, .int (it_drawn), .ref xt_far, .ref xt_ring, .int (it_walker), .int (it_from), .ref xt_was, .int (it_steps), .int (it_faultAt), .int (it_mover)])), (qt_now, .inl (cy.1, 639, .inl (ft_now)))]) (wr := [(qt_doors, .inl (cy.1, 420, .inl (ft_doors))), (qt_label, .inl (cy.1, 210, .inl (ft_label)))]) (w1 := [(qt, .inr (11, [.ref qt_now, .ref xt_past, .int (it_saved), .ref xt_text, .int (it_length), .ref qt_doors, .int (it_doorMany), .ref qt_label, .int (it_drawn), .ref xt_far, .ref xt_ring, .int (it_walker), .int (it_from), .ref xt_was, .int (it_steps), .int (it_faultAt), .int (it_mover)])), (qt_now, .inl (cy.1, 639, .inl (ft_now)))]) hK hP hD hS hA hG [0, 1] [2, 3] rfl rfl rfl rfl rfl (fun hU hPc => va_runV (As := [.int (1 : Int32)]) (rest := []) ⟨hx, hb, hml, hown, hts⟩ (c_X11_signs l dC dI cy G s.heap.size qt qt_now xt_past xt_text qt_doors qt_label xt_far xt_ring xt_was (it_saved) (it_length) (it_doorMany) (it_drawn) (it_walker) (it_from) (it_steps) (it_faultAt) (it_mover) N (ft_now) ((1 : Int32)) r169 hq_169) (cwV 1 hts gX11_count_X11_signs rfl rfl rfl hdX11_signs ⟨Nat.le_of_ble_eq_true rfl, Nat.le_of_ble_eq_true rfl⟩) ⟨kBlind, (va_recv hK hP (ci := 11) (q0 := 0) rfl rfl), fun U h1 h2 => ⟨rfl, hU U h1 h2⟩⟩ rfl rfl hl.1 rfl (lv_room (Nat.le_of_ble_eq_true rfl)) dX11_count_169 ⟨Nat.zero_le _, Nat.zero_le _⟩) (r169) (fun _ _ h => h) (fun _ _ h => h) (fun H locs hP hD hS => ?_)
    have hP : va_P (dC, dI) vwCl [(qt_doors, .inl (cy.1, 420, .inl (ft_doors))), (qt_label, .inl (cy.1, 210, .inl (ft_label))), (qt, .inr (11, [.ref qt_now, .ref xt_past, .int (it_saved), .ref xt_text, .int (it_length), .ref qt_doors, .int (it_doorMany), .ref qt_label, .int (it_drawn), .ref xt_far, .ref xt_ring, .int (it_walker), .int (it_from), .ref xt_was, .int (it_steps), .int (it_faultAt), .int (it_mover)])), (qt_now, .inl (cy.1, 639, .inl (ft_now)))] H := hP
    have hD : va_D A [(qt_doors, .inl (cy.1, 420, .inl (ft_doors))), (qt_label, .inl (cy.1, 210, .inl (ft_label))), (qt, .inr (11, [.ref qt_now, .ref xt_past, .int (it_saved), .ref xt_text, .int (it_length), .ref qt_doors, .int (it_doorMany), .ref qt_label, .int (it_drawn), .ref xt_far, .ref xt_ring, .int (it_walker), .int (it_from), .ref xt_was, .int (it_steps), .int (it_faultAt), .int (it_mover)])), (qt_now, .inl (cy.1, 639, .inl (ft_now)))] := hD
    cases hf
    subst hQ
    exact kiret hx hb hr hlocks hK (hP.sub [2, 3, 0, 1] rfl) (hD.sub [2, 3, 0, 1] (by decide) rfl) hS rfl dX11_count_172
  rw [if_neg hc_1_13] at hf
  by_cases hc_1_14 : va1 = (14 : Int32)
  · rw [if_pos hc_1_14] at hf
    refine lv_tableIn (tgt := 173) hx hb dX11_count_1 (by rw [hc_1_14]; decide) (by rw [hc_1_14]; decide) (by rw [hc_1_14]; rfl) (by decide) ?_
    refine lv_aload_n hx hb dX11_count_173 rfl (lv_at hl 0 rfl) ?_
    refine va_get (D := (dC, dI)) (ci := 11) (C := RX11) (T := TX11) (N := 17) hx hb hts (fun _ h => (List.mem_cons_of_mem _ (List.mem_append_right _ h))) hown hK hP 0 rfl rfl 2 (by decide) (hts _ (List.mem_cons_of_mem _ (List.mem_append_left _ (List.mem_append_left _ (List.mem_of_getElem? (i := 2) rfl))))) (fun _ h => h) rfl dX11_count_174 ?_
    cases hf
    subst hQ
    exact kiret hx hb hr hlocks hK (hP.sub [0, 1, 2, 3] rfl) (hD.sub [0, 1, 2, 3] (by decide) rfl) hS rfl dX11_count_177
  rw [if_neg hc_1_14] at hf
  by_cases hc_1_15 : va1 = (15 : Int32)
  · rw [if_pos hc_1_15] at hf
    refine lv_tableIn (tgt := 178) hx hb dX11_count_1 (by rw [hc_1_15]; decide) (by rw [hc_1_15]; decide) (by rw [hc_1_15]; rfl) (by decide) ?_
    refine lv_aload_n hx hb dX11_count_178 rfl (lv_at hl 0 rfl) ?_
    refine va_get (D := (dC, dI)) (ci := 11) (C := RX11) (T := TX11) (N := 17) hx hb hts (fun _ h => (List.mem_cons_of_mem _ (List.mem_append_right _ h))) hown hK hP 0 rfl rfl 4 (by decide) (hts _ (List.mem_cons_of_mem _ (List.mem_append_left _ (List.mem_append_left _ (List.mem_of_getElem? (i := 3) rfl))))) (fun _ h => h) rfl dX11_count_179 ?_
    cases hf
    subst hQ
    exact kiret hx hb hr hlocks hK (hP.sub [0, 1, 2, 3] rfl) (hD.sub [0, 1, 2, 3] (by decide) rfl) hS rfl dX11_count_182
  rw [if_neg hc_1_15] at hf
  refine lv_tableOut (tgt := 183) hx hb dX11_count_1 (by have z0 := lv_neT (a := 0) hc_1_0 (by decide); have z1 := lv_neT (a := 1) hc_1_1 (by decide); have z2 := lv_neT (a := 2) hc_1_2 (by decide); have z3 := lv_neT (a := 3) hc_1_3 (by decide); have z4 := lv_neT (a := 4) hc_1_4 (by decide); have z5 := lv_neT (a := 5) hc_1_5 (by decide); have z6 := lv_neT (a := 6) hc_1_6 (by decide); have z7 := lv_neT (a := 7) hc_1_7 (by decide); have z8 := lv_neT (a := 8) hc_1_8 (by decide); have z9 := lv_neT (a := 9) hc_1_9 (by decide); have z10 := lv_neT (a := 10) hc_1_10 (by decide); have z11 := lv_neT (a := 11) hc_1_11 (by decide); have z12 := lv_neT (a := 12) hc_1_12 (by decide); have z13 := lv_neT (a := 13) hc_1_13 (by decide); have z14 := lv_neT (a := 14) hc_1_14 (by decide); have z15 := lv_neT (a := 15) hc_1_15 (by decide); omega) (by decide) ?_
  refine lv_iconst (v := (-1 : Int32)) hx hb dX11_count_183 (by decide) ?_
  cases hf
  subst hQ
  exact kiret hx hb hr hlocks hK (hP.sub [0, 1, 2, 3] rfl) (hD.sub [0, 1, 2, 3] (by decide) rfl) hS rfl dX11_count_184
theorem hdX11_count : yX11_count.cls = RX11 ∧ yX11_count.cls ≠ "java/lang/invoke/MethodHandle" ∧ yX11_count.cls ≠ "java/lang/invoke/VarHandle" ∧ (parseMethodDescriptor yX11_count.desc).map (fun d => d.parameters.length) = some 1 := by decide +kernel
noncomputable def b_X11_part_18 (N : Nat) (ft_now : Nat → Int32) (va1 : Int32) : Nat → Int32 → Int32 → (Nat → Int32) → Option (Int32 × (Nat → Int32))
  | 0, _, _, _ => none
  | n + 1, l2, l3, cft_label =>
    if va1 < 0 ∨ 210 ≤ (va1).toNatClampNeg then none else
    if (cft_label (va1).toNatClampNeg) ≤ l3 then
      some (l2, cft_label)
    else
      bnd1 (f_X11_isRoomAt (ft_now) (l3)) fun r31 =>
      if r31 = 0 then
        b_X11_part_18 N ft_now va1 n ((l2 + (0 : Int32))) ((l3 + (1 : Int32))) (cft_label)
      else
        if l3 < 0 ∨ 210 ≤ (l3).toNatClampNeg then none else
        if (cft_label (l3).toNatClampNeg) = l3 then
          b_X11_part_18 N ft_now va1 n ((l2 + (1 : Int32))) ((l3 + (1 : Int32))) (cft_label)
        else
          b_X11_part_18 N ft_now va1 n ((l2 + (0 : Int32))) ((l3 + (1 : Int32))) (cft_label)
noncomputable def f_X11_part (N : Nat) (ft_now : Nat → Int32) (ft_label : Nat → Int32) (va1 : Int32) : Option (Int32 × (Nat → Int32)) :=
  bnd1 (f_X11_hasRoom (ft_now) (va1)) fun r2 =>
  if r2 = 0 then
    some ((-1 : Int32), ft_label)
  else
    bnd1 (f_X11_labels N (ft_now) (ft_label)) fun o11_0 =>
    b_X11_part_18 N ft_now va1 N ((0 : Int32)) ((0 : Int32)) (o11_0)
abbrev rm_X11_part : Room := { frames := 7, cells := 0, slots := 0, locals := 157 }
set_option maxHeartbeats 4000000 in
set_option maxRecDepth 100000 in
theorem c_X11_part (l : Launch) (dC : Nat → ClassId) (dI : Nat → Nat → Nat) (cy : gC) (G : gT) (sz : Nat) (qt : Nat) (qt_now : Nat) (qt_label : Nat) (xt_past : Nat) (xt_text : Nat) (xt_doors : Nat) (xt_far : Nat) (xt_ring : Nat) (xt_was : Nat) (it_saved : Int32) (it_length : Int32) (it_doorMany : Int32) (it_drawn : Int32) (it_walker : Int32) (it_from : Int32) (it_steps : Int32) (it_faultAt : Int32) (it_mover : Int32) (N : Nat) (ft_now : Nat → Int32) (ft_label : Nat → Int32) (va1 : Int32) (out : Int32 × (Nat → Int32)) (hf : f_X11_part N ft_now ft_label va1 = some out) : Met l yX11_part wsX11_part rm_X11_part (va_Pc [.ref qt, .int va1] (kP (dC, dI) cy G [(qt, .inr (11, [.ref qt_now, .ref xt_past, .int (it_saved), .ref xt_text, .int (it_length), .ref xt_doors, .int (it_doorMany), .ref qt_label, .int (it_drawn), .ref xt_far, .ref xt_ring, .int (it_walker), .int (it_from), .ref xt_was, .int (it_steps), .int (it_faultAt), .int (it_mover)])), (qt_now, .inl (cy.1, 639, .inl (ft_now))), (qt_label, .inl (cy.1, 210, .inl (ft_label)))] sz)) (va_Qi (fun r (_ : Unit) => r = out.1) (fun _ => kQ (dC, dI) cy [(qt, .inr (11, [.ref qt_now, .ref xt_past, .int (it_saved), .ref xt_text, .int (it_length), .ref xt_doors, .int (it_doorMany), .ref qt_label, .int (it_drawn), .ref xt_far, .ref xt_ring, .int (it_walker), .int (it_from), .ref xt_was, .int (it_steps), .int (it_faultAt), .int (it_mover)])), (qt_now, .inl (cy.1, 639, .inl (ft_now))), (qt_label, .inl (cy.1, 210, .inl (out.2)))] (va_A [(qt, .inr (11, [.ref qt_now, .ref xt_past, .int (it_saved), .ref xt_text, .int (it_length), .ref xt_doors, .int (it_doorMany), .ref qt_label, .int (it_drawn), .ref xt_far, .ref xt_ring, .int (it_walker), .int (it_from), .ref xt_was, .int (it_steps), .int (it_faultAt), .int (it_mover)])), (qt_now, .inl (cy.1, 639, .inl (ft_now))), (qt_label, .inl (cy.1, 210, .inl (ft_label)))] sz)) (va_A [(qt, .inr (11, [.ref qt_now, .ref xt_past, .int (it_saved), .ref xt_text, .int (it_length), .ref xt_doors, .int (it_doorMany), .ref qt_label, .int (it_drawn), .ref xt_far, .ref xt_ring, .int (it_walker), .int (it_from), .ref xt_was, .int (it_steps), .int (it_faultAt), .int (it_mover)])), (qt_now, .inl (cy.1, 639, .inl (ft_now))), (qt_label, .inl (cy.1, 210, .inl (ft_label)))] sz)) 0 0 (va_A [(qt, .inr (11, [.ref qt_now, .ref xt_past, .int (it_saved), .ref xt_text, .int (it_length), .ref xt_doors, .int (it_doorMany), .ref qt_label, .int (it_drawn), .ref xt_far, .ref xt_ring, .int (it_walker), .int (it_from), .ref xt_was, .int (it_steps), .int (it_faultAt), .int (it_mover)])), (qt_now, .inl (cy.1, 639, .inl (ft_now))), (qt_label, .inl (cy.1, 210, .inl (ft_label)))] sz) := by
  refine Met.ofW (cc := cX11_part) (maxL := 4) (ret := (some .int)) (by decide) rfl ?_
  intro p e s m args below meth c s₁ B hml hv
  obtain ⟨rfl, hsz, hP, hK, hD0, hG⟩ := hv
  have hx := B.exec
  have hb := B.bytes
  have hr := B.returns
  have hts := atoms_spec (ws := wsX11_part) B.pre
  have hown : s.vm.findClass RX11 = some m.cls := findClass_of_methodNamed B.named
  have hlocks := B.notSynchronized
  subst hsz
  have hD := hD0.self (sz := s.heap.size)
  generalize hAe : va_A [(qt, .inr (11, [.ref qt_now, .ref xt_past, .int (it_saved), .ref xt_text, .int (it_length), .ref xt_doors, .int (it_doorMany), .ref qt_label, .int (it_drawn), .ref xt_far, .ref xt_ring, .int (it_walker), .int (it_from), .ref xt_was, .int (it_steps), .int (it_faultAt), .int (it_mover)])), (qt_now, .inl (cy.1, 639, .inl (ft_now))), (qt_label, .inl (cy.1, 210, .inl (ft_label)))] s.heap.size = A at hD hG ⊢
  have hA : ∀ q : Nat, s.heap.size ≤ q → A q := fun q h => by rw [← hAe]; exact Or.inr h
  have hS : va_S A s.heap s.heap [] := va_S.rf
  have hP : va_P (dC, dI) vwCl [(qt, .inr (11, [.ref qt_now, .ref xt_past, .int (it_saved), .ref xt_text, .int (it_length), .ref xt_doors, .int (it_doorMany), .ref qt_label, .int (it_drawn), .ref xt_far, .ref xt_ring, .int (it_walker), .int (it_from), .ref xt_was, .int (it_steps), .int (it_faultAt), .int (it_mover)])), (qt_now, .inl (cy.1, 639, .inl (ft_now))), (qt_label, .inl (cy.1, 210, .inl (ft_label)))] s.heap := hP
  have hl := lv_entry ([.ref qt, .int va1]) (n := 4) (Nat.le_of_ble_eq_true rfl)
  rw [lg_entry_eq]
  generalize (lg_sl ([.ref qt, .int va1]) ++ List.replicate (4 - (lg_sl ([.ref qt, .int va1])).length) Slot.unset).toArray = ls at hl ⊢
  have hl : lv_has ls 4 [(0, .ref qt), (1, .int va1)] := hl
  refine kgen (fun Q hQ => ?_)
  have B18 : ∀ (n18 : Nat) (l2 : Int32) (l3 : Int32) (cft_label : Nat → Int32) (H : Heap) (locs : List Loc), va_P (dC, dI) vwCl [(qt, .inr (11, [.ref qt_now, .ref xt_past, .int (it_saved), .ref xt_text, .int (it_length), .ref xt_doors, .int (it_doorMany), .ref qt_label, .int (it_drawn), .ref xt_far, .ref xt_ring, .int (it_walker), .int (it_from), .ref xt_was, .int (it_steps), .int (it_faultAt), .int (it_mover)])), (qt_now, .inl (cy.1, 639, .inl (ft_now))), (qt_label, .inl (cy.1, 210, .inl (cft_label)))] H → va_D A [(qt, .inr (11, [.ref qt_now, .ref xt_past, .int (it_saved), .ref xt_text, .int (it_length), .ref xt_doors, .int (it_doorMany), .ref qt_label, .int (it_drawn), .ref xt_far, .ref xt_ring, .int (it_walker), .int (it_from), .ref xt_was, .int (it_steps), .int (it_faultAt), .int (it_mover)])), (qt_now, .inl (cy.1, 639, .inl (ft_now))), (qt_label, .inl (cy.1, 210, .inl (cft_label)))] → va_S A s.heap H locs → ∀ (ls : Array Slot), lv_has ls 4 [(0, .ref qt), (1, .int va1), (2, .int l2), (3, .int l3)] → b_X11_part_18 N ft_now va1 n18 l2 l3 cft_label = some out → W p l e (headSpec wsX11_part rm_X11_part).room s m ([.ref qt, .int va1] : List Value).toArray below meth c H locs 0 0 Q (F0 m 18 ls []) := by
    intro n18
    induction n18 with
    | zero => intro l2 l3 cft_label H locs hP hD hS ls hl hf; rw [b_X11_part_18] at hf; cases hf
    | succ n18 ih18 =>
      intro l2 l3 cft_label H locs hP hD hS ls hl hf
      rw [b_X11_part_18] at hf
      refine lv_iload_n hx hb dX11_part_18 rfl (lv_at hl 3 rfl) ?_
      refine lv_aload_n hx hb dX11_part_19 rfl (lv_at hl 0 rfl) ?_
      refine va_get (D := (dC, dI)) (ci := 11) (C := RX11) (T := TX11) (N := 17) hx hb hts (fun _ h => (List.mem_cons_of_mem _ (List.mem_append_right _ h))) hown hK hP 0 rfl rfl 7 (by decide) (hts _ (List.mem_cons_of_mem _ (List.mem_append_left _ (List.mem_append_left _ (List.mem_of_getElem? (i := 0) rfl))))) (fun _ h => h) rfl dX11_part_20 ?_
      refine lv_iload_n hx hb dX11_part_23 rfl (lv_at hl 1 rfl) ?_
      obtain ⟨hk_24, hf⟩ := chk_s hf
      refine va_iald hx hb hK hP 2 0 rfl rfl hk_24 dX11_part_24 ?_
      refine lv_icmp_ge (tgt := 60) hx hb dX11_part_25 (by decide) (fun hc_25 => ?_) (fun hc_25 => ?_)
      · rw [if_pos hc_25] at hf
        refine lv_iload_n hx hb dX11_part_60 rfl (lv_at hl 2 rfl) ?_
        cases hf
        subst hQ
        exact kiret hx hb hr hlocks hK (hP.sub [0, 1, 2] rfl) (hD.sub [0, 1, 2] (by decide) rfl) hS rfl dX11_part_61
      · rw [if_neg hc_25] at hf
        refine lv_iload_n hx hb dX11_part_28 rfl (lv_at hl 2 rfl) ?_
        refine lv_aload_n hx hb dX11_part_29 rfl (lv_at hl 0 rfl) ?_
        refine lv_iload_n hx hb dX11_part_30 rfl (lv_at hl 3 rfl) ?_
        obtain ⟨r31, hq_31, hf⟩ := bnd1_s hf
        refine kcalli (wc := [(qt, .inr (11, [.ref qt_now, .ref xt_past, .int (it_saved), .ref xt_text, .int (it_length), .ref xt_doors, .int (it_doorMany), .ref qt_label, .int (it_drawn), .ref xt_far, .ref xt_ring, .int (it_walker), .int (it_from), .ref xt_was, .int (it_steps), .int (it_faultAt), .int (it_mover)])), (qt_now, .inl (cy.1, 639, .inl (ft_now)))]) (wr := [(qt_label, .inl (cy.1, 210, .inl (cft_label)))]) (w1 := [(qt, .inr (11, [.ref qt_now, .ref xt_past, .int (it_saved), .ref xt_text, .int (it_length), .ref xt_doors, .int (it_doorMany), .ref qt_label, .int (it_drawn), .ref xt_far, .ref xt_ring, .int (it_walker), .int (it_from), .ref xt_was, .int (it_steps), .int (it_faultAt), .int (it_mover)])), (qt_now, .inl (cy.1, 639, .inl (ft_now)))]) hK hP hD hS hA hG [0, 1] [2] rfl rfl rfl rfl rfl (fun hU hPc => va_runV (As := [.int l3]) (rest := [.int l2]) ⟨hx, hb, hml, hown, hts⟩ (c_X11_isRoomAt l dC dI cy G H.size qt qt_now xt_past xt_text xt_doors qt_label xt_far xt_ring xt_was (it_saved) (it_length) (it_doorMany) (it_drawn) (it_walker) (it_from) (it_steps) (it_faultAt) (it_mover) (ft_now) (l3) r31 hq_31) (cwV 1 hts gX11_part_X11_isRoomAt rfl rfl rfl hdX11_isRoomAt ⟨Nat.le_of_ble_eq_true rfl, Nat.le_of_ble_eq_true rfl⟩) ⟨kBlind, (va_recv hK hP (ci := 11) (q0 := 0) rfl rfl), fun U h1 h2 => ⟨rfl, hU U h1 h2⟩⟩ rfl rfl hl.1 rfl (lv_room (Nat.le_of_ble_eq_true rfl)) dX11_part_31 ⟨Nat.zero_le _, Nat.zero_le _⟩) (r31) (fun _ _ h => h) (fun _ _ h => h) (fun H locs hP hD hS => ?_)
        have hP : va_P (dC, dI) vwCl [(qt_label, .inl (cy.1, 210, .inl (cft_label))), (qt, .inr (11, [.ref qt_now, .ref xt_past, .int (it_saved), .ref xt_text, .int (it_length), .ref xt_doors, .int (it_doorMany), .ref qt_label, .int (it_drawn), .ref xt_far, .ref xt_ring, .int (it_walker), .int (it_from), .ref xt_was, .int (it_steps), .int (it_faultAt), .int (it_mover)])), (qt_now, .inl (cy.1, 639, .inl (ft_now)))] H := hP
        have hD : va_D A [(qt_label, .inl (cy.1, 210, .inl (cft_label))), (qt, .inr (11, [.ref qt_now, .ref xt_past, .int (it_saved), .ref xt_text, .int (it_length), .ref xt_doors, .int (it_doorMany), .ref qt_label, .int (it_drawn), .ref xt_far, .ref xt_ring, .int (it_walker), .int (it_from), .ref xt_was, .int (it_steps), .int (it_faultAt), .int (it_mover)])), (qt_now, .inl (cy.1, 639, .inl (ft_now)))] := hD
        refine lv_if_eq (tgt := 51) hx hb dX11_part_34 (by decide) (fun hc_34 => ?_) (fun hc_34 => ?_)
        · rw [if_pos hc_34] at hf
          refine lv_iconst (v := (0 : Int32)) hx hb dX11_part_51 (by decide) ?_
          refine lv_iadd hx hb dX11_part_52 ?_
          refine lv_istore_n (lv' := [(2, .int (l2 + (0 : Int32))), (0, .ref qt), (1, .int va1), (3, .int l3)]) hx hb dX11_part_53 rfl hl (by decide) rfl (fun ls hl => ?_)
          refine lv_iinc (v := (l3 + (1 : Int32))) (lv' := [(3, .int (l3 + (1 : Int32))), (2, .int (l2 + (0 : Int32))), (0, .ref qt), (1, .int va1)]) hx hb dX11_part_54 hl (k := 3) rfl rfl (by decide) rfl (fun ls hl => ?_)
          refine lv_goto (tgt := 18) hx hb dX11_part_57 (by decide) ?_
          exact ih18 ((l2 + (0 : Int32))) ((l3 + (1 : Int32))) (cft_label) _ _ (hP.sub [1, 2, 0] rfl) (hD.sub [1, 2, 0] (by decide) rfl) hS _ (lv_sub hl [2, 3, 1, 0] rfl) hf
        · rw [if_neg hc_34] at hf
          refine lv_aload_n hx hb dX11_part_37 rfl (lv_at hl 0 rfl) ?_
          refine va_get (D := (dC, dI)) (ci := 11) (C := RX11) (T := TX11) (N := 17) hx hb hts (fun _ h => (List.mem_cons_of_mem _ (List.mem_append_right _ h))) hown hK hP 1 rfl rfl 7 (by decide) (hts _ (List.mem_cons_of_mem _ (List.mem_append_left _ (List.mem_append_left _ (List.mem_of_getElem? (i := 0) rfl))))) (fun _ h => h) rfl dX11_part_38 ?_
          refine lv_iload_n hx hb dX11_part_41 rfl (lv_at hl 3 rfl) ?_
          obtain ⟨hk_42, hf⟩ := chk_s hf
          refine va_iald hx hb hK hP 0 0 rfl rfl hk_42 dX11_part_42 ?_
          refine lv_iload_n hx hb dX11_part_43 rfl (lv_at hl 3 rfl) ?_
          refine lv_icmp_ne (tgt := 51) hx hb dX11_part_44 (by decide) (fun hc_44 => ?_) (fun hc_44 => ?_)
          · rw [if_neg hc_44] at hf
            refine lv_iconst (v := (0 : Int32)) hx hb dX11_part_51 (by decide) ?_
            refine lv_iadd hx hb dX11_part_52 ?_
            refine lv_istore_n (lv' := [(2, .int (l2 + (0 : Int32))), (0, .ref qt), (1, .int va1), (3, .int l3)]) hx hb dX11_part_53 rfl hl (by decide) rfl (fun ls hl => ?_)
            refine lv_iinc (v := (l3 + (1 : Int32))) (lv' := [(3, .int (l3 + (1 : Int32))), (2, .int (l2 + (0 : Int32))), (0, .ref qt), (1, .int va1)]) hx hb dX11_part_54 hl (k := 3) rfl rfl (by decide) rfl (fun ls hl => ?_)
            refine lv_goto (tgt := 18) hx hb dX11_part_57 (by decide) ?_
            exact ih18 ((l2 + (0 : Int32))) ((l3 + (1 : Int32))) (cft_label) _ _ (hP.sub [1, 2, 0] rfl) (hD.sub [1, 2, 0] (by decide) rfl) hS _ (lv_sub hl [2, 3, 1, 0] rfl) hf
          · rw [if_pos hc_44] at hf
            refine lv_iconst (v := (1 : Int32)) hx hb dX11_part_47 (by decide) ?_
            refine lv_goto (tgt := 52) hx hb dX11_part_48 (by decide) ?_
            refine lv_iadd hx hb dX11_part_52 ?_
            refine lv_istore_n (lv' := [(2, .int (l2 + (1 : Int32))), (0, .ref qt), (1, .int va1), (3, .int l3)]) hx hb dX11_part_53 rfl hl (by decide) rfl (fun ls hl => ?_)
            refine lv_iinc (v := (l3 + (1 : Int32))) (lv' := [(3, .int (l3 + (1 : Int32))), (2, .int (l2 + (1 : Int32))), (0, .ref qt), (1, .int va1)]) hx hb dX11_part_54 hl (k := 3) rfl rfl (by decide) rfl (fun ls hl => ?_)
            refine lv_goto (tgt := 18) hx hb dX11_part_57 (by decide) ?_
            exact ih18 ((l2 + (1 : Int32))) ((l3 + (1 : Int32))) (cft_label) _ _ (hP.sub [1, 2, 0] rfl) (hD.sub [1, 2, 0] (by decide) rfl) hS _ (lv_sub hl [2, 3, 1, 0] rfl) hf
  rw [f_X11_part] at hf
  refine lv_aload_n hx hb dX11_part_0 rfl (lv_at hl 0 rfl) ?_
  refine lv_iload_n hx hb dX11_part_1 rfl (lv_at hl 1 rfl) ?_
  obtain ⟨r2, hq_2, hf⟩ := bnd1_s hf
  refine kcalli (wc := [(qt, .inr (11, [.ref qt_now, .ref xt_past, .int (it_saved), .ref xt_text, .int (it_length), .ref xt_doors, .int (it_doorMany), .ref qt_label, .int (it_drawn), .ref xt_far, .ref xt_ring, .int (it_walker), .int (it_from), .ref xt_was, .int (it_steps), .int (it_faultAt), .int (it_mover)])), (qt_now, .inl (cy.1, 639, .inl (ft_now)))]) (wr := [(qt_label, .inl (cy.1, 210, .inl (ft_label)))]) (w1 := [(qt, .inr (11, [.ref qt_now, .ref xt_past, .int (it_saved), .ref xt_text, .int (it_length), .ref xt_doors, .int (it_doorMany), .ref qt_label, .int (it_drawn), .ref xt_far, .ref xt_ring, .int (it_walker), .int (it_from), .ref xt_was, .int (it_steps), .int (it_faultAt), .int (it_mover)])), (qt_now, .inl (cy.1, 639, .inl (ft_now)))]) hK hP hD hS hA hG [0, 1] [2] rfl rfl rfl rfl rfl (fun hU hPc => va_runV (As := [.int va1]) (rest := []) ⟨hx, hb, hml, hown, hts⟩ (c_X11_hasRoom l dC dI cy G s.heap.size qt qt_now xt_past xt_text xt_doors qt_label xt_far xt_ring xt_was (it_saved) (it_length) (it_doorMany) (it_drawn) (it_walker) (it_from) (it_steps) (it_faultAt) (it_mover) (ft_now) (va1) r2 hq_2) (cwV 1 hts gX11_part_X11_hasRoom rfl rfl rfl hdX11_hasRoom ⟨Nat.le_of_ble_eq_true rfl, Nat.le_of_ble_eq_true rfl⟩) ⟨kBlind, (va_recv hK hP (ci := 11) (q0 := 0) rfl rfl), fun U h1 h2 => ⟨rfl, hU U h1 h2⟩⟩ rfl rfl hl.1 rfl (lv_room (Nat.le_of_ble_eq_true rfl)) dX11_part_2 ⟨Nat.zero_le _, Nat.zero_le _⟩) (r2) (fun _ _ h => h) (fun _ _ h => h) (fun H locs hP hD hS => ?_)
  have hP : va_P (dC, dI) vwCl [(qt_label, .inl (cy.1, 210, .inl (ft_label))), (qt, .inr (11, [.ref qt_now, .ref xt_past, .int (it_saved), .ref xt_text, .int (it_length), .ref xt_doors, .int (it_doorMany), .ref qt_label, .int (it_drawn), .ref xt_far, .ref xt_ring, .int (it_walker), .int (it_from), .ref xt_was, .int (it_steps), .int (it_faultAt), .int (it_mover)])), (qt_now, .inl (cy.1, 639, .inl (ft_now)))] H := hP
  have hD : va_D A [(qt_label, .inl (cy.1, 210, .inl (ft_label))), (qt, .inr (11, [.ref qt_now, .ref xt_past, .int (it_saved), .ref xt_text, .int (it_length), .ref xt_doors, .int (it_doorMany), .ref qt_label, .int (it_drawn), .ref xt_far, .ref xt_ring, .int (it_walker), .int (it_from), .ref xt_was, .int (it_steps), .int (it_faultAt), .int (it_mover)])), (qt_now, .inl (cy.1, 639, .inl (ft_now)))] := hD
  refine lv_if_ne (tgt := 10) hx hb dX11_part_5 (by decide) (fun hc_5 => ?_) (fun hc_5 => ?_)
  · rw [if_neg hc_5] at hf
    refine lv_aload_n hx hb dX11_part_10 rfl (lv_at hl 0 rfl) ?_
    obtain ⟨o11_0, hq_11, hf⟩ := bnd1_s hf
    refine kcallv (wc := [(qt, .inr (11, [.ref qt_now, .ref xt_past, .int (it_saved), .ref xt_text, .int (it_length), .ref xt_doors, .int (it_doorMany), .ref qt_label, .int (it_drawn), .ref xt_far, .ref xt_ring, .int (it_walker), .int (it_from), .ref xt_was, .int (it_steps), .int (it_faultAt), .int (it_mover)])), (qt_now, .inl (cy.1, 639, .inl (ft_now))), (qt_label, .inl (cy.1, 210, .inl (ft_label)))]) (wr := []) (w1 := [(qt, .inr (11, [.ref qt_now, .ref xt_past, .int (it_saved), .ref xt_text, .int (it_length), .ref xt_doors, .int (it_doorMany), .ref qt_label, .int (it_drawn), .ref xt_far, .ref xt_ring, .int (it_walker), .int (it_from), .ref xt_was, .int (it_steps), .int (it_faultAt), .int (it_mover)])), (qt_now, .inl (cy.1, 639, .inl (ft_now))), (qt_label, .inl (cy.1, 210, .inl (o11_0)))]) hK hP hD hS hA hG [1, 2, 0] [] rfl rfl rfl rfl rfl (fun hU hPc => va_runV (As := []) (rest := []) ⟨hx, hb, hml, hown, hts⟩ (c_X11_labels l dC dI cy G H.size qt qt_now qt_label xt_past xt_text xt_doors xt_far xt_ring xt_was (it_saved) (it_length) (it_doorMany) (it_drawn) (it_walker) (it_from) (it_steps) (it_faultAt) (it_mover) N (ft_now) (ft_label) o11_0 hq_11) (cwV 0 hts gX11_part_X11_labels rfl rfl rfl hdX11_labels ⟨Nat.le_of_ble_eq_true rfl, Nat.le_of_ble_eq_true rfl⟩) ⟨kBlind, (va_recv hK hP (ci := 11) (q0 := 1) rfl rfl), fun U h1 h2 => ⟨rfl, hU U h1 h2⟩⟩ rfl rfl hl.1 rfl (lv_room (Nat.le_of_ble_eq_true rfl)) dX11_part_11 ⟨Nat.zero_le _, Nat.zero_le _⟩) (fun _ _ h => h) (fun H locs hP hD hS => ?_)
    have hP : va_P (dC, dI) vwCl [(qt, .inr (11, [.ref qt_now, .ref xt_past, .int (it_saved), .ref xt_text, .int (it_length), .ref xt_doors, .int (it_doorMany), .ref qt_label, .int (it_drawn), .ref xt_far, .ref xt_ring, .int (it_walker), .int (it_from), .ref xt_was, .int (it_steps), .int (it_faultAt), .int (it_mover)])), (qt_now, .inl (cy.1, 639, .inl (ft_now))), (qt_label, .inl (cy.1, 210, .inl (o11_0)))] H := hP
    have hD : va_D A [(qt, .inr (11, [.ref qt_now, .ref xt_past, .int (it_saved), .ref xt_text, .int (it_length), .ref xt_doors, .int (it_doorMany), .ref qt_label, .int (it_drawn), .ref xt_far, .ref xt_ring, .int (it_walker), .int (it_from), .ref xt_was, .int (it_steps), .int (it_faultAt), .int (it_mover)])), (qt_now, .inl (cy.1, 639, .inl (ft_now))), (qt_label, .inl (cy.1, 210, .inl (o11_0)))] := hD
    refine lv_iconst (v := (0 : Int32)) hx hb dX11_part_14 (by decide) ?_
    refine lv_istore_n (lv' := [(2, .int (0 : Int32)), (0, .ref qt), (1, .int va1)]) hx hb dX11_part_15 rfl hl (by decide) rfl (fun ls hl => ?_)
    refine lv_iconst (v := (0 : Int32)) hx hb dX11_part_16 (by decide) ?_
    refine lv_istore_n (lv' := [(3, .int (0 : Int32)), (2, .int (0 : Int32)), (0, .ref qt), (1, .int va1)]) hx hb dX11_part_17 rfl hl (by decide) rfl (fun ls hl => ?_)
    exact B18 N ((0 : Int32)) ((0 : Int32)) (o11_0) _ _ (hP.sub [0, 1, 2] rfl) (hD.sub [0, 1, 2] (by decide) rfl) hS _ (lv_sub hl [2, 3, 1, 0] rfl) hf
  · rw [if_pos hc_5] at hf
    refine lv_iconst (v := (-1 : Int32)) hx hb dX11_part_8 (by decide) ?_
    cases hf
    subst hQ
    exact kiret hx hb hr hlocks hK (hP.sub [1, 2, 0] rfl) (hD.sub [1, 2, 0] (by decide) rfl) hS rfl dX11_part_9
theorem hdX11_part : yX11_part.cls = RX11 ∧ yX11_part.cls ≠ "java/lang/invoke/MethodHandle" ∧ yX11_part.cls ≠ "java/lang/invoke/VarHandle" ∧ (parseMethodDescriptor yX11_part.desc).map (fun d => d.parameters.length) = some 1 := by decide +kernel
noncomputable def b_X11_lays_49 (N : Nat) (ft_now : Nat → Int32) (va1 : Int32) (k41 : Int32 → Int32 → (Nat → Int32) → (Nat → Int32) → Option ((Nat → Int32) × (Nat → Int32))) : Nat → Int32 → Int32 → Int32 → (Nat → Int32) → (Nat → Int32) → Option ((Nat → Int32) × (Nat → Int32))
  | 0, _, _, _, _, _ => none
  | n + 1, l2, l3, l4, cft_far, cft_ring =>
    if (4 : Int32) ≤ l4 then
      k41 (l2) ((l3 + (1 : Int32))) (cft_far) (cft_ring)
    else
      if l3 < 0 ∨ 210 ≤ (l3).toNatClampNeg then none else
      bnd1 (f_X11_isOpen (ft_now) ((cft_ring (l3).toNatClampNeg)) (l4)) fun r64 =>
      if r64 = 0 then
        b_X11_lays_49 N ft_now va1 k41 n (l2) (l3) ((l4 + (1 : Int32))) (cft_far) (cft_ring)
      else
        if l3 < 0 ∨ 210 ≤ (l3).toNatClampNeg then none else
        bnd1 (f_X11_beside (ft_now) ((cft_ring (l3).toNatClampNeg)) (l4)) fun r83 =>
        if r83 < 0 ∨ 210 ≤ (r83).toNatClampNeg then none else
        if 0 ≤ (cft_far (r83).toNatClampNeg) then
          b_X11_lays_49 N ft_now va1 k41 n (l2) (l3) ((l4 + (1 : Int32))) (cft_far) (cft_ring)
        else
          if l3 < 0 ∨ 210 ≤ (l3).toNatClampNeg then none else
          bnd1 (f_X11_beside (ft_now) ((cft_ring (l3).toNatClampNeg)) (l4)) fun r103 =>
          if l3 < 0 ∨ 210 ≤ (l3).toNatClampNeg then none else
          if (cft_ring (l3).toNatClampNeg) < 0 ∨ 210 ≤ ((cft_ring (l3).toNatClampNeg)).toNatClampNeg then none else
          if r103 < 0 ∨ 210 ≤ (r103).toNatClampNeg then none else
          if l3 < 0 ∨ 210 ≤ (l3).toNatClampNeg then none else
          bnd1 (f_X11_beside (ft_now) ((cft_ring (l3).toNatClampNeg)) (l4)) fun r134 =>
          if l2 < 0 ∨ 210 ≤ (l2).toNatClampNeg then none else
          b_X11_lays_49 N ft_now va1 k41 n ((l2 + (1 : Int32))) (l3) ((l4 + (1 : Int32))) ((upd cft_far (r103).toNatClampNeg ((cft_far ((cft_ring (l3).toNatClampNeg)).toNatClampNeg) + (1 : Int32)))) ((upd cft_ring (l2).toNatClampNeg r134))
noncomputable def b_X11_lays_41 (N : Nat) (ft_now : Nat → Int32) (va1 : Int32) : Nat → Int32 → Int32 → (Nat → Int32) → (Nat → Int32) → Option ((Nat → Int32) × (Nat → Int32))
  | 0, _, _, _, _ => none
  | n + 1, l2, l3, cft_far, cft_ring =>
    if l2 ≤ l3 then
      some (cft_far, cft_ring)
    else
      b_X11_lays_49 N ft_now va1 (b_X11_lays_41 N ft_now va1 n) N (l2) (l3) ((0 : Int32)) (cft_far) (cft_ring)
noncomputable def b_X11_lays_2 (N : Nat) (ft_now : Nat → Int32) (va1 : Int32) : Nat → Int32 → (Nat → Int32) → (Nat → Int32) → Option ((Nat → Int32) × (Nat → Int32))
  | 0, _, _, _ => none
  | n + 1, l2, cft_far, cft_ring =>
    if (t_X11_cells (ft_now)) ≤ l2 then
      if va1 < 0 ∨ 210 ≤ (va1).toNatClampNeg then none else
      b_X11_lays_41 N ft_now va1 N ((1 : Int32)) ((0 : Int32)) ((upd cft_far (va1).toNatClampNeg (0 : Int32))) ((upd cft_ring ((0 : Int32)).toNatClampNeg va1))
    else
      if l2 < 0 ∨ 210 ≤ (l2).toNatClampNeg then none else
      b_X11_lays_2 N ft_now va1 n ((l2 + (1 : Int32))) ((upd cft_far (l2).toNatClampNeg (-1 : Int32))) (cft_ring)
noncomputable def f_X11_lays (N : Nat) (ft_now : Nat → Int32) (ft_far : Nat → Int32) (ft_ring : Nat → Int32) (va1 : Int32) : Option ((Nat → Int32) × (Nat → Int32)) :=
  b_X11_lays_2 N ft_now va1 N ((0 : Int32)) (ft_far) (ft_ring)
abbrev rm_X11_lays : Room := { frames := 6, cells := 0, slots := 0, locals := 135 }
set_option maxHeartbeats 4000000 in
set_option maxRecDepth 100000 in
theorem c_X11_lays (l : Launch) (dC : Nat → ClassId) (dI : Nat → Nat → Nat) (cy : gC) (G : gT) (sz : Nat) (qt : Nat) (qt_now : Nat) (qt_far : Nat) (qt_ring : Nat) (xt_past : Nat) (xt_text : Nat) (xt_doors : Nat) (xt_label : Nat) (xt_was : Nat) (it_saved : Int32) (it_length : Int32) (it_doorMany : Int32) (it_drawn : Int32) (it_walker : Int32) (it_from : Int32) (it_steps : Int32) (it_faultAt : Int32) (it_mover : Int32) (N : Nat) (ft_now : Nat → Int32) (ft_far : Nat → Int32) (ft_ring : Nat → Int32) (va1 : Int32) (out : (Nat → Int32) × (Nat → Int32)) (hf : f_X11_lays N ft_now ft_far ft_ring va1 = some out) : Met l yX11_lays wsX11_lays rm_X11_lays (va_Pc [.ref qt, .int va1] (kP (dC, dI) cy G [(qt, .inr (11, [.ref qt_now, .ref xt_past, .int (it_saved), .ref xt_text, .int (it_length), .ref xt_doors, .int (it_doorMany), .ref xt_label, .int (it_drawn), .ref qt_far, .ref qt_ring, .int (it_walker), .int (it_from), .ref xt_was, .int (it_steps), .int (it_faultAt), .int (it_mover)])), (qt_now, .inl (cy.1, 639, .inl (ft_now))), (qt_far, .inl (cy.1, 210, .inl (ft_far))), (qt_ring, .inl (cy.1, 210, .inl (ft_ring)))] sz)) (va_Qv (fun (_ : Unit) => True) (fun _ => kQ (dC, dI) cy [(qt, .inr (11, [.ref qt_now, .ref xt_past, .int (it_saved), .ref xt_text, .int (it_length), .ref xt_doors, .int (it_doorMany), .ref xt_label, .int (it_drawn), .ref qt_far, .ref qt_ring, .int (it_walker), .int (it_from), .ref xt_was, .int (it_steps), .int (it_faultAt), .int (it_mover)])), (qt_now, .inl (cy.1, 639, .inl (ft_now))), (qt_far, .inl (cy.1, 210, .inl (out.1))), (qt_ring, .inl (cy.1, 210, .inl (out.2)))] (va_A [(qt, .inr (11, [.ref qt_now, .ref xt_past, .int (it_saved), .ref xt_text, .int (it_length), .ref xt_doors, .int (it_doorMany), .ref xt_label, .int (it_drawn), .ref qt_far, .ref qt_ring, .int (it_walker), .int (it_from), .ref xt_was, .int (it_steps), .int (it_faultAt), .int (it_mover)])), (qt_now, .inl (cy.1, 639, .inl (ft_now))), (qt_far, .inl (cy.1, 210, .inl (ft_far))), (qt_ring, .inl (cy.1, 210, .inl (ft_ring)))] sz)) (va_A [(qt, .inr (11, [.ref qt_now, .ref xt_past, .int (it_saved), .ref xt_text, .int (it_length), .ref xt_doors, .int (it_doorMany), .ref xt_label, .int (it_drawn), .ref qt_far, .ref qt_ring, .int (it_walker), .int (it_from), .ref xt_was, .int (it_steps), .int (it_faultAt), .int (it_mover)])), (qt_now, .inl (cy.1, 639, .inl (ft_now))), (qt_far, .inl (cy.1, 210, .inl (ft_far))), (qt_ring, .inl (cy.1, 210, .inl (ft_ring)))] sz)) 0 0 (va_A [(qt, .inr (11, [.ref qt_now, .ref xt_past, .int (it_saved), .ref xt_text, .int (it_length), .ref xt_doors, .int (it_doorMany), .ref xt_label, .int (it_drawn), .ref qt_far, .ref qt_ring, .int (it_walker), .int (it_from), .ref xt_was, .int (it_steps), .int (it_faultAt), .int (it_mover)])), (qt_now, .inl (cy.1, 639, .inl (ft_now))), (qt_far, .inl (cy.1, 210, .inl (ft_far))), (qt_ring, .inl (cy.1, 210, .inl (ft_ring)))] sz) := by
  refine Met.ofW (cc := cX11_lays) (maxL := 5) (ret := none) (by decide) rfl ?_
  intro p e s m args below meth c s₁ B hml hv
  obtain ⟨rfl, hsz, hP, hK, hD0, hG⟩ := hv
  have hx := B.exec
  have hb := B.bytes
  have hr := B.returns
  have hts := atoms_spec (ws := wsX11_lays) B.pre
  have hown : s.vm.findClass RX11 = some m.cls := findClass_of_methodNamed B.named
  have hlocks := B.notSynchronized
  subst hsz
  have hD := hD0.self (sz := s.heap.size)
  generalize hAe : va_A [(qt, .inr (11, [.ref qt_now, .ref xt_past, .int (it_saved), .ref xt_text, .int (it_length), .ref xt_doors, .int (it_doorMany), .ref xt_label, .int (it_drawn), .ref qt_far, .ref qt_ring, .int (it_walker), .int (it_from), .ref xt_was, .int (it_steps), .int (it_faultAt), .int (it_mover)])), (qt_now, .inl (cy.1, 639, .inl (ft_now))), (qt_far, .inl (cy.1, 210, .inl (ft_far))), (qt_ring, .inl (cy.1, 210, .inl (ft_ring)))] s.heap.size = A at hD hG ⊢
  have hA : ∀ q : Nat, s.heap.size ≤ q → A q := fun q h => by rw [← hAe]; exact Or.inr h
  have hS : va_S A s.heap s.heap [] := va_S.rf
  have hP : va_P (dC, dI) vwCl [(qt, .inr (11, [.ref qt_now, .ref xt_past, .int (it_saved), .ref xt_text, .int (it_length), .ref xt_doors, .int (it_doorMany), .ref xt_label, .int (it_drawn), .ref qt_far, .ref qt_ring, .int (it_walker), .int (it_from), .ref xt_was, .int (it_steps), .int (it_faultAt), .int (it_mover)])), (qt_now, .inl (cy.1, 639, .inl (ft_now))), (qt_far, .inl (cy.1, 210, .inl (ft_far))), (qt_ring, .inl (cy.1, 210, .inl (ft_ring)))] s.heap := hP
  have hl := lv_entry ([.ref qt, .int va1]) (n := 5) (Nat.le_of_ble_eq_true rfl)
  rw [lg_entry_eq]
  generalize (lg_sl ([.ref qt, .int va1]) ++ List.replicate (5 - (lg_sl ([.ref qt, .int va1])).length) Slot.unset).toArray = ls at hl ⊢
  have hl : lv_has ls 5 [(0, .ref qt), (1, .int va1)] := hl
  refine kgen (fun Q hQ => ?_)
  have B41 : ∀ (n41 : Nat) (l2 : Int32) (l3 : Int32) (cft_far : Nat → Int32) (cft_ring : Nat → Int32) (H : Heap) (locs : List Loc), va_P (dC, dI) vwCl [(qt, .inr (11, [.ref qt_now, .ref xt_past, .int (it_saved), .ref xt_text, .int (it_length), .ref xt_doors, .int (it_doorMany), .ref xt_label, .int (it_drawn), .ref qt_far, .ref qt_ring, .int (it_walker), .int (it_from), .ref xt_was, .int (it_steps), .int (it_faultAt), .int (it_mover)])), (qt_now, .inl (cy.1, 639, .inl (ft_now))), (qt_far, .inl (cy.1, 210, .inl (cft_far))), (qt_ring, .inl (cy.1, 210, .inl (cft_ring)))] H → va_D A [(qt, .inr (11, [.ref qt_now, .ref xt_past, .int (it_saved), .ref xt_text, .int (it_length), .ref xt_doors, .int (it_doorMany), .ref xt_label, .int (it_drawn), .ref qt_far, .ref qt_ring, .int (it_walker), .int (it_from), .ref xt_was, .int (it_steps), .int (it_faultAt), .int (it_mover)])), (qt_now, .inl (cy.1, 639, .inl (ft_now))), (qt_far, .inl (cy.1, 210, .inl (cft_far))), (qt_ring, .inl (cy.1, 210, .inl (cft_ring)))] → va_S A s.heap H locs → ∀ (ls : Array Slot), lv_has ls 5 [(0, .ref qt), (2, .int l2), (3, .int l3)] → b_X11_lays_41 N ft_now va1 n41 l2 l3 cft_far cft_ring = some out → W p l e (headSpec wsX11_lays rm_X11_lays).room s m ([.ref qt, .int va1] : List Value).toArray below meth c H locs 0 0 Q (F0 m 41 ls []) := by
    intro n41
    induction n41 with
    | zero => intro l2 l3 cft_far cft_ring H locs hP hD hS ls hl hf; rw [b_X11_lays_41] at hf; cases hf
    | succ n41 ih41 =>
      have B49 : ∀ (n49 : Nat) (l2 : Int32) (l3 : Int32) (l4 : Int32) (cft_far : Nat → Int32) (cft_ring : Nat → Int32) (H : Heap) (locs : List Loc), va_P (dC, dI) vwCl [(qt, .inr (11, [.ref qt_now, .ref xt_past, .int (it_saved), .ref xt_text, .int (it_length), .ref xt_doors, .int (it_doorMany), .ref xt_label, .int (it_drawn), .ref qt_far, .ref qt_ring, .int (it_walker), .int (it_from), .ref xt_was, .int (it_steps), .int (it_faultAt), .int (it_mover)])), (qt_now, .inl (cy.1, 639, .inl (ft_now))), (qt_far, .inl (cy.1, 210, .inl (cft_far))), (qt_ring, .inl (cy.1, 210, .inl (cft_ring)))] H → va_D A [(qt, .inr (11, [.ref qt_now, .ref xt_past, .int (it_saved), .ref xt_text, .int (it_length), .ref xt_doors, .int (it_doorMany), .ref xt_label, .int (it_drawn), .ref qt_far, .ref qt_ring, .int (it_walker), .int (it_from), .ref xt_was, .int (it_steps), .int (it_faultAt), .int (it_mover)])), (qt_now, .inl (cy.1, 639, .inl (ft_now))), (qt_far, .inl (cy.1, 210, .inl (cft_far))), (qt_ring, .inl (cy.1, 210, .inl (cft_ring)))] → va_S A s.heap H locs → ∀ (ls : Array Slot), lv_has ls 5 [(0, .ref qt), (2, .int l2), (3, .int l3), (4, .int l4)] → b_X11_lays_49 N ft_now va1 (b_X11_lays_41 N ft_now va1 n41) n49 l2 l3 l4 cft_far cft_ring = some out → W p l e (headSpec wsX11_lays rm_X11_lays).room s m ([.ref qt, .int va1] : List Value).toArray below meth c H locs 0 0 Q (F0 m 49 ls []) := by
        intro n49
        induction n49 with
        | zero => intro l2 l3 l4 cft_far cft_ring H locs hP hD hS ls hl hf; rw [b_X11_lays_49] at hf; cases hf
        | succ n49 ih49 =>
          intro l2 l3 l4 cft_far cft_ring H locs hP hD hS ls hl hf
          rw [b_X11_lays_49] at hf
          refine lv_iload hx hb dX11_lays_49 (lv_at hl 3 rfl) ?_
          refine lv_iconst (v := (4 : Int32)) hx hb dX11_lays_51 (by decide) ?_
          refine lv_icmp_ge (tgt := 147) hx hb dX11_lays_52 (by decide) (fun hc_52 => ?_) (fun hc_52 => ?_)
          · rw [if_pos hc_52] at hf
            refine lv_iinc (v := (l3 + (1 : Int32))) (lv' := [(3, .int (l3 + (1 : Int32))), (0, .ref qt), (2, .int l2), (4, .int l4)]) hx hb dX11_lays_147 hl (k := 2) rfl rfl (by decide) rfl (fun ls hl => ?_)
            refine lv_goto (tgt := 41) hx hb dX11_lays_150 (by decide) ?_
            exact ih41 (l2) ((l3 + (1 : Int32))) (cft_far) (cft_ring) _ _ (hP.sub [0, 1, 2, 3] rfl) (hD.sub [0, 1, 2, 3] (by decide) rfl) hS _ (lv_sub hl [1, 2, 0] rfl) hf
          · rw [if_neg hc_52] at hf
            refine lv_aload_n hx hb dX11_lays_55 rfl (lv_at hl 0 rfl) ?_
            refine lv_aload_n hx hb dX11_lays_56 rfl (lv_at hl 0 rfl) ?_
            refine va_get (D := (dC, dI)) (ci := 11) (C := RX11) (T := TX11) (N := 17) hx hb hts (fun _ h => (List.mem_cons_of_mem _ (List.mem_append_right _ h))) hown hK hP 0 rfl rfl 10 (by decide) (hts _ (List.mem_cons_of_mem _ (List.mem_append_left _ (List.mem_append_left _ (List.mem_of_getElem? (i := 1) rfl))))) (fun _ h => h) rfl dX11_lays_57 ?_
            refine lv_iload_n hx hb dX11_lays_60 rfl (lv_at hl 2 rfl) ?_
            obtain ⟨hk_61, hf⟩ := chk_s hf
            refine va_iald hx hb hK hP 3 0 rfl rfl hk_61 dX11_lays_61 ?_
            refine lv_iload hx hb dX11_lays_62 (lv_at hl 3 rfl) ?_
            obtain ⟨r64, hq_64, hf⟩ := bnd1_s hf
            refine kcalli (wc := [(qt, .inr (11, [.ref qt_now, .ref xt_past, .int (it_saved), .ref xt_text, .int (it_length), .ref xt_doors, .int (it_doorMany), .ref xt_label, .int (it_drawn), .ref qt_far, .ref qt_ring, .int (it_walker), .int (it_from), .ref xt_was, .int (it_steps), .int (it_faultAt), .int (it_mover)])), (qt_now, .inl (cy.1, 639, .inl (ft_now)))]) (wr := [(qt_far, .inl (cy.1, 210, .inl (cft_far))), (qt_ring, .inl (cy.1, 210, .inl (cft_ring)))]) (w1 := [(qt, .inr (11, [.ref qt_now, .ref xt_past, .int (it_saved), .ref xt_text, .int (it_length), .ref xt_doors, .int (it_doorMany), .ref xt_label, .int (it_drawn), .ref qt_far, .ref qt_ring, .int (it_walker), .int (it_from), .ref xt_was, .int (it_steps), .int (it_faultAt), .int (it_mover)])), (qt_now, .inl (cy.1, 639, .inl (ft_now)))]) hK hP hD hS hA hG [0, 1] [2, 3] rfl rfl rfl rfl rfl (fun hU hPc => va_runV (As := [.int (cft_ring (l3).toNatClampNeg), .int l4]) (rest := []) ⟨hx, hb, hml, hown, hts⟩ (c_X11_isOpen l dC dI cy G H.size qt qt_now xt_past xt_text xt_doors xt_label qt_far qt_ring xt_was (it_saved) (it_length) (it_doorMany) (it_drawn) (it_walker) (it_from) (it_steps) (it_faultAt) (it_mover) (ft_now) ((cft_ring (l3).toNatClampNeg)) (l4) r64 hq_64) (cwV 2 hts gX11_lays_X11_isOpen rfl rfl rfl hdX11_isOpen ⟨Nat.le_of_ble_eq_true rfl, Nat.le_of_ble_eq_true rfl⟩) ⟨kBlind, (va_recv hK hP (ci := 11) (q0 := 0) rfl rfl), fun U h1 h2 => ⟨rfl, hU U h1 h2⟩⟩ rfl rfl hl.1 rfl (lv_room (Nat.le_of_ble_eq_true rfl)) dX11_lays_64 ⟨Nat.zero_le _, Nat.zero_le _⟩) (r64) (fun _ _ h => h) (fun _ _ h => h) (fun H locs hP hD hS => ?_)
            have hP : va_P (dC, dI) vwCl [(qt_far, .inl (cy.1, 210, .inl (cft_far))), (qt_ring, .inl (cy.1, 210, .inl (cft_ring))), (qt, .inr (11, [.ref qt_now, .ref xt_past, .int (it_saved), .ref xt_text, .int (it_length), .ref xt_doors, .int (it_doorMany), .ref xt_label, .int (it_drawn), .ref qt_far, .ref qt_ring, .int (it_walker), .int (it_from), .ref xt_was, .int (it_steps), .int (it_faultAt), .int (it_mover)])), (qt_now, .inl (cy.1, 639, .inl (ft_now)))] H := hP
            have hD : va_D A [(qt_far, .inl (cy.1, 210, .inl (cft_far))), (qt_ring, .inl (cy.1, 210, .inl (cft_ring))), (qt, .inr (11, [.ref qt_now, .ref xt_past, .int (it_saved), .ref xt_text, .int (it_length), .ref xt_doors, .int (it_doorMany), .ref xt_label, .int (it_drawn), .ref qt_far, .ref qt_ring, .int (it_walker), .int (it_from), .ref xt_was, .int (it_steps), .int (it_faultAt), .int (it_mover)])), (qt_now, .inl (cy.1, 639, .inl (ft_now)))] := hD
            refine lv_if_eq (tgt := 141) hx hb dX11_lays_67 (by decide) (fun hc_67 => ?_) (fun hc_67 => ?_)
            · rw [if_pos hc_67] at hf
              refine lv_iinc (v := (l4 + (1 : Int32))) (lv' := [(4, .int (l4 + (1 : Int32))), (0, .ref qt), (2, .int l2), (3, .int l3)]) hx hb dX11_lays_141 hl (k := 3) rfl rfl (by decide) rfl (fun ls hl => ?_)
              refine lv_goto (tgt := 49) hx hb dX11_lays_144 (by decide) ?_
              exact ih49 (l2) (l3) ((l4 + (1 : Int32))) (cft_far) (cft_ring) _ _ (hP.sub [2, 3, 0, 1] rfl) (hD.sub [2, 3, 0, 1] (by decide) rfl) hS _ (lv_sub hl [1, 2, 3, 0] rfl) hf
            · rw [if_neg hc_67] at hf
              refine lv_aload_n hx hb dX11_lays_70 rfl (lv_at hl 0 rfl) ?_
              refine va_get (D := (dC, dI)) (ci := 11) (C := RX11) (T := TX11) (N := 17) hx hb hts (fun _ h => (List.mem_cons_of_mem _ (List.mem_append_right _ h))) hown hK hP 2 rfl rfl 9 (by decide) (hts _ (List.mem_cons_of_mem _ (List.mem_append_left _ (List.mem_append_left _ (List.mem_of_getElem? (i := 0) rfl))))) (fun _ h => h) rfl dX11_lays_71 ?_
              refine lv_aload_n hx hb dX11_lays_74 rfl (lv_at hl 0 rfl) ?_
              refine lv_aload_n hx hb dX11_lays_75 rfl (lv_at hl 0 rfl) ?_
              refine va_get (D := (dC, dI)) (ci := 11) (C := RX11) (T := TX11) (N := 17) hx hb hts (fun _ h => (List.mem_cons_of_mem _ (List.mem_append_right _ h))) hown hK hP 2 rfl rfl 10 (by decide) (hts _ (List.mem_cons_of_mem _ (List.mem_append_left _ (List.mem_append_left _ (List.mem_of_getElem? (i := 1) rfl))))) (fun _ h => h) rfl dX11_lays_76 ?_
              refine lv_iload_n hx hb dX11_lays_79 rfl (lv_at hl 2 rfl) ?_
              obtain ⟨hk_80, hf⟩ := chk_s hf
              refine va_iald hx hb hK hP 1 0 rfl rfl hk_80 dX11_lays_80 ?_
              refine lv_iload hx hb dX11_lays_81 (lv_at hl 3 rfl) ?_
              obtain ⟨r83, hq_83, hf⟩ := bnd1_s hf
              refine kcalli (wc := [(qt, .inr (11, [.ref qt_now, .ref xt_past, .int (it_saved), .ref xt_text, .int (it_length), .ref xt_doors, .int (it_doorMany), .ref xt_label, .int (it_drawn), .ref qt_far, .ref qt_ring, .int (it_walker), .int (it_from), .ref xt_was, .int (it_steps), .int (it_faultAt), .int (it_mover)])), (qt_now, .inl (cy.1, 639, .inl (ft_now)))]) (wr := [(qt_far, .inl (cy.1, 210, .inl (cft_far))), (qt_ring, .inl (cy.1, 210, .inl (cft_ring)))]) (w1 := [(qt, .inr (11, [.ref qt_now, .ref xt_past, .int (it_saved), .ref xt_text, .int (it_length), .ref xt_doors, .int (it_doorMany), .ref xt_label, .int (it_drawn), .ref qt_far, .ref qt_ring, .int (it_walker), .int (it_from), .ref xt_was, .int (it_steps), .int (it_faultAt), .int (it_mover)])), (qt_now, .inl (cy.1, 639, .inl (ft_now)))]) hK hP hD hS hA hG [2, 3] [0, 1] rfl rfl rfl rfl rfl (fun hU hPc => va_runV (As := [.int (cft_ring (l3).toNatClampNeg), .int l4]) (rest := [.ref qt_far]) ⟨hx, hb, hml, hown, hts⟩ (c_X11_beside l dC dI cy G H.size qt qt_now xt_past xt_text xt_doors xt_label qt_far qt_ring xt_was (it_saved) (it_length) (it_doorMany) (it_drawn) (it_walker) (it_from) (it_steps) (it_faultAt) (it_mover) (ft_now) ((cft_ring (l3).toNatClampNeg)) (l4) r83 hq_83) (cwV 2 hts gX11_lays_X11_beside rfl rfl rfl hdX11_beside ⟨Nat.le_of_ble_eq_true rfl, Nat.le_of_ble_eq_true rfl⟩) ⟨kBlind, (va_recv hK hP (ci := 11) (q0 := 2) rfl rfl), fun U h1 h2 => ⟨rfl, hU U h1 h2⟩⟩ rfl rfl hl.1 rfl (lv_room (Nat.le_of_ble_eq_true rfl)) dX11_lays_83 ⟨Nat.zero_le _, Nat.zero_le _⟩) (r83) (fun _ _ h => h) (fun _ _ h => h) (fun H locs hP hD hS => ?_)
              have hP : va_P (dC, dI) vwCl [(qt_far, .inl (cy.1, 210, .inl (cft_far))), (qt_ring, .inl (cy.1, 210, .inl (cft_ring))), (qt, .inr (11, [.ref qt_now, .ref xt_past, .int (it_saved), .ref xt_text, .int (it_length), .ref xt_doors, .int (it_doorMany), .ref xt_label, .int (it_drawn), .ref qt_far, .ref qt_ring, .int (it_walker), .int (it_from), .ref xt_was, .int (it_steps), .int (it_faultAt), .int (it_mover)])), (qt_now, .inl (cy.1, 639, .inl (ft_now)))] H := hP
              have hD : va_D A [(qt_far, .inl (cy.1, 210, .inl (cft_far))), (qt_ring, .inl (cy.1, 210, .inl (cft_ring))), (qt, .inr (11, [.ref qt_now, .ref xt_past, .int (it_saved), .ref xt_text, .int (it_length), .ref xt_doors, .int (it_doorMany), .ref xt_label, .int (it_drawn), .ref qt_far, .ref qt_ring, .int (it_walker), .int (it_from), .ref xt_was, .int (it_steps), .int (it_faultAt), .int (it_mover)])), (qt_now, .inl (cy.1, 639, .inl (ft_now)))] := hD
              obtain ⟨hk_86, hf⟩ := chk_s hf
              refine va_iald hx hb hK hP 0 0 rfl rfl hk_86 dX11_lays_86 ?_
              refine lv_if_ge (tgt := 141) hx hb dX11_lays_87 (by decide) (fun hc_87 => ?_) (fun hc_87 => ?_)
              · rw [if_pos hc_87] at hf
                refine lv_iinc (v := (l4 + (1 : Int32))) (lv' := [(4, .int (l4 + (1 : Int32))), (0, .ref qt), (2, .int l2), (3, .int l3)]) hx hb dX11_lays_141 hl (k := 3) rfl rfl (by decide) rfl (fun ls hl => ?_)
                refine lv_goto (tgt := 49) hx hb dX11_lays_144 (by decide) ?_
                exact ih49 (l2) (l3) ((l4 + (1 : Int32))) (cft_far) (cft_ring) _ _ (hP.sub [2, 3, 0, 1] rfl) (hD.sub [2, 3, 0, 1] (by decide) rfl) hS _ (lv_sub hl [1, 2, 3, 0] rfl) hf
              · rw [if_neg hc_87] at hf
                refine lv_aload_n hx hb dX11_lays_90 rfl (lv_at hl 0 rfl) ?_
                refine va_get (D := (dC, dI)) (ci := 11) (C := RX11) (T := TX11) (N := 17) hx hb hts (fun _ h => (List.mem_cons_of_mem _ (List.mem_append_right _ h))) hown hK hP 2 rfl rfl 9 (by decide) (hts _ (List.mem_cons_of_mem _ (List.mem_append_left _ (List.mem_append_left _ (List.mem_of_getElem? (i := 0) rfl))))) (fun _ h => h) rfl dX11_lays_91 ?_
                refine lv_aload_n hx hb dX11_lays_94 rfl (lv_at hl 0 rfl) ?_
                refine lv_aload_n hx hb dX11_lays_95 rfl (lv_at hl 0 rfl) ?_
                refine va_get (D := (dC, dI)) (ci := 11) (C := RX11) (T := TX11) (N := 17) hx hb hts (fun _ h => (List.mem_cons_of_mem _ (List.mem_append_right _ h))) hown hK hP 2 rfl rfl 10 (by decide) (hts _ (List.mem_cons_of_mem _ (List.mem_append_left _ (List.mem_append_left _ (List.mem_of_getElem? (i := 1) rfl))))) (fun _ h => h) rfl dX11_lays_96 ?_
                refine lv_iload_n hx hb dX11_lays_99 rfl (lv_at hl 2 rfl) ?_
                obtain ⟨hk_100, hf⟩ := chk_s hf
                refine va_iald hx hb hK hP 1 0 rfl rfl hk_100 dX11_lays_100 ?_
                refine lv_iload hx hb dX11_lays_101 (lv_at hl 3 rfl) ?_
                obtain ⟨r103, hq_103, hf⟩ := bnd1_s hf
                refine kcalli (wc := [(qt, .inr (11, [.ref qt_now, .ref xt_past, .int (it_saved), .ref xt_text, .int (it_length), .ref xt_doors, .int (it_doorMany), .ref xt_label, .int (it_drawn), .ref qt_far, .ref qt_ring, .int (it_walker), .int (it_from), .ref xt_was, .int (it_steps), .int (it_faultAt), .int (it_mover)])), (qt_now, .inl (cy.1, 639, .inl (ft_now)))]) (wr := [(qt_far, .inl (cy.1, 210, .inl (cft_far))), (qt_ring, .inl (cy.1, 210, .inl (cft_ring)))]) (w1 := [(qt, .inr (11, [.ref qt_now, .ref xt_past, .int (it_saved), .ref xt_text, .int (it_length), .ref xt_doors, .int (it_doorMany), .ref xt_label, .int (it_drawn), .ref qt_far, .ref qt_ring, .int (it_walker), .int (it_from), .ref xt_was, .int (it_steps), .int (it_faultAt), .int (it_mover)])), (qt_now, .inl (cy.1, 639, .inl (ft_now)))]) hK hP hD hS hA hG [2, 3] [0, 1] rfl rfl rfl rfl rfl (fun hU hPc => va_runV (As := [.int (cft_ring (l3).toNatClampNeg), .int l4]) (rest := [.ref qt_far]) ⟨hx, hb, hml, hown, hts⟩ (c_X11_beside l dC dI cy G H.size qt qt_now xt_past xt_text xt_doors xt_label qt_far qt_ring xt_was (it_saved) (it_length) (it_doorMany) (it_drawn) (it_walker) (it_from) (it_steps) (it_faultAt) (it_mover) (ft_now) ((cft_ring (l3).toNatClampNeg)) (l4) r103 hq_103) (cwV 2 hts gX11_lays_X11_beside rfl rfl rfl hdX11_beside ⟨Nat.le_of_ble_eq_true rfl, Nat.le_of_ble_eq_true rfl⟩) ⟨kBlind, (va_recv hK hP (ci := 11) (q0 := 2) rfl rfl), fun U h1 h2 => ⟨rfl, hU U h1 h2⟩⟩ rfl rfl hl.1 rfl (lv_room (Nat.le_of_ble_eq_true rfl)) dX11_lays_103 ⟨Nat.zero_le _, Nat.zero_le _⟩) (r103) (fun _ _ h => h) (fun _ _ h => h) (fun H locs hP hD hS => ?_)
                have hP : va_P (dC, dI) vwCl [(qt_far, .inl (cy.1, 210, .inl (cft_far))), (qt_ring, .inl (cy.1, 210, .inl (cft_ring))), (qt, .inr (11, [.ref qt_now, .ref xt_past, .int (it_saved), .ref xt_text, .int (it_length), .ref xt_doors, .int (it_doorMany), .ref xt_label, .int (it_drawn), .ref qt_far, .ref qt_ring, .int (it_walker), .int (it_from), .ref xt_was, .int (it_steps), .int (it_faultAt), .int (it_mover)])), (qt_now, .inl (cy.1, 639, .inl (ft_now)))] H := hP
                have hD : va_D A [(qt_far, .inl (cy.1, 210, .inl (cft_far))), (qt_ring, .inl (cy.1, 210, .inl (cft_ring))), (qt, .inr (11, [.ref qt_now, .ref xt_past, .int (it_saved), .ref xt_text, .int (it_length), .ref xt_doors, .int (it_doorMany), .ref xt_label, .int (it_drawn), .ref qt_far, .ref qt_ring, .int (it_walker), .int (it_from), .ref xt_was, .int (it_steps), .int (it_faultAt), .int (it_mover)])), (qt_now, .inl (cy.1, 639, .inl (ft_now)))] := hD
                refine lv_aload_n hx hb dX11_lays_106 rfl (lv_at hl 0 rfl) ?_
                refine va_get (D := (dC, dI)) (ci := 11) (C := RX11) (T := TX11) (N := 17) hx hb hts (fun _ h => (List.mem_cons_of_mem _ (List.mem_append_right _ h))) hown hK hP 2 rfl rfl 9 (by decide) (hts _ (List.mem_cons_of_mem _ (List.mem_append_left _ (List.mem_append_left _ (List.mem_of_getElem? (i := 0) rfl))))) (fun _ h => h) rfl dX11_lays_107 ?_
                refine lv_aload_n hx hb dX11_lays_110 rfl (lv_at hl 0 rfl) ?_
                refine va_get (D := (dC, dI)) (ci := 11) (C := RX11) (T := TX11) (N := 17) hx hb hts (fun _ h => (List.mem_cons_of_mem _ (List.mem_append_right _ h))) hown hK hP 2 rfl rfl 10 (by decide) (hts _ (List.mem_cons_of_mem _ (List.mem_append_left _ (List.mem_append_left _ (List.mem_of_getElem? (i := 1) rfl))))) (fun _ h => h) rfl dX11_lays_111 ?_
                refine lv_iload_n hx hb dX11_lays_114 rfl (lv_at hl 2 rfl) ?_
                obtain ⟨hk_115, hf⟩ := chk_s hf
                refine va_iald hx hb hK hP 1 0 rfl rfl hk_115 dX11_lays_115 ?_
                obtain ⟨hk_116, hf⟩ := chk_s hf
                refine va_iald hx hb hK hP 0 0 rfl rfl hk_116 dX11_lays_116 ?_
                refine lv_iconst (v := (1 : Int32)) hx hb dX11_lays_117 (by decide) ?_
                refine lv_iadd hx hb dX11_lays_118 ?_
                obtain ⟨hk_119, hf⟩ := chk_s hf
                refine va_iast hx hb hK hP hD hS 0 0 rfl rfl hk_119 dX11_lays_119 (fun H locs hP hD hS => ?_)
                have hP : va_P (dC, dI) vwCl [(qt_far, .inl (cy.1, 210, .inl ((upd cft_far (r103).toNatClampNeg ((cft_far ((cft_ring (l3).toNatClampNeg)).toNatClampNeg) + (1 : Int32)))))), (qt_ring, .inl (cy.1, 210, .inl (cft_ring))), (qt, .inr (11, [.ref qt_now, .ref xt_past, .int (it_saved), .ref xt_text, .int (it_length), .ref xt_doors, .int (it_doorMany), .ref xt_label, .int (it_drawn), .ref qt_far, .ref qt_ring, .int (it_walker), .int (it_from), .ref xt_was, .int (it_steps), .int (it_faultAt), .int (it_mover)])), (qt_now, .inl (cy.1, 639, .inl (ft_now)))] H := hP
                have hD : va_D A [(qt_far, .inl (cy.1, 210, .inl ((upd cft_far (r103).toNatClampNeg ((cft_far ((cft_ring (l3).toNatClampNeg)).toNatClampNeg) + (1 : Int32)))))), (qt_ring, .inl (cy.1, 210, .inl (cft_ring))), (qt, .inr (11, [.ref qt_now, .ref xt_past, .int (it_saved), .ref xt_text, .int (it_length), .ref xt_doors, .int (it_doorMany), .ref xt_label, .int (it_drawn), .ref qt_far, .ref qt_ring, .int (it_walker), .int (it_from), .ref xt_was, .int (it_steps), .int (it_faultAt), .int (it_mover)])), (qt_now, .inl (cy.1, 639, .inl (ft_now)))] := hD
                refine lv_aload_n hx hb dX11_lays_120 rfl (lv_at hl 0 rfl) ?_
                refine va_get (D := (dC, dI)) (ci := 11) (C := RX11) (T := TX11) (N := 17) hx hb hts (fun _ h => (List.mem_cons_of_mem _ (List.mem_append_right _ h))) hown hK hP 2 rfl rfl 10 (by decide) (hts _ (List.mem_cons_of_mem _ (List.mem_append_left _ (List.mem_append_left _ (List.mem_of_getElem? (i := 1) rfl))))) (fun _ h => h) rfl dX11_lays_121 ?_
                refine lv_iload_n hx hb dX11_lays_124 rfl (lv_at hl 1 rfl) ?_
                refine lv_aload_n hx hb dX11_lays_125 rfl (lv_at hl 0 rfl) ?_
                refine lv_aload_n hx hb dX11_lays_126 rfl (lv_at hl 0 rfl) ?_
                refine va_get (D := (dC, dI)) (ci := 11) (C := RX11) (T := TX11) (N := 17) hx hb hts (fun _ h => (List.mem_cons_of_mem _ (List.mem_append_right _ h))) hown hK hP 2 rfl rfl 10 (by decide) (hts _ (List.mem_cons_of_mem _ (List.mem_append_left _ (List.mem_append_left _ (List.mem_of_getElem? (i := 1) rfl))))) (fun _ h => h) rfl dX11_lays_127 ?_
                refine lv_iload_n hx hb dX11_lays_130 rfl (lv_at hl 2 rfl) ?_
                obtain ⟨hk_131, hf⟩ := chk_s hf
                refine va_iald hx hb hK hP 1 0 rfl rfl hk_131 dX11_lays_131 ?_
                refine lv_iload hx hb dX11_lays_132 (lv_at hl 3 rfl) ?_
                obtain ⟨r134, hq_134, hf⟩ := bnd1_s hf
                refine kcalli (wc := [(qt, .inr (11, [.ref qt_now, .ref xt_past, .int (it_saved), .ref xt_text, .int (it_length), .ref xt_doors, .int (it_doorMany), .ref xt_label, .int (it_drawn), .ref qt_far, .ref qt_ring, .int (it_walker), .int (it_from), .ref xt_was, .int (it_steps), .int (it_faultAt), .int (it_mover)])), (qt_now, .inl (cy.1, 639, .inl (ft_now)))]) (wr := [(qt_far, .inl (cy.1, 210, .inl ((upd cft_far (r103).toNatClampNeg ((cft_far ((cft_ring (l3).toNatClampNeg)).toNatClampNeg) + (1 : Int32)))))), (qt_ring, .inl (cy.1, 210, .inl (cft_ring)))]) (w1 := [(qt, .inr (11, [.ref qt_now, .ref xt_past, .int (it_saved), .ref xt_text, .int (it_length), .ref xt_doors, .int (it_doorMany), .ref xt_label, .int (it_drawn), .ref qt_far, .ref qt_ring, .int (it_walker), .int (it_from), .ref xt_was, .int (it_steps), .int (it_faultAt), .int (it_mover)])), (qt_now, .inl (cy.1, 639, .inl (ft_now)))]) hK hP hD hS hA hG [2, 3] [0, 1] rfl rfl rfl rfl rfl (fun hU hPc => va_runV (As := [.int (cft_ring (l3).toNatClampNeg), .int l4]) (rest := [.int l2, .ref qt_ring]) ⟨hx, hb, hml, hown, hts⟩ (c_X11_beside l dC dI cy G H.size qt qt_now xt_past xt_text xt_doors xt_label qt_far qt_ring xt_was (it_saved) (it_length) (it_doorMany) (it_drawn) (it_walker) (it_from) (it_steps) (it_faultAt) (it_mover) (ft_now) ((cft_ring (l3).toNatClampNeg)) (l4) r134 hq_134) (cwV 2 hts gX11_lays_X11_beside rfl rfl rfl hdX11_beside ⟨Nat.le_of_ble_eq_true rfl, Nat.le_of_ble_eq_true rfl⟩) ⟨kBlind, (va_recv hK hP (ci := 11) (q0 := 2) rfl rfl), fun U h1 h2 => ⟨rfl, hU U h1 h2⟩⟩ rfl rfl hl.1 rfl (lv_room (Nat.le_of_ble_eq_true rfl)) dX11_lays_134 ⟨Nat.zero_le _, Nat.zero_le _⟩) (r134) (fun _ _ h => h) (fun _ _ h => h) (fun H locs hP hD hS => ?_)
                have hP : va_P (dC, dI) vwCl [(qt_far, .inl (cy.1, 210, .inl ((upd cft_far (r103).toNatClampNeg ((cft_far ((cft_ring (l3).toNatClampNeg)).toNatClampNeg) + (1 : Int32)))))), (qt_ring, .inl (cy.1, 210, .inl (cft_ring))), (qt, .inr (11, [.ref qt_now, .ref xt_past, .int (it_saved), .ref xt_text, .int (it_length), .ref xt_doors, .int (it_doorMany), .ref xt_label, .int (it_drawn), .ref qt_far, .ref qt_ring, .int (it_walker), .int (it_from), .ref xt_was, .int (it_steps), .int (it_faultAt), .int (it_mover)])), (qt_now, .inl (cy.1, 639, .inl (ft_now)))] H := hP
                have hD : va_D A [(qt_far, .inl (cy.1, 210, .inl ((upd cft_far (r103).toNatClampNeg ((cft_far ((cft_ring (l3).toNatClampNeg)).toNatClampNeg) + (1 : Int32)))))), (qt_ring, .inl (cy.1, 210, .inl (cft_ring))), (qt, .inr (11, [.ref qt_now, .ref xt_past, .int (it_saved), .ref xt_text, .int (it_length), .ref xt_doors, .int (it_doorMany), .ref xt_label, .int (it_drawn), .ref qt_far, .ref qt_ring, .int (it_walker), .int (it_from), .ref xt_was, .int (it_steps), .int (it_faultAt), .int (it_mover)])), (qt_now, .inl (cy.1, 639, .inl (ft_now)))] := hD
                obtain ⟨hk_137, hf⟩ := chk_s hf
                refine va_iast hx hb hK hP hD hS 1 0 rfl rfl hk_137 dX11_lays_137 (fun H locs hP hD hS => ?_)
                have hP : va_P (dC, dI) vwCl [(qt_far, .inl (cy.1, 210, .inl ((upd cft_far (r103).toNatClampNeg ((cft_far ((cft_ring (l3).toNatClampNeg)).toNatClampNeg) + (1 : Int32)))))), (qt_ring, .inl (cy.1, 210, .inl ((upd cft_ring (l2).toNatClampNeg r134)))), (qt, .inr (11, [.ref qt_now, .ref xt_past, .int (it_saved), .ref xt_text, .int (it_length), .ref xt_doors, .int (it_doorMany), .ref xt_label, .int (it_drawn), .ref qt_far, .ref qt_ring, .int (it_walker), .int (it_from), .ref xt_was, .int (it_steps), .int (it_faultAt), .int (it_mover)])), (qt_now, .inl (cy.1, 639, .inl (ft_now)))] H := hP
                have hD : va_D A [(qt_far, .inl (cy.1, 210, .inl ((upd cft_far (r103).toNatClampNeg ((cft_far ((cft_ring (l3).toNatClampNeg)).toNatClampNeg) + (1 : Int32)))))), (qt_ring, .inl (cy.1, 210, .inl ((upd cft_ring (l2).toNatClampNeg r134)))), (qt, .inr (11, [.ref qt_now, .ref xt_past, .int (it_saved), .ref xt_text, .int (it_length), .ref xt_doors, .int (it_doorMany), .ref xt_label, .int (it_drawn), .ref qt_far, .ref qt_ring, .int (it_walker), .int (it_from), .ref xt_was, .int (it_steps), .int (it_faultAt), .int (it_mover)])), (qt_now, .inl (cy.1, 639, .inl (ft_now)))] := hD
                refine lv_iinc (v := (l2 + (1 : Int32))) (lv' := [(2, .int (l2 + (1 : Int32))), (0, .ref qt), (3, .int l3), (4, .int l4)]) hx hb dX11_lays_138 hl (k := 1) rfl rfl (by decide) rfl (fun ls hl => ?_)
                refine lv_iinc (v := (l4 + (1 : Int32))) (lv' := [(4, .int (l4 + (1 : Int32))), (2, .int (l2 + (1 : Int32))), (0, .ref qt), (3, .int l3)]) hx hb dX11_lays_141 hl (k := 3) rfl rfl (by decide) rfl (fun ls hl => ?_)
                refine lv_goto (tgt := 49) hx hb dX11_lays_144 (by decide) ?_
                exact ih49 ((l2 + (1 : Int32))) (l3) ((l4 + (1 : Int32))) ((upd cft_far (r103).toNatClampNeg ((cft_far ((cft_ring (l3).toNatClampNeg)).toNatClampNeg) + (1 : Int32)))) ((upd cft_ring (l2).toNatClampNeg r134)) _ _ (hP.sub [2, 3, 0, 1] rfl) (hD.sub [2, 3, 0, 1] (by decide) rfl) hS _ (lv_sub hl [2, 1, 3, 0] rfl) hf
      intro l2 l3 cft_far cft_ring H locs hP hD hS ls hl hf
      rw [b_X11_lays_41] at hf
      refine lv_iload_n hx hb dX11_lays_41 rfl (lv_at hl 2 rfl) ?_
      refine lv_iload_n hx hb dX11_lays_42 rfl (lv_at hl 1 rfl) ?_
      refine lv_icmp_ge (tgt := 153) hx hb dX11_lays_43 (by decide) (fun hc_43 => ?_) (fun hc_43 => ?_)
      · rw [if_pos hc_43] at hf
        cases hf
        subst hQ
        exact kvret hx hb hr hlocks hK (hP.sub [0, 1, 2, 3] rfl) (hD.sub [0, 1, 2, 3] (by decide) rfl) hS trivial dX11_lays_153
      · rw [if_neg hc_43] at hf
        refine lv_iconst (v := (0 : Int32)) hx hb dX11_lays_46 (by decide) ?_
        refine lv_istore (lv' := [(4, .int (0 : Int32)), (0, .ref qt), (2, .int l2), (3, .int l3)]) hx hb dX11_lays_47 hl (by decide) rfl (fun ls hl => ?_)
        exact B49 N (l2) (l3) ((0 : Int32)) (cft_far) (cft_ring) _ _ (hP.sub [0, 1, 2, 3] rfl) (hD.sub [0, 1, 2, 3] (by decide) rfl) hS _ (lv_sub hl [1, 2, 3, 0] rfl) hf
  have B2 : ∀ (n2 : Nat) (l2 : Int32) (cft_far : Nat → Int32) (cft_ring : Nat → Int32) (H : Heap) (locs : List Loc), va_P (dC, dI) vwCl [(qt, .inr (11, [.ref qt_now, .ref xt_past, .int (it_saved), .ref xt_text, .int (it_length), .ref xt_doors, .int (it_doorMany), .ref xt_label, .int (it_drawn), .ref qt_far, .ref qt_ring, .int (it_walker), .int (it_from), .ref xt_was, .int (it_steps), .int (it_faultAt), .int (it_mover)])), (qt_now, .inl (cy.1, 639, .inl (ft_now))), (qt_far, .inl (cy.1, 210, .inl (cft_far))), (qt_ring, .inl (cy.1, 210, .inl (cft_ring)))] H → va_D A [(qt, .inr (11, [.ref qt_now, .ref xt_past, .int (it_saved), .ref xt_text, .int (it_length), .ref xt_doors, .int (it_doorMany), .ref xt_label, .int (it_drawn), .ref qt_far, .ref qt_ring, .int (it_walker), .int (it_from), .ref xt_was, .int (it_steps), .int (it_faultAt), .int (it_mover)])), (qt_now, .inl (cy.1, 639, .inl (ft_now))), (qt_far, .inl (cy.1, 210, .inl (cft_far))), (qt_ring, .inl (cy.1, 210, .inl (cft_ring)))] → va_S A s.heap H locs → ∀ (ls : Array Slot), lv_has ls 5 [(0, .ref qt), (1, .int va1), (2, .int l2)] → b_X11_lays_2 N ft_now va1 n2 l2 cft_far cft_ring = some out → W p l e (headSpec wsX11_lays rm_X11_lays).room s m ([.ref qt, .int va1] : List Value).toArray below meth c H locs 0 0 Q (F0 m 2 ls []) := by
    intro n2
    induction n2 with
    | zero => intro l2 cft_far cft_ring H locs hP hD hS ls hl hf; rw [b_X11_lays_2] at hf; cases hf
    | succ n2 ih2 =>
      intro l2 cft_far cft_ring H locs hP hD hS ls hl hf
      rw [b_X11_lays_2] at hf
      refine lv_iload_n hx hb dX11_lays_2 rfl (lv_at hl 2 rfl) ?_
      refine lv_aload_n hx hb dX11_lays_3 rfl (lv_at hl 0 rfl) ?_
      refine kcalli (wc := [(qt, .inr (11, [.ref qt_now, .ref xt_past, .int (it_saved), .ref xt_text, .int (it_length), .ref xt_doors, .int (it_doorMany), .ref xt_label, .int (it_drawn), .ref qt_far, .ref qt_ring, .int (it_walker), .int (it_from), .ref xt_was, .int (it_steps), .int (it_faultAt), .int (it_mover)])), (qt_now, .inl (cy.1, 639, .inl (ft_now)))]) (wr := [(qt_far, .inl (cy.1, 210, .inl (cft_far))), (qt_ring, .inl (cy.1, 210, .inl (cft_ring)))]) (w1 := [(qt, .inr (11, [.ref qt_now, .ref xt_past, .int (it_saved), .ref xt_text, .int (it_length), .ref xt_doors, .int (it_doorMany), .ref xt_label, .int (it_drawn), .ref qt_far, .ref qt_ring, .int (it_walker), .int (it_from), .ref xt_was, .int (it_steps), .int (it_faultAt), .int (it_mover)])), (qt_now, .inl (cy.1, 639, .inl (ft_now)))]) hK hP hD hS hA hG [0, 1] [2, 3] rfl rfl rfl rfl rfl (fun hU hPc => va_runV (As := []) (rest := [.int l2]) ⟨hx, hb, hml, hown, hts⟩ (c_X11_cells l dC dI cy G H.size qt qt_now xt_past xt_text xt_doors xt_label qt_far qt_ring xt_was (it_saved) (it_length) (it_doorMany) (it_drawn) (it_walker) (it_from) (it_steps) (it_faultAt) (it_mover) (ft_now) (t_X11_cells (ft_now)) (tot_X11_cells (ft_now))) (cwV 0 hts gX11_lays_X11_cells rfl rfl rfl hdX11_cells ⟨Nat.le_of_ble_eq_true rfl, Nat.le_of_ble_eq_true rfl⟩) ⟨kBlind, (va_recv hK hP (ci := 11) (q0 := 0) rfl rfl), fun U h1 h2 => ⟨rfl, hU U h1 h2⟩⟩ rfl rfl hl.1 rfl (lv_room (Nat.le_of_ble_eq_true rfl)) dX11_lays_4 ⟨Nat.zero_le _, Nat.zero_le _⟩) ((t_X11_cells (ft_now))) (fun _ _ h => h) (fun _ _ h => h) (fun H locs hP hD hS => ?_)
      have hP : va_P (dC, dI) vwCl [(qt_far, .inl (cy.1, 210, .inl (cft_far))), (qt_ring, .inl (cy.1, 210, .inl (cft_ring))), (qt, .inr (11, [.ref qt_now, .ref xt_past, .int (it_saved), .ref xt_text, .int (it_length), .ref xt_doors, .int (it_doorMany), .ref xt_label, .int (it_drawn), .ref qt_far, .ref qt_ring, .int (it_walker), .int (it_from), .ref xt_was, .int (it_steps), .int (it_faultAt), .int (it_mover)])), (qt_now, .inl (cy.1, 639, .inl (ft_now)))] H := hP
      have hD : va_D A [(qt_far, .inl (cy.1, 210, .inl (cft_far))), (qt_ring, .inl (cy.1, 210, .inl (cft_ring))), (qt, .inr (11, [.ref qt_now, .ref xt_past, .int (it_saved), .ref xt_text, .int (it_length), .ref xt_doors, .int (it_doorMany), .ref xt_label, .int (it_drawn), .ref qt_far, .ref qt_ring, .int (it_walker), .int (it_from), .ref xt_was, .int (it_steps), .int (it_faultAt), .int (it_mover)])), (qt_now, .inl (cy.1, 639, .inl (ft_now)))] := hD
      refine lv_icmp_ge (tgt := 23) hx hb dX11_lays_7 (by decide) (fun hc_7 => ?_) (fun hc_7 => ?_)
      · rw [if_pos hc_7] at hf
        refine lv_aload_n hx hb dX11_lays_23 rfl (lv_at hl 0 rfl) ?_
        refine va_get (D := (dC, dI)) (ci := 11) (C := RX11) (T := TX11) (N := 17) hx hb hts (fun _ h => (List.mem_cons_of_mem _ (List.mem_append_right _ h))) hown hK hP 2 rfl rfl 9 (by decide) (hts _ (List.mem_cons_of_mem _ (List.mem_append_left _ (List.mem_append_left _ (List.mem_of_getElem? (i := 0) rfl))))) (fun _ h => h) rfl dX11_lays_24 ?_
        refine lv_iload_n hx hb dX11_lays_27 rfl (lv_at hl 1 rfl) ?_
        refine lv_iconst (v := (0 : Int32)) hx hb dX11_lays_28 (by decide) ?_
        obtain ⟨hk_29, hf⟩ := chk_s hf
        refine va_iast hx hb hK hP hD hS 0 0 rfl rfl hk_29 dX11_lays_29 (fun H locs hP hD hS => ?_)
        have hP : va_P (dC, dI) vwCl [(qt_far, .inl (cy.1, 210, .inl ((upd cft_far (va1).toNatClampNeg (0 : Int32))))), (qt_ring, .inl (cy.1, 210, .inl (cft_ring))), (qt, .inr (11, [.ref qt_now, .ref xt_past, .int (it_saved), .ref xt_text, .int (it_length), .ref xt_doors, .int (it_doorMany), .ref xt_label, .int (it_drawn), .ref qt_far, .ref qt_ring, .int (it_walker), .int (it_from), .ref xt_was, .int (it_steps), .int (it_faultAt), .int (it_mover)])), (qt_now, .inl (cy.1, 639, .inl (ft_now)))] H := hP
        have hD : va_D A [(qt_far, .inl (cy.1, 210, .inl ((upd cft_far (va1).toNatClampNeg (0 : Int32))))), (qt_ring, .inl (cy.1, 210, .inl (cft_ring))), (qt, .inr (11, [.ref qt_now, .ref xt_past, .int (it_saved), .ref xt_text, .int (it_length), .ref xt_doors, .int (it_doorMany), .ref xt_label, .int (it_drawn), .ref qt_far, .ref qt_ring, .int (it_walker), .int (it_from), .ref xt_was, .int (it_steps), .int (it_faultAt), .int (it_mover)])), (qt_now, .inl (cy.1, 639, .inl (ft_now)))] := hD
        refine lv_aload_n hx hb dX11_lays_30 rfl (lv_at hl 0 rfl) ?_
        refine va_get (D := (dC, dI)) (ci := 11) (C := RX11) (T := TX11) (N := 17) hx hb hts (fun _ h => (List.mem_cons_of_mem _ (List.mem_append_right _ h))) hown hK hP 2 rfl rfl 10 (by decide) (hts _ (List.mem_cons_of_mem _ (List.mem_append_left _ (List.mem_append_left _ (List.mem_of_getElem? (i := 1) rfl))))) (fun _ h => h) rfl dX11_lays_31 ?_
        refine lv_iconst (v := (0 : Int32)) hx hb dX11_lays_34 (by decide) ?_
        refine lv_iload_n hx hb dX11_lays_35 rfl (lv_at hl 1 rfl) ?_
        refine va_iast hx hb hK hP hD hS 1 0 rfl rfl (by unfold vp_in; decide) dX11_lays_36 (fun H locs hP hD hS => ?_)
        have hP : va_P (dC, dI) vwCl [(qt_far, .inl (cy.1, 210, .inl ((upd cft_far (va1).toNatClampNeg (0 : Int32))))), (qt_ring, .inl (cy.1, 210, .inl ((upd cft_ring ((0 : Int32)).toNatClampNeg va1)))), (qt, .inr (11, [.ref qt_now, .ref xt_past, .int (it_saved), .ref xt_text, .int (it_length), .ref xt_doors, .int (it_doorMany), .ref xt_label, .int (it_drawn), .ref qt_far, .ref qt_ring, .int (it_walker), .int (it_from), .ref xt_was, .int (it_steps), .int (it_faultAt), .int (it_mover)])), (qt_now, .inl (cy.1, 639, .inl (ft_now)))] H := hP
        have hD : va_D A [(qt_far, .inl (cy.1, 210, .inl ((upd cft_far (va1).toNatClampNeg (0 : Int32))))), (qt_ring, .inl (cy.1, 210, .inl ((upd cft_ring ((0 : Int32)).toNatClampNeg va1)))), (qt, .inr (11, [.ref qt_now, .ref xt_past, .int (it_saved), .ref xt_text, .int (it_length), .ref xt_doors, .int (it_doorMany), .ref xt_label, .int (it_drawn), .ref qt_far, .ref qt_ring, .int (it_walker), .int (it_from), .ref xt_was, .int (it_steps), .int (it_faultAt), .int (it_mover)])), (qt_now, .inl (cy.1, 639, .inl (ft_now)))] := hD
        refine lv_iconst (v := (1 : Int32)) hx hb dX11_lays_37 (by decide) ?_
        refine lv_istore_n (lv' := [(2, .int (1 : Int32)), (0, .ref qt), (1, .int va1)]) hx hb dX11_lays_38 rfl hl (by decide) rfl (fun ls hl => ?_)
        refine lv_iconst (v := (0 : Int32)) hx hb dX11_lays_39 (by decide) ?_
        refine lv_istore_n (lv' := [(3, .int (0 : Int32)), (2, .int (1 : Int32)), (0, .ref qt), (1, .int va1)]) hx hb dX11_lays_40 rfl hl (by decide) rfl (fun ls hl => ?_)
        exact B41 N ((1 : Int32)) ((0 : Int32)) ((upd cft_far (va1).toNatClampNeg (0 : Int32))) ((upd cft_ring ((0 : Int32)).toNatClampNeg va1)) _ _ (hP.sub [2, 3, 0, 1] rfl) (hD.sub [2, 3, 0, 1] (by decide) rfl) hS _ (lv_sub hl [2, 1, 0] rfl) hf
      · rw [if_neg hc_7] at hf
        refine lv_aload_n hx hb dX11_lays_10 rfl (lv_at hl 0 rfl) ?_
        refine va_get (D := (dC, dI)) (ci := 11) (C := RX11) (T := TX11) (N := 17) hx hb hts (fun _ h => (List.mem_cons_of_mem _ (List.mem_append_right _ h))) hown hK hP 2 rfl rfl 9 (by decide) (hts _ (List.mem_cons_of_mem _ (List.mem_append_left _ (List.mem_append_left _ (List.mem_of_getElem? (i := 0) rfl))))) (fun _ h => h) rfl dX11_lays_11 ?_
        refine lv_iload_n hx hb dX11_lays_14 rfl (lv_at hl 2 rfl) ?_
        refine lv_iconst (v := (-1 : Int32)) hx hb dX11_lays_15 (by decide) ?_
        obtain ⟨hk_16, hf⟩ := chk_s hf
        refine va_iast hx hb hK hP hD hS 0 0 rfl rfl hk_16 dX11_lays_16 (fun H locs hP hD hS => ?_)
        have hP : va_P (dC, dI) vwCl [(qt_far, .inl (cy.1, 210, .inl ((upd cft_far (l2).toNatClampNeg (-1 : Int32))))), (qt_ring, .inl (cy.1, 210, .inl (cft_ring))), (qt, .inr (11, [.ref qt_now, .ref xt_past, .int (it_saved), .ref xt_text, .int (it_length), .ref xt_doors, .int (it_doorMany), .ref xt_label, .int (it_drawn), .ref qt_far, .ref qt_ring, .int (it_walker), .int (it_from), .ref xt_was, .int (it_steps), .int (it_faultAt), .int (it_mover)])), (qt_now, .inl (cy.1, 639, .inl (ft_now)))] H := hP
        have hD : va_D A [(qt_far, .inl (cy.1, 210, .inl ((upd cft_far (l2).toNatClampNeg (-1 : Int32))))), (qt_ring, .inl (cy.1, 210, .inl (cft_ring))), (qt, .inr (11, [.ref qt_now, .ref xt_past, .int (it_saved), .ref xt_text, .int (it_length), .ref xt_doors, .int (it_doorMany), .ref xt_label, .int (it_drawn), .ref qt_far, .ref qt_ring, .int (it_walker), .int (it_from), .ref xt_was, .int (it_steps), .int (it_faultAt), .int (it_mover)])), (qt_now, .inl (cy.1, 639, .inl (ft_now)))] := hD
        refine lv_iinc (v := (l2 + (1 : Int32))) (lv' := [(2, .int (l2 + (1 : Int32))), (0, .ref qt), (1, .int va1)]) hx hb dX11_lays_17 hl (k := 2) rfl rfl (by decide) rfl (fun ls hl => ?_)
        refine lv_goto (tgt := 2) hx hb dX11_lays_20 (by decide) ?_
        exact ih2 ((l2 + (1 : Int32))) ((upd cft_far (l2).toNatClampNeg (-1 : Int32))) (cft_ring) _ _ (hP.sub [2, 3, 0, 1] rfl) (hD.sub [2, 3, 0, 1] (by decide) rfl) hS _ (lv_sub hl [1, 2, 0] rfl) hf
  rw [f_X11_lays] at hf
  refine lv_iconst (v := (0 : Int32)) hx hb dX11_lays_0 (by decide) ?_
  refine lv_istore_n (lv' := [(2, .int (0 : Int32)), (0, .ref qt), (1, .int va1)]) hx hb dX11_lays_1 rfl hl (by decide) rfl (fun ls hl => ?_)
  exact B2 N ((0 : Int32)) (ft_far) (ft_ring) _ _ (hP.sub [0, 1, 2, 3] rfl) (hD.sub [0, 1, 2, 3] (by decide) rfl) hS _ (lv_sub hl [1, 2, 0] rfl) hf
theorem hdX11_lays : yX11_lays.cls = RX11 ∧ yX11_lays.cls ≠ "java/lang/invoke/MethodHandle" ∧ yX11_lays.cls ≠ "java/lang/invoke/VarHandle" ∧ (parseMethodDescriptor yX11_lays.desc).map (fun d => d.parameters.length) = some 1 := by decide +kernel
noncomputable def f_X11_puts (N : Nat) (it_saved : Int32) (ft_now : Nat → Int32) (ft_past : Nat → Int32) (va1 : Int32) (va2 : Int32) : Option (Int32 × Int32 × (Nat → Int32) × (Nat → Int32)) :=
  bnd2 (f_X11_records N (it_saved) (ft_now) (ft_past)) fun o1_0 o1_1 =>
  if va1 < 0 ∨ 639 ≤ (va1).toNatClampNeg then none else
  if va1 < 0 ∨ 639 ≤ (va1).toNatClampNeg then none else
  some ((ft_now (va1).toNatClampNeg), o1_0, (upd ft_now (va1).toNatClampNeg va2), o1_1)
abbrev rm_X11_puts : Room := { frames := 1, cells := 0, slots := 0, locals := 21 }
set_option maxHeartbeats 4000000 in
set_option maxRecDepth 100000 in
theorem c_X11_puts (l : Launch) (dC : Nat → ClassId) (dI : Nat → Nat → Nat) (cy : gC) (G : gT) (sz : Nat) (qt : Nat) (qt_now : Nat) (qt_past : Nat) (xt_text : Nat) (xt_doors : Nat) (xt_label : Nat) (xt_far : Nat) (xt_ring : Nat) (xt_was : Nat) (it_length : Int32) (it_doorMany : Int32) (it_drawn : Int32) (it_walker : Int32) (it_from : Int32) (it_steps : Int32) (it_faultAt : Int32) (it_mover : Int32) (N : Nat) (it_saved : Int32) (ft_now : Nat → Int32) (ft_past : Nat → Int32) (va1 : Int32) (va2 : Int32) (out : Int32 × Int32 × (Nat → Int32) × (Nat → Int32)) (hf : f_X11_puts N it_saved ft_now ft_past va1 va2 = some out) : Met l yX11_puts wsX11_puts rm_X11_puts (va_Pc [.ref qt, .int va1, .int va2] (kP (dC, dI) cy G [(qt, .inr (11, [.ref qt_now, .ref qt_past, .int (it_saved), .ref xt_text, .int (it_length), .ref xt_doors, .int (it_doorMany), .ref xt_label, .int (it_drawn), .ref xt_far, .ref xt_ring, .int (it_walker), .int (it_from), .ref xt_was, .int (it_steps), .int (it_faultAt), .int (it_mover)])), (qt_now, .inl (cy.1, 639, .inl (ft_now))), (qt_past, .inl (cy.1, 3195, .inl (ft_past)))] sz)) (va_Qi (fun r (_ : Unit) => r = out.1) (fun _ => kQ (dC, dI) cy [(qt, .inr (11, [.ref qt_now, .ref qt_past, .int (out.2.1), .ref xt_text, .int (it_length), .ref xt_doors, .int (it_doorMany), .ref xt_label, .int (it_drawn), .ref xt_far, .ref xt_ring, .int (it_walker), .int (it_from), .ref xt_was, .int (it_steps), .int (it_faultAt), .int (it_mover)])), (qt_now, .inl (cy.1, 639, .inl (out.2.2.1))), (qt_past, .inl (cy.1, 3195, .inl (out.2.2.2)))] (va_A [(qt, .inr (11, [.ref qt_now, .ref qt_past, .int (it_saved), .ref xt_text, .int (it_length), .ref xt_doors, .int (it_doorMany), .ref xt_label, .int (it_drawn), .ref xt_far, .ref xt_ring, .int (it_walker), .int (it_from), .ref xt_was, .int (it_steps), .int (it_faultAt), .int (it_mover)])), (qt_now, .inl (cy.1, 639, .inl (ft_now))), (qt_past, .inl (cy.1, 3195, .inl (ft_past)))] sz)) (va_A [(qt, .inr (11, [.ref qt_now, .ref qt_past, .int (it_saved), .ref xt_text, .int (it_length), .ref xt_doors, .int (it_doorMany), .ref xt_label, .int (it_drawn), .ref xt_far, .ref xt_ring, .int (it_walker), .int (it_from), .ref xt_was, .int (it_steps), .int (it_faultAt), .int (it_mover)])), (qt_now, .inl (cy.1, 639, .inl (ft_now))), (qt_past, .inl (cy.1, 3195, .inl (ft_past)))] sz)) 0 0 (va_A [(qt, .inr (11, [.ref qt_now, .ref qt_past, .int (it_saved), .ref xt_text, .int (it_length), .ref xt_doors, .int (it_doorMany), .ref xt_label, .int (it_drawn), .ref xt_far, .ref xt_ring, .int (it_walker), .int (it_from), .ref xt_was, .int (it_steps), .int (it_faultAt), .int (it_mover)])), (qt_now, .inl (cy.1, 639, .inl (ft_now))), (qt_past, .inl (cy.1, 3195, .inl (ft_past)))] sz) := by
  refine Met.ofW (cc := cX11_puts) (maxL := 4) (ret := (some .int)) (by decide) rfl ?_
  intro p e s m args below meth c s₁ B hml hv
  obtain ⟨rfl, hsz, hP, hK, hD0, hG⟩ := hv
  have hx := B.exec
  have hb := B.bytes
  have hr := B.returns
  have hts := atoms_spec (ws := wsX11_puts) B.pre
  have hown : s.vm.findClass RX11 = some m.cls := findClass_of_methodNamed B.named
  have hlocks := B.notSynchronized
  subst hsz
  have hD := hD0.self (sz := s.heap.size)
  generalize hAe : va_A [(qt, .inr (11, [.ref qt_now, .ref qt_past, .int (it_saved), .ref xt_text, .int (it_length), .ref xt_doors, .int (it_doorMany), .ref xt_label, .int (it_drawn), .ref xt_far, .ref xt_ring, .int (it_walker), .int (it_from), .ref xt_was, .int (it_steps), .int (it_faultAt), .int (it_mover)])), (qt_now, .inl (cy.1, 639, .inl (ft_now))), (qt_past, .inl (cy.1, 3195, .inl (ft_past)))] s.heap.size = A at hD hG ⊢
  have hA : ∀ q : Nat, s.heap.size ≤ q → A q := fun q h => by rw [← hAe]; exact Or.inr h
  have hS : va_S A s.heap s.heap [] := va_S.rf
  have hP : va_P (dC, dI) vwCl [(qt, .inr (11, [.ref qt_now, .ref qt_past, .int (it_saved), .ref xt_text, .int (it_length), .ref xt_doors, .int (it_doorMany), .ref xt_label, .int (it_drawn), .ref xt_far, .ref xt_ring, .int (it_walker), .int (it_from), .ref xt_was, .int (it_steps), .int (it_faultAt), .int (it_mover)])), (qt_now, .inl (cy.1, 639, .inl (ft_now))), (qt_past, .inl (cy.1, 3195, .inl (ft_past)))] s.heap := hP
  have hl := lv_entry ([.ref qt, .int va1, .int va2]) (n := 4) (Nat.le_of_ble_eq_true rfl)
  rw [lg_entry_eq]
  generalize (lg_sl ([.ref qt, .int va1, .int va2]) ++ List.replicate (4 - (lg_sl ([.ref qt, .int va1, .int va2])).length) Slot.unset).toArray = ls at hl ⊢
  have hl : lv_has ls 4 [(0, .ref qt), (1, .int va1), (2, .int va2)] := hl
  refine kgen (fun Q hQ => ?_)
  rw [f_X11_puts] at hf
  refine lv_aload_n hx hb dX11_puts_0 rfl (lv_at hl 0 rfl) ?_
  obtain ⟨o1_0, o1_1, hq_1, hf⟩ := bnd2_s hf
  refine kcallv (wc := [(qt, .inr (11, [.ref qt_now, .ref qt_past, .int (it_saved), .ref xt_text, .int (it_length), .ref xt_doors, .int (it_doorMany), .ref xt_label, .int (it_drawn), .ref xt_far, .ref xt_ring, .int (it_walker), .int (it_from), .ref xt_was, .int (it_steps), .int (it_faultAt), .int (it_mover)])), (qt_now, .inl (cy.1, 639, .inl (ft_now))), (qt_past, .inl (cy.1, 3195, .inl (ft_past)))]) (wr := []) (w1 := [(qt, .inr (11, [.ref qt_now, .ref qt_past, .int (o1_0), .ref xt_text, .int (it_length), .ref xt_doors, .int (it_doorMany), .ref xt_label, .int (it_drawn), .ref xt_far, .ref xt_ring, .int (it_walker), .int (it_from), .ref xt_was, .int (it_steps), .int (it_faultAt), .int (it_mover)])), (qt_now, .inl (cy.1, 639, .inl (ft_now))), (qt_past, .inl (cy.1, 3195, .inl (o1_1)))]) hK hP hD hS hA hG [0, 1, 2] [] rfl rfl rfl rfl rfl (fun hU hPc => va_runV (As := []) (rest := []) ⟨hx, hb, hml, hown, hts⟩ (c_X11_records l dC dI cy G s.heap.size qt qt_now qt_past xt_text xt_doors xt_label xt_far xt_ring xt_was (it_length) (it_doorMany) (it_drawn) (it_walker) (it_from) (it_steps) (it_faultAt) (it_mover) N (it_saved) (ft_now) (ft_past) (o1_0, o1_1) hq_1) (cwV 0 hts gX11_puts_X11_records rfl rfl rfl hdX11_records ⟨Nat.le_of_ble_eq_true rfl, Nat.le_of_ble_eq_true rfl⟩) ⟨kBlind, (va_recv hK hP (ci := 11) (q0 := 0) rfl rfl), fun U h1 h2 => ⟨rfl, hU U h1 h2⟩⟩ rfl rfl hl.1 rfl (lv_room (Nat.le_of_ble_eq_true rfl)) dX11_puts_1 ⟨Nat.zero_le _, Nat.zero_le _⟩) (fun _ _ h => h) (fun H locs hP hD hS => ?_)
  have hP : va_P (dC, dI) vwCl [(qt, .inr (11, [.ref qt_now, .ref qt_past, .int (o1_0), .ref xt_text, .int (it_length), .ref xt_doors, .int (it_doorMany), .ref xt_label, .int (it_drawn), .ref xt_far, .ref xt_ring, .int (it_walker), .int (it_from), .ref xt_was, .int (it_steps), .int (it_faultAt), .int (it_mover)])), (qt_now, .inl (cy.1, 639, .inl (ft_now))), (qt_past, .inl (cy.1, 3195, .inl (o1_1)))] H := hP
  have hD : va_D A [(qt, .inr (11, [.ref qt_now, .ref qt_past, .int (o1_0), .ref xt_text, .int (it_length), .ref xt_doors, .int (it_doorMany), .ref xt_label, .int (it_drawn), .ref xt_far, .ref xt_ring, .int (it_walker), .int (it_from), .ref xt_was, .int (it_steps), .int (it_faultAt), .int (it_mover)])), (qt_now, .inl (cy.1, 639, .inl (ft_now))), (qt_past, .inl (cy.1, 3195, .inl (o1_1)))] := hD
  refine lv_aload_n hx hb dX11_puts_4 rfl (lv_at hl 0 rfl) ?_
  refine va_get (D := (dC, dI)) (ci := 11) (C := RX11) (T := TX11) (N := 17) hx hb hts (fun _ h => (List.mem_cons_of_mem _ (List.mem_append_right _ h))) hown hK hP 0 rfl rfl 0 (by decide) (hts _ (List.mem_cons_of_mem _ (List.mem_append_left _ (List.mem_of_getElem? (i := 0) rfl)))) (fun _ h => h) rfl dX11_puts_5 ?_
  refine lv_iload_n hx hb dX11_puts_8 rfl (lv_at hl 1 rfl) ?_
  obtain ⟨hk_9, hf⟩ := chk_s hf
  refine va_iald hx hb hK hP 1 0 rfl rfl hk_9 dX11_puts_9 ?_
  refine lv_istore_n (lv' := [(3, .int (ft_now (va1).toNatClampNeg)), (0, .ref qt), (1, .int va1), (2, .int va2)]) hx hb dX11_puts_10 rfl hl (by decide) rfl (fun ls hl => ?_)
  refine lv_aload_n hx hb dX11_puts_11 rfl (lv_at hl 1 rfl) ?_
  refine va_get (D := (dC, dI)) (ci := 11) (C := RX11) (T := TX11) (N := 17) hx hb hts (fun _ h => (List.mem_cons_of_mem _ (List.mem_append_right _ h))) hown hK hP 0 rfl rfl 0 (by decide) (hts _ (List.mem_cons_of_mem _ (List.mem_append_left _ (List.mem_of_getElem? (i := 0) rfl)))) (fun _ h => h) rfl dX11_puts_12 ?_
  refine lv_iload_n hx hb dX11_puts_15 rfl (lv_at hl 2 rfl) ?_
  refine lv_iload_n hx hb dX11_puts_16 rfl (lv_at hl 3 rfl) ?_
  obtain ⟨hk_17, hf⟩ := chk_s hf
  refine va_iast hx hb hK hP hD hS 1 0 rfl rfl hk_17 dX11_puts_17 (fun H locs hP hD hS => ?_)
  have hP : va_P (dC, dI) vwCl [(qt, .inr (11, [.ref qt_now, .ref qt_past, .int (o1_0), .ref xt_text, .int (it_length), .ref xt_doors, .int (it_doorMany), .ref xt_label, .int (it_drawn), .ref xt_far, .ref xt_ring, .int (it_walker), .int (it_from), .ref xt_was, .int (it_steps), .int (it_faultAt), .int (it_mover)])), (qt_now, .inl (cy.1, 639, .inl ((upd ft_now (va1).toNatClampNeg va2)))), (qt_past, .inl (cy.1, 3195, .inl (o1_1)))] H := hP
  have hD : va_D A [(qt, .inr (11, [.ref qt_now, .ref qt_past, .int (o1_0), .ref xt_text, .int (it_length), .ref xt_doors, .int (it_doorMany), .ref xt_label, .int (it_drawn), .ref xt_far, .ref xt_ring, .int (it_walker), .int (it_from), .ref xt_was, .int (it_steps), .int (it_faultAt), .int (it_mover)])), (qt_now, .inl (cy.1, 639, .inl ((upd ft_now (va1).toNatClampNeg va2)))), (qt_past, .inl (cy.1, 3195, .inl (o1_1)))] := hD
  refine lv_iload_n hx hb dX11_puts_18 rfl (lv_at hl 0 rfl) ?_
  cases hf
  subst hQ
  exact kiret hx hb hr hlocks hK (hP.sub [0, 1, 2] rfl) (hD.sub [0, 1, 2] (by decide) rfl) hS rfl dX11_puts_19
theorem hdX11_puts : yX11_puts.cls = RX11 ∧ yX11_puts.cls ≠ "java/lang/invoke/MethodHandle" ∧ yX11_puts.cls ≠ "java/lang/invoke/VarHandle" ∧ (parseMethodDescriptor yX11_puts.desc).map (fun d => d.parameters.length) = some 2 := by decide +kernel
noncomputable def f_X11_start (N : Nat) (it_saved : Int32) (ft_now : Nat → Int32) (ft_past : Nat → Int32) (va1 : Int32) : Option (Int32 × Int32 × (Nat → Int32) × (Nat → Int32)) :=
  bnd1 (f_X11_hasRoom (ft_now) (va1)) fun r2 =>
  if r2 = 0 then
    some ((-1 : Int32), it_saved, ft_now, ft_past)
  else
    bnd4 (f_X11_puts N (it_saved) (ft_now) (ft_past) ((7 : Int32)) (va1)) fun r12 o12_0 o12_1 o12_2 =>
    some (r12, o12_0, o12_1, o12_2)
abbrev rm_X11_start : Room := { frames := 4, cells := 0, slots := 0, locals := 88 }
set_option maxHeartbeats 4000000 in
set_option maxRecDepth 100000 in
theorem c_X11_start (l : Launch) (dC : Nat → ClassId) (dI : Nat → Nat → Nat) (cy : gC) (G : gT) (sz : Nat) (qt : Nat) (qt_now : Nat) (qt_past : Nat) (xt_text : Nat) (xt_doors : Nat) (xt_label : Nat) (xt_far : Nat) (xt_ring : Nat) (xt_was : Nat) (it_length : Int32) (it_doorMany : Int32) (it_drawn : Int32) (it_walker : Int32) (it_from : Int32) (it_steps : Int32) (it_faultAt : Int32) (it_mover : Int32) (N : Nat) (it_saved : Int32) (ft_now : Nat → Int32) (ft_past : Nat → Int32) (va1 : Int32) (out : Int32 × Int32 × (Nat → Int32) × (Nat → Int32)) (hf : f_X11_start N it_saved ft_now ft_past va1 = some out) : Met l yX11_start wsX11_start rm_X11_start (va_Pc [.ref qt, .int va1] (kP (dC, dI) cy G [(qt, .inr (11, [.ref qt_now, .ref qt_past, .int (it_saved), .ref xt_text, .int (it_length), .ref xt_doors, .int (it_doorMany), .ref xt_label, .int (it_drawn), .ref xt_far, .ref xt_ring, .int (it_walker), .int (it_from), .ref xt_was, .int (it_steps), .int (it_faultAt), .int (it_mover)])), (qt_now, .inl (cy.1, 639, .inl (ft_now))), (qt_past, .inl (cy.1, 3195, .inl (ft_past)))] sz)) (va_Qi (fun r (_ : Unit) => r = out.1) (fun _ => kQ (dC, dI) cy [(qt, .inr (11, [.ref qt_now, .ref qt_past, .int (out.2.1), .ref xt_text, .int (it_length), .ref xt_doors, .int (it_doorMany), .ref xt_label, .int (it_drawn), .ref xt_far, .ref xt_ring, .int (it_walker), .int (it_from), .ref xt_was, .int (it_steps), .int (it_faultAt), .int (it_mover)])), (qt_now, .inl (cy.1, 639, .inl (out.2.2.1))), (qt_past, .inl (cy.1, 3195, .inl (out.2.2.2)))] (va_A [(qt, .inr (11, [.ref qt_now, .ref qt_past, .int (it_saved), .ref xt_text, .int (it_length), .ref xt_doors, .int (it_doorMany), .ref xt_label, .int (it_drawn), .ref xt_far, .ref xt_ring, .int (it_walker), .int (it_from), .ref xt_was, .int (it_steps), .int (it_faultAt), .int (it_mover)])), (qt_now, .inl (cy.1, 639, .inl (ft_now))), (qt_past, .inl (cy.1, 3195, .inl (ft_past)))] sz)) (va_A [(qt, .inr (11, [.ref qt_now, .ref qt_past, .int (it_saved), .ref xt_text, .int (it_length), .ref xt_doors, .int (it_doorMany), .ref xt_label, .int (it_drawn), .ref xt_far, .ref xt_ring, .int (it_walker), .int (it_from), .ref xt_was, .int (it_steps), .int (it_faultAt), .int (it_mover)])), (qt_now, .inl (cy.1, 639, .inl (ft_now))), (qt_past, .inl (cy.1, 3195, .inl (ft_past)))] sz)) 0 0 (va_A [(qt, .inr (11, [.ref qt_now, .ref qt_past, .int (it_saved), .ref xt_text, .int (it_length), .ref xt_doors, .int (it_doorMany), .ref xt_label, .int (it_drawn), .ref xt_far, .ref xt_ring, .int (it_walker), .int (it_from), .ref xt_was, .int (it_steps), .int (it_faultAt), .int (it_mover)])), (qt_now, .inl (cy.1, 639, .inl (ft_now))), (qt_past, .inl (cy.1, 3195, .inl (ft_past)))] sz) := by
  refine Met.ofW (cc := cX11_start) (maxL := 2) (ret := (some .int)) (by decide) rfl ?_
  intro p e s m args below meth c s₁ B hml hv
  obtain ⟨rfl, hsz, hP, hK, hD0, hG⟩ := hv
  have hx := B.exec
  have hb := B.bytes
  have hr := B.returns
  have hts := atoms_spec (ws := wsX11_start) B.pre
  have hown : s.vm.findClass RX11 = some m.cls := findClass_of_methodNamed B.named
  have hlocks := B.notSynchronized
  subst hsz
  have hD := hD0.self (sz := s.heap.size)
  generalize hAe : va_A [(qt, .inr (11, [.ref qt_now, .ref qt_past, .int (it_saved), .ref xt_text, .int (it_length), .ref xt_doors, .int (it_doorMany), .ref xt_label, .int (it_drawn), .ref xt_far, .ref xt_ring, .int (it_walker), .int (it_from), .ref xt_was, .int (it_steps), .int (it_faultAt), .int (it_mover)])), (qt_now, .inl (cy.1, 639, .inl (ft_now))), (qt_past, .inl (cy.1, 3195, .inl (ft_past)))] s.heap.size = A at hD hG ⊢
  have hA : ∀ q : Nat, s.heap.size ≤ q → A q := fun q h => by rw [← hAe]; exact Or.inr h
  have hS : va_S A s.heap s.heap [] := va_S.rf
  have hP : va_P (dC, dI) vwCl [(qt, .inr (11, [.ref qt_now, .ref qt_past, .int (it_saved), .ref xt_text, .int (it_length), .ref xt_doors, .int (it_doorMany), .ref xt_label, .int (it_drawn), .ref xt_far, .ref xt_ring, .int (it_walker), .int (it_from), .ref xt_was, .int (it_steps), .int (it_faultAt), .int (it_mover)])), (qt_now, .inl (cy.1, 639, .inl (ft_now))), (qt_past, .inl (cy.1, 3195, .inl (ft_past)))] s.heap := hP
  have hl := lv_entry ([.ref qt, .int va1]) (n := 2) (Nat.le_of_ble_eq_true rfl)
  rw [lg_entry_eq]
  generalize (lg_sl ([.ref qt, .int va1]) ++ List.replicate (2 - (lg_sl ([.ref qt, .int va1])).length) Slot.unset).toArray = ls at hl ⊢
  have hl : lv_has ls 2 [(0, .ref qt), (1, .int va1)] := hl
  refine kgen (fun Q hQ => ?_)
  rw [f_X11_start] at hf
  refine lv_aload_n hx hb dX11_start_0 rfl (lv_at hl 0 rfl) ?_
  refine lv_iload_n hx hb dX11_start_1 rfl (lv_at hl 1 rfl) ?_
  obtain ⟨r2, hq_2, hf⟩ := bnd1_s hf
  refine kcalli (wc := [(qt, .inr (11, [.ref qt_now, .ref qt_past, .int (it_saved), .ref xt_text, .int (it_length), .ref xt_doors, .int (it_doorMany), .ref xt_label, .int (it_drawn), .ref xt_far, .ref xt_ring, .int (it_walker), .int (it_from), .ref xt_was, .int (it_steps), .int (it_faultAt), .int (it_mover)])), (qt_now, .inl (cy.1, 639, .inl (ft_now)))]) (wr := [(qt_past, .inl (cy.1, 3195, .inl (ft_past)))]) (w1 := [(qt, .inr (11, [.ref qt_now, .ref qt_past, .int (it_saved), .ref xt_text, .int (it_length), .ref xt_doors, .int (it_doorMany), .ref xt_label, .int (it_drawn), .ref xt_far, .ref xt_ring, .int (it_walker), .int (it_from), .ref xt_was, .int (it_steps), .int (it_faultAt), .int (it_mover)])), (qt_now, .inl (cy.1, 639, .inl (ft_now)))]) hK hP hD hS hA hG [0, 1] [2] rfl rfl rfl rfl rfl (fun hU hPc => va_runV (As := [.int va1]) (rest := []) ⟨hx, hb, hml, hown, hts⟩ (c_X11_hasRoom l dC dI cy G s.heap.size qt qt_now qt_past xt_text xt_doors xt_label xt_far xt_ring xt_was (it_saved) (it_length) (it_doorMany) (it_drawn) (it_walker) (it_from) (it_steps) (it_faultAt) (it_mover) (ft_now) (va1) r2 hq_2) (cwV 1 hts gX11_start_X11_hasRoom rfl rfl rfl hdX11_hasRoom ⟨Nat.le_of_ble_eq_true rfl, Nat.le_of_ble_eq_true rfl⟩) ⟨kBlind, (va_recv hK hP (ci := 11) (q0 := 0) rfl rfl), fun U h1 h2 => ⟨rfl, hU U h1 h2⟩⟩ rfl rfl hl.1 rfl (lv_room (Nat.le_of_ble_eq_true rfl)) dX11_start_2 ⟨Nat.zero_le _, Nat.zero_le _⟩) (r2) (fun _ _ h => h) (fun _ _ h => h) (fun H locs hP hD hS => ?_)
  have hP : va_P (dC, dI) vwCl [(qt_past, .inl (cy.1, 3195, .inl (ft_past))), (qt, .inr (11, [.ref qt_now, .ref qt_past, .int (it_saved), .ref xt_text, .int (it_length), .ref xt_doors, .int (it_doorMany), .ref xt_label, .int (it_drawn), .ref xt_far, .ref xt_ring, .int (it_walker), .int (it_from), .ref xt_was, .int (it_steps), .int (it_faultAt), .int (it_mover)])), (qt_now, .inl (cy.1, 639, .inl (ft_now)))] H := hP
  have hD : va_D A [(qt_past, .inl (cy.1, 3195, .inl (ft_past))), (qt, .inr (11, [.ref qt_now, .ref qt_past, .int (it_saved), .ref xt_text, .int (it_length), .ref xt_doors, .int (it_doorMany), .ref xt_label, .int (it_drawn), .ref xt_far, .ref xt_ring, .int (it_walker), .int (it_from), .ref xt_was, .int (it_steps), .int (it_faultAt), .int (it_mover)])), (qt_now, .inl (cy.1, 639, .inl (ft_now)))] := hD
  refine lv_if_eq (tgt := 18) hx hb dX11_start_5 (by decide) (fun hc_5 => ?_) (fun hc_5 => ?_)
  · rw [if_pos hc_5] at hf
    refine lv_iconst (v := (-1 : Int32)) hx hb dX11_start_18 (by decide) ?_
    cases hf
    subst hQ
    exact kiret hx hb hr hlocks hK (hP.sub [1, 2, 0] rfl) (hD.sub [1, 2, 0] (by decide) rfl) hS rfl dX11_start_19
  · rw [if_neg hc_5] at hf
    refine lv_aload_n hx hb dX11_start_8 rfl (lv_at hl 0 rfl) ?_
    refine lv_bipush (v := (7 : Int32)) hx hb dX11_start_9 (by decide) ?_
    refine lv_iload_n hx hb dX11_start_11 rfl (lv_at hl 1 rfl) ?_
    obtain ⟨r12, o12_0, o12_1, o12_2, hq_12, hf⟩ := bnd4_s hf
    refine kcalli (wc := [(qt, .inr (11, [.ref qt_now, .ref qt_past, .int (it_saved), .ref xt_text, .int (it_length), .ref xt_doors, .int (it_doorMany), .ref xt_label, .int (it_drawn), .ref xt_far, .ref xt_ring, .int (it_walker), .int (it_from), .ref xt_was, .int (it_steps), .int (it_faultAt), .int (it_mover)])), (qt_now, .inl (cy.1, 639, .inl (ft_now))), (qt_past, .inl (cy.1, 3195, .inl (ft_past)))]) (wr := []) (w1 := [(qt, .inr (11, [.ref qt_now, .ref qt_past, .int (o12_0), .ref xt_text, .int (it_length), .ref xt_doors, .int (it_doorMany), .ref xt_label, .int (it_drawn), .ref xt_far, .ref xt_ring, .int (it_walker), .int (it_from), .ref xt_was, .int (it_steps), .int (it_faultAt), .int (it_mover)])), (qt_now, .inl (cy.1, 639, .inl (o12_1))), (qt_past, .inl (cy.1, 3195, .inl (o12_2)))]) hK hP hD hS hA hG [1, 2, 0] [] rfl rfl rfl rfl rfl (fun hU hPc => va_runV (As := [.int (7 : Int32), .int va1]) (rest := []) ⟨hx, hb, hml, hown, hts⟩ (c_X11_puts l dC dI cy G H.size qt qt_now qt_past xt_text xt_doors xt_label xt_far xt_ring xt_was (it_length) (it_doorMany) (it_drawn) (it_walker) (it_from) (it_steps) (it_faultAt) (it_mover) N (it_saved) (ft_now) (ft_past) ((7 : Int32)) (va1) (r12, o12_0, o12_1, o12_2) hq_12) (cwV 2 hts gX11_start_X11_puts rfl rfl rfl hdX11_puts ⟨Nat.le_of_ble_eq_true rfl, Nat.le_of_ble_eq_true rfl⟩) ⟨kBlind, (va_recv hK hP (ci := 11) (q0 := 1) rfl rfl), fun U h1 h2 => ⟨rfl, hU U h1 h2⟩⟩ rfl rfl hl.1 rfl (lv_room (Nat.le_of_ble_eq_true rfl)) dX11_start_12 ⟨Nat.zero_le _, Nat.zero_le _⟩) (r12) (fun _ _ h => h) (fun _ _ h => h) (fun H locs hP hD hS => ?_)
    have hP : va_P (dC, dI) vwCl [(qt, .inr (11, [.ref qt_now, .ref qt_past, .int (o12_0), .ref xt_text, .int (it_length), .ref xt_doors, .int (it_doorMany), .ref xt_label, .int (it_drawn), .ref xt_far, .ref xt_ring, .int (it_walker), .int (it_from), .ref xt_was, .int (it_steps), .int (it_faultAt), .int (it_mover)])), (qt_now, .inl (cy.1, 639, .inl (o12_1))), (qt_past, .inl (cy.1, 3195, .inl (o12_2)))] H := hP
    have hD : va_D A [(qt, .inr (11, [.ref qt_now, .ref qt_past, .int (o12_0), .ref xt_text, .int (it_length), .ref xt_doors, .int (it_doorMany), .ref xt_label, .int (it_drawn), .ref xt_far, .ref xt_ring, .int (it_walker), .int (it_from), .ref xt_was, .int (it_steps), .int (it_faultAt), .int (it_mover)])), (qt_now, .inl (cy.1, 639, .inl (o12_1))), (qt_past, .inl (cy.1, 3195, .inl (o12_2)))] := hD
    refine lv_goto (tgt := 19) hx hb dX11_start_15 (by decide) ?_
    cases hf
    subst hQ
    exact kiret hx hb hr hlocks hK (hP.sub [0, 1, 2] rfl) (hD.sub [0, 1, 2] (by decide) rfl) hS rfl dX11_start_19
theorem hdX11_start : yX11_start.cls = RX11 ∧ yX11_start.cls ≠ "java/lang/invoke/MethodHandle" ∧ yX11_start.cls ≠ "java/lang/invoke/VarHandle" ∧ (parseMethodDescriptor yX11_start.desc).map (fun d => d.parameters.length) = some 1 := by decide +kernel
noncomputable def f_X11_goal (N : Nat) (it_saved : Int32) (ft_now : Nat → Int32) (ft_past : Nat → Int32) (va1 : Int32) : Option (Int32 × Int32 × (Nat → Int32) × (Nat → Int32)) :=
  bnd1 (f_X11_hasRoom (ft_now) (va1)) fun r2 =>
  if r2 = 0 then
    some ((-1 : Int32), it_saved, ft_now, ft_past)
  else
    bnd4 (f_X11_puts N (it_saved) (ft_now) (ft_past) ((8 : Int32)) (va1)) fun r12 o12_0 o12_1 o12_2 =>
    some (r12, o12_0, o12_1, o12_2)
abbrev rm_X11_goal : Room := { frames := 4, cells := 0, slots := 0, locals := 88 }
set_option maxHeartbeats 4000000 in
set_option maxRecDepth 100000 in
theorem c_X11_goal (l : Launch) (dC : Nat → ClassId) (dI : Nat → Nat → Nat) (cy : gC) (G : gT) (sz : Nat) (qt : Nat) (qt_now : Nat) (qt_past : Nat) (xt_text : Nat) (xt_doors : Nat) (xt_label : Nat) (xt_far : Nat) (xt_ring : Nat) (xt_was : Nat) (it_length : Int32) (it_doorMany : Int32) (it_drawn : Int32) (it_walker : Int32) (it_from : Int32) (it_steps : Int32) (it_faultAt : Int32) (it_mover : Int32) (N : Nat) (it_saved : Int32) (ft_now : Nat → Int32) (ft_past : Nat → Int32) (va1 : Int32) (out : Int32 × Int32 × (Nat → Int32) × (Nat → Int32)) (hf : f_X11_goal N it_saved ft_now ft_past va1 = some out) : Met l yX11_goal wsX11_goal rm_X11_goal (va_Pc [.ref qt, .int va1] (kP (dC, dI) cy G [(qt, .inr (11, [.ref qt_now, .ref qt_past, .int (it_saved), .ref xt_text, .int (it_length), .ref xt_doors, .int (it_doorMany), .ref xt_label, .int (it_drawn), .ref xt_far, .ref xt_ring, .int (it_walker), .int (it_from), .ref xt_was, .int (it_steps), .int (it_faultAt), .int (it_mover)])), (qt_now, .inl (cy.1, 639, .inl (ft_now))), (qt_past, .inl (cy.1, 3195, .inl (ft_past)))] sz)) (va_Qi (fun r (_ : Unit) => r = out.1) (fun _ => kQ (dC, dI) cy [(qt, .inr (11, [.ref qt_now, .ref qt_past, .int (out.2.1), .ref xt_text, .int (it_length), .ref xt_doors, .int (it_doorMany), .ref xt_label, .int (it_drawn), .ref xt_far, .ref xt_ring, .int (it_walker), .int (it_from), .ref xt_was, .int (it_steps), .int (it_faultAt), .int (it_mover)])), (qt_now, .inl (cy.1, 639, .inl (out.2.2.1))), (qt_past, .inl (cy.1, 3195, .inl (out.2.2.2)))] (va_A [(qt, .inr (11, [.ref qt_now, .ref qt_past, .int (it_saved), .ref xt_text, .int (it_length), .ref xt_doors, .int (it_doorMany), .ref xt_label, .int (it_drawn), .ref xt_far, .ref xt_ring, .int (it_walker), .int (it_from), .ref xt_was, .int (it_steps), .int (it_faultAt), .int (it_mover)])), (qt_now, .inl (cy.1, 639, .inl (ft_now))), (qt_past, .inl (cy.1, 3195, .inl (ft_past)))] sz)) (va_A [(qt, .inr (11, [.ref qt_now, .ref qt_past, .int (it_saved), .ref xt_text, .int (it_length), .ref xt_doors, .int (it_doorMany), .ref xt_label, .int (it_drawn), .ref xt_far, .ref xt_ring, .int (it_walker), .int (it_from), .ref xt_was, .int (it_steps), .int (it_faultAt), .int (it_mover)])), (qt_now, .inl (cy.1, 639, .inl (ft_now))), (qt_past, .inl (cy.1, 3195, .inl (ft_past)))] sz)) 0 0 (va_A [(qt, .inr (11, [.ref qt_now, .ref qt_past, .int (it_saved), .ref xt_text, .int (it_length), .ref xt_doors, .int (it_doorMany), .ref xt_label, .int (it_drawn), .ref xt_far, .ref xt_ring, .int (it_walker), .int (it_from), .ref xt_was, .int (it_steps), .int (it_faultAt), .int (it_mover)])), (qt_now, .inl (cy.1, 639, .inl (ft_now))), (qt_past, .inl (cy.1, 3195, .inl (ft_past)))] sz) := by
  refine Met.ofW (cc := cX11_goal) (maxL := 2) (ret := (some .int)) (by decide) rfl ?_
  intro p e s m args below meth c s₁ B hml hv
  obtain ⟨rfl, hsz, hP, hK, hD0, hG⟩ := hv
  have hx := B.exec
  have hb := B.bytes
  have hr := B.returns
  have hts := atoms_spec (ws := wsX11_goal) B.pre
  have hown : s.vm.findClass RX11 = some m.cls := findClass_of_methodNamed B.named
  have hlocks := B.notSynchronized
  subst hsz
  have hD := hD0.self (sz := s.heap.size)
  generalize hAe : va_A [(qt, .inr (11, [.ref qt_now, .ref qt_past, .int (it_saved), .ref xt_text, .int (it_length), .ref xt_doors, .int (it_doorMany), .ref xt_label, .int (it_drawn), .ref xt_far, .ref xt_ring, .int (it_walker), .int (it_from), .ref xt_was, .int (it_steps), .int (it_faultAt), .int (it_mover)])), (qt_now, .inl (cy.1, 639, .inl (ft_now))), (qt_past, .inl (cy.1, 3195, .inl (ft_past)))] s.heap.size = A at hD hG ⊢
  have hA : ∀ q : Nat, s.heap.size ≤ q → A q := fun q h => by rw [← hAe]; exact Or.inr h
  have hS : va_S A s.heap s.heap [] := va_S.rf
  have hP : va_P (dC, dI) vwCl [(qt, .inr (11, [.ref qt_now, .ref qt_past, .int (it_saved), .ref xt_text, .int (it_length), .ref xt_doors, .int (it_doorMany), .ref xt_label, .int (it_drawn), .ref xt_far, .ref xt_ring, .int (it_walker), .int (it_from), .ref xt_was, .int (it_steps), .int (it_faultAt), .int (it_mover)])), (qt_now, .inl (cy.1, 639, .inl (ft_now))), (qt_past, .inl (cy.1, 3195, .inl (ft_past)))] s.heap := hP
  have hl := lv_entry ([.ref qt, .int va1]) (n := 2) (Nat.le_of_ble_eq_true rfl)
  rw [lg_entry_eq]
  generalize (lg_sl ([.ref qt, .int va1]) ++ List.replicate (2 - (lg_sl ([.ref qt, .int va1])).length) Slot.unset).toArray = ls at hl ⊢
  have hl : lv_has ls 2 [(0, .ref qt), (1, .int va1)] := hl
  refine kgen (fun Q hQ => ?_)
  rw [f_X11_goal] at hf
  refine lv_aload_n hx hb dX11_goal_0 rfl (lv_at hl 0 rfl) ?_
  refine lv_iload_n hx hb dX11_goal_1 rfl (lv_at hl 1 rfl) ?_
  obtain ⟨r2, hq_2, hf⟩ := bnd1_s hf
  refine kcalli (wc := [(qt, .inr (11, [.ref qt_now, .ref qt_past, .int (it_saved), .ref xt_text, .int (it_length), .ref xt_doors, .int (it_doorMany), .ref xt_label, .int (it_drawn), .ref xt_far, .ref xt_ring, .int (it_walker), .int (it_from), .ref xt_was, .int (it_steps), .int (it_faultAt), .int (it_mover)])), (qt_now, .inl (cy.1, 639, .inl (ft_now)))]) (wr := [(qt_past, .inl (cy.1, 3195, .inl (ft_past)))]) (w1 := [(qt, .inr (11, [.ref qt_now, .ref qt_past, .int (it_saved), .ref xt_text, .int (it_length), .ref xt_doors, .int (it_doorMany), .ref xt_label, .int (it_drawn), .ref xt_far, .ref xt_ring, .int (it_walker), .int (it_from), .ref xt_was, .int (it_steps), .int (it_faultAt), .int (it_mover)])), (qt_now, .inl (cy.1, 639, .inl (ft_now)))]) hK hP hD hS hA hG [0, 1] [2] rfl rfl rfl rfl rfl (fun hU hPc => va_runV (As := [.int va1]) (rest := []) ⟨hx, hb, hml, hown, hts⟩ (c_X11_hasRoom l dC dI cy G s.heap.size qt qt_now qt_past xt_text xt_doors xt_label xt_far xt_ring xt_was (it_saved) (it_length) (it_doorMany) (it_drawn) (it_walker) (it_from) (it_steps) (it_faultAt) (it_mover) (ft_now) (va1) r2 hq_2) (cwV 1 hts gX11_goal_X11_hasRoom rfl rfl rfl hdX11_hasRoom ⟨Nat.le_of_ble_eq_true rfl, Nat.le_of_ble_eq_true rfl⟩) ⟨kBlind, (va_recv hK hP (ci := 11) (q0 := 0) rfl rfl), fun U h1 h2 => ⟨rfl, hU U h1 h2⟩⟩ rfl rfl hl.1 rfl (lv_room (Nat.le_of_ble_eq_true rfl)) dX11_goal_2 ⟨Nat.zero_le _, Nat.zero_le _⟩) (r2) (fun _ _ h => h) (fun _ _ h => h) (fun H locs hP hD hS => ?_)
  have hP : va_P (dC, dI) vwCl [(qt_past, .inl (cy.1, 3195, .inl (ft_past))), (qt, .inr (11, [.ref qt_now, .ref qt_past, .int (it_saved), .ref xt_text, .int (it_length), .ref xt_doors, .int (it_doorMany), .ref xt_label, .int (it_drawn), .ref xt_far, .ref xt_ring, .int (it_walker), .int (it_from), .ref xt_was, .int (it_steps), .int (it_faultAt), .int (it_mover)])), (qt_now, .inl (cy.1, 639, .inl (ft_now)))] H := hP
  have hD : va_D A [(qt_past, .inl (cy.1, 3195, .inl (ft_past))), (qt, .inr (11, [.ref qt_now, .ref qt_past, .int (it_saved), .ref xt_text, .int (it_length), .ref xt_doors, .int (it_doorMany), .ref xt_label, .int (it_drawn), .ref xt_far, .ref xt_ring, .int (it_walker), .int (it_from), .ref xt_was, .int (it_steps), .int (it_faultAt), .int (it_mover)])), (qt_now, .inl (cy.1, 639, .inl (ft_now)))] := hD
  refine lv_if_eq (tgt := 18) hx hb dX11_goal_5 (by decide) (fun hc_5 => ?_) (fun hc_5 => ?_)
  · rw [if_pos hc_5] at hf
    refine lv_iconst (v := (-1 : Int32)) hx hb dX11_goal_18 (by decide) ?_
    cases hf
    subst hQ
    exact kiret hx hb hr hlocks hK (hP.sub [1, 2, 0] rfl) (hD.sub [1, 2, 0] (by decide) rfl) hS rfl dX11_goal_19
  · rw [if_neg hc_5] at hf
    refine lv_aload_n hx hb dX11_goal_8 rfl (lv_at hl 0 rfl) ?_
    refine lv_bipush (v := (8 : Int32)) hx hb dX11_goal_9 (by decide) ?_
    refine lv_iload_n hx hb dX11_goal_11 rfl (lv_at hl 1 rfl) ?_
    obtain ⟨r12, o12_0, o12_1, o12_2, hq_12, hf⟩ := bnd4_s hf
    refine kcalli (wc := [(qt, .inr (11, [.ref qt_now, .ref qt_past, .int (it_saved), .ref xt_text, .int (it_length), .ref xt_doors, .int (it_doorMany), .ref xt_label, .int (it_drawn), .ref xt_far, .ref xt_ring, .int (it_walker), .int (it_from), .ref xt_was, .int (it_steps), .int (it_faultAt), .int (it_mover)])), (qt_now, .inl (cy.1, 639, .inl (ft_now))), (qt_past, .inl (cy.1, 3195, .inl (ft_past)))]) (wr := []) (w1 := [(qt, .inr (11, [.ref qt_now, .ref qt_past, .int (o12_0), .ref xt_text, .int (it_length), .ref xt_doors, .int (it_doorMany), .ref xt_label, .int (it_drawn), .ref xt_far, .ref xt_ring, .int (it_walker), .int (it_from), .ref xt_was, .int (it_steps), .int (it_faultAt), .int (it_mover)])), (qt_now, .inl (cy.1, 639, .inl (o12_1))), (qt_past, .inl (cy.1, 3195, .inl (o12_2)))]) hK hP hD hS hA hG [1, 2, 0] [] rfl rfl rfl rfl rfl (fun hU hPc => va_runV (As := [.int (8 : Int32), .int va1]) (rest := []) ⟨hx, hb, hml, hown, hts⟩ (c_X11_puts l dC dI cy G H.size qt qt_now qt_past xt_text xt_doors xt_label xt_far xt_ring xt_was (it_length) (it_doorMany) (it_drawn) (it_walker) (it_from) (it_steps) (it_faultAt) (it_mover) N (it_saved) (ft_now) (ft_past) ((8 : Int32)) (va1) (r12, o12_0, o12_1, o12_2) hq_12) (cwV 2 hts gX11_goal_X11_puts rfl rfl rfl hdX11_puts ⟨Nat.le_of_ble_eq_true rfl, Nat.le_of_ble_eq_true rfl⟩) ⟨kBlind, (va_recv hK hP (ci := 11) (q0 := 1) rfl rfl), fun U h1 h2 => ⟨rfl, hU U h1 h2⟩⟩ rfl rfl hl.1 rfl (lv_room (Nat.le_of_ble_eq_true rfl)) dX11_goal_12 ⟨Nat.zero_le _, Nat.zero_le _⟩) (r12) (fun _ _ h => h) (fun _ _ h => h) (fun H locs hP hD hS => ?_)
    have hP : va_P (dC, dI) vwCl [(qt, .inr (11, [.ref qt_now, .ref qt_past, .int (o12_0), .ref xt_text, .int (it_length), .ref xt_doors, .int (it_doorMany), .ref xt_label, .int (it_drawn), .ref xt_far, .ref xt_ring, .int (it_walker), .int (it_from), .ref xt_was, .int (it_steps), .int (it_faultAt), .int (it_mover)])), (qt_now, .inl (cy.1, 639, .inl (o12_1))), (qt_past, .inl (cy.1, 3195, .inl (o12_2)))] H := hP
    have hD : va_D A [(qt, .inr (11, [.ref qt_now, .ref qt_past, .int (o12_0), .ref xt_text, .int (it_length), .ref xt_doors, .int (it_doorMany), .ref xt_label, .int (it_drawn), .ref xt_far, .ref xt_ring, .int (it_walker), .int (it_from), .ref xt_was, .int (it_steps), .int (it_faultAt), .int (it_mover)])), (qt_now, .inl (cy.1, 639, .inl (o12_1))), (qt_past, .inl (cy.1, 3195, .inl (o12_2)))] := hD
    refine lv_goto (tgt := 19) hx hb dX11_goal_15 (by decide) ?_
    cases hf
    subst hQ
    exact kiret hx hb hr hlocks hK (hP.sub [0, 1, 2] rfl) (hD.sub [0, 1, 2] (by decide) rfl) hS rfl dX11_goal_19
theorem hdX11_goal : yX11_goal.cls = RX11 ∧ yX11_goal.cls ≠ "java/lang/invoke/MethodHandle" ∧ yX11_goal.cls ≠ "java/lang/invoke/VarHandle" ∧ (parseMethodDescriptor yX11_goal.desc).map (fun d => d.parameters.length) = some 1 := by decide +kernel
noncomputable def f_X11_distance (N : Nat) (ft_now : Nat → Int32) (ft_far : Nat → Int32) (ft_ring : Nat → Int32) (va1 : Int32) (va2 : Int32) : Option (Int32 × (Nat → Int32) × (Nat → Int32)) :=
  bnd1 (f_X11_hasRoom (ft_now) (va1)) fun r2 =>
  if r2 = 0 then
    some ((-1 : Int32), ft_far, ft_ring)
  else
    bnd1 (f_X11_hasRoom (ft_now) (va2)) fun r10 =>
    if r10 = 0 then
      some ((-1 : Int32), ft_far, ft_ring)
    else
      bnd2 (f_X11_lays N (ft_now) (ft_far) (ft_ring) (va2)) fun o20_0 o20_1 =>
      if va1 < 0 ∨ 210 ≤ (va1).toNatClampNeg then none else
      if 0 ≤ (o20_0 (va1).toNatClampNeg) then
        if va1 < 0 ∨ 210 ≤ (va1).toNatClampNeg then none else
        some ((o20_0 (va1).toNatClampNeg), o20_0, o20_1)
      else
        some ((-4 : Int32), o20_0, o20_1)
abbrev rm_X11_distance : Room := { frames := 7, cells := 0, slots := 0, locals := 159 }
set_option maxHeartbeats 4000000 in
set_option maxRecDepth 100000 in
theorem c_X11_distance (l : Launch) (dC : Nat → ClassId) (dI : Nat → Nat → Nat) (cy : gC) (G : gT) (sz : Nat) (qt : Nat) (qt_now : Nat) (qt_far : Nat) (qt_ring : Nat) (xt_past : Nat) (xt_text : Nat) (xt_doors : Nat) (xt_label : Nat) (xt_was : Nat) (it_saved : Int32) (it_length : Int32) (it_doorMany : Int32) (it_drawn : Int32) (it_walker : Int32) (it_from : Int32) (it_steps : Int32) (it_faultAt : Int32) (it_mover : Int32) (N : Nat) (ft_now : Nat → Int32) (ft_far : Nat → Int32) (ft_ring : Nat → Int32) (va1 : Int32) (va2 : Int32) (out : Int32 × (Nat → Int32) × (Nat → Int32)) (hf : f_X11_distance N ft_now ft_far ft_ring va1 va2 = some out) : Met l yX11_distance wsX11_distance rm_X11_distance (va_Pc [.ref qt, .int va1, .int va2] (kP (dC, dI) cy G [(qt, .inr (11, [.ref qt_now, .ref xt_past, .int (it_saved), .ref xt_text, .int (it_length), .ref xt_doors, .int (it_doorMany), .ref xt_label, .int (it_drawn), .ref qt_far, .ref qt_ring, .int (it_walker), .int (it_from), .ref xt_was, .int (it_steps), .int (it_faultAt), .int (it_mover)])), (qt_now, .inl (cy.1, 639, .inl (ft_now))), (qt_far, .inl (cy.1, 210, .inl (ft_far))), (qt_ring, .inl (cy.1, 210, .inl (ft_ring)))] sz)) (va_Qi (fun r (_ : Unit) => r = out.1) (fun _ => kQ (dC, dI) cy [(qt, .inr (11, [.ref qt_now, .ref xt_past, .int (it_saved), .ref xt_text, .int (it_length), .ref xt_doors, .int (it_doorMany), .ref xt_label, .int (it_drawn), .ref qt_far, .ref qt_ring, .int (it_walker), .int (it_from), .ref xt_was, .int (it_steps), .int (it_faultAt), .int (it_mover)])), (qt_now, .inl (cy.1, 639, .inl (ft_now))), (qt_far, .inl (cy.1, 210, .inl (out.2.1))), (qt_ring, .inl (cy.1, 210, .inl (out.2.2)))] (va_A [(qt, .inr (11, [.ref qt_now, .ref xt_past, .int (it_saved), .ref xt_text, .int (it_length), .ref xt_doors, .int (it_doorMany), .ref xt_label, .int (it_drawn), .ref qt_far, .ref qt_ring, .int (it_walker), .int (it_from), .ref xt_was, .int (it_steps), .int (it_faultAt), .int (it_mover)])), (qt_now, .inl (cy.1, 639, .inl (ft_now))), (qt_far, .inl (cy.1, 210, .inl (ft_far))), (qt_ring, .inl (cy.1, 210, .inl (ft_ring)))] sz)) (va_A [(qt, .inr (11, [.ref qt_now, .ref xt_past, .int (it_saved), .ref xt_text, .int (it_length), .ref xt_doors, .int (it_doorMany), .ref xt_label, .int (it_drawn), .ref qt_far, .ref qt_ring, .int (it_walker), .int (it_from), .ref xt_was, .int (it_steps), .int (it_faultAt), .int (it_mover)])), (qt_now, .inl (cy.1, 639, .inl (ft_now))), (qt_far, .inl (cy.1, 210, .inl (ft_far))), (qt_ring, .inl (cy.1, 210, .inl (ft_ring)))] sz)) 0 0 (va_A [(qt, .inr (11, [.ref qt_now, .ref xt_past, .int (it_saved), .ref xt_text, .int (it_length), .ref xt_doors, .int (it_doorMany), .ref xt_label, .int (it_drawn), .ref qt_far, .ref qt_ring, .int (it_walker), .int (it_from), .ref xt_was, .int (it_steps), .int (it_faultAt), .int (it_mover)])), (qt_now, .inl (cy.1, 639, .inl (ft_now))), (qt_far, .inl (cy.1, 210, .inl (ft_far))), (qt_ring, .inl (cy.1, 210, .inl (ft_ring)))] sz) := by
  refine Met.ofW (cc := cX11_distance) (maxL := 3) (ret := (some .int)) (by decide) rfl ?_
  intro p e s m args below meth c s₁ B hml hv
  obtain ⟨rfl, hsz, hP, hK, hD0, hG⟩ := hv
  have hx := B.exec
  have hb := B.bytes
  have hr := B.returns
  have hts := atoms_spec (ws := wsX11_distance) B.pre
  have hown : s.vm.findClass RX11 = some m.cls := findClass_of_methodNamed B.named
  have hlocks := B.notSynchronized
  subst hsz
  have hD := hD0.self (sz := s.heap.size)
  generalize hAe : va_A [(qt, .inr (11, [.ref qt_now, .ref xt_past, .int (it_saved), .ref xt_text, .int (it_length), .ref xt_doors, .int (it_doorMany), .ref xt_label, .int (it_drawn), .ref qt_far, .ref qt_ring, .int (it_walker), .int (it_from), .ref xt_was, .int (it_steps), .int (it_faultAt), .int (it_mover)])), (qt_now, .inl (cy.1, 639, .inl (ft_now))), (qt_far, .inl (cy.1, 210, .inl (ft_far))), (qt_ring, .inl (cy.1, 210, .inl (ft_ring)))] s.heap.size = A at hD hG ⊢
  have hA : ∀ q : Nat, s.heap.size ≤ q → A q := fun q h => by rw [← hAe]; exact Or.inr h
  have hS : va_S A s.heap s.heap [] := va_S.rf
  have hP : va_P (dC, dI) vwCl [(qt, .inr (11, [.ref qt_now, .ref xt_past, .int (it_saved), .ref xt_text, .int (it_length), .ref xt_doors, .int (it_doorMany), .ref xt_label, .int (it_drawn), .ref qt_far, .ref qt_ring, .int (it_walker), .int (it_from), .ref xt_was, .int (it_steps), .int (it_faultAt), .int (it_mover)])), (qt_now, .inl (cy.1, 639, .inl (ft_now))), (qt_far, .inl (cy.1, 210, .inl (ft_far))), (qt_ring, .inl (cy.1, 210, .inl (ft_ring)))] s.heap := hP
  have hl := lv_entry ([.ref qt, .int va1, .int va2]) (n := 3) (Nat.le_of_ble_eq_true rfl)
  rw [lg_entry_eq]
  generalize (lg_sl ([.ref qt, .int va1, .int va2]) ++ List.replicate (3 - (lg_sl ([.ref qt, .int va1, .int va2])).length) Slot.unset).toArray = ls at hl ⊢
  have hl : lv_has ls 3 [(0, .ref qt), (1, .int va1), (2, .int va2)] := hl
  refine kgen (fun Q hQ => ?_)
  rw [f_X11_distance] at hf
  refine lv_aload_n hx hb dX11_distance_0 rfl (lv_at hl 0 rfl) ?_
  refine lv_iload_n hx hb dX11_distance_1 rfl (lv_at hl 1 rfl) ?_
  obtain ⟨r2, hq_2, hf⟩ := bnd1_s hf
  refine kcalli (wc := [(qt, .inr (11, [.ref qt_now, .ref xt_past, .int (it_saved), .ref xt_text, .int (it_length), .ref xt_doors, .int (it_doorMany), .ref xt_label, .int (it_drawn), .ref qt_far, .ref qt_ring, .int (it_walker), .int (it_from), .ref xt_was, .int (it_steps), .int (it_faultAt), .int (it_mover)])), (qt_now, .inl (cy.1, 639, .inl (ft_now)))]) (wr := [(qt_far, .inl (cy.1, 210, .inl (ft_far))), (qt_ring, .inl (cy.1, 210, .inl (ft_ring)))]) (w1 := [(qt, .inr (11, [.ref qt_now, .ref xt_past, .int (it_saved), .ref xt_text, .int (it_length), .ref xt_doors, .int (it_doorMany), .ref xt_label, .int (it_drawn), .ref qt_far, .ref qt_ring, .int (it_walker), .int (it_from), .ref xt_was, .int (it_steps), .int (it_faultAt), .int (it_mover)])), (qt_now, .inl (cy.1, 639, .inl (ft_now)))]) hK hP hD hS hA hG [0, 1] [2, 3] rfl rfl rfl rfl rfl (fun hU hPc => va_runV (As := [.int va1]) (rest := []) ⟨hx, hb, hml, hown, hts⟩ (c_X11_hasRoom l dC dI cy G s.heap.size qt qt_now xt_past xt_text xt_doors xt_label qt_far qt_ring xt_was (it_saved) (it_length) (it_doorMany) (it_drawn) (it_walker) (it_from) (it_steps) (it_faultAt) (it_mover) (ft_now) (va1) r2 hq_2) (cwV 1 hts gX11_distance_X11_hasRoom rfl rfl rfl hdX11_hasRoom ⟨Nat.le_of_ble_eq_true rfl, Nat.le_of_ble_eq_true rfl⟩) ⟨kBlind, (va_recv hK hP (ci := 11) (q0 := 0) rfl rfl), fun U h1 h2 => ⟨rfl, hU U h1 h2⟩⟩ rfl rfl hl.1 rfl (lv_room (Nat.le_of_ble_eq_true rfl)) dX11_distance_2 ⟨Nat.zero_le _, Nat.zero_le _⟩) (r2) (fun _ _ h => h) (fun _ _ h => h) (fun H locs hP hD hS => ?_)
  have hP : va_P (dC, dI) vwCl [(qt_far, .inl (cy.1, 210, .inl (ft_far))), (qt_ring, .inl (cy.1, 210, .inl (ft_ring))), (qt, .inr (11, [.ref qt_now, .ref xt_past, .int (it_saved), .ref xt_text, .int (it_length), .ref xt_doors, .int (it_doorMany), .ref xt_label, .int (it_drawn), .ref qt_far, .ref qt_ring, .int (it_walker), .int (it_from), .ref xt_was, .int (it_steps), .int (it_faultAt), .int (it_mover)])), (qt_now, .inl (cy.1, 639, .inl (ft_now)))] H := hP
  have hD : va_D A [(qt_far, .inl (cy.1, 210, .inl (ft_far))), (qt_ring, .inl (cy.1, 210, .inl (ft_ring))), (qt, .inr (11, [.ref qt_now, .ref xt_past, .int (it_saved), .ref xt_text, .int (it_length), .ref xt_doors, .int (it_doorMany), .ref xt_label, .int (it_drawn), .ref qt_far, .ref qt_ring, .int (it_walker), .int (it_from), .ref xt_was, .int (it_steps), .int (it_faultAt), .int (it_mover)])), (qt_now, .inl (cy.1, 639, .inl (ft_now)))] := hD
  refine lv_if_eq (tgt := 16) hx hb dX11_distance_5 (by decide) (fun hc_5 => ?_) (fun hc_5 => ?_)
  · rw [if_pos hc_5] at hf
    refine lv_iconst (v := (-1 : Int32)) hx hb dX11_distance_16 (by decide) ?_
    cases hf
    subst hQ
    exact kiret hx hb hr hlocks hK (hP.sub [2, 3, 0, 1] rfl) (hD.sub [2, 3, 0, 1] (by decide) rfl) hS rfl dX11_distance_17
  · rw [if_neg hc_5] at hf
    refine lv_aload_n hx hb dX11_distance_8 rfl (lv_at hl 0 rfl) ?_
    refine lv_iload_n hx hb dX11_distance_9 rfl (lv_at hl 2 rfl) ?_
    obtain ⟨r10, hq_10, hf⟩ := bnd1_s hf
    refine kcalli (wc := [(qt, .inr (11, [.ref qt_now, .ref xt_past, .int (it_saved), .ref xt_text, .int (it_length), .ref xt_doors, .int (it_doorMany), .ref xt_label, .int (it_drawn), .ref qt_far, .ref qt_ring, .int (it_walker), .int (it_from), .ref xt_was, .int (it_steps), .int (it_faultAt), .int (it_mover)])), (qt_now, .inl (cy.1, 639, .inl (ft_now)))]) (wr := [(qt_far, .inl (cy.1, 210, .inl (ft_far))), (qt_ring, .inl (cy.1, 210, .inl (ft_ring)))]) (w1 := [(qt, .inr (11, [.ref qt_now, .ref xt_past, .int (it_saved), .ref xt_text, .int (it_length), .ref xt_doors, .int (it_doorMany), .ref xt_label, .int (it_drawn), .ref qt_far, .ref qt_ring, .int (it_walker), .int (it_from), .ref xt_was, .int (it_steps), .int (it_faultAt), .int (it_mover)])), (qt_now, .inl (cy.1, 639, .inl (ft_now)))]) hK hP hD hS hA hG [2, 3] [0, 1] rfl rfl rfl rfl rfl (fun hU hPc => va_runV (As := [.int va2]) (rest := []) ⟨hx, hb, hml, hown, hts⟩ (c_X11_hasRoom l dC dI cy G H.size qt qt_now xt_past xt_text xt_doors xt_label qt_far qt_ring xt_was (it_saved) (it_length) (it_doorMany) (it_drawn) (it_walker) (it_from) (it_steps) (it_faultAt) (it_mover) (ft_now) (va2) r10 hq_10) (cwV 1 hts gX11_distance_X11_hasRoom rfl rfl rfl hdX11_hasRoom ⟨Nat.le_of_ble_eq_true rfl, Nat.le_of_ble_eq_true rfl⟩) ⟨kBlind, (va_recv hK hP (ci := 11) (q0 := 2) rfl rfl), fun U h1 h2 => ⟨rfl, hU U h1 h2⟩⟩ rfl rfl hl.1 rfl (lv_room (Nat.le_of_ble_eq_true rfl)) dX11_distance_10 ⟨Nat.zero_le _, Nat.zero_le _⟩) (r10) (fun _ _ h => h) (fun _ _ h => h) (fun H locs hP hD hS => ?_)
    have hP : va_P (dC, dI) vwCl [(qt_far, .inl (cy.1, 210, .inl (ft_far))), (qt_ring, .inl (cy.1, 210, .inl (ft_ring))), (qt, .inr (11, [.ref qt_now, .ref xt_past, .int (it_saved), .ref xt_text, .int (it_length), .ref xt_doors, .int (it_doorMany), .ref xt_label, .int (it_drawn), .ref qt_far, .ref qt_ring, .int (it_walker), .int (it_from), .ref xt_was, .int (it_steps), .int (it_faultAt), .int (it_mover)])), (qt_now, .inl (cy.1, 639, .inl (ft_now)))] H := hP
    have hD : va_D A [(qt_far, .inl (cy.1, 210, .inl (ft_far))), (qt_ring, .inl (cy.1, 210, .inl (ft_ring))), (qt, .inr (11, [.ref qt_now, .ref xt_past, .int (it_saved), .ref xt_text, .int (it_length), .ref xt_doors, .int (it_doorMany), .ref xt_label, .int (it_drawn), .ref qt_far, .ref qt_ring, .int (it_walker), .int (it_from), .ref xt_was, .int (it_steps), .int (it_faultAt), .int (it_mover)])), (qt_now, .inl (cy.1, 639, .inl (ft_now)))] := hD
    refine lv_if_ne (tgt := 18) hx hb dX11_distance_13 (by decide) (fun hc_13 => ?_) (fun hc_13 => ?_)
    · rw [if_neg hc_13] at hf
      refine lv_aload_n hx hb dX11_distance_18 rfl (lv_at hl 0 rfl) ?_
      refine lv_iload_n hx hb dX11_distance_19 rfl (lv_at hl 2 rfl) ?_
      obtain ⟨o20_0, o20_1, hq_20, hf⟩ := bnd2_s hf
      refine kcallv (wc := [(qt, .inr (11, [.ref qt_now, .ref xt_past, .int (it_saved), .ref xt_text, .int (it_length), .ref xt_doors, .int (it_doorMany), .ref xt_label, .int (it_drawn), .ref qt_far, .ref qt_ring, .int (it_walker), .int (it_from), .ref xt_was, .int (it_steps), .int (it_faultAt), .int (it_mover)])), (qt_now, .inl (cy.1, 639, .inl (ft_now))), (qt_far, .inl (cy.1, 210, .inl (ft_far))), (qt_ring, .inl (cy.1, 210, .inl (ft_ring)))]) (wr := []) (w1 := [(qt, .inr (11, [.ref qt_now, .ref xt_past, .int (it_saved), .ref xt_text, .int (it_length), .ref xt_doors, .int (it_doorMany), .ref xt_label, .int (it_drawn), .ref qt_far, .ref qt_ring, .int (it_walker), .int (it_from), .ref xt_was, .int (it_steps), .int (it_faultAt), .int (it_mover)])), (qt_now, .inl (cy.1, 639, .inl (ft_now))), (qt_far, .inl (cy.1, 210, .inl (o20_0))), (qt_ring, .inl (cy.1, 210, .inl (o20_1)))]) hK hP hD hS hA hG [2, 3, 0, 1] [] rfl rfl rfl rfl rfl (fun hU hPc => va_runV (As := [.int va2]) (rest := []) ⟨hx, hb, hml, hown, hts⟩ (c_X11_lays l dC dI cy G H.size qt qt_now qt_far qt_ring xt_past xt_text xt_doors xt_label xt_was (it_saved) (it_length) (it_doorMany) (it_drawn) (it_walker) (it_from) (it_steps) (it_faultAt) (it_mover) N (ft_now) (ft_far) (ft_ring) (va2) (o20_0, o20_1) hq_20) (cwV 1 hts gX11_distance_X11_lays rfl rfl rfl hdX11_lays ⟨Nat.le_of_ble_eq_true rfl, Nat.le_of_ble_eq_true rfl⟩) ⟨kBlind, (va_recv hK hP (ci := 11) (q0 := 2) rfl rfl), fun U h1 h2 => ⟨rfl, hU U h1 h2⟩⟩ rfl rfl hl.1 rfl (lv_room (Nat.le_of_ble_eq_true rfl)) dX11_distance_20 ⟨Nat.zero_le _, Nat.zero_le _⟩) (fun _ _ h => h) (fun H locs hP hD hS => ?_)
      have hP : va_P (dC, dI) vwCl [(qt, .inr (11, [.ref qt_now, .ref xt_past, .int (it_saved), .ref xt_text, .int (it_length), .ref xt_doors, .int (it_doorMany), .ref xt_label, .int (it_drawn), .ref qt_far, .ref qt_ring, .int (it_walker), .int (it_from), .ref xt_was, .int (it_steps), .int (it_faultAt), .int (it_mover)])), (qt_now, .inl (cy.1, 639, .inl (ft_now))), (qt_far, .inl (cy.1, 210, .inl (o20_0))), (qt_ring, .inl (cy.1, 210, .inl (o20_1)))] H := hP
      have hD : va_D A [(qt, .inr (11, [.ref qt_now, .ref xt_past, .int (it_saved), .ref xt_text, .int (it_length), .ref xt_doors, .int (it_doorMany), .ref xt_label, .int (it_drawn), .ref qt_far, .ref qt_ring, .int (it_walker), .int (it_from), .ref xt_was, .int (it_steps), .int (it_faultAt), .int (it_mover)])), (qt_now, .inl (cy.1, 639, .inl (ft_now))), (qt_far, .inl (cy.1, 210, .inl (o20_0))), (qt_ring, .inl (cy.1, 210, .inl (o20_1)))] := hD
      refine lv_aload_n hx hb dX11_distance_23 rfl (lv_at hl 0 rfl) ?_
      refine va_get (D := (dC, dI)) (ci := 11) (C := RX11) (T := TX11) (N := 17) hx hb hts (fun _ h => (List.mem_cons_of_mem _ (List.mem_append_right _ h))) hown hK hP 0 rfl rfl 9 (by decide) (hts _ (List.mem_cons_of_mem _ (List.mem_append_left _ (List.mem_append_left _ (List.mem_of_getElem? (i := 0) rfl))))) (fun _ h => h) rfl dX11_distance_24 ?_
      refine lv_iload_n hx hb dX11_distance_27 rfl (lv_at hl 1 rfl) ?_
      obtain ⟨hk_28, hf⟩ := chk_s hf
      refine va_iald hx hb hK hP 2 0 rfl rfl hk_28 dX11_distance_28 ?_
      refine lv_if_ge (tgt := 37) hx hb dX11_distance_29 (by decide) (fun hc_29 => ?_) (fun hc_29 => ?_)
      · rw [if_pos hc_29] at hf
        refine lv_aload_n hx hb dX11_distance_37 rfl (lv_at hl 0 rfl) ?_
        refine va_get (D := (dC, dI)) (ci := 11) (C := RX11) (T := TX11) (N := 17) hx hb hts (fun _ h => (List.mem_cons_of_mem _ (List.mem_append_right _ h))) hown hK hP 0 rfl rfl 9 (by decide) (hts _ (List.mem_cons_of_mem _ (List.mem_append_left _ (List.mem_append_left _ (List.mem_of_getElem? (i := 0) rfl))))) (fun _ h => h) rfl dX11_distance_38 ?_
        refine lv_iload_n hx hb dX11_distance_41 rfl (lv_at hl 1 rfl) ?_
        obtain ⟨hk_42, hf⟩ := chk_s hf
        refine va_iald hx hb hK hP 2 0 rfl rfl hk_42 dX11_distance_42 ?_
        cases hf
        subst hQ
        exact kiret hx hb hr hlocks hK (hP.sub [0, 1, 2, 3] rfl) (hD.sub [0, 1, 2, 3] (by decide) rfl) hS rfl dX11_distance_43
      · rw [if_neg hc_29] at hf
        refine lv_bipush (v := (-4 : Int32)) hx hb dX11_distance_32 (by decide) ?_
        refine lv_goto (tgt := 43) hx hb dX11_distance_34 (by decide) ?_
        cases hf
        subst hQ
        exact kiret hx hb hr hlocks hK (hP.sub [0, 1, 2, 3] rfl) (hD.sub [0, 1, 2, 3] (by decide) rfl) hS rfl dX11_distance_43
    · rw [if_pos hc_13] at hf
      refine lv_iconst (v := (-1 : Int32)) hx hb dX11_distance_16 (by decide) ?_
      cases hf
      subst hQ
      exact kiret hx hb hr hlocks hK (hP.sub [2, 3, 0, 1] rfl) (hD.sub [2, 3, 0, 1] (by decide) rfl) hS rfl dX11_distance_17
theorem hdX11_distance : yX11_distance.cls = RX11 ∧ yX11_distance.cls ≠ "java/lang/invoke/MethodHandle" ∧ yX11_distance.cls ≠ "java/lang/invoke/VarHandle" ∧ (parseMethodDescriptor yX11_distance.desc).map (fun d => d.parameters.length) = some 2 := by decide +kernel
noncomputable def f_X11_again (N : Nat) (ft_now : Nat → Int32) (ft_label : Nat → Int32) (ft_far : Nat → Int32) (ft_ring : Nat → Int32) (va1 : Int32) (va2 : Int32) : Option (Int32 × (Nat → Int32) × (Nat → Int32) × (Nat → Int32)) :=
  bnd3 (f_X11_distance N (ft_now) (ft_far) (ft_ring) (va1) (va2)) fun r3 o3_0 o3_1 =>
  if r3 = (-1 : Int32) then
    some (r3, ft_label, o3_0, o3_1)
  else
    bnd2 (f_X11_isSingle N (ft_now) (ft_label)) fun r17 o17_0 =>
    if r17 = 0 then
      some ((-2 : Int32), o17_0, o3_0, o3_1)
    else
      some (r3, o17_0, o3_0, o3_1)
abbrev rm_X11_again : Room := { frames := 10, cells := 0, slots := 0, locals := 219 }
set_option maxHeartbeats 4000000 in
set_option maxRecDepth 100000 in
theorem c_X11_again (l : Launch) (dC : Nat → ClassId) (dI : Nat → Nat → Nat) (cy : gC) (G : gT) (sz : Nat) (qt : Nat) (qt_now : Nat) (qt_label : Nat) (qt_far : Nat) (qt_ring : Nat) (xt_past : Nat) (xt_text : Nat) (xt_doors : Nat) (xt_was : Nat) (it_saved : Int32) (it_length : Int32) (it_doorMany : Int32) (it_drawn : Int32) (it_walker : Int32) (it_from : Int32) (it_steps : Int32) (it_faultAt : Int32) (it_mover : Int32) (N : Nat) (ft_now : Nat → Int32) (ft_label : Nat → Int32) (ft_far : Nat → Int32) (ft_ring : Nat → Int32) (va1 : Int32) (va2 : Int32) (out : Int32 × (Nat → Int32) × (Nat → Int32) × (Nat → Int32)) (hf : f_X11_again N ft_now ft_label ft_far ft_ring va1 va2 = some out) : Met l yX11_again wsX11_again rm_X11_again (va_Pc [.ref qt, .int va1, .int va2] (kP (dC, dI) cy G [(qt, .inr (11, [.ref qt_now, .ref xt_past, .int (it_saved), .ref xt_text, .int (it_length), .ref xt_doors, .int (it_doorMany), .ref qt_label, .int (it_drawn), .ref qt_far, .ref qt_ring, .int (it_walker), .int (it_from), .ref xt_was, .int (it_steps), .int (it_faultAt), .int (it_mover)])), (qt_now, .inl (cy.1, 639, .inl (ft_now))), (qt_label, .inl (cy.1, 210, .inl (ft_label))), (qt_far, .inl (cy.1, 210, .inl (ft_far))), (qt_ring, .inl (cy.1, 210, .inl (ft_ring)))] sz)) (va_Qi (fun r (_ : Unit) => r = out.1) (fun _ => kQ (dC, dI) cy [(qt, .inr (11, [.ref qt_now, .ref xt_past, .int (it_saved), .ref xt_text, .int (it_length), .ref xt_doors, .int (it_doorMany), .ref qt_label, .int (it_drawn), .ref qt_far, .ref qt_ring, .int (it_walker), .int (it_from), .ref xt_was, .int (it_steps), .int (it_faultAt), .int (it_mover)])), (qt_now, .inl (cy.1, 639, .inl (ft_now))), (qt_label, .inl (cy.1, 210, .inl (out.2.1))), (qt_far, .inl (cy.1, 210, .inl (out.2.2.1))), (qt_ring, .inl (cy.1, 210, .inl (out.2.2.2)))] (va_A [(qt, .inr (11, [.ref qt_now, .ref xt_past, .int (it_saved), .ref xt_text, .int (it_length), .ref xt_doors, .int (it_doorMany), .ref qt_label, .int (it_drawn), .ref qt_far, .ref qt_ring, .int (it_walker), .int (it_from), .ref xt_was, .int (it_steps), .int (it_faultAt), .int (it_mover)])), (qt_now, .inl (cy.1, 639, .inl (ft_now))), (qt_label, .inl (cy.1, 210, .inl (ft_label))), (qt_far, .inl (cy.1, 210, .inl (ft_far))), (qt_ring, .inl (cy.1, 210, .inl (ft_ring)))] sz)) (va_A [(qt, .inr (11, [.ref qt_now, .ref xt_past, .int (it_saved), .ref xt_text, .int (it_length), .ref xt_doors, .int (it_doorMany), .ref qt_label, .int (it_drawn), .ref qt_far, .ref qt_ring, .int (it_walker), .int (it_from), .ref xt_was, .int (it_steps), .int (it_faultAt), .int (it_mover)])), (qt_now, .inl (cy.1, 639, .inl (ft_now))), (qt_label, .inl (cy.1, 210, .inl (ft_label))), (qt_far, .inl (cy.1, 210, .inl (ft_far))), (qt_ring, .inl (cy.1, 210, .inl (ft_ring)))] sz)) 0 0 (va_A [(qt, .inr (11, [.ref qt_now, .ref xt_past, .int (it_saved), .ref xt_text, .int (it_length), .ref xt_doors, .int (it_doorMany), .ref qt_label, .int (it_drawn), .ref qt_far, .ref qt_ring, .int (it_walker), .int (it_from), .ref xt_was, .int (it_steps), .int (it_faultAt), .int (it_mover)])), (qt_now, .inl (cy.1, 639, .inl (ft_now))), (qt_label, .inl (cy.1, 210, .inl (ft_label))), (qt_far, .inl (cy.1, 210, .inl (ft_far))), (qt_ring, .inl (cy.1, 210, .inl (ft_ring)))] sz) := by
  refine Met.ofW (cc := cX11_again) (maxL := 4) (ret := (some .int)) (by decide) rfl ?_
  intro p e s m args below meth c s₁ B hml hv
  obtain ⟨rfl, hsz, hP, hK, hD0, hG⟩ := hv
  have hx := B.exec
  have hb := B.bytes
  have hr := B.returns
  have hts := atoms_spec (ws := wsX11_again) B.pre
  have hown : s.vm.findClass RX11 = some m.cls := findClass_of_methodNamed B.named
  have hlocks := B.notSynchronized
  subst hsz
  have hD := hD0.self (sz := s.heap.size)
  generalize hAe : va_A [(qt, .inr (11, [.ref qt_now, .ref xt_past, .int (it_saved), .ref xt_text, .int (it_length), .ref xt_doors, .int (it_doorMany), .ref qt_label, .int (it_drawn), .ref qt_far, .ref qt_ring, .int (it_walker), .int (it_from), .ref xt_was, .int (it_steps), .int (it_faultAt), .int (it_mover)])), (qt_now, .inl (cy.1, 639, .inl (ft_now))), (qt_label, .inl (cy.1, 210, .inl (ft_label))), (qt_far, .inl (cy.1, 210, .inl (ft_far))), (qt_ring, .inl (cy.1, 210, .inl (ft_ring)))] s.heap.size = A at hD hG ⊢
  have hA : ∀ q : Nat, s.heap.size ≤ q → A q := fun q h => by rw [← hAe]; exact Or.inr h
  have hS : va_S A s.heap s.heap [] := va_S.rf
  have hP : va_P (dC, dI) vwCl [(qt, .inr (11, [.ref qt_now, .ref xt_past, .int (it_saved), .ref xt_text, .int (it_length), .ref xt_doors, .int (it_doorMany), .ref qt_label, .int (it_drawn), .ref qt_far, .ref qt_ring, .int (it_walker), .int (it_from), .ref xt_was, .int (it_steps), .int (it_faultAt), .int (it_mover)])), (qt_now, .inl (cy.1, 639, .inl (ft_now))), (qt_label, .inl (cy.1, 210, .inl (ft_label))), (qt_far, .inl (cy.1, 210, .inl (ft_far))), (qt_ring, .inl (cy.1, 210, .inl (ft_ring)))] s.heap := hP
  have hl := lv_entry ([.ref qt, .int va1, .int va2]) (n := 4) (Nat.le_of_ble_eq_true rfl)
  rw [lg_entry_eq]
  generalize (lg_sl ([.ref qt, .int va1, .int va2]) ++ List.replicate (4 - (lg_sl ([.ref qt, .int va1, .int va2])).length) Slot.unset).toArray = ls at hl ⊢
  have hl : lv_has ls 4 [(0, .ref qt), (1, .int va1), (2, .int va2)] := hl
  refine kgen (fun Q hQ => ?_)
  rw [f_X11_again] at hf
  refine lv_aload_n hx hb dX11_again_0 rfl (lv_at hl 0 rfl) ?_
  refine lv_iload_n hx hb dX11_again_1 rfl (lv_at hl 1 rfl) ?_
  refine lv_iload_n hx hb dX11_again_2 rfl (lv_at hl 2 rfl) ?_
  obtain ⟨r3, o3_0, o3_1, hq_3, hf⟩ := bnd3_s hf
  refine kcalli (wc := [(qt, .inr (11, [.ref qt_now, .ref xt_past, .int (it_saved), .ref xt_text, .int (it_length), .ref xt_doors, .int (it_doorMany), .ref qt_label, .int (it_drawn), .ref qt_far, .ref qt_ring, .int (it_walker), .int (it_from), .ref xt_was, .int (it_steps), .int (it_faultAt), .int (it_mover)])), (qt_now, .inl (cy.1, 639, .inl (ft_now))), (qt_far, .inl (cy.1, 210, .inl (ft_far))), (qt_ring, .inl (cy.1, 210, .inl (ft_ring)))]) (wr := [(qt_label, .inl (cy.1, 210, .inl (ft_label)))]) (w1 := [(qt, .inr (11, [.ref qt_now, .ref xt_past, .int (it_saved), .ref xt_text, .int (it_length), .ref xt_doors, .int (it_doorMany), .ref qt_label, .int (it_drawn), .ref qt_far, .ref qt_ring, .int (it_walker), .int (it_from), .ref xt_was, .int (it_steps), .int (it_faultAt), .int (it_mover)])), (qt_now, .inl (cy.1, 639, .inl (ft_now))), (qt_far, .inl (cy.1, 210, .inl (o3_0))), (qt_ring, .inl (cy.1, 210, .inl (o3_1)))]) hK hP hD hS hA hG [0, 1, 3, 4] [2] rfl rfl rfl rfl rfl (fun hU hPc => va_runV (As := [.int va1, .int va2]) (rest := []) ⟨hx, hb, hml, hown, hts⟩ (c_X11_distance l dC dI cy G s.heap.size qt qt_now qt_far qt_ring xt_past xt_text xt_doors qt_label xt_was (it_saved) (it_length) (it_doorMany) (it_drawn) (it_walker) (it_from) (it_steps) (it_faultAt) (it_mover) N (ft_now) (ft_far) (ft_ring) (va1) (va2) (r3, o3_0, o3_1) hq_3) (cwV 2 hts gX11_again_X11_distance rfl rfl rfl hdX11_distance ⟨Nat.le_of_ble_eq_true rfl, Nat.le_of_ble_eq_true rfl⟩) ⟨kBlind, (va_recv hK hP (ci := 11) (q0 := 0) rfl rfl), fun U h1 h2 => ⟨rfl, hU U h1 h2⟩⟩ rfl rfl hl.1 rfl (lv_room (Nat.le_of_ble_eq_true rfl)) dX11_again_3 ⟨Nat.zero_le _, Nat.zero_le _⟩) (r3) (fun _ _ h => h) (fun _ _ h => h) (fun H locs hP hD hS => ?_)
  have hP : va_P (dC, dI) vwCl [(qt_label, .inl (cy.1, 210, .inl (ft_label))), (qt, .inr (11, [.ref qt_now, .ref xt_past, .int (it_saved), .ref xt_text, .int (it_length), .ref xt_doors, .int (it_doorMany), .ref qt_label, .int (it_drawn), .ref qt_far, .ref qt_ring, .int (it_walker), .int (it_from), .ref xt_was, .int (it_steps), .int (it_faultAt), .int (it_mover)])), (qt_now, .inl (cy.1, 639, .inl (ft_now))), (qt_far, .inl (cy.1, 210, .inl (o3_0))), (qt_ring, .inl (cy.1, 210, .inl (o3_1)))] H := hP
  have hD : va_D A [(qt_label, .inl (cy.1, 210, .inl (ft_label))), (qt, .inr (11, [.ref qt_now, .ref xt_past, .int (it_saved), .ref xt_text, .int (it_length), .ref xt_doors, .int (it_doorMany), .ref qt_label, .int (it_drawn), .ref qt_far, .ref qt_ring, .int (it_walker), .int (it_from), .ref xt_was, .int (it_steps), .int (it_faultAt), .int (it_mover)])), (qt_now, .inl (cy.1, 639, .inl (ft_now))), (qt_far, .inl (cy.1, 210, .inl (o3_0))), (qt_ring, .inl (cy.1, 210, .inl (o3_1)))] := hD
  refine lv_istore_n (lv' := [(3, .int r3), (0, .ref qt), (1, .int va1), (2, .int va2)]) hx hb dX11_again_6 rfl hl (by decide) rfl (fun ls hl => ?_)
  refine lv_iload_n hx hb dX11_again_7 rfl (lv_at hl 0 rfl) ?_
  refine lv_iconst (v := (-1 : Int32)) hx hb dX11_again_8 (by decide) ?_
  refine lv_icmp_ne (tgt := 16) hx hb dX11_again_9 (by decide) (fun hc_9 => ?_) (fun hc_9 => ?_)
  · rw [if_neg hc_9] at hf
    refine lv_aload_n hx hb dX11_again_16 rfl (lv_at hl 1 rfl) ?_
    obtain ⟨r17, o17_0, hq_17, hf⟩ := bnd2_s hf
    refine kcalli (wc := [(qt, .inr (11, [.ref qt_now, .ref xt_past, .int (it_saved), .ref xt_text, .int (it_length), .ref xt_doors, .int (it_doorMany), .ref qt_label, .int (it_drawn), .ref qt_far, .ref qt_ring, .int (it_walker), .int (it_from), .ref xt_was, .int (it_steps), .int (it_faultAt), .int (it_mover)])), (qt_now, .inl (cy.1, 639, .inl (ft_now))), (qt_label, .inl (cy.1, 210, .inl (ft_label)))]) (wr := [(qt_far, .inl (cy.1, 210, .inl (o3_0))), (qt_ring, .inl (cy.1, 210, .inl (o3_1)))]) (w1 := [(qt, .inr (11, [.ref qt_now, .ref xt_past, .int (it_saved), .ref xt_text, .int (it_length), .ref xt_doors, .int (it_doorMany), .ref qt_label, .int (it_drawn), .ref qt_far, .ref qt_ring, .int (it_walker), .int (it_from), .ref xt_was, .int (it_steps), .int (it_faultAt), .int (it_mover)])), (qt_now, .inl (cy.1, 639, .inl (ft_now))), (qt_label, .inl (cy.1, 210, .inl (o17_0)))]) hK hP hD hS hA hG [1, 2, 0] [3, 4] rfl rfl rfl rfl rfl (fun hU hPc => va_runV (As := []) (rest := []) ⟨hx, hb, hml, hown, hts⟩ (c_X11_isSingle l dC dI cy G H.size qt qt_now qt_label xt_past xt_text xt_doors qt_far qt_ring xt_was (it_saved) (it_length) (it_doorMany) (it_drawn) (it_walker) (it_from) (it_steps) (it_faultAt) (it_mover) N (ft_now) (ft_label) (r17, o17_0) hq_17) (cwV 0 hts gX11_again_X11_isSingle rfl rfl rfl hdX11_isSingle ⟨Nat.le_of_ble_eq_true rfl, Nat.le_of_ble_eq_true rfl⟩) ⟨kBlind, (va_recv hK hP (ci := 11) (q0 := 1) rfl rfl), fun U h1 h2 => ⟨rfl, hU U h1 h2⟩⟩ rfl rfl hl.1 rfl (lv_room (Nat.le_of_ble_eq_true rfl)) dX11_again_17 ⟨Nat.zero_le _, Nat.zero_le _⟩) (r17) (fun _ _ h => h) (fun _ _ h => h) (fun H locs hP hD hS => ?_)
    have hP : va_P (dC, dI) vwCl [(qt_far, .inl (cy.1, 210, .inl (o3_0))), (qt_ring, .inl (cy.1, 210, .inl (o3_1))), (qt, .inr (11, [.ref qt_now, .ref xt_past, .int (it_saved), .ref xt_text, .int (it_length), .ref xt_doors, .int (it_doorMany), .ref qt_label, .int (it_drawn), .ref qt_far, .ref qt_ring, .int (it_walker), .int (it_from), .ref xt_was, .int (it_steps), .int (it_faultAt), .int (it_mover)])), (qt_now, .inl (cy.1, 639, .inl (ft_now))), (qt_label, .inl (cy.1, 210, .inl (o17_0)))] H := hP
    have hD : va_D A [(qt_far, .inl (cy.1, 210, .inl (o3_0))), (qt_ring, .inl (cy.1, 210, .inl (o3_1))), (qt, .inr (11, [.ref qt_now, .ref xt_past, .int (it_saved), .ref xt_text, .int (it_length), .ref xt_doors, .int (it_doorMany), .ref qt_label, .int (it_drawn), .ref qt_far, .ref qt_ring, .int (it_walker), .int (it_from), .ref xt_was, .int (it_steps), .int (it_faultAt), .int (it_mover)])), (qt_now, .inl (cy.1, 639, .inl (ft_now))), (qt_label, .inl (cy.1, 210, .inl (o17_0)))] := hD
    refine lv_if_eq (tgt := 27) hx hb dX11_again_20 (by decide) (fun hc_20 => ?_) (fun hc_20 => ?_)
    · rw [if_pos hc_20] at hf
      refine lv_bipush (v := (-2 : Int32)) hx hb dX11_again_27 (by decide) ?_
      cases hf
      subst hQ
      exact kiret hx hb hr hlocks hK (hP.sub [2, 3, 4, 0, 1] rfl) (hD.sub [2, 3, 4, 0, 1] (by decide) rfl) hS rfl dX11_again_29
    · rw [if_neg hc_20] at hf
      refine lv_iload_n hx hb dX11_again_23 rfl (lv_at hl 0 rfl) ?_
      refine lv_goto (tgt := 29) hx hb dX11_again_24 (by decide) ?_
      cases hf
      subst hQ
      exact kiret hx hb hr hlocks hK (hP.sub [2, 3, 4, 0, 1] rfl) (hD.sub [2, 3, 4, 0, 1] (by decide) rfl) hS rfl dX11_again_29
  · rw [if_pos hc_9] at hf
    refine lv_iload_n hx hb dX11_again_12 rfl (lv_at hl 0 rfl) ?_
    refine lv_goto (tgt := 29) hx hb dX11_again_13 (by decide) ?_
    cases hf
    subst hQ
    exact kiret hx hb hr hlocks hK (hP.sub [1, 2, 0, 3, 4] rfl) (hD.sub [1, 2, 0, 3, 4] (by decide) rfl) hS rfl dX11_again_29
theorem hdX11_again : yX11_again.cls = RX11 ∧ yX11_again.cls ≠ "java/lang/invoke/MethodHandle" ∧ yX11_again.cls ≠ "java/lang/invoke/VarHandle" ∧ (parseMethodDescriptor yX11_again.desc).map (fun d => d.parameters.length) = some 2 := by decide +kernel
noncomputable def b_X11_leads_2 (N : Nat) (ft_now : Nat → Int32) (ft_far : Nat → Int32) (va1 : Int32) : Nat → Int32 → Option (Int32)
  | 0, _ => none
  | n + 1, l2 =>
    if (4 : Int32) ≤ l2 then
      some ((-1 : Int32))
    else
      bnd1 (f_X11_isOpen (ft_now) (va1) (l2)) fun r10 =>
      if r10 = 0 then
        b_X11_leads_2 N ft_now ft_far va1 n ((l2 + (1 : Int32)))
      else
        bnd1 (f_X11_beside (ft_now) (va1) (l2)) fun r23 =>
        if r23 < 0 ∨ 210 ≤ (r23).toNatClampNeg then none else
        if va1 < 0 ∨ 210 ≤ (va1).toNatClampNeg then none else
        if (ft_far (r23).toNatClampNeg) = ((ft_far (va1).toNatClampNeg) - (1 : Int32)) then
          some (l2)
        else
          b_X11_leads_2 N ft_now ft_far va1 n ((l2 + (1 : Int32)))
noncomputable def f_X11_leads (N : Nat) (ft_now : Nat → Int32) (ft_far : Nat → Int32) (va1 : Int32) : Option (Int32) :=
  b_X11_leads_2 N ft_now ft_far va1 N ((0 : Int32))
abbrev rm_X11_leads : Room := { frames := 6, cells := 0, slots := 0, locals := 135 }
set_option maxHeartbeats 4000000 in
set_option maxRecDepth 100000 in
theorem c_X11_leads (l : Launch) (dC : Nat → ClassId) (dI : Nat → Nat → Nat) (cy : gC) (G : gT) (sz : Nat) (qt : Nat) (qt_now : Nat) (qt_far : Nat) (xt_past : Nat) (xt_text : Nat) (xt_doors : Nat) (xt_label : Nat) (xt_ring : Nat) (xt_was : Nat) (it_saved : Int32) (it_length : Int32) (it_doorMany : Int32) (it_drawn : Int32) (it_walker : Int32) (it_from : Int32) (it_steps : Int32) (it_faultAt : Int32) (it_mover : Int32) (N : Nat) (ft_now : Nat → Int32) (ft_far : Nat → Int32) (va1 : Int32) (out : Int32) (hf : f_X11_leads N ft_now ft_far va1 = some out) : Met l yX11_leads wsX11_leads rm_X11_leads (va_Pc [.ref qt, .int va1] (kP (dC, dI) cy G [(qt, .inr (11, [.ref qt_now, .ref xt_past, .int (it_saved), .ref xt_text, .int (it_length), .ref xt_doors, .int (it_doorMany), .ref xt_label, .int (it_drawn), .ref qt_far, .ref xt_ring, .int (it_walker), .int (it_from), .ref xt_was, .int (it_steps), .int (it_faultAt), .int (it_mover)])), (qt_now, .inl (cy.1, 639, .inl (ft_now))), (qt_far, .inl (cy.1, 210, .inl (ft_far)))] sz)) (va_Qi (fun r (_ : Unit) => r = out) (fun _ => kQ (dC, dI) cy [(qt, .inr (11, [.ref qt_now, .ref xt_past, .int (it_saved), .ref xt_text, .int (it_length), .ref xt_doors, .int (it_doorMany), .ref xt_label, .int (it_drawn), .ref qt_far, .ref xt_ring, .int (it_walker), .int (it_from), .ref xt_was, .int (it_steps), .int (it_faultAt), .int (it_mover)])), (qt_now, .inl (cy.1, 639, .inl (ft_now))), (qt_far, .inl (cy.1, 210, .inl (ft_far)))] (va_A [(qt, .inr (11, [.ref qt_now, .ref xt_past, .int (it_saved), .ref xt_text, .int (it_length), .ref xt_doors, .int (it_doorMany), .ref xt_label, .int (it_drawn), .ref qt_far, .ref xt_ring, .int (it_walker), .int (it_from), .ref xt_was, .int (it_steps), .int (it_faultAt), .int (it_mover)])), (qt_now, .inl (cy.1, 639, .inl (ft_now))), (qt_far, .inl (cy.1, 210, .inl (ft_far)))] sz)) (va_A [(qt, .inr (11, [.ref qt_now, .ref xt_past, .int (it_saved), .ref xt_text, .int (it_length), .ref xt_doors, .int (it_doorMany), .ref xt_label, .int (it_drawn), .ref qt_far, .ref xt_ring, .int (it_walker), .int (it_from), .ref xt_was, .int (it_steps), .int (it_faultAt), .int (it_mover)])), (qt_now, .inl (cy.1, 639, .inl (ft_now))), (qt_far, .inl (cy.1, 210, .inl (ft_far)))] sz)) 0 0 (va_A [(qt, .inr (11, [.ref qt_now, .ref xt_past, .int (it_saved), .ref xt_text, .int (it_length), .ref xt_doors, .int (it_doorMany), .ref xt_label, .int (it_drawn), .ref qt_far, .ref xt_ring, .int (it_walker), .int (it_from), .ref xt_was, .int (it_steps), .int (it_faultAt), .int (it_mover)])), (qt_now, .inl (cy.1, 639, .inl (ft_now))), (qt_far, .inl (cy.1, 210, .inl (ft_far)))] sz) := by
  refine Met.ofW (cc := cX11_leads) (maxL := 3) (ret := (some .int)) (by decide) rfl ?_
  intro p e s m args below meth c s₁ B hml hv
  obtain ⟨rfl, hsz, hP, hK, hD0, hG⟩ := hv
  have hx := B.exec
  have hb := B.bytes
  have hr := B.returns
  have hts := atoms_spec (ws := wsX11_leads) B.pre
  have hown : s.vm.findClass RX11 = some m.cls := findClass_of_methodNamed B.named
  have hlocks := B.notSynchronized
  subst hsz
  have hD := hD0.self (sz := s.heap.size)
  generalize hAe : va_A [(qt, .inr (11, [.ref qt_now, .ref xt_past, .int (it_saved), .ref xt_text, .int (it_length), .ref xt_doors, .int (it_doorMany), .ref xt_label, .int (it_drawn), .ref qt_far, .ref xt_ring, .int (it_walker), .int (it_from), .ref xt_was, .int (it_steps), .int (it_faultAt), .int (it_mover)])), (qt_now, .inl (cy.1, 639, .inl (ft_now))), (qt_far, .inl (cy.1, 210, .inl (ft_far)))] s.heap.size = A at hD hG ⊢
  have hA : ∀ q : Nat, s.heap.size ≤ q → A q := fun q h => by rw [← hAe]; exact Or.inr h
  have hS : va_S A s.heap s.heap [] := va_S.rf
  have hP : va_P (dC, dI) vwCl [(qt, .inr (11, [.ref qt_now, .ref xt_past, .int (it_saved), .ref xt_text, .int (it_length), .ref xt_doors, .int (it_doorMany), .ref xt_label, .int (it_drawn), .ref qt_far, .ref xt_ring, .int (it_walker), .int (it_from), .ref xt_was, .int (it_steps), .int (it_faultAt), .int (it_mover)])), (qt_now, .inl (cy.1, 639, .inl (ft_now))), (qt_far, .inl (cy.1, 210, .inl (ft_far)))] s.heap := hP
  have hl := lv_entry ([.ref qt, .int va1]) (n := 3) (Nat.le_of_ble_eq_true rfl)
  rw [lg_entry_eq]
  generalize (lg_sl ([.ref qt, .int va1]) ++ List.replicate (3 - (lg_sl ([.ref qt, .int va1])).length) Slot.unset).toArray = ls at hl ⊢
  have hl : lv_has ls 3 [(0, .ref qt), (1, .int va1)] := hl
  refine kgen (fun Q hQ => ?_)
  have B2 : ∀ (n2 : Nat) (l2 : Int32) (H : Heap) (locs : List Loc), va_P (dC, dI) vwCl [(qt, .inr (11, [.ref qt_now, .ref xt_past, .int (it_saved), .ref xt_text, .int (it_length), .ref xt_doors, .int (it_doorMany), .ref xt_label, .int (it_drawn), .ref qt_far, .ref xt_ring, .int (it_walker), .int (it_from), .ref xt_was, .int (it_steps), .int (it_faultAt), .int (it_mover)])), (qt_now, .inl (cy.1, 639, .inl (ft_now))), (qt_far, .inl (cy.1, 210, .inl (ft_far)))] H → va_D A [(qt, .inr (11, [.ref qt_now, .ref xt_past, .int (it_saved), .ref xt_text, .int (it_length), .ref xt_doors, .int (it_doorMany), .ref xt_label, .int (it_drawn), .ref qt_far, .ref xt_ring, .int (it_walker), .int (it_from), .ref xt_was, .int (it_steps), .int (it_faultAt), .int (it_mover)])), (qt_now, .inl (cy.1, 639, .inl (ft_now))), (qt_far, .inl (cy.1, 210, .inl (ft_far)))] → va_S A s.heap H locs → ∀ (ls : Array Slot), lv_has ls 3 [(0, .ref qt), (1, .int va1), (2, .int l2)] → b_X11_leads_2 N ft_now ft_far va1 n2 l2 = some out → W p l e (headSpec wsX11_leads rm_X11_leads).room s m ([.ref qt, .int va1] : List Value).toArray below meth c H locs 0 0 Q (F0 m 2 ls []) := by
    intro n2
    induction n2 with
    | zero => intro l2 H locs hP hD hS ls hl hf; rw [b_X11_leads_2] at hf; cases hf
    | succ n2 ih2 =>
      intro l2 H locs hP hD hS ls hl hf
      rw [b_X11_leads_2] at hf
      refine lv_iload_n hx hb dX11_leads_2 rfl (lv_at hl 2 rfl) ?_
      refine lv_iconst (v := (4 : Int32)) hx hb dX11_leads_3 (by decide) ?_
      refine lv_icmp_ge (tgt := 46) hx hb dX11_leads_4 (by decide) (fun hc_4 => ?_) (fun hc_4 => ?_)
      · rw [if_pos hc_4] at hf
        refine lv_iconst (v := (-1 : Int32)) hx hb dX11_leads_46 (by decide) ?_
        cases hf
        subst hQ
        exact kiret hx hb hr hlocks hK (hP.sub [0, 1, 2] rfl) (hD.sub [0, 1, 2] (by decide) rfl) hS rfl dX11_leads_47
      · rw [if_neg hc_4] at hf
        refine lv_aload_n hx hb dX11_leads_7 rfl (lv_at hl 0 rfl) ?_
        refine lv_iload_n hx hb dX11_leads_8 rfl (lv_at hl 1 rfl) ?_
        refine lv_iload_n hx hb dX11_leads_9 rfl (lv_at hl 2 rfl) ?_
        obtain ⟨r10, hq_10, hf⟩ := bnd1_s hf
        refine kcalli (wc := [(qt, .inr (11, [.ref qt_now, .ref xt_past, .int (it_saved), .ref xt_text, .int (it_length), .ref xt_doors, .int (it_doorMany), .ref xt_label, .int (it_drawn), .ref qt_far, .ref xt_ring, .int (it_walker), .int (it_from), .ref xt_was, .int (it_steps), .int (it_faultAt), .int (it_mover)])), (qt_now, .inl (cy.1, 639, .inl (ft_now)))]) (wr := [(qt_far, .inl (cy.1, 210, .inl (ft_far)))]) (w1 := [(qt, .inr (11, [.ref qt_now, .ref xt_past, .int (it_saved), .ref xt_text, .int (it_length), .ref xt_doors, .int (it_doorMany), .ref xt_label, .int (it_drawn), .ref qt_far, .ref xt_ring, .int (it_walker), .int (it_from), .ref xt_was, .int (it_steps), .int (it_faultAt), .int (it_mover)])), (qt_now, .inl (cy.1, 639, .inl (ft_now)))]) hK hP hD hS hA hG [0, 1] [2] rfl rfl rfl rfl rfl (fun hU hPc => va_runV (As := [.int va1, .int l2]) (rest := []) ⟨hx, hb, hml, hown, hts⟩ (c_X11_isOpen l dC dI cy G H.size qt qt_now xt_past xt_text xt_doors xt_label qt_far xt_ring xt_was (it_saved) (it_length) (it_doorMany) (it_drawn) (it_walker) (it_from) (it_steps) (it_faultAt) (it_mover) (ft_now) (va1) (l2) r10 hq_10) (cwV 2 hts gX11_leads_X11_isOpen rfl rfl rfl hdX11_isOpen ⟨Nat.le_of_ble_eq_true rfl, Nat.le_of_ble_eq_true rfl⟩) ⟨kBlind, (va_recv hK hP (ci := 11) (q0 := 0) rfl rfl), fun U h1 h2 => ⟨rfl, hU U h1 h2⟩⟩ rfl rfl hl.1 rfl (lv_room (Nat.le_of_ble_eq_true rfl)) dX11_leads_10 ⟨Nat.zero_le _, Nat.zero_le _⟩) (r10) (fun _ _ h => h) (fun _ _ h => h) (fun H locs hP hD hS => ?_)
        have hP : va_P (dC, dI) vwCl [(qt_far, .inl (cy.1, 210, .inl (ft_far))), (qt, .inr (11, [.ref qt_now, .ref xt_past, .int (it_saved), .ref xt_text, .int (it_length), .ref xt_doors, .int (it_doorMany), .ref xt_label, .int (it_drawn), .ref qt_far, .ref xt_ring, .int (it_walker), .int (it_from), .ref xt_was, .int (it_steps), .int (it_faultAt), .int (it_mover)])), (qt_now, .inl (cy.1, 639, .inl (ft_now)))] H := hP
        have hD : va_D A [(qt_far, .inl (cy.1, 210, .inl (ft_far))), (qt, .inr (11, [.ref qt_now, .ref xt_past, .int (it_saved), .ref xt_text, .int (it_length), .ref xt_doors, .int (it_doorMany), .ref xt_label, .int (it_drawn), .ref qt_far, .ref xt_ring, .int (it_walker), .int (it_from), .ref xt_was, .int (it_steps), .int (it_faultAt), .int (it_mover)])), (qt_now, .inl (cy.1, 639, .inl (ft_now)))] := hD
        refine lv_if_eq (tgt := 40) hx hb dX11_leads_13 (by decide) (fun hc_13 => ?_) (fun hc_13 => ?_)
        · rw [if_pos hc_13] at hf
          refine lv_iinc (v := (l2 + (1 : Int32))) (lv' := [(2, .int (l2 + (1 : Int32))), (0, .ref qt), (1, .int va1)]) hx hb dX11_leads_40 hl (k := 2) rfl rfl (by decide) rfl (fun ls hl => ?_)
          refine lv_goto (tgt := 2) hx hb dX11_leads_43 (by decide) ?_
          exact ih2 ((l2 + (1 : Int32))) _ _ (hP.sub [1, 2, 0] rfl) (hD.sub [1, 2, 0] (by decide) rfl) hS _ (lv_sub hl [1, 2, 0] rfl) hf
        · rw [if_neg hc_13] at hf
          refine lv_aload_n hx hb dX11_leads_16 rfl (lv_at hl 0 rfl) ?_
          refine va_get (D := (dC, dI)) (ci := 11) (C := RX11) (T := TX11) (N := 17) hx hb hts (fun _ h => (List.mem_cons_of_mem _ (List.mem_append_right _ h))) hown hK hP 1 rfl rfl 9 (by decide) (hts _ (List.mem_cons_of_mem _ (List.mem_append_left _ (List.mem_append_left _ (List.mem_of_getElem? (i := 0) rfl))))) (fun _ h => h) rfl dX11_leads_17 ?_
          refine lv_aload_n hx hb dX11_leads_20 rfl (lv_at hl 0 rfl) ?_
          refine lv_iload_n hx hb dX11_leads_21 rfl (lv_at hl 1 rfl) ?_
          refine lv_iload_n hx hb dX11_leads_22 rfl (lv_at hl 2 rfl) ?_
          obtain ⟨r23, hq_23, hf⟩ := bnd1_s hf
          refine kcalli (wc := [(qt, .inr (11, [.ref qt_now, .ref xt_past, .int (it_saved), .ref xt_text, .int (it_length), .ref xt_doors, .int (it_doorMany), .ref xt_label, .int (it_drawn), .ref qt_far, .ref xt_ring, .int (it_walker), .int (it_from), .ref xt_was, .int (it_steps), .int (it_faultAt), .int (it_mover)])), (qt_now, .inl (cy.1, 639, .inl (ft_now)))]) (wr := [(qt_far, .inl (cy.1, 210, .inl (ft_far)))]) (w1 := [(qt, .inr (11, [.ref qt_now, .ref xt_past, .int (it_saved), .ref xt_text, .int (it_length), .ref xt_doors, .int (it_doorMany), .ref xt_label, .int (it_drawn), .ref qt_far, .ref xt_ring, .int (it_walker), .int (it_from), .ref xt_was, .int (it_steps), .int (it_faultAt), .int (it_mover)])), (qt_now, .inl (cy.1, 639, .inl (ft_now)))]) hK hP hD hS hA hG [1, 2] [0] rfl rfl rfl rfl rfl (fun hU hPc => va_runV (As := [.int va1, .int l2]) (rest := [.ref qt_far]) ⟨hx, hb, hml, hown, hts⟩ (c_X11_beside l dC dI cy G H.size qt qt_now xt_past xt_text xt_doors xt_label qt_far xt_ring xt_was (it_saved) (it_length) (it_doorMany) (it_drawn) (it_walker) (it_from) (it_steps) (it_faultAt) (it_mover) (ft_now) (va1) (l2) r23 hq_23) (cwV 2 hts gX11_leads_X11_beside rfl rfl rfl hdX11_beside ⟨Nat.le_of_ble_eq_true rfl, Nat.le_of_ble_eq_true rfl⟩) ⟨kBlind, (va_recv hK hP (ci := 11) (q0 := 1) rfl rfl), fun U h1 h2 => ⟨rfl, hU U h1 h2⟩⟩ rfl rfl hl.1 rfl (lv_room (Nat.le_of_ble_eq_true rfl)) dX11_leads_23 ⟨Nat.zero_le _, Nat.zero_le _⟩) (r23) (fun _ _ h => h) (fun _ _ h => h) (fun H locs hP hD hS => ?_)
          have hP : va_P (dC, dI) vwCl [(qt_far, .inl (cy.1, 210, .inl (ft_far))), (qt, .inr (11, [.ref qt_now, .ref xt_past, .int (it_saved), .ref xt_text, .int (it_length), .ref xt_doors, .int (it_doorMany), .ref xt_label, .int (it_drawn), .ref qt_far, .ref xt_ring, .int (it_walker), .int (it_from), .ref xt_was, .int (it_steps), .int (it_faultAt), .int (it_mover)])), (qt_now, .inl (cy.1, 639, .inl (ft_now)))] H := hP
          have hD : va_D A [(qt_far, .inl (cy.1, 210, .inl (ft_far))), (qt, .inr (11, [.ref qt_now, .ref xt_past, .int (it_saved), .ref xt_text, .int (it_length), .ref xt_doors, .int (it_doorMany), .ref xt_label, .int (it_drawn), .ref qt_far, .ref xt_ring, .int (it_walker), .int (it_from), .ref xt_was, .int (it_steps), .int (it_faultAt), .int (it_mover)])), (qt_now, .inl (cy.1, 639, .inl (ft_now)))] := hD
          obtain ⟨hk_26, hf⟩ := chk_s hf
          refine va_iald hx hb hK hP 0 0 rfl rfl hk_26 dX11_leads_26 ?_
          refine lv_aload_n hx hb dX11_leads_27 rfl (lv_at hl 0 rfl) ?_
          refine va_get (D := (dC, dI)) (ci := 11) (C := RX11) (T := TX11) (N := 17) hx hb hts (fun _ h => (List.mem_cons_of_mem _ (List.mem_append_right _ h))) hown hK hP 1 rfl rfl 9 (by decide) (hts _ (List.mem_cons_of_mem _ (List.mem_append_left _ (List.mem_append_left _ (List.mem_of_getElem? (i := 0) rfl))))) (fun _ h => h) rfl dX11_leads_28 ?_
          refine lv_iload_n hx hb dX11_leads_31 rfl (lv_at hl 1 rfl) ?_
          obtain ⟨hk_32, hf⟩ := chk_s hf
          refine va_iald hx hb hK hP 0 0 rfl rfl hk_32 dX11_leads_32 ?_
          refine lv_iconst (v := (1 : Int32)) hx hb dX11_leads_33 (by decide) ?_
          refine lv_isub hx hb dX11_leads_34 ?_
          refine lv_icmp_ne (tgt := 40) hx hb dX11_leads_35 (by decide) (fun hc_35 => ?_) (fun hc_35 => ?_)
          · rw [if_neg hc_35] at hf
            refine lv_iinc (v := (l2 + (1 : Int32))) (lv' := [(2, .int (l2 + (1 : Int32))), (0, .ref qt), (1, .int va1)]) hx hb dX11_leads_40 hl (k := 2) rfl rfl (by decide) rfl (fun ls hl => ?_)
            refine lv_goto (tgt := 2) hx hb dX11_leads_43 (by decide) ?_
            exact ih2 ((l2 + (1 : Int32))) _ _ (hP.sub [1, 2, 0] rfl) (hD.sub [1, 2, 0] (by decide) rfl) hS _ (lv_sub hl [1, 2, 0] rfl) hf
          · rw [if_pos hc_35] at hf
            refine lv_iload_n hx hb dX11_leads_38 rfl (lv_at hl 2 rfl) ?_
            cases hf
            subst hQ
            exact kiret hx hb hr hlocks hK (hP.sub [1, 2, 0] rfl) (hD.sub [1, 2, 0] (by decide) rfl) hS rfl dX11_leads_39
  rw [f_X11_leads] at hf
  refine lv_iconst (v := (0 : Int32)) hx hb dX11_leads_0 (by decide) ?_
  refine lv_istore_n (lv' := [(2, .int (0 : Int32)), (0, .ref qt), (1, .int va1)]) hx hb dX11_leads_1 rfl hl (by decide) rfl (fun ls hl => ?_)
  exact B2 N ((0 : Int32)) _ _ (hP.sub [0, 1, 2] rfl) (hD.sub [0, 1, 2] (by decide) rfl) hS _ (lv_sub hl [1, 2, 0] rfl) hf
theorem hdX11_leads : yX11_leads.cls = RX11 ∧ yX11_leads.cls ≠ "java/lang/invoke/MethodHandle" ∧ yX11_leads.cls ≠ "java/lang/invoke/VarHandle" ∧ (parseMethodDescriptor yX11_leads.desc).map (fun d => d.parameters.length) = some 1 := by decide +kernel
noncomputable def b_X11_way_46 (N : Nat) (ft_now : Nat → Int32) (va1 : Int32) (va2 : Int32) (va3 : Int32) : Nat → Int32 → Int32 → (Nat → Int32) → (Nat → Int32) → Option (Int32 × (Nat → Int32) × (Nat → Int32))
  | 0, _, _, _, _ => none
  | n + 1, l4, l5, cft_far, cft_ring =>
    if va3 ≤ l5 then
      some (l4, cft_far, cft_ring)
    else
      bnd1 (f_X11_leads N (ft_now) (cft_far) (l4)) fun r58 =>
      bnd1 (f_X11_beside (ft_now) (l4) (r58)) fun r61 =>
      b_X11_way_46 N ft_now va1 va2 va3 n (r61) ((l5 + (1 : Int32))) (cft_far) (cft_ring)
noncomputable def f_X11_way (N : Nat) (ft_now : Nat → Int32) (ft_far : Nat → Int32) (ft_ring : Nat → Int32) (va1 : Int32) (va2 : Int32) (va3 : Int32) : Option (Int32 × (Nat → Int32) × (Nat → Int32)) :=
  bnd1 (f_X11_hasRoom (ft_now) (va1)) fun r2 =>
  if r2 = 0 then
    some ((-1 : Int32), ft_far, ft_ring)
  else
    bnd1 (f_X11_hasRoom (ft_now) (va2)) fun r10 =>
    if r10 = 0 then
      some ((-1 : Int32), ft_far, ft_ring)
    else
      if 0 ≤ va3 then
        bnd2 (f_X11_lays N (ft_now) (ft_far) (ft_ring) (va2)) fun o24_0 o24_1 =>
        if va1 < 0 ∨ 210 ≤ (va1).toNatClampNeg then none else
        if va3 ≤ (o24_0 (va1).toNatClampNeg) then
          b_X11_way_46 N ft_now va1 va2 va3 N (va1) ((0 : Int32)) (o24_0) (o24_1)
        else
          some ((-4 : Int32), o24_0, o24_1)
      else
        some ((-1 : Int32), ft_far, ft_ring)
abbrev rm_X11_way : Room := { frames := 7, cells := 0, slots := 0, locals := 159 }
set_option maxHeartbeats 4000000 in
set_option maxRecDepth 100000 in
theorem c_X11_way (l : Launch) (dC : Nat → ClassId) (dI : Nat → Nat → Nat) (cy : gC) (G : gT) (sz : Nat) (qt : Nat) (qt_now : Nat) (qt_far : Nat) (qt_ring : Nat) (xt_past : Nat) (xt_text : Nat) (xt_doors : Nat) (xt_label : Nat) (xt_was : Nat) (it_saved : Int32) (it_length : Int32) (it_doorMany : Int32) (it_drawn : Int32) (it_walker : Int32) (it_from : Int32) (it_steps : Int32) (it_faultAt : Int32) (it_mover : Int32) (N : Nat) (ft_now : Nat → Int32) (ft_far : Nat → Int32) (ft_ring : Nat → Int32) (va1 : Int32) (va2 : Int32) (va3 : Int32) (out : Int32 × (Nat → Int32) × (Nat → Int32)) (hf : f_X11_way N ft_now ft_far ft_ring va1 va2 va3 = some out) : Met l yX11_way wsX11_way rm_X11_way (va_Pc [.ref qt, .int va1, .int va2, .int va3] (kP (dC, dI) cy G [(qt, .inr (11, [.ref qt_now, .ref xt_past, .int (it_saved), .ref xt_text, .int (it_length), .ref xt_doors, .int (it_doorMany), .ref xt_label, .int (it_drawn), .ref qt_far, .ref qt_ring, .int (it_walker), .int (it_from), .ref xt_was, .int (it_steps), .int (it_faultAt), .int (it_mover)])), (qt_now, .inl (cy.1, 639, .inl (ft_now))), (qt_far, .inl (cy.1, 210, .inl (ft_far))), (qt_ring, .inl (cy.1, 210, .inl (ft_ring)))] sz)) (va_Qi (fun r (_ : Unit) => r = out.1) (fun _ => kQ (dC, dI) cy [(qt, .inr (11, [.ref qt_now, .ref xt_past, .int (it_saved), .ref xt_text, .int (it_length), .ref xt_doors, .int (it_doorMany), .ref xt_label, .int (it_drawn), .ref qt_far, .ref qt_ring, .int (it_walker), .int (it_from), .ref xt_was, .int (it_steps), .int (it_faultAt), .int (it_mover)])), (qt_now, .inl (cy.1, 639, .inl (ft_now))), (qt_far, .inl (cy.1, 210, .inl (out.2.1))), (qt_ring, .inl (cy.1, 210, .inl (out.2.2)))] (va_A [(qt, .inr (11, [.ref qt_now, .ref xt_past, .int (it_saved), .ref xt_text, .int (it_length), .ref xt_doors, .int (it_doorMany), .ref xt_label, .int (it_drawn), .ref qt_far, .ref qt_ring, .int (it_walker), .int (it_from), .ref xt_was, .int (it_steps), .int (it_faultAt), .int (it_mover)])), (qt_now, .inl (cy.1, 639, .inl (ft_now))), (qt_far, .inl (cy.1, 210, .inl (ft_far))), (qt_ring, .inl (cy.1, 210, .inl (ft_ring)))] sz)) (va_A [(qt, .inr (11, [.ref qt_now, .ref xt_past, .int (it_saved), .ref xt_text, .int (it_length), .ref xt_doors, .int (it_doorMany), .ref xt_label, .int (it_drawn), .ref qt_far, .ref qt_ring, .int (it_walker), .int (it_from), .ref xt_was, .int (it_steps), .int (it_faultAt), .int (it_mover)])), (qt_now, .inl (cy.1, 639, .inl (ft_now))), (qt_far, .inl (cy.1, 210, .inl (ft_far))), (qt_ring, .inl (cy.1, 210, .inl (ft_ring)))] sz)) 0 0 (va_A [(qt, .inr (11, [.ref qt_now, .ref xt_past, .int (it_saved), .ref xt_text, .int (it_length), .ref xt_doors, .int (it_doorMany), .ref xt_label, .int (it_drawn), .ref qt_far, .ref qt_ring, .int (it_walker), .int (it_from), .ref xt_was, .int (it_steps), .int (it_faultAt), .int (it_mover)])), (qt_now, .inl (cy.1, 639, .inl (ft_now))), (qt_far, .inl (cy.1, 210, .inl (ft_far))), (qt_ring, .inl (cy.1, 210, .inl (ft_ring)))] sz) := by
  refine Met.ofW (cc := cX11_way) (maxL := 6) (ret := (some .int)) (by decide) rfl ?_
  intro p e s m args below meth c s₁ B hml hv
  obtain ⟨rfl, hsz, hP, hK, hD0, hG⟩ := hv
  have hx := B.exec
  have hb := B.bytes
  have hr := B.returns
  have hts := atoms_spec (ws := wsX11_way) B.pre
  have hown : s.vm.findClass RX11 = some m.cls := findClass_of_methodNamed B.named
  have hlocks := B.notSynchronized
  subst hsz
  have hD := hD0.self (sz := s.heap.size)
  generalize hAe : va_A [(qt, .inr (11, [.ref qt_now, .ref xt_past, .int (it_saved), .ref xt_text, .int (it_length), .ref xt_doors, .int (it_doorMany), .ref xt_label, .int (it_drawn), .ref qt_far, .ref qt_ring, .int (it_walker), .int (it_from), .ref xt_was, .int (it_steps), .int (it_faultAt), .int (it_mover)])), (qt_now, .inl (cy.1, 639, .inl (ft_now))), (qt_far, .inl (cy.1, 210, .inl (ft_far))), (qt_ring, .inl (cy.1, 210, .inl (ft_ring)))] s.heap.size = A at hD hG ⊢
  have hA : ∀ q : Nat, s.heap.size ≤ q → A q := fun q h => by rw [← hAe]; exact Or.inr h
  have hS : va_S A s.heap s.heap [] := va_S.rf
  have hP : va_P (dC, dI) vwCl [(qt, .inr (11, [.ref qt_now, .ref xt_past, .int (it_saved), .ref xt_text, .int (it_length), .ref xt_doors, .int (it_doorMany), .ref xt_label, .int (it_drawn), .ref qt_far, .ref qt_ring, .int (it_walker), .int (it_from), .ref xt_was, .int (it_steps), .int (it_faultAt), .int (it_mover)])), (qt_now, .inl (cy.1, 639, .inl (ft_now))), (qt_far, .inl (cy.1, 210, .inl (ft_far))), (qt_ring, .inl (cy.1, 210, .inl (ft_ring)))] s.heap := hP
  have hl := lv_entry ([.ref qt, .int va1, .int va2, .int va3]) (n := 6) (Nat.le_of_ble_eq_true rfl)
  rw [lg_entry_eq]
  generalize (lg_sl ([.ref qt, .int va1, .int va2, .int va3]) ++ List.replicate (6 - (lg_sl ([.ref qt, .int va1, .int va2, .int va3])).length) Slot.unset).toArray = ls at hl ⊢
  have hl : lv_has ls 6 [(0, .ref qt), (1, .int va1), (2, .int va2), (3, .int va3)] := hl
  refine kgen (fun Q hQ => ?_)
  have B46 : ∀ (n46 : Nat) (l4 : Int32) (l5 : Int32) (cft_far : Nat → Int32) (cft_ring : Nat → Int32) (H : Heap) (locs : List Loc), va_P (dC, dI) vwCl [(qt, .inr (11, [.ref qt_now, .ref xt_past, .int (it_saved), .ref xt_text, .int (it_length), .ref xt_doors, .int (it_doorMany), .ref xt_label, .int (it_drawn), .ref qt_far, .ref qt_ring, .int (it_walker), .int (it_from), .ref xt_was, .int (it_steps), .int (it_faultAt), .int (it_mover)])), (qt_now, .inl (cy.1, 639, .inl (ft_now))), (qt_far, .inl (cy.1, 210, .inl (cft_far))), (qt_ring, .inl (cy.1, 210, .inl (cft_ring)))] H → va_D A [(qt, .inr (11, [.ref qt_now, .ref xt_past, .int (it_saved), .ref xt_text, .int (it_length), .ref xt_doors, .int (it_doorMany), .ref xt_label, .int (it_drawn), .ref qt_far, .ref qt_ring, .int (it_walker), .int (it_from), .ref xt_was, .int (it_steps), .int (it_faultAt), .int (it_mover)])), (qt_now, .inl (cy.1, 639, .inl (ft_now))), (qt_far, .inl (cy.1, 210, .inl (cft_far))), (qt_ring, .inl (cy.1, 210, .inl (cft_ring)))] → va_S A s.heap H locs → ∀ (ls : Array Slot), lv_has ls 6 [(0, .ref qt), (3, .int va3), (4, .int l4), (5, .int l5)] → b_X11_way_46 N ft_now va1 va2 va3 n46 l4 l5 cft_far cft_ring = some out → W p l e (headSpec wsX11_way rm_X11_way).room s m ([.ref qt, .int va1, .int va2, .int va3] : List Value).toArray below meth c H locs 0 0 Q (F0 m 46 ls []) := by
    intro n46
    induction n46 with
    | zero => intro l4 l5 cft_far cft_ring H locs hP hD hS ls hl hf; rw [b_X11_way_46] at hf; cases hf
    | succ n46 ih46 =>
      intro l4 l5 cft_far cft_ring H locs hP hD hS ls hl hf
      rw [b_X11_way_46] at hf
      refine lv_iload hx hb dX11_way_46 (lv_at hl 3 rfl) ?_
      refine lv_iload_n hx hb dX11_way_48 rfl (lv_at hl 1 rfl) ?_
      refine lv_icmp_ge (tgt := 72) hx hb dX11_way_49 (by decide) (fun hc_49 => ?_) (fun hc_49 => ?_)
      · rw [if_pos hc_49] at hf
        refine lv_iload hx hb dX11_way_72 (lv_at hl 2 rfl) ?_
        cases hf
        subst hQ
        exact kiret hx hb hr hlocks hK (hP.sub [0, 1, 2, 3] rfl) (hD.sub [0, 1, 2, 3] (by decide) rfl) hS rfl dX11_way_74
      · rw [if_neg hc_49] at hf
        refine lv_aload_n hx hb dX11_way_52 rfl (lv_at hl 0 rfl) ?_
        refine lv_iload hx hb dX11_way_53 (lv_at hl 2 rfl) ?_
        refine lv_aload_n hx hb dX11_way_55 rfl (lv_at hl 0 rfl) ?_
        refine lv_iload hx hb dX11_way_56 (lv_at hl 2 rfl) ?_
        obtain ⟨r58, hq_58, hf⟩ := bnd1_s hf
        refine kcalli (wc := [(qt, .inr (11, [.ref qt_now, .ref xt_past, .int (it_saved), .ref xt_text, .int (it_length), .ref xt_doors, .int (it_doorMany), .ref xt_label, .int (it_drawn), .ref qt_far, .ref qt_ring, .int (it_walker), .int (it_from), .ref xt_was, .int (it_steps), .int (it_faultAt), .int (it_mover)])), (qt_now, .inl (cy.1, 639, .inl (ft_now))), (qt_far, .inl (cy.1, 210, .inl (cft_far)))]) (wr := [(qt_ring, .inl (cy.1, 210, .inl (cft_ring)))]) (w1 := [(qt, .inr (11, [.ref qt_now, .ref xt_past, .int (it_saved), .ref xt_text, .int (it_length), .ref xt_doors, .int (it_doorMany), .ref xt_label, .int (it_drawn), .ref qt_far, .ref qt_ring, .int (it_walker), .int (it_from), .ref xt_was, .int (it_steps), .int (it_faultAt), .int (it_mover)])), (qt_now, .inl (cy.1, 639, .inl (ft_now))), (qt_far, .inl (cy.1, 210, .inl (cft_far)))]) hK hP hD hS hA hG [0, 1, 2] [3] rfl rfl rfl rfl rfl (fun hU hPc => va_runV (As := [.int l4]) (rest := [.int l4, .ref qt]) ⟨hx, hb, hml, hown, hts⟩ (c_X11_leads l dC dI cy G H.size qt qt_now qt_far xt_past xt_text xt_doors xt_label qt_ring xt_was (it_saved) (it_length) (it_doorMany) (it_drawn) (it_walker) (it_from) (it_steps) (it_faultAt) (it_mover) N (ft_now) (cft_far) (l4) r58 hq_58) (cwV 1 hts gX11_way_X11_leads rfl rfl rfl hdX11_leads ⟨Nat.le_of_ble_eq_true rfl, Nat.le_of_ble_eq_true rfl⟩) ⟨kBlind, (va_recv hK hP (ci := 11) (q0 := 0) rfl rfl), fun U h1 h2 => ⟨rfl, hU U h1 h2⟩⟩ rfl rfl hl.1 rfl (lv_room (Nat.le_of_ble_eq_true rfl)) dX11_way_58 ⟨Nat.zero_le _, Nat.zero_le _⟩) (r58) (fun _ _ h => h) (fun _ _ h => h) (fun H locs hP hD hS => ?_)
        have hP : va_P (dC, dI) vwCl [(qt_ring, .inl (cy.1, 210, .inl (cft_ring))), (qt, .inr (11, [.ref qt_now, .ref xt_past, .int (it_saved), .ref xt_text, .int (it_length), .ref xt_doors, .int (it_doorMany), .ref xt_label, .int (it_drawn), .ref qt_far, .ref qt_ring, .int (it_walker), .int (it_from), .ref xt_was, .int (it_steps), .int (it_faultAt), .int (it_mover)])), (qt_now, .inl (cy.1, 639, .inl (ft_now))), (qt_far, .inl (cy.1, 210, .inl (cft_far)))] H := hP
        have hD : va_D A [(qt_ring, .inl (cy.1, 210, .inl (cft_ring))), (qt, .inr (11, [.ref qt_now, .ref xt_past, .int (it_saved), .ref xt_text, .int (it_length), .ref xt_doors, .int (it_doorMany), .ref xt_label, .int (it_drawn), .ref qt_far, .ref qt_ring, .int (it_walker), .int (it_from), .ref xt_was, .int (it_steps), .int (it_faultAt), .int (it_mover)])), (qt_now, .inl (cy.1, 639, .inl (ft_now))), (qt_far, .inl (cy.1, 210, .inl (cft_far)))] := hD
        obtain ⟨r61, hq_61, hf⟩ := bnd1_s hf
        refine kcalli (wc := [(qt, .inr (11, [.ref qt_now, .ref xt_past, .int (it_saved), .ref xt_text, .int (it_length), .ref xt_doors, .int (it_doorMany), .ref xt_label, .int (it_drawn), .ref qt_far, .ref qt_ring, .int (it_walker), .int (it_from), .ref xt_was, .int (it_steps), .int (it_faultAt), .int (it_mover)])), (qt_now, .inl (cy.1, 639, .inl (ft_now)))]) (wr := [(qt_ring, .inl (cy.1, 210, .inl (cft_ring))), (qt_far, .inl (cy.1, 210, .inl (cft_far)))]) (w1 := [(qt, .inr (11, [.ref qt_now, .ref xt_past, .int (it_saved), .ref xt_text, .int (it_length), .ref xt_doors, .int (it_doorMany), .ref xt_label, .int (it_drawn), .ref qt_far, .ref qt_ring, .int (it_walker), .int (it_from), .ref xt_was, .int (it_steps), .int (it_faultAt), .int (it_mover)])), (qt_now, .inl (cy.1, 639, .inl (ft_now)))]) hK hP hD hS hA hG [1, 2] [0, 3] rfl rfl rfl rfl rfl (fun hU hPc => va_runV (As := [.int l4, .int r58]) (rest := []) ⟨hx, hb, hml, hown, hts⟩ (c_X11_beside l dC dI cy G H.size qt qt_now xt_past xt_text xt_doors xt_label qt_far qt_ring xt_was (it_saved) (it_length) (it_doorMany) (it_drawn) (it_walker) (it_from) (it_steps) (it_faultAt) (it_mover) (ft_now) (l4) (r58) r61 hq_61) (cwV 2 hts gX11_way_X11_beside rfl rfl rfl hdX11_beside ⟨Nat.le_of_ble_eq_true rfl, Nat.le_of_ble_eq_true rfl⟩) ⟨kBlind, (va_recv hK hP (ci := 11) (q0 := 1) rfl rfl), fun U h1 h2 => ⟨rfl, hU U h1 h2⟩⟩ rfl rfl hl.1 rfl (lv_room (Nat.le_of_ble_eq_true rfl)) dX11_way_61 ⟨Nat.zero_le _, Nat.zero_le _⟩) (r61) (fun _ _ h => h) (fun _ _ h => h) (fun H locs hP hD hS => ?_)
        have hP : va_P (dC, dI) vwCl [(qt_ring, .inl (cy.1, 210, .inl (cft_ring))), (qt_far, .inl (cy.1, 210, .inl (cft_far))), (qt, .inr (11, [.ref qt_now, .ref xt_past, .int (it_saved), .ref xt_text, .int (it_length), .ref xt_doors, .int (it_doorMany), .ref xt_label, .int (it_drawn), .ref qt_far, .ref qt_ring, .int (it_walker), .int (it_from), .ref xt_was, .int (it_steps), .int (it_faultAt), .int (it_mover)])), (qt_now, .inl (cy.1, 639, .inl (ft_now)))] H := hP
        have hD : va_D A [(qt_ring, .inl (cy.1, 210, .inl (cft_ring))), (qt_far, .inl (cy.1, 210, .inl (cft_far))), (qt, .inr (11, [.ref qt_now, .ref xt_past, .int (it_saved), .ref xt_text, .int (it_length), .ref xt_doors, .int (it_doorMany), .ref xt_label, .int (it_drawn), .ref qt_far, .ref qt_ring, .int (it_walker), .int (it_from), .ref xt_was, .int (it_steps), .int (it_faultAt), .int (it_mover)])), (qt_now, .inl (cy.1, 639, .inl (ft_now)))] := hD
        refine lv_istore (lv' := [(4, .int r61), (0, .ref qt), (3, .int va3), (5, .int l5)]) hx hb dX11_way_64 hl (by decide) rfl (fun ls hl => ?_)
        refine lv_iinc (v := (l5 + (1 : Int32))) (lv' := [(5, .int (l5 + (1 : Int32))), (4, .int r61), (0, .ref qt), (3, .int va3)]) hx hb dX11_way_66 hl (k := 3) rfl rfl (by decide) rfl (fun ls hl => ?_)
        refine lv_goto (tgt := 46) hx hb dX11_way_69 (by decide) ?_
        exact ih46 (r61) ((l5 + (1 : Int32))) (cft_far) (cft_ring) _ _ (hP.sub [2, 3, 1, 0] rfl) (hD.sub [2, 3, 1, 0] (by decide) rfl) hS _ (lv_sub hl [2, 3, 1, 0] rfl) hf
  rw [f_X11_way] at hf
  refine lv_aload_n hx hb dX11_way_0 rfl (lv_at hl 0 rfl) ?_
  refine lv_iload_n hx hb dX11_way_1 rfl (lv_at hl 1 rfl) ?_
  obtain ⟨r2, hq_2, hf⟩ := bnd1_s hf
  refine kcalli (wc := [(qt, .inr (11, [.ref qt_now, .ref xt_past, .int (it_saved), .ref xt_text, .int (it_length), .ref xt_doors, .int (it_doorMany), .ref xt_label, .int (it_drawn), .ref qt_far, .ref qt_ring, .int (it_walker), .int (it_from), .ref xt_was, .int (it_steps), .int (it_faultAt), .int (it_mover)])), (qt_now, .inl (cy.1, 639, .inl (ft_now)))]) (wr := [(qt_far, .inl (cy.1, 210, .inl (ft_far))), (qt_ring, .inl (cy.1, 210, .inl (ft_ring)))]) (w1 := [(qt, .inr (11, [.ref qt_now, .ref xt_past, .int (it_saved), .ref xt_text, .int (it_length), .ref xt_doors, .int (it_doorMany), .ref xt_label, .int (it_drawn), .ref qt_far, .ref qt_ring, .int (it_walker), .int (it_from), .ref xt_was, .int (it_steps), .int (it_faultAt), .int (it_mover)])), (qt_now, .inl (cy.1, 639, .inl (ft_now)))]) hK hP hD hS hA hG [0, 1] [2, 3] rfl rfl rfl rfl rfl (fun hU hPc => va_runV (As := [.int va1]) (rest := []) ⟨hx, hb, hml, hown, hts⟩ (c_X11_hasRoom l dC dI cy G s.heap.size qt qt_now xt_past xt_text xt_doors xt_label qt_far qt_ring xt_was (it_saved) (it_length) (it_doorMany) (it_drawn) (it_walker) (it_from) (it_steps) (it_faultAt) (it_mover) (ft_now) (va1) r2 hq_2) (cwV 1 hts gX11_way_X11_hasRoom rfl rfl rfl hdX11_hasRoom ⟨Nat.le_of_ble_eq_true rfl, Nat.le_of_ble_eq_true rfl⟩) ⟨kBlind, (va_recv hK hP (ci := 11) (q0 := 0) rfl rfl), fun U h1 h2 => ⟨rfl, hU U h1 h2⟩⟩ rfl rfl hl.1 rfl (lv_room (Nat.le_of_ble_eq_true rfl)) dX11_way_2 ⟨Nat.zero_le _, Nat.zero_le _⟩) (r2) (fun _ _ h => h) (fun _ _ h => h) (fun H locs hP hD hS => ?_)
  have hP : va_P (dC, dI) vwCl [(qt_far, .inl (cy.1, 210, .inl (ft_far))), (qt_ring, .inl (cy.1, 210, .inl (ft_ring))), (qt, .inr (11, [.ref qt_now, .ref xt_past, .int (it_saved), .ref xt_text, .int (it_length), .ref xt_doors, .int (it_doorMany), .ref xt_label, .int (it_drawn), .ref qt_far, .ref qt_ring, .int (it_walker), .int (it_from), .ref xt_was, .int (it_steps), .int (it_faultAt), .int (it_mover)])), (qt_now, .inl (cy.1, 639, .inl (ft_now)))] H := hP
  have hD : va_D A [(qt_far, .inl (cy.1, 210, .inl (ft_far))), (qt_ring, .inl (cy.1, 210, .inl (ft_ring))), (qt, .inr (11, [.ref qt_now, .ref xt_past, .int (it_saved), .ref xt_text, .int (it_length), .ref xt_doors, .int (it_doorMany), .ref xt_label, .int (it_drawn), .ref qt_far, .ref qt_ring, .int (it_walker), .int (it_from), .ref xt_was, .int (it_steps), .int (it_faultAt), .int (it_mover)])), (qt_now, .inl (cy.1, 639, .inl (ft_now)))] := hD
  refine lv_if_eq (tgt := 20) hx hb dX11_way_5 (by decide) (fun hc_5 => ?_) (fun hc_5 => ?_)
  · rw [if_pos hc_5] at hf
    refine lv_iconst (v := (-1 : Int32)) hx hb dX11_way_20 (by decide) ?_
    cases hf
    subst hQ
    exact kiret hx hb hr hlocks hK (hP.sub [2, 3, 0, 1] rfl) (hD.sub [2, 3, 0, 1] (by decide) rfl) hS rfl dX11_way_21
  · rw [if_neg hc_5] at hf
    refine lv_aload_n hx hb dX11_way_8 rfl (lv_at hl 0 rfl) ?_
    refine lv_iload_n hx hb dX11_way_9 rfl (lv_at hl 2 rfl) ?_
    obtain ⟨r10, hq_10, hf⟩ := bnd1_s hf
    refine kcalli (wc := [(qt, .inr (11, [.ref qt_now, .ref xt_past, .int (it_saved), .ref xt_text, .int (it_length), .ref xt_doors, .int (it_doorMany), .ref xt_label, .int (it_drawn), .ref qt_far, .ref qt_ring, .int (it_walker), .int (it_from), .ref xt_was, .int (it_steps), .int (it_faultAt), .int (it_mover)])), (qt_now, .inl (cy.1, 639, .inl (ft_now)))]) (wr := [(qt_far, .inl (cy.1, 210, .inl (ft_far))), (qt_ring, .inl (cy.1, 210, .inl (ft_ring)))]) (w1 := [(qt, .inr (11, [.ref qt_now, .ref xt_past, .int (it_saved), .ref xt_text, .int (it_length), .ref xt_doors, .int (it_doorMany), .ref xt_label, .int (it_drawn), .ref qt_far, .ref qt_ring, .int (it_walker), .int (it_from), .ref xt_was, .int (it_steps), .int (it_faultAt), .int (it_mover)])), (qt_now, .inl (cy.1, 639, .inl (ft_now)))]) hK hP hD hS hA hG [2, 3] [0, 1] rfl rfl rfl rfl rfl (fun hU hPc => va_runV (As := [.int va2]) (rest := []) ⟨hx, hb, hml, hown, hts⟩ (c_X11_hasRoom l dC dI cy G H.size qt qt_now xt_past xt_text xt_doors xt_label qt_far qt_ring xt_was (it_saved) (it_length) (it_doorMany) (it_drawn) (it_walker) (it_from) (it_steps) (it_faultAt) (it_mover) (ft_now) (va2) r10 hq_10) (cwV 1 hts gX11_way_X11_hasRoom rfl rfl rfl hdX11_hasRoom ⟨Nat.le_of_ble_eq_true rfl, Nat.le_of_ble_eq_true rfl⟩) ⟨kBlind, (va_recv hK hP (ci := 11) (q0 := 2) rfl rfl), fun U h1 h2 => ⟨rfl, hU U h1 h2⟩⟩ rfl rfl hl.1 rfl (lv_room (Nat.le_of_ble_eq_true rfl)) dX11_way_10 ⟨Nat.zero_le _, Nat.zero_le _⟩) (r10) (fun _ _ h => h) (fun _ _ h => h) (fun H locs hP hD hS => ?_)
    have hP : va_P (dC, dI) vwCl [(qt_far, .inl (cy.1, 210, .inl (ft_far))), (qt_ring, .inl (cy.1, 210, .inl (ft_ring))), (qt, .inr (11, [.ref qt_now, .ref xt_past, .int (it_saved), .ref xt_text, .int (it_length), .ref xt_doors, .int (it_doorMany), .ref xt_label, .int (it_drawn), .ref qt_far, .ref qt_ring, .int (it_walker), .int (it_from), .ref xt_was, .int (it_steps), .int (it_faultAt), .int (it_mover)])), (qt_now, .inl (cy.1, 639, .inl (ft_now)))] H := hP
    have hD : va_D A [(qt_far, .inl (cy.1, 210, .inl (ft_far))), (qt_ring, .inl (cy.1, 210, .inl (ft_ring))), (qt, .inr (11, [.ref qt_now, .ref xt_past, .int (it_saved), .ref xt_text, .int (it_length), .ref xt_doors, .int (it_doorMany), .ref xt_label, .int (it_drawn), .ref qt_far, .ref qt_ring, .int (it_walker), .int (it_from), .ref xt_was, .int (it_steps), .int (it_faultAt), .int (it_mover)])), (qt_now, .inl (cy.1, 639, .inl (ft_now)))] := hD
    refine lv_if_eq (tgt := 20) hx hb dX11_way_13 (by decide) (fun hc_13 => ?_) (fun hc_13 => ?_)
    · rw [if_pos hc_13] at hf
      refine lv_iconst (v := (-1 : Int32)) hx hb dX11_way_20 (by decide) ?_
      cases hf
      subst hQ
      exact kiret hx hb hr hlocks hK (hP.sub [2, 3, 0, 1] rfl) (hD.sub [2, 3, 0, 1] (by decide) rfl) hS rfl dX11_way_21
    · rw [if_neg hc_13] at hf
      refine lv_iload_n hx hb dX11_way_16 rfl (lv_at hl 3 rfl) ?_
      refine lv_if_ge (tgt := 22) hx hb dX11_way_17 (by decide) (fun hc_17 => ?_) (fun hc_17 => ?_)
      · rw [if_pos hc_17] at hf
        refine lv_aload_n hx hb dX11_way_22 rfl (lv_at hl 0 rfl) ?_
        refine lv_iload_n hx hb dX11_way_23 rfl (lv_at hl 2 rfl) ?_
        obtain ⟨o24_0, o24_1, hq_24, hf⟩ := bnd2_s hf
        refine kcallv (wc := [(qt, .inr (11, [.ref qt_now, .ref xt_past, .int (it_saved), .ref xt_text, .int (it_length), .ref xt_doors, .int (it_doorMany), .ref xt_label, .int (it_drawn), .ref qt_far, .ref qt_ring, .int (it_walker), .int (it_from), .ref xt_was, .int (it_steps), .int (it_faultAt), .int (it_mover)])), (qt_now, .inl (cy.1, 639, .inl (ft_now))), (qt_far, .inl (cy.1, 210, .inl (ft_far))), (qt_ring, .inl (cy.1, 210, .inl (ft_ring)))]) (wr := []) (w1 := [(qt, .inr (11, [.ref qt_now, .ref xt_past, .int (it_saved), .ref xt_text, .int (it_length), .ref xt_doors, .int (it_doorMany), .ref xt_label, .int (it_drawn), .ref qt_far, .ref qt_ring, .int (it_walker), .int (it_from), .ref xt_was, .int (it_steps), .int (it_faultAt), .int (it_mover)])), (qt_now, .inl (cy.1, 639, .inl (ft_now))), (qt_far, .inl (cy.1, 210, .inl (o24_0))), (qt_ring, .inl (cy.1, 210, .inl (o24_1)))]) hK hP hD hS hA hG [2, 3, 0, 1] [] rfl rfl rfl rfl rfl (fun hU hPc => va_runV (As := [.int va2]) (rest := []) ⟨hx, hb, hml, hown, hts⟩ (c_X11_lays l dC dI cy G H.size qt qt_now qt_far qt_ring xt_past xt_text xt_doors xt_label xt_was (it_saved) (it_length) (it_doorMany) (it_drawn) (it_walker) (it_from) (it_steps) (it_faultAt) (it_mover) N (ft_now) (ft_far) (ft_ring) (va2) (o24_0, o24_1) hq_24) (cwV 1 hts gX11_way_X11_lays rfl rfl rfl hdX11_lays ⟨Nat.le_of_ble_eq_true rfl, Nat.le_of_ble_eq_true rfl⟩) ⟨kBlind, (va_recv hK hP (ci := 11) (q0 := 2) rfl rfl), fun U h1 h2 => ⟨rfl, hU U h1 h2⟩⟩ rfl rfl hl.1 rfl (lv_room (Nat.le_of_ble_eq_true rfl)) dX11_way_24 ⟨Nat.zero_le _, Nat.zero_le _⟩) (fun _ _ h => h) (fun H locs hP hD hS => ?_)
        have hP : va_P (dC, dI) vwCl [(qt, .inr (11, [.ref qt_now, .ref xt_past, .int (it_saved), .ref xt_text, .int (it_length), .ref xt_doors, .int (it_doorMany), .ref xt_label, .int (it_drawn), .ref qt_far, .ref qt_ring, .int (it_walker), .int (it_from), .ref xt_was, .int (it_steps), .int (it_faultAt), .int (it_mover)])), (qt_now, .inl (cy.1, 639, .inl (ft_now))), (qt_far, .inl (cy.1, 210, .inl (o24_0))), (qt_ring, .inl (cy.1, 210, .inl (o24_1)))] H := hP
        have hD : va_D A [(qt, .inr (11, [.ref qt_now, .ref xt_past, .int (it_saved), .ref xt_text, .int (it_length), .ref xt_doors, .int (it_doorMany), .ref xt_label, .int (it_drawn), .ref qt_far, .ref qt_ring, .int (it_walker), .int (it_from), .ref xt_was, .int (it_steps), .int (it_faultAt), .int (it_mover)])), (qt_now, .inl (cy.1, 639, .inl (ft_now))), (qt_far, .inl (cy.1, 210, .inl (o24_0))), (qt_ring, .inl (cy.1, 210, .inl (o24_1)))] := hD
        refine lv_aload_n hx hb dX11_way_27 rfl (lv_at hl 0 rfl) ?_
        refine va_get (D := (dC, dI)) (ci := 11) (C := RX11) (T := TX11) (N := 17) hx hb hts (fun _ h => (List.mem_cons_of_mem _ (List.mem_append_right _ h))) hown hK hP 0 rfl rfl 9 (by decide) (hts _ (List.mem_cons_of_mem _ (List.mem_append_left _ (List.mem_append_left _ (List.mem_of_getElem? (i := 0) rfl))))) (fun _ h => h) rfl dX11_way_28 ?_
        refine lv_iload_n hx hb dX11_way_31 rfl (lv_at hl 1 rfl) ?_
        obtain ⟨hk_32, hf⟩ := chk_s hf
        refine va_iald hx hb hK hP 2 0 rfl rfl hk_32 dX11_way_32 ?_
        refine lv_iload_n hx hb dX11_way_33 rfl (lv_at hl 3 rfl) ?_
        refine lv_icmp_ge (tgt := 40) hx hb dX11_way_34 (by decide) (fun hc_34 => ?_) (fun hc_34 => ?_)
        · rw [if_pos hc_34] at hf
          refine lv_iload_n hx hb dX11_way_40 rfl (lv_at hl 1 rfl) ?_
          refine lv_istore (lv' := [(4, .int va1), (0, .ref qt), (1, .int va1), (2, .int va2), (3, .int va3)]) hx hb dX11_way_41 hl (by decide) rfl (fun ls hl => ?_)
          refine lv_iconst (v := (0 : Int32)) hx hb dX11_way_43 (by decide) ?_
          refine lv_istore (lv' := [(5, .int (0 : Int32)), (4, .int va1), (0, .ref qt), (1, .int va1), (2, .int va2), (3, .int va3)]) hx hb dX11_way_44 hl (by decide) rfl (fun ls hl => ?_)
          exact B46 N (va1) ((0 : Int32)) (o24_0) (o24_1) _ _ (hP.sub [0, 1, 2, 3] rfl) (hD.sub [0, 1, 2, 3] (by decide) rfl) hS _ (lv_sub hl [2, 5, 1, 0] rfl) hf
        · rw [if_neg hc_34] at hf
          refine lv_bipush (v := (-4 : Int32)) hx hb dX11_way_37 (by decide) ?_
          cases hf
          subst hQ
          exact kiret hx hb hr hlocks hK (hP.sub [0, 1, 2, 3] rfl) (hD.sub [0, 1, 2, 3] (by decide) rfl) hS rfl dX11_way_39
      · rw [if_neg hc_17] at hf
        refine lv_iconst (v := (-1 : Int32)) hx hb dX11_way_20 (by decide) ?_
        cases hf
        subst hQ
        exact kiret hx hb hr hlocks hK (hP.sub [2, 3, 0, 1] rfl) (hD.sub [2, 3, 0, 1] (by decide) rfl) hS rfl dX11_way_21
theorem hdX11_way : yX11_way.cls = RX11 ∧ yX11_way.cls ≠ "java/lang/invoke/MethodHandle" ∧ yX11_way.cls ≠ "java/lang/invoke/VarHandle" ∧ (parseMethodDescriptor yX11_way.desc).map (fun d => d.parameters.length) = some 3 := by decide +kernel
noncomputable def b_X11_farthestOf_4 (N : Nat) (ft_now : Nat → Int32) (ft_far : Nat → Int32) : Nat → Int32 → Int32 → Option (Int32)
  | 0, _, _ => none
  | n + 1, l1, l2 =>
    if (t_X11_cells (ft_now)) ≤ l2 then
      some (l1)
    else
      if l2 < 0 ∨ 210 ≤ (l2).toNatClampNeg then none else
      if (ft_far (l2).toNatClampNeg) < 0 then
        b_X11_farthestOf_4 N ft_now ft_far n (l1) ((l2 + (1 : Int32)))
      else
        if l1 < 0 then
          b_X11_farthestOf_4 N ft_now ft_far n (l2) ((l2 + (1 : Int32)))
        else
          if l2 < 0 ∨ 210 ≤ (l2).toNatClampNeg then none else
          if l1 < 0 ∨ 210 ≤ (l1).toNatClampNeg then none else
          if (ft_far (l2).toNatClampNeg) ≤ (ft_far (l1).toNatClampNeg) then
            b_X11_farthestOf_4 N ft_now ft_far n (l1) ((l2 + (1 : Int32)))
          else
            b_X11_farthestOf_4 N ft_now ft_far n (l2) ((l2 + (1 : Int32)))
noncomputable def f_X11_farthestOf (N : Nat) (ft_now : Nat → Int32) (ft_far : Nat → Int32) : Option (Int32) :=
  b_X11_farthestOf_4 N ft_now ft_far N ((-1 : Int32)) ((0 : Int32))
abbrev rm_X11_farthestOf : Room := { frames := 2, cells := 0, slots := 0, locals := 40 }
set_option maxHeartbeats 4000000 in
set_option maxRecDepth 100000 in
theorem c_X11_farthestOf (l : Launch) (dC : Nat → ClassId) (dI : Nat → Nat → Nat) (cy : gC) (G : gT) (sz : Nat) (qt : Nat) (qt_now : Nat) (qt_far : Nat) (xt_past : Nat) (xt_text : Nat) (xt_doors : Nat) (xt_label : Nat) (xt_ring : Nat) (xt_was : Nat) (it_saved : Int32) (it_length : Int32) (it_doorMany : Int32) (it_drawn : Int32) (it_walker : Int32) (it_from : Int32) (it_steps : Int32) (it_faultAt : Int32) (it_mover : Int32) (N : Nat) (ft_now : Nat → Int32) (ft_far : Nat → Int32) (out : Int32) (hf : f_X11_farthestOf N ft_now ft_far = some out) : Met l yX11_farthestOf wsX11_farthestOf rm_X11_farthestOf (va_Pc [.ref qt] (kP (dC, dI) cy G [(qt, .inr (11, [.ref qt_now, .ref xt_past, .int (it_saved), .ref xt_text, .int (it_length), .ref xt_doors, .int (it_doorMany), .ref xt_label, .int (it_drawn), .ref qt_far, .ref xt_ring, .int (it_walker), .int (it_from), .ref xt_was, .int (it_steps), .int (it_faultAt), .int (it_mover)])), (qt_now, .inl (cy.1, 639, .inl (ft_now))), (qt_far, .inl (cy.1, 210, .inl (ft_far)))] sz)) (va_Qi (fun r (_ : Unit) => r = out) (fun _ => kQ (dC, dI) cy [(qt, .inr (11, [.ref qt_now, .ref xt_past, .int (it_saved), .ref xt_text, .int (it_length), .ref xt_doors, .int (it_doorMany), .ref xt_label, .int (it_drawn), .ref qt_far, .ref xt_ring, .int (it_walker), .int (it_from), .ref xt_was, .int (it_steps), .int (it_faultAt), .int (it_mover)])), (qt_now, .inl (cy.1, 639, .inl (ft_now))), (qt_far, .inl (cy.1, 210, .inl (ft_far)))] (va_A [(qt, .inr (11, [.ref qt_now, .ref xt_past, .int (it_saved), .ref xt_text, .int (it_length), .ref xt_doors, .int (it_doorMany), .ref xt_label, .int (it_drawn), .ref qt_far, .ref xt_ring, .int (it_walker), .int (it_from), .ref xt_was, .int (it_steps), .int (it_faultAt), .int (it_mover)])), (qt_now, .inl (cy.1, 639, .inl (ft_now))), (qt_far, .inl (cy.1, 210, .inl (ft_far)))] sz)) (va_A [(qt, .inr (11, [.ref qt_now, .ref xt_past, .int (it_saved), .ref xt_text, .int (it_length), .ref xt_doors, .int (it_doorMany), .ref xt_label, .int (it_drawn), .ref qt_far, .ref xt_ring, .int (it_walker), .int (it_from), .ref xt_was, .int (it_steps), .int (it_faultAt), .int (it_mover)])), (qt_now, .inl (cy.1, 639, .inl (ft_now))), (qt_far, .inl (cy.1, 210, .inl (ft_far)))] sz)) 0 0 (va_A [(qt, .inr (11, [.ref qt_now, .ref xt_past, .int (it_saved), .ref xt_text, .int (it_length), .ref xt_doors, .int (it_doorMany), .ref xt_label, .int (it_drawn), .ref qt_far, .ref xt_ring, .int (it_walker), .int (it_from), .ref xt_was, .int (it_steps), .int (it_faultAt), .int (it_mover)])), (qt_now, .inl (cy.1, 639, .inl (ft_now))), (qt_far, .inl (cy.1, 210, .inl (ft_far)))] sz) := by
  refine Met.ofW (cc := cX11_farthestOf) (maxL := 3) (ret := (some .int)) (by decide) rfl ?_
  intro p e s m args below meth c s₁ B hml hv
  obtain ⟨rfl, hsz, hP, hK, hD0, hG⟩ := hv
  have hx := B.exec
  have hb := B.bytes
  have hr := B.returns
  have hts := atoms_spec (ws := wsX11_farthestOf) B.pre
  have hown : s.vm.findClass RX11 = some m.cls := findClass_of_methodNamed B.named
  have hlocks := B.notSynchronized
  subst hsz
  have hD := hD0.self (sz := s.heap.size)
  generalize hAe : va_A [(qt, .inr (11, [.ref qt_now, .ref xt_past, .int (it_saved), .ref xt_text, .int (it_length), .ref xt_doors, .int (it_doorMany), .ref xt_label, .int (it_drawn), .ref qt_far, .ref xt_ring, .int (it_walker), .int (it_from), .ref xt_was, .int (it_steps), .int (it_faultAt), .int (it_mover)])), (qt_now, .inl (cy.1, 639, .inl (ft_now))), (qt_far, .inl (cy.1, 210, .inl (ft_far)))] s.heap.size = A at hD hG ⊢
  have hA : ∀ q : Nat, s.heap.size ≤ q → A q := fun q h => by rw [← hAe]; exact Or.inr h
  have hS : va_S A s.heap s.heap [] := va_S.rf
  have hP : va_P (dC, dI) vwCl [(qt, .inr (11, [.ref qt_now, .ref xt_past, .int (it_saved), .ref xt_text, .int (it_length), .ref xt_doors, .int (it_doorMany), .ref xt_label, .int (it_drawn), .ref qt_far, .ref xt_ring, .int (it_walker), .int (it_from), .ref xt_was, .int (it_steps), .int (it_faultAt), .int (it_mover)])), (qt_now, .inl (cy.1, 639, .inl (ft_now))), (qt_far, .inl (cy.1, 210, .inl (ft_far)))] s.heap := hP
  have hl := lv_entry ([.ref qt]) (n := 3) (Nat.le_of_ble_eq_true rfl)
  rw [lg_entry_eq]
  generalize (lg_sl ([.ref qt]) ++ List.replicate (3 - (lg_sl ([.ref qt])).length) Slot.unset).toArray = ls at hl ⊢
  have hl : lv_has ls 3 [(0, .ref qt)] := hl
  refine kgen (fun Q hQ => ?_)
  have B4 : ∀ (n4 : Nat) (l1 : Int32) (l2 : Int32) (H : Heap) (locs : List Loc), va_P (dC, dI) vwCl [(qt, .inr (11, [.ref qt_now, .ref xt_past, .int (it_saved), .ref xt_text, .int (it_length), .ref xt_doors, .int (it_doorMany), .ref xt_label, .int (it_drawn), .ref qt_far, .ref xt_ring, .int (it_walker), .int (it_from), .ref xt_was, .int (it_steps), .int (it_faultAt), .int (it_mover)])), (qt_now, .inl (cy.1, 639, .inl (ft_now))), (qt_far, .inl (cy.1, 210, .inl (ft_far)))] H → va_D A [(qt, .inr (11, [.ref qt_now, .ref xt_past, .int (it_saved), .ref xt_text, .int (it_length), .ref xt_doors, .int (it_doorMany), .ref xt_label, .int (it_drawn), .ref qt_far, .ref xt_ring, .int (it_walker), .int (it_from), .ref xt_was, .int (it_steps), .int (it_faultAt), .int (it_mover)])), (qt_now, .inl (cy.1, 639, .inl (ft_now))), (qt_far, .inl (cy.1, 210, .inl (ft_far)))] → va_S A s.heap H locs → ∀ (ls : Array Slot), lv_has ls 3 [(0, .ref qt), (1, .int l1), (2, .int l2)] → b_X11_farthestOf_4 N ft_now ft_far n4 l1 l2 = some out → W p l e (headSpec wsX11_farthestOf rm_X11_farthestOf).room s m ([.ref qt] : List Value).toArray below meth c H locs 0 0 Q (F0 m 4 ls []) := by
    intro n4
    induction n4 with
    | zero => intro l1 l2 H locs hP hD hS ls hl hf; rw [b_X11_farthestOf_4] at hf; cases hf
    | succ n4 ih4 =>
      intro l1 l2 H locs hP hD hS ls hl hf
      rw [b_X11_farthestOf_4] at hf
      refine lv_iload_n hx hb dX11_farthestOf_4 rfl (lv_at hl 2 rfl) ?_
      refine lv_aload_n hx hb dX11_farthestOf_5 rfl (lv_at hl 0 rfl) ?_
      refine kcalli (wc := [(qt, .inr (11, [.ref qt_now, .ref xt_past, .int (it_saved), .ref xt_text, .int (it_length), .ref xt_doors, .int (it_doorMany), .ref xt_label, .int (it_drawn), .ref qt_far, .ref xt_ring, .int (it_walker), .int (it_from), .ref xt_was, .int (it_steps), .int (it_faultAt), .int (it_mover)])), (qt_now, .inl (cy.1, 639, .inl (ft_now)))]) (wr := [(qt_far, .inl (cy.1, 210, .inl (ft_far)))]) (w1 := [(qt, .inr (11, [.ref qt_now, .ref xt_past, .int (it_saved), .ref xt_text, .int (it_length), .ref xt_doors, .int (it_doorMany), .ref xt_label, .int (it_drawn), .ref qt_far, .ref xt_ring, .int (it_walker), .int (it_from), .ref xt_was, .int (it_steps), .int (it_faultAt), .int (it_mover)])), (qt_now, .inl (cy.1, 639, .inl (ft_now)))]) hK hP hD hS hA hG [0, 1] [2] rfl rfl rfl rfl rfl (fun hU hPc => va_runV (As := []) (rest := [.int l2]) ⟨hx, hb, hml, hown, hts⟩ (c_X11_cells l dC dI cy G H.size qt qt_now xt_past xt_text xt_doors xt_label qt_far xt_ring xt_was (it_saved) (it_length) (it_doorMany) (it_drawn) (it_walker) (it_from) (it_steps) (it_faultAt) (it_mover) (ft_now) (t_X11_cells (ft_now)) (tot_X11_cells (ft_now))) (cwV 0 hts gX11_farthestOf_X11_cells rfl rfl rfl hdX11_cells ⟨Nat.le_of_ble_eq_true rfl, Nat.le_of_ble_eq_true rfl⟩) ⟨kBlind, (va_recv hK hP (ci := 11) (q0 := 0) rfl rfl), fun U h1 h2 => ⟨rfl, hU U h1 h2⟩⟩ rfl rfl hl.1 rfl (lv_room (Nat.le_of_ble_eq_true rfl)) dX11_farthestOf_6 ⟨Nat.zero_le _, Nat.zero_le _⟩) ((t_X11_cells (ft_now))) (fun _ _ h => h) (fun _ _ h => h) (fun H locs hP hD hS => ?_)
      have hP : va_P (dC, dI) vwCl [(qt_far, .inl (cy.1, 210, .inl (ft_far))), (qt, .inr (11, [.ref qt_now, .ref xt_past, .int (it_saved), .ref xt_text, .int (it_length), .ref xt_doors, .int (it_doorMany), .ref xt_label, .int (it_drawn), .ref qt_far, .ref xt_ring, .int (it_walker), .int (it_from), .ref xt_was, .int (it_steps), .int (it_faultAt), .int (it_mover)])), (qt_now, .inl (cy.1, 639, .inl (ft_now)))] H := hP
      have hD : va_D A [(qt_far, .inl (cy.1, 210, .inl (ft_far))), (qt, .inr (11, [.ref qt_now, .ref xt_past, .int (it_saved), .ref xt_text, .int (it_length), .ref xt_doors, .int (it_doorMany), .ref xt_label, .int (it_drawn), .ref qt_far, .ref xt_ring, .int (it_walker), .int (it_from), .ref xt_was, .int (it_steps), .int (it_faultAt), .int (it_mover)])), (qt_now, .inl (cy.1, 639, .inl (ft_now)))] := hD
      refine lv_icmp_ge (tgt := 52) hx hb dX11_farthestOf_9 (by decide) (fun hc_9 => ?_) (fun hc_9 => ?_)
      · rw [if_pos hc_9] at hf
        refine lv_iload_n hx hb dX11_farthestOf_52 rfl (lv_at hl 1 rfl) ?_
        cases hf
        subst hQ
        exact kiret hx hb hr hlocks hK (hP.sub [1, 2, 0] rfl) (hD.sub [1, 2, 0] (by decide) rfl) hS rfl dX11_farthestOf_53
      · rw [if_neg hc_9] at hf
        refine lv_aload_n hx hb dX11_farthestOf_12 rfl (lv_at hl 0 rfl) ?_
        refine va_get (D := (dC, dI)) (ci := 11) (C := RX11) (T := TX11) (N := 17) hx hb hts (fun _ h => (List.mem_cons_of_mem _ (List.mem_append_right _ h))) hown hK hP 1 rfl rfl 9 (by decide) (hts _ (List.mem_cons_of_mem _ (List.mem_append_left _ (List.mem_of_getElem? (i := 0) rfl)))) (fun _ h => h) rfl dX11_farthestOf_13 ?_
        refine lv_iload_n hx hb dX11_farthestOf_16 rfl (lv_at hl 2 rfl) ?_
        obtain ⟨hk_17, hf⟩ := chk_s hf
        refine va_iald hx hb hK hP 0 0 rfl rfl hk_17 dX11_farthestOf_17 ?_
        refine lv_if_lt (tgt := 44) hx hb dX11_farthestOf_18 (by decide) (fun hc_18 => ?_) (fun hc_18 => ?_)
        · rw [if_pos hc_18] at hf
          refine lv_iload_n hx hb dX11_farthestOf_44 rfl (lv_at hl 1 rfl) ?_
          refine lv_istore_n (lv' := [(1, .int l1), (0, .ref qt), (2, .int l2)]) hx hb dX11_farthestOf_45 rfl hl (by decide) rfl (fun ls hl => ?_)
          refine lv_iinc (v := (l2 + (1 : Int32))) (lv' := [(2, .int (l2 + (1 : Int32))), (1, .int l1), (0, .ref qt)]) hx hb dX11_farthestOf_46 hl (k := 2) rfl rfl (by decide) rfl (fun ls hl => ?_)
          refine lv_goto (tgt := 4) hx hb dX11_farthestOf_49 (by decide) ?_
          exact ih4 (l1) ((l2 + (1 : Int32))) _ _ (hP.sub [1, 2, 0] rfl) (hD.sub [1, 2, 0] (by decide) rfl) hS _ (lv_sub hl [2, 1, 0] rfl) hf
        · rw [if_neg hc_18] at hf
          refine lv_iload_n hx hb dX11_farthestOf_21 rfl (lv_at hl 1 rfl) ?_
          refine lv_if_lt (tgt := 40) hx hb dX11_farthestOf_22 (by decide) (fun hc_22 => ?_) (fun hc_22 => ?_)
          · rw [if_pos hc_22] at hf
            refine lv_iload_n hx hb dX11_farthestOf_40 rfl (lv_at hl 2 rfl) ?_
            refine lv_goto (tgt := 45) hx hb dX11_farthestOf_41 (by decide) ?_
            refine lv_istore_n (lv' := [(1, .int l2), (0, .ref qt), (2, .int l2)]) hx hb dX11_farthestOf_45 rfl hl (by decide) rfl (fun ls hl => ?_)
            refine lv_iinc (v := (l2 + (1 : Int32))) (lv' := [(2, .int (l2 + (1 : Int32))), (1, .int l2), (0, .ref qt)]) hx hb dX11_farthestOf_46 hl (k := 2) rfl rfl (by decide) rfl (fun ls hl => ?_)
            refine lv_goto (tgt := 4) hx hb dX11_farthestOf_49 (by decide) ?_
            exact ih4 (l2) ((l2 + (1 : Int32))) _ _ (hP.sub [1, 2, 0] rfl) (hD.sub [1, 2, 0] (by decide) rfl) hS _ (lv_sub hl [2, 1, 0] rfl) hf
          · rw [if_neg hc_22] at hf
            refine lv_aload_n hx hb dX11_farthestOf_25 rfl (lv_at hl 0 rfl) ?_
            refine va_get (D := (dC, dI)) (ci := 11) (C := RX11) (T := TX11) (N := 17) hx hb hts (fun _ h => (List.mem_cons_of_mem _ (List.mem_append_right _ h))) hown hK hP 1 rfl rfl 9 (by decide) (hts _ (List.mem_cons_of_mem _ (List.mem_append_left _ (List.mem_of_getElem? (i := 0) rfl)))) (fun _ h => h) rfl dX11_farthestOf_26 ?_
            refine lv_iload_n hx hb dX11_farthestOf_29 rfl (lv_at hl 2 rfl) ?_
            obtain ⟨hk_30, hf⟩ := chk_s hf
            refine va_iald hx hb hK hP 0 0 rfl rfl hk_30 dX11_farthestOf_30 ?_
            refine lv_aload_n hx hb dX11_farthestOf_31 rfl (lv_at hl 0 rfl) ?_
            refine va_get (D := (dC, dI)) (ci := 11) (C := RX11) (T := TX11) (N := 17) hx hb hts (fun _ h => (List.mem_cons_of_mem _ (List.mem_append_right _ h))) hown hK hP 1 rfl rfl 9 (by decide) (hts _ (List.mem_cons_of_mem _ (List.mem_append_left _ (List.mem_of_getElem? (i := 0) rfl)))) (fun _ h => h) rfl dX11_farthestOf_32 ?_
            refine lv_iload_n hx hb dX11_farthestOf_35 rfl (lv_at hl 1 rfl) ?_
            obtain ⟨hk_36, hf⟩ := chk_s hf
            refine va_iald hx hb hK hP 0 0 rfl rfl hk_36 dX11_farthestOf_36 ?_
            refine lv_icmp_le (tgt := 44) hx hb dX11_farthestOf_37 (by decide) (fun hc_37 => ?_) (fun hc_37 => ?_)
            · rw [if_pos hc_37] at hf
              refine lv_iload_n hx hb dX11_farthestOf_44 rfl (lv_at hl 1 rfl) ?_
              refine lv_istore_n (lv' := [(1, .int l1), (0, .ref qt), (2, .int l2)]) hx hb dX11_farthestOf_45 rfl hl (by decide) rfl (fun ls hl => ?_)
              refine lv_iinc (v := (l2 + (1 : Int32))) (lv' := [(2, .int (l2 + (1 : Int32))), (1, .int l1), (0, .ref qt)]) hx hb dX11_farthestOf_46 hl (k := 2) rfl rfl (by decide) rfl (fun ls hl => ?_)
              refine lv_goto (tgt := 4) hx hb dX11_farthestOf_49 (by decide) ?_
              exact ih4 (l1) ((l2 + (1 : Int32))) _ _ (hP.sub [1, 2, 0] rfl) (hD.sub [1, 2, 0] (by decide) rfl) hS _ (lv_sub hl [2, 1, 0] rfl) hf
            · rw [if_neg hc_37] at hf
              refine lv_iload_n hx hb dX11_farthestOf_40 rfl (lv_at hl 2 rfl) ?_
              refine lv_goto (tgt := 45) hx hb dX11_farthestOf_41 (by decide) ?_
              refine lv_istore_n (lv' := [(1, .int l2), (0, .ref qt), (2, .int l2)]) hx hb dX11_farthestOf_45 rfl hl (by decide) rfl (fun ls hl => ?_)
              refine lv_iinc (v := (l2 + (1 : Int32))) (lv' := [(2, .int (l2 + (1 : Int32))), (1, .int l2), (0, .ref qt)]) hx hb dX11_farthestOf_46 hl (k := 2) rfl rfl (by decide) rfl (fun ls hl => ?_)
              refine lv_goto (tgt := 4) hx hb dX11_farthestOf_49 (by decide) ?_
              exact ih4 (l2) ((l2 + (1 : Int32))) _ _ (hP.sub [1, 2, 0] rfl) (hD.sub [1, 2, 0] (by decide) rfl) hS _ (lv_sub hl [2, 1, 0] rfl) hf
  rw [f_X11_farthestOf] at hf
  refine lv_iconst (v := (-1 : Int32)) hx hb dX11_farthestOf_0 (by decide) ?_
  refine lv_istore_n (lv' := [(1, .int (-1 : Int32)), (0, .ref qt)]) hx hb dX11_farthestOf_1 rfl hl (by decide) rfl (fun ls hl => ?_)
  refine lv_iconst (v := (0 : Int32)) hx hb dX11_farthestOf_2 (by decide) ?_
  refine lv_istore_n (lv' := [(2, .int (0 : Int32)), (1, .int (-1 : Int32)), (0, .ref qt)]) hx hb dX11_farthestOf_3 rfl hl (by decide) rfl (fun ls hl => ?_)
  exact B4 N ((-1 : Int32)) ((0 : Int32)) _ _ (hP.sub [0, 1, 2] rfl) (hD.sub [0, 1, 2] (by decide) rfl) hS _ (lv_sub hl [2, 1, 0] rfl) hf
theorem hdX11_farthestOf : yX11_farthestOf.cls = RX11 ∧ yX11_farthestOf.cls ≠ "java/lang/invoke/MethodHandle" ∧ yX11_farthestOf.cls ≠ "java/lang/invoke/VarHandle" ∧ (parseMethodDescriptor yX11_farthestOf.desc).map (fun d => d.parameters.length) = some 0 := by decide +kernel
noncomputable def f_X11_farthest (N : Nat) (ft_now : Nat → Int32) (ft_far : Nat → Int32) (ft_ring : Nat → Int32) (va1 : Int32) (va2 : Int32) : Option (Int32 × (Nat → Int32) × (Nat → Int32)) :=
  bnd1 (f_X11_hasRoom (ft_now) (va1)) fun r2 =>
  if r2 = 0 then
    some ((-1 : Int32), ft_far, ft_ring)
  else
    if (t_X11_in (va2) ((0 : Int32)) ((1 : Int32))) = 0 then
      some ((-1 : Int32), ft_far, ft_ring)
    else
      bnd2 (f_X11_lays N (ft_now) (ft_far) (ft_ring) (va1)) fun o21_0 o21_1 =>
      bnd1 (f_X11_farthestOf N (ft_now) (o21_0)) fun r25 =>
      if va2 = 0 then
        some (r25, o21_0, o21_1)
      else
        if r25 < 0 ∨ 210 ≤ (r25).toNatClampNeg then none else
        some ((o21_0 (r25).toNatClampNeg), o21_0, o21_1)
abbrev rm_X11_farthest : Room := { frames := 7, cells := 0, slots := 0, locals := 159 }
set_option maxHeartbeats 4000000 in
set_option maxRecDepth 100000 in
theorem c_X11_farthest (l : Launch) (dC : Nat → ClassId) (dI : Nat → Nat → Nat) (cy : gC) (G : gT) (sz : Nat) (qt : Nat) (qt_now : Nat) (qt_far : Nat) (qt_ring : Nat) (xt_past : Nat) (xt_text : Nat) (xt_doors : Nat) (xt_label : Nat) (xt_was : Nat) (it_saved : Int32) (it_length : Int32) (it_doorMany : Int32) (it_drawn : Int32) (it_walker : Int32) (it_from : Int32) (it_steps : Int32) (it_faultAt : Int32) (it_mover : Int32) (N : Nat) (ft_now : Nat → Int32) (ft_far : Nat → Int32) (ft_ring : Nat → Int32) (va1 : Int32) (va2 : Int32) (out : Int32 × (Nat → Int32) × (Nat → Int32)) (hf : f_X11_farthest N ft_now ft_far ft_ring va1 va2 = some out) : Met l yX11_farthest wsX11_farthest rm_X11_farthest (va_Pc [.ref qt, .int va1, .int va2] (kP (dC, dI) cy G [(qt, .inr (11, [.ref qt_now, .ref xt_past, .int (it_saved), .ref xt_text, .int (it_length), .ref xt_doors, .int (it_doorMany), .ref xt_label, .int (it_drawn), .ref qt_far, .ref qt_ring, .int (it_walker), .int (it_from), .ref xt_was, .int (it_steps), .int (it_faultAt), .int (it_mover)])), (qt_now, .inl (cy.1, 639, .inl (ft_now))), (qt_far, .inl (cy.1, 210, .inl (ft_far))), (qt_ring, .inl (cy.1, 210, .inl (ft_ring)))] sz)) (va_Qi (fun r (_ : Unit) => r = out.1) (fun _ => kQ (dC, dI) cy [(qt, .inr (11, [.ref qt_now, .ref xt_past, .int (it_saved), .ref xt_text, .int (it_length), .ref xt_doors, .int (it_doorMany), .ref xt_label, .int (it_drawn), .ref qt_far, .ref qt_ring, .int (it_walker), .int (it_from), .ref xt_was, .int (it_steps), .int (it_faultAt), .int (it_mover)])), (qt_now, .inl (cy.1, 639, .inl (ft_now))), (qt_far, .inl (cy.1, 210, .inl (out.2.1))), (qt_ring, .inl (cy.1, 210, .inl (out.2.2)))] (va_A [(qt, .inr (11, [.ref qt_now, .ref xt_past, .int (it_saved), .ref xt_text, .int (it_length), .ref xt_doors, .int (it_doorMany), .ref xt_label, .int (it_drawn), .ref qt_far, .ref qt_ring, .int (it_walker), .int (it_from), .ref xt_was, .int (it_steps), .int (it_faultAt), .int (it_mover)])), (qt_now, .inl (cy.1, 639, .inl (ft_now))), (qt_far, .inl (cy.1, 210, .inl (ft_far))), (qt_ring, .inl (cy.1, 210, .inl (ft_ring)))] sz)) (va_A [(qt, .inr (11, [.ref qt_now, .ref xt_past, .int (it_saved), .ref xt_text, .int (it_length), .ref xt_doors, .int (it_doorMany), .ref xt_label, .int (it_drawn), .ref qt_far, .ref qt_ring, .int (it_walker), .int (it_from), .ref xt_was, .int (it_steps), .int (it_faultAt), .int (it_mover)])), (qt_now, .inl (cy.1, 639, .inl (ft_now))), (qt_far, .inl (cy.1, 210, .inl (ft_far))), (qt_ring, .inl (cy.1, 210, .inl (ft_ring)))] sz)) 0 0 (va_A [(qt, .inr (11, [.ref qt_now, .ref xt_past, .int (it_saved), .ref xt_text, .int (it_length), .ref xt_doors, .int (it_doorMany), .ref xt_label, .int (it_drawn), .ref qt_far, .ref qt_ring, .int (it_walker), .int (it_from), .ref xt_was, .int (it_steps), .int (it_faultAt), .int (it_mover)])), (qt_now, .inl (cy.1, 639, .inl (ft_now))), (qt_far, .inl (cy.1, 210, .inl (ft_far))), (qt_ring, .inl (cy.1, 210, .inl (ft_ring)))] sz) := by
  refine Met.ofW (cc := cX11_farthest) (maxL := 4) (ret := (some .int)) (by decide) rfl ?_
  intro p e s m args below meth c s₁ B hml hv
  obtain ⟨rfl, hsz, hP, hK, hD0, hG⟩ := hv
  have hx := B.exec
  have hb := B.bytes
  have hr := B.returns
  have hts := atoms_spec (ws := wsX11_farthest) B.pre
  have hown : s.vm.findClass RX11 = some m.cls := findClass_of_methodNamed B.named
  have hlocks := B.notSynchronized
  subst hsz
  have hD := hD0.self (sz := s.heap.size)
  generalize hAe : va_A [(qt, .inr (11, [.ref qt_now, .ref xt_past, .int (it_saved), .ref xt_text, .int (it_length), .ref xt_doors, .int (it_doorMany), .ref xt_label, .int (it_drawn), .ref qt_far, .ref qt_ring, .int (it_walker), .int (it_from), .ref xt_was, .int (it_steps), .int (it_faultAt), .int (it_mover)])), (qt_now, .inl (cy.1, 639, .inl (ft_now))), (qt_far, .inl (cy.1, 210, .inl (ft_far))), (qt_ring, .inl (cy.1, 210, .inl (ft_ring)))] s.heap.size = A at hD hG ⊢
  have hA : ∀ q : Nat, s.heap.size ≤ q → A q := fun q h => by rw [← hAe]; exact Or.inr h
  have hS : va_S A s.heap s.heap [] := va_S.rf
  have hP : va_P (dC, dI) vwCl [(qt, .inr (11, [.ref qt_now, .ref xt_past, .int (it_saved), .ref xt_text, .int (it_length), .ref xt_doors, .int (it_doorMany), .ref xt_label, .int (it_drawn), .ref qt_far, .ref qt_ring, .int (it_walker), .int (it_from), .ref xt_was, .int (it_steps), .int (it_faultAt), .int (it_mover)])), (qt_now, .inl (cy.1, 639, .inl (ft_now))), (qt_far, .inl (cy.1, 210, .inl (ft_far))), (qt_ring, .inl (cy.1, 210, .inl (ft_ring)))] s.heap := hP
  have hl := lv_entry ([.ref qt, .int va1, .int va2]) (n := 4) (Nat.le_of_ble_eq_true rfl)
  rw [lg_entry_eq]
  generalize (lg_sl ([.ref qt, .int va1, .int va2]) ++ List.replicate (4 - (lg_sl ([.ref qt, .int va1, .int va2])).length) Slot.unset).toArray = ls at hl ⊢
  have hl : lv_has ls 4 [(0, .ref qt), (1, .int va1), (2, .int va2)] := hl
  refine kgen (fun Q hQ => ?_)
  rw [f_X11_farthest] at hf
  refine lv_aload_n hx hb dX11_farthest_0 rfl (lv_at hl 0 rfl) ?_
  refine lv_iload_n hx hb dX11_farthest_1 rfl (lv_at hl 1 rfl) ?_
  obtain ⟨r2, hq_2, hf⟩ := bnd1_s hf
  refine kcalli (wc := [(qt, .inr (11, [.ref qt_now, .ref xt_past, .int (it_saved), .ref xt_text, .int (it_length), .ref xt_doors, .int (it_doorMany), .ref xt_label, .int (it_drawn), .ref qt_far, .ref qt_ring, .int (it_walker), .int (it_from), .ref xt_was, .int (it_steps), .int (it_faultAt), .int (it_mover)])), (qt_now, .inl (cy.1, 639, .inl (ft_now)))]) (wr := [(qt_far, .inl (cy.1, 210, .inl (ft_far))), (qt_ring, .inl (cy.1, 210, .inl (ft_ring)))]) (w1 := [(qt, .inr (11, [.ref qt_now, .ref xt_past, .int (it_saved), .ref xt_text, .int (it_length), .ref xt_doors, .int (it_doorMany), .ref xt_label, .int (it_drawn), .ref qt_far, .ref qt_ring, .int (it_walker), .int (it_from), .ref xt_was, .int (it_steps), .int (it_faultAt), .int (it_mover)])), (qt_now, .inl (cy.1, 639, .inl (ft_now)))]) hK hP hD hS hA hG [0, 1] [2, 3] rfl rfl rfl rfl rfl (fun hU hPc => va_runV (As := [.int va1]) (rest := []) ⟨hx, hb, hml, hown, hts⟩ (c_X11_hasRoom l dC dI cy G s.heap.size qt qt_now xt_past xt_text xt_doors xt_label qt_far qt_ring xt_was (it_saved) (it_length) (it_doorMany) (it_drawn) (it_walker) (it_from) (it_steps) (it_faultAt) (it_mover) (ft_now) (va1) r2 hq_2) (cwV 1 hts gX11_farthest_X11_hasRoom rfl rfl rfl hdX11_hasRoom ⟨Nat.le_of_ble_eq_true rfl, Nat.le_of_ble_eq_true rfl⟩) ⟨kBlind, (va_recv hK hP (ci := 11) (q0 := 0) rfl rfl), fun U h1 h2 => ⟨rfl, hU U h1 h2⟩⟩ rfl rfl hl.1 rfl (lv_room (Nat.le_of_ble_eq_true rfl)) dX11_farthest_2 ⟨Nat.zero_le _, Nat.zero_le _⟩) (r2) (fun _ _ h => h) (fun _ _ h => h) (fun H locs hP hD hS => ?_)
  have hP : va_P (dC, dI) vwCl [(qt_far, .inl (cy.1, 210, .inl (ft_far))), (qt_ring, .inl (cy.1, 210, .inl (ft_ring))), (qt, .inr (11, [.ref qt_now, .ref xt_past, .int (it_saved), .ref xt_text, .int (it_length), .ref xt_doors, .int (it_doorMany), .ref xt_label, .int (it_drawn), .ref qt_far, .ref qt_ring, .int (it_walker), .int (it_from), .ref xt_was, .int (it_steps), .int (it_faultAt), .int (it_mover)])), (qt_now, .inl (cy.1, 639, .inl (ft_now)))] H := hP
  have hD : va_D A [(qt_far, .inl (cy.1, 210, .inl (ft_far))), (qt_ring, .inl (cy.1, 210, .inl (ft_ring))), (qt, .inr (11, [.ref qt_now, .ref xt_past, .int (it_saved), .ref xt_text, .int (it_length), .ref xt_doors, .int (it_doorMany), .ref xt_label, .int (it_drawn), .ref qt_far, .ref qt_ring, .int (it_walker), .int (it_from), .ref xt_was, .int (it_steps), .int (it_faultAt), .int (it_mover)])), (qt_now, .inl (cy.1, 639, .inl (ft_now)))] := hD
  refine lv_if_eq (tgt := 17) hx hb dX11_farthest_5 (by decide) (fun hc_5 => ?_) (fun hc_5 => ?_)
  · rw [if_pos hc_5] at hf
    refine lv_iconst (v := (-1 : Int32)) hx hb dX11_farthest_17 (by decide) ?_
    cases hf
    subst hQ
    exact kiret hx hb hr hlocks hK (hP.sub [2, 3, 0, 1] rfl) (hD.sub [2, 3, 0, 1] (by decide) rfl) hS rfl dX11_farthest_18
  · rw [if_neg hc_5] at hf
    refine lv_iload_n hx hb dX11_farthest_8 rfl (lv_at hl 2 rfl) ?_
    refine lv_iconst (v := (0 : Int32)) hx hb dX11_farthest_9 (by decide) ?_
    refine lv_iconst (v := (1 : Int32)) hx hb dX11_farthest_10 (by decide) ?_
    refine kcalli (wc := []) (wr := [(qt_far, .inl (cy.1, 210, .inl (ft_far))), (qt_ring, .inl (cy.1, 210, .inl (ft_ring))), (qt, .inr (11, [.ref qt_now, .ref xt_past, .int (it_saved), .ref xt_text, .int (it_length), .ref xt_doors, .int (it_doorMany), .ref xt_label, .int (it_drawn), .ref qt_far, .ref qt_ring, .int (it_walker), .int (it_from), .ref xt_was, .int (it_steps), .int (it_faultAt), .int (it_mover)])), (qt_now, .inl (cy.1, 639, .inl (ft_now)))]) (w1 := []) hK hP hD hS hA hG [] [0, 1, 2, 3] rfl rfl rfl rfl rfl (fun hU hPc => va_runS (As := [.int va2, .int (0 : Int32), .int (1 : Int32)]) (rest := []) ⟨hx, hb, hml, hown, hts⟩ (c_X11_in l dC dI cy G H.size (va2) ((0 : Int32)) ((1 : Int32)) (t_X11_in (va2) ((0 : Int32)) ((1 : Int32))) (tot_X11_in (va2) ((0 : Int32)) ((1 : Int32)))) (va_cwS 3 hts gX11_farthest_X11_in rfl rfl rfl hdX11_in.2 ⟨Nat.le_of_ble_eq_true rfl, Nat.le_of_ble_eq_true rfl⟩) ⟨kBlind, fun U h1 h2 => ⟨rfl, hU U h1 h2⟩⟩ rfl rfl hl.1 rfl (lv_room (Nat.le_of_ble_eq_true rfl)) dX11_farthest_11 ⟨Nat.zero_le _, Nat.zero_le _⟩) ((t_X11_in (va2) ((0 : Int32)) ((1 : Int32)))) (fun _ _ h => h) (fun _ _ h => h) (fun H locs hP hD hS => ?_)
    have hP : va_P (dC, dI) vwCl [(qt_far, .inl (cy.1, 210, .inl (ft_far))), (qt_ring, .inl (cy.1, 210, .inl (ft_ring))), (qt, .inr (11, [.ref qt_now, .ref xt_past, .int (it_saved), .ref xt_text, .int (it_length), .ref xt_doors, .int (it_doorMany), .ref xt_label, .int (it_drawn), .ref qt_far, .ref qt_ring, .int (it_walker), .int (it_from), .ref xt_was, .int (it_steps), .int (it_faultAt), .int (it_mover)])), (qt_now, .inl (cy.1, 639, .inl (ft_now)))] H := hP
    have hD : va_D A [(qt_far, .inl (cy.1, 210, .inl (ft_far))), (qt_ring, .inl (cy.1, 210, .inl (ft_ring))), (qt, .inr (11, [.ref qt_now, .ref xt_past, .int (it_saved), .ref xt_text, .int (it_length), .ref xt_doors, .int (it_doorMany), .ref xt_label, .int (it_drawn), .ref qt_far, .ref qt_ring, .int (it_walker), .int (it_from), .ref xt_was, .int (it_steps), .int (it_faultAt), .int (it_mover)])), (qt_now, .inl (cy.1, 639, .inl (ft_now)))] := hD
    refine lv_if_ne (tgt := 19) hx hb dX11_farthest_14 (by decide) (fun hc_14 => ?_) (fun hc_14 => ?_)
    · rw [if_neg hc_14] at hf
      refine lv_aload_n hx hb dX11_farthest_19 rfl (lv_at hl 0 rfl) ?_
      refine lv_iload_n hx hb dX11_farthest_20 rfl (lv_at hl 1 rfl) ?_
      obtain ⟨o21_0, o21_1, hq_21, hf⟩ := bnd2_s hf
      refine kcallv (wc := [(qt, .inr (11, [.ref qt_now, .ref xt_past, .int (it_saved), .ref xt_text, .int (it_length), .ref xt_doors, .int (it_doorMany), .ref xt_label, .int (it_drawn), .ref qt_far, .ref qt_ring, .int (it_walker), .int (it_from), .ref xt_was, .int (it_steps), .int (it_faultAt), .int (it_mover)])), (qt_now, .inl (cy.1, 639, .inl (ft_now))), (qt_far, .inl (cy.1, 210, .inl (ft_far))), (qt_ring, .inl (cy.1, 210, .inl (ft_ring)))]) (wr := []) (w1 := [(qt, .inr (11, [.ref qt_now, .ref xt_past, .int (it_saved), .ref xt_text, .int (it_length), .ref xt_doors, .int (it_doorMany), .ref xt_label, .int (it_drawn), .ref qt_far, .ref qt_ring, .int (it_walker), .int (it_from), .ref xt_was, .int (it_steps), .int (it_faultAt), .int (it_mover)])), (qt_now, .inl (cy.1, 639, .inl (ft_now))), (qt_far, .inl (cy.1, 210, .inl (o21_0))), (qt_ring, .inl (cy.1, 210, .inl (o21_1)))]) hK hP hD hS hA hG [2, 3, 0, 1] [] rfl rfl rfl rfl rfl (fun hU hPc => va_runV (As := [.int va1]) (rest := []) ⟨hx, hb, hml, hown, hts⟩ (c_X11_lays l dC dI cy G H.size qt qt_now qt_far qt_ring xt_past xt_text xt_doors xt_label xt_was (it_saved) (it_length) (it_doorMany) (it_drawn) (it_walker) (it_from) (it_steps) (it_faultAt) (it_mover) N (ft_now) (ft_far) (ft_ring) (va1) (o21_0, o21_1) hq_21) (cwV 1 hts gX11_farthest_X11_lays rfl rfl rfl hdX11_lays ⟨Nat.le_of_ble_eq_true rfl, Nat.le_of_ble_eq_true rfl⟩) ⟨kBlind, (va_recv hK hP (ci := 11) (q0 := 2) rfl rfl), fun U h1 h2 => ⟨rfl, hU U h1 h2⟩⟩ rfl rfl hl.1 rfl (lv_room (Nat.le_of_ble_eq_true rfl)) dX11_farthest_21 ⟨Nat.zero_le _, Nat.zero_le _⟩) (fun _ _ h => h) (fun H locs hP hD hS => ?_)
      have hP : va_P (dC, dI) vwCl [(qt, .inr (11, [.ref qt_now, .ref xt_past, .int (it_saved), .ref xt_text, .int (it_length), .ref xt_doors, .int (it_doorMany), .ref xt_label, .int (it_drawn), .ref qt_far, .ref qt_ring, .int (it_walker), .int (it_from), .ref xt_was, .int (it_steps), .int (it_faultAt), .int (it_mover)])), (qt_now, .inl (cy.1, 639, .inl (ft_now))), (qt_far, .inl (cy.1, 210, .inl (o21_0))), (qt_ring, .inl (cy.1, 210, .inl (o21_1)))] H := hP
      have hD : va_D A [(qt, .inr (11, [.ref qt_now, .ref xt_past, .int (it_saved), .ref xt_text, .int (it_length), .ref xt_doors, .int (it_doorMany), .ref xt_label, .int (it_drawn), .ref qt_far, .ref qt_ring, .int (it_walker), .int (it_from), .ref xt_was, .int (it_steps), .int (it_faultAt), .int (it_mover)])), (qt_now, .inl (cy.1, 639, .inl (ft_now))), (qt_far, .inl (cy.1, 210, .inl (o21_0))), (qt_ring, .inl (cy.1, 210, .inl (o21_1)))] := hD
      refine lv_aload_n hx hb dX11_farthest_24 rfl (lv_at hl 0 rfl) ?_
      obtain ⟨r25, hq_25, hf⟩ := bnd1_s hf
      refine kcalli (wc := [(qt, .inr (11, [.ref qt_now, .ref xt_past, .int (it_saved), .ref xt_text, .int (it_length), .ref xt_doors, .int (it_doorMany), .ref xt_label, .int (it_drawn), .ref qt_far, .ref qt_ring, .int (it_walker), .int (it_from), .ref xt_was, .int (it_steps), .int (it_faultAt), .int (it_mover)])), (qt_now, .inl (cy.1, 639, .inl (ft_now))), (qt_far, .inl (cy.1, 210, .inl (o21_0)))]) (wr := [(qt_ring, .inl (cy.1, 210, .inl (o21_1)))]) (w1 := [(qt, .inr (11, [.ref qt_now, .ref xt_past, .int (it_saved), .ref xt_text, .int (it_length), .ref xt_doors, .int (it_doorMany), .ref xt_label, .int (it_drawn), .ref qt_far, .ref qt_ring, .int (it_walker), .int (it_from), .ref xt_was, .int (it_steps), .int (it_faultAt), .int (it_mover)])), (qt_now, .inl (cy.1, 639, .inl (ft_now))), (qt_far, .inl (cy.1, 210, .inl (o21_0)))]) hK hP hD hS hA hG [0, 1, 2] [3] rfl rfl rfl rfl rfl (fun hU hPc => va_runV (As := []) (rest := []) ⟨hx, hb, hml, hown, hts⟩ (c_X11_farthestOf l dC dI cy G H.size qt qt_now qt_far xt_past xt_text xt_doors xt_label qt_ring xt_was (it_saved) (it_length) (it_doorMany) (it_drawn) (it_walker) (it_from) (it_steps) (it_faultAt) (it_mover) N (ft_now) (o21_0) r25 hq_25) (cwV 0 hts gX11_farthest_X11_farthestOf rfl rfl rfl hdX11_farthestOf ⟨Nat.le_of_ble_eq_true rfl, Nat.le_of_ble_eq_true rfl⟩) ⟨kBlind, (va_recv hK hP (ci := 11) (q0 := 0) rfl rfl), fun U h1 h2 => ⟨rfl, hU U h1 h2⟩⟩ rfl rfl hl.1 rfl (lv_room (Nat.le_of_ble_eq_true rfl)) dX11_farthest_25 ⟨Nat.zero_le _, Nat.zero_le _⟩) (r25) (fun _ _ h => h) (fun _ _ h => h) (fun H locs hP hD hS => ?_)
      have hP : va_P (dC, dI) vwCl [(qt_ring, .inl (cy.1, 210, .inl (o21_1))), (qt, .inr (11, [.ref qt_now, .ref xt_past, .int (it_saved), .ref xt_text, .int (it_length), .ref xt_doors, .int (it_doorMany), .ref xt_label, .int (it_drawn), .ref qt_far, .ref qt_ring, .int (it_walker), .int (it_from), .ref xt_was, .int (it_steps), .int (it_faultAt), .int (it_mover)])), (qt_now, .inl (cy.1, 639, .inl (ft_now))), (qt_far, .inl (cy.1, 210, .inl (o21_0)))] H := hP
      have hD : va_D A [(qt_ring, .inl (cy.1, 210, .inl (o21_1))), (qt, .inr (11, [.ref qt_now, .ref xt_past, .int (it_saved), .ref xt_text, .int (it_length), .ref xt_doors, .int (it_doorMany), .ref xt_label, .int (it_drawn), .ref qt_far, .ref qt_ring, .int (it_walker), .int (it_from), .ref xt_was, .int (it_steps), .int (it_faultAt), .int (it_mover)])), (qt_now, .inl (cy.1, 639, .inl (ft_now))), (qt_far, .inl (cy.1, 210, .inl (o21_0)))] := hD
      refine lv_istore_n (lv' := [(3, .int r25), (0, .ref qt), (1, .int va1), (2, .int va2)]) hx hb dX11_farthest_28 rfl hl (by decide) rfl (fun ls hl => ?_)
      refine lv_iload_n hx hb dX11_farthest_29 rfl (lv_at hl 3 rfl) ?_
      refine lv_if_ne (tgt := 37) hx hb dX11_farthest_30 (by decide) (fun hc_30 => ?_) (fun hc_30 => ?_)
      · rw [if_neg hc_30] at hf
        refine lv_aload_n hx hb dX11_farthest_37 rfl (lv_at hl 1 rfl) ?_
        refine va_get (D := (dC, dI)) (ci := 11) (C := RX11) (T := TX11) (N := 17) hx hb hts (fun _ h => (List.mem_cons_of_mem _ (List.mem_append_right _ h))) hown hK hP 1 rfl rfl 9 (by decide) (hts _ (List.mem_cons_of_mem _ (List.mem_append_left _ (List.mem_append_left _ (List.mem_of_getElem? (i := 0) rfl))))) (fun _ h => h) rfl dX11_farthest_38 ?_
        refine lv_iload_n hx hb dX11_farthest_41 rfl (lv_at hl 0 rfl) ?_
        obtain ⟨hk_42, hf⟩ := chk_s hf
        refine va_iald hx hb hK hP 3 0 rfl rfl hk_42 dX11_farthest_42 ?_
        cases hf
        subst hQ
        exact kiret hx hb hr hlocks hK (hP.sub [1, 2, 3, 0] rfl) (hD.sub [1, 2, 3, 0] (by decide) rfl) hS rfl dX11_farthest_43
      · rw [if_pos hc_30] at hf
        refine lv_iload_n hx hb dX11_farthest_33 rfl (lv_at hl 0 rfl) ?_
        refine lv_goto (tgt := 43) hx hb dX11_farthest_34 (by decide) ?_
        cases hf
        subst hQ
        exact kiret hx hb hr hlocks hK (hP.sub [1, 2, 3, 0] rfl) (hD.sub [1, 2, 3, 0] (by decide) rfl) hS rfl dX11_farthest_43
    · rw [if_pos hc_14] at hf
      refine lv_iconst (v := (-1 : Int32)) hx hb dX11_farthest_17 (by decide) ?_
      cases hf
      subst hQ
      exact kiret hx hb hr hlocks hK (hP.sub [2, 3, 0, 1] rfl) (hD.sub [2, 3, 0, 1] (by decide) rfl) hS rfl dX11_farthest_18
theorem hdX11_farthest : yX11_farthest.cls = RX11 ∧ yX11_farthest.cls ≠ "java/lang/invoke/MethodHandle" ∧ yX11_farthest.cls ≠ "java/lang/invoke/VarHandle" ∧ (parseMethodDescriptor yX11_farthest.desc).map (fun d => d.parameters.length) = some 2 := by decide +kernel
noncomputable def b_X11_longest_21 (N : Nat) (ft_now : Nat → Int32) (va1 : Int32) : Nat → Int32 → Int32 → Int32 → Int32 → (Nat → Int32) → (Nat → Int32) → Option (Int32 × (Nat → Int32) × (Nat → Int32))
  | 0, _, _, _, _, _, _ => none
  | n + 1, l2, l3, l4, l5, cft_far, cft_ring =>
    if (t_X11_cells (ft_now)) ≤ l5 then
      if va1 = 0 then
        some (l2, cft_far, cft_ring)
      else
        if va1 = (1 : Int32) then
          some (l3, cft_far, cft_ring)
        else
          some (l4, cft_far, cft_ring)
    else
      bnd1 (f_X11_isRoomAt (ft_now) (l5)) fun r33 =>
      if r33 = 0 then
        b_X11_longest_21 N ft_now va1 n (l2) (l3) (l4) ((l5 + (1 : Int32))) (cft_far) (cft_ring)
      else
        bnd2 (f_X11_lays N (ft_now) (cft_far) (cft_ring) (l5)) fun o42_0 o42_1 =>
        bnd1 (f_X11_farthestOf N (ft_now) (o42_0)) fun r46 =>
        if r46 < 0 ∨ 210 ≤ (r46).toNatClampNeg then none else
        if (o42_0 (r46).toNatClampNeg) ≤ l2 then
          b_X11_longest_21 N ft_now va1 n (l2) (l3) (l4) ((l5 + (1 : Int32))) (o42_0) (o42_1)
        else
          if r46 < 0 ∨ 210 ≤ (r46).toNatClampNeg then none else
          b_X11_longest_21 N ft_now va1 n ((o42_0 (r46).toNatClampNeg)) (l5) (r46) ((l5 + (1 : Int32))) (o42_0) (o42_1)
noncomputable def f_X11_longest (N : Nat) (ft_now : Nat → Int32) (ft_far : Nat → Int32) (ft_ring : Nat → Int32) (va1 : Int32) : Option (Int32 × (Nat → Int32) × (Nat → Int32)) :=
  if (t_X11_in (va1) ((0 : Int32)) ((2 : Int32))) = 0 then
    some ((-1 : Int32), ft_far, ft_ring)
  else
    b_X11_longest_21 N ft_now va1 N ((-1 : Int32)) ((0 : Int32)) ((0 : Int32)) ((0 : Int32)) (ft_far) (ft_ring)
abbrev rm_X11_longest : Room := { frames := 7, cells := 0, slots := 0, locals := 159 }
set_option maxHeartbeats 4000000 in
set_option maxRecDepth 100000 in
theorem c_X11_longest (l : Launch) (dC : Nat → ClassId) (dI : Nat → Nat → Nat) (cy : gC) (G : gT) (sz : Nat) (qt : Nat) (qt_now : Nat) (qt_far : Nat) (qt_ring : Nat) (xt_past : Nat) (xt_text : Nat) (xt_doors : Nat) (xt_label : Nat) (xt_was : Nat) (it_saved : Int32) (it_length : Int32) (it_doorMany : Int32) (it_drawn : Int32) (it_walker : Int32) (it_from : Int32) (it_steps : Int32) (it_faultAt : Int32) (it_mover : Int32) (N : Nat) (ft_now : Nat → Int32) (ft_far : Nat → Int32) (ft_ring : Nat → Int32) (va1 : Int32) (out : Int32 × (Nat → Int32) × (Nat → Int32)) (hf : f_X11_longest N ft_now ft_far ft_ring va1 = some out) : Met l yX11_longest wsX11_longest rm_X11_longest (va_Pc [.ref qt, .int va1] (kP (dC, dI) cy G [(qt, .inr (11, [.ref qt_now, .ref xt_past, .int (it_saved), .ref xt_text, .int (it_length), .ref xt_doors, .int (it_doorMany), .ref xt_label, .int (it_drawn), .ref qt_far, .ref qt_ring, .int (it_walker), .int (it_from), .ref xt_was, .int (it_steps), .int (it_faultAt), .int (it_mover)])), (qt_now, .inl (cy.1, 639, .inl (ft_now))), (qt_far, .inl (cy.1, 210, .inl (ft_far))), (qt_ring, .inl (cy.1, 210, .inl (ft_ring)))] sz)) (va_Qi (fun r (_ : Unit) => r = out.1) (fun _ => kQ (dC, dI) cy [(qt, .inr (11, [.ref qt_now, .ref xt_past, .int (it_saved), .ref xt_text, .int (it_length), .ref xt_doors, .int (it_doorMany), .ref xt_label, .int (it_drawn), .ref qt_far, .ref qt_ring, .int (it_walker), .int (it_from), .ref xt_was, .int (it_steps), .int (it_faultAt), .int (it_mover)])), (qt_now, .inl (cy.1, 639, .inl (ft_now))), (qt_far, .inl (cy.1, 210, .inl (out.2.1))), (qt_ring, .inl (cy.1, 210, .inl (out.2.2)))] (va_A [(qt, .inr (11, [.ref qt_now, .ref xt_past, .int (it_saved), .ref xt_text, .int (it_length), .ref xt_doors, .int (it_doorMany), .ref xt_label, .int (it_drawn), .ref qt_far, .ref qt_ring, .int (it_walker), .int (it_from), .ref xt_was, .int (it_steps), .int (it_faultAt), .int (it_mover)])), (qt_now, .inl (cy.1, 639, .inl (ft_now))), (qt_far, .inl (cy.1, 210, .inl (ft_far))), (qt_ring, .inl (cy.1, 210, .inl (ft_ring)))] sz)) (va_A [(qt, .inr (11, [.ref qt_now, .ref xt_past, .int (it_saved), .ref xt_text, .int (it_length), .ref xt_doors, .int (it_doorMany), .ref xt_label, .int (it_drawn), .ref qt_far, .ref qt_ring, .int (it_walker), .int (it_from), .ref xt_was, .int (it_steps), .int (it_faultAt), .int (it_mover)])), (qt_now, .inl (cy.1, 639, .inl (ft_now))), (qt_far, .inl (cy.1, 210, .inl (ft_far))), (qt_ring, .inl (cy.1, 210, .inl (ft_ring)))] sz)) 0 0 (va_A [(qt, .inr (11, [.ref qt_now, .ref xt_past, .int (it_saved), .ref xt_text, .int (it_length), .ref xt_doors, .int (it_doorMany), .ref xt_label, .int (it_drawn), .ref qt_far, .ref qt_ring, .int (it_walker), .int (it_from), .ref xt_was, .int (it_steps), .int (it_faultAt), .int (it_mover)])), (qt_now, .inl (cy.1, 639, .inl (ft_now))), (qt_far, .inl (cy.1, 210, .inl (ft_far))), (qt_ring, .inl (cy.1, 210, .inl (ft_ring)))] sz) := by
  refine Met.ofW (cc := cX11_longest) (maxL := 7) (ret := (some .int)) (by decide) rfl ?_
  intro p e s m args below meth c s₁ B hml hv
  obtain ⟨rfl, hsz, hP, hK, hD0, hG⟩ := hv
  have hx := B.exec
  have hb := B.bytes
  have hr := B.returns
  have hts := atoms_spec (ws := wsX11_longest) B.pre
  have hown : s.vm.findClass RX11 = some m.cls := findClass_of_methodNamed B.named
  have hlocks := B.notSynchronized
  subst hsz
  have hD := hD0.self (sz := s.heap.size)
  generalize hAe : va_A [(qt, .inr (11, [.ref qt_now, .ref xt_past, .int (it_saved), .ref xt_text, .int (it_length), .ref xt_doors, .int (it_doorMany), .ref xt_label, .int (it_drawn), .ref qt_far, .ref qt_ring, .int (it_walker), .int (it_from), .ref xt_was, .int (it_steps), .int (it_faultAt), .int (it_mover)])), (qt_now, .inl (cy.1, 639, .inl (ft_now))), (qt_far, .inl (cy.1, 210, .inl (ft_far))), (qt_ring, .inl (cy.1, 210, .inl (ft_ring)))] s.heap.size = A at hD hG ⊢
  have hA : ∀ q : Nat, s.heap.size ≤ q → A q := fun q h => by rw [← hAe]; exact Or.inr h
  have hS : va_S A s.heap s.heap [] := va_S.rf
  have hP : va_P (dC, dI) vwCl [(qt, .inr (11, [.ref qt_now, .ref xt_past, .int (it_saved), .ref xt_text, .int (it_length), .ref xt_doors, .int (it_doorMany), .ref xt_label, .int (it_drawn), .ref qt_far, .ref qt_ring, .int (it_walker), .int (it_from), .ref xt_was, .int (it_steps), .int (it_faultAt), .int (it_mover)])), (qt_now, .inl (cy.1, 639, .inl (ft_now))), (qt_far, .inl (cy.1, 210, .inl (ft_far))), (qt_ring, .inl (cy.1, 210, .inl (ft_ring)))] s.heap := hP
  have hl := lv_entry ([.ref qt, .int va1]) (n := 7) (Nat.le_of_ble_eq_true rfl)
  rw [lg_entry_eq]
  generalize (lg_sl ([.ref qt, .int va1]) ++ List.replicate (7 - (lg_sl ([.ref qt, .int va1])).length) Slot.unset).toArray = ls at hl ⊢
  have hl : lv_has ls 7 [(0, .ref qt), (1, .int va1)] := hl
  refine kgen (fun Q hQ => ?_)
  have B21 : ∀ (n21 : Nat) (l2 : Int32) (l3 : Int32) (l4 : Int32) (l5 : Int32) (cft_far : Nat → Int32) (cft_ring : Nat → Int32) (H : Heap) (locs : List Loc), va_P (dC, dI) vwCl [(qt, .inr (11, [.ref qt_now, .ref xt_past, .int (it_saved), .ref xt_text, .int (it_length), .ref xt_doors, .int (it_doorMany), .ref xt_label, .int (it_drawn), .ref qt_far, .ref qt_ring, .int (it_walker), .int (it_from), .ref xt_was, .int (it_steps), .int (it_faultAt), .int (it_mover)])), (qt_now, .inl (cy.1, 639, .inl (ft_now))), (qt_far, .inl (cy.1, 210, .inl (cft_far))), (qt_ring, .inl (cy.1, 210, .inl (cft_ring)))] H → va_D A [(qt, .inr (11, [.ref qt_now, .ref xt_past, .int (it_saved), .ref xt_text, .int (it_length), .ref xt_doors, .int (it_doorMany), .ref xt_label, .int (it_drawn), .ref qt_far, .ref qt_ring, .int (it_walker), .int (it_from), .ref xt_was, .int (it_steps), .int (it_faultAt), .int (it_mover)])), (qt_now, .inl (cy.1, 639, .inl (ft_now))), (qt_far, .inl (cy.1, 210, .inl (cft_far))), (qt_ring, .inl (cy.1, 210, .inl (cft_ring)))] → va_S A s.heap H locs → ∀ (ls : Array Slot), lv_has ls 7 [(0, .ref qt), (1, .int va1), (2, .int l2), (3, .int l3), (4, .int l4), (5, .int l5)] → b_X11_longest_21 N ft_now va1 n21 l2 l3 l4 l5 cft_far cft_ring = some out → W p l e (headSpec wsX11_longest rm_X11_longest).room s m ([.ref qt, .int va1] : List Value).toArray below meth c H locs 0 0 Q (F0 m 21 ls []) := by
    intro n21
    induction n21 with
    | zero => intro l2 l3 l4 l5 cft_far cft_ring H locs hP hD hS ls hl hf; rw [b_X11_longest_21] at hf; cases hf
    | succ n21 ih21 =>
      intro l2 l3 l4 l5 cft_far cft_ring H locs hP hD hS ls hl hf
      rw [b_X11_longest_21] at hf
      refine lv_iload hx hb dX11_longest_21 (lv_at hl 5 rfl) ?_
      refine lv_aload_n hx hb dX11_longest_23 rfl (lv_at hl 0 rfl) ?_
      refine kcalli (wc := [(qt, .inr (11, [.ref qt_now, .ref xt_past, .int (it_saved), .ref xt_text, .int (it_length), .ref xt_doors, .int (it_doorMany), .ref xt_label, .int (it_drawn), .ref qt_far, .ref qt_ring, .int (it_walker), .int (it_from), .ref xt_was, .int (it_steps), .int (it_faultAt), .int (it_mover)])), (qt_now, .inl (cy.1, 639, .inl (ft_now)))]) (wr := [(qt_far, .inl (cy.1, 210, .inl (cft_far))), (qt_ring, .inl (cy.1, 210, .inl (cft_ring)))]) (w1 := [(qt, .inr (11, [.ref qt_now, .ref xt_past, .int (it_saved), .ref xt_text, .int (it_length), .ref xt_doors, .int (it_doorMany), .ref xt_label, .int (it_drawn), .ref qt_far, .ref qt_ring, .int (it_walker), .int (it_from), .ref xt_was, .int (it_steps), .int (it_faultAt), .int (it_mover)])), (qt_now, .inl (cy.1, 639, .inl (ft_now)))]) hK hP hD hS hA hG [0, 1] [2, 3] rfl rfl rfl rfl rfl (fun hU hPc => va_runV (As := []) (rest := [.int l5]) ⟨hx, hb, hml, hown, hts⟩ (c_X11_cells l dC dI cy G H.size qt qt_now xt_past xt_text xt_doors xt_label qt_far qt_ring xt_was (it_saved) (it_length) (it_doorMany) (it_drawn) (it_walker) (it_from) (it_steps) (it_faultAt) (it_mover) (ft_now) (t_X11_cells (ft_now)) (tot_X11_cells (ft_now))) (cwV 0 hts gX11_longest_X11_cells rfl rfl rfl hdX11_cells ⟨Nat.le_of_ble_eq_true rfl, Nat.le_of_ble_eq_true rfl⟩) ⟨kBlind, (va_recv hK hP (ci := 11) (q0 := 0) rfl rfl), fun U h1 h2 => ⟨rfl, hU U h1 h2⟩⟩ rfl rfl hl.1 rfl (lv_room (Nat.le_of_ble_eq_true rfl)) dX11_longest_24 ⟨Nat.zero_le _, Nat.zero_le _⟩) ((t_X11_cells (ft_now))) (fun _ _ h => h) (fun _ _ h => h) (fun H locs hP hD hS => ?_)
      have hP : va_P (dC, dI) vwCl [(qt_far, .inl (cy.1, 210, .inl (cft_far))), (qt_ring, .inl (cy.1, 210, .inl (cft_ring))), (qt, .inr (11, [.ref qt_now, .ref xt_past, .int (it_saved), .ref xt_text, .int (it_length), .ref xt_doors, .int (it_doorMany), .ref xt_label, .int (it_drawn), .ref qt_far, .ref qt_ring, .int (it_walker), .int (it_from), .ref xt_was, .int (it_steps), .int (it_faultAt), .int (it_mover)])), (qt_now, .inl (cy.1, 639, .inl (ft_now)))] H := hP
      have hD : va_D A [(qt_far, .inl (cy.1, 210, .inl (cft_far))), (qt_ring, .inl (cy.1, 210, .inl (cft_ring))), (qt, .inr (11, [.ref qt_now, .ref xt_past, .int (it_saved), .ref xt_text, .int (it_length), .ref xt_doors, .int (it_doorMany), .ref xt_label, .int (it_drawn), .ref qt_far, .ref qt_ring, .int (it_walker), .int (it_from), .ref xt_was, .int (it_steps), .int (it_faultAt), .int (it_mover)])), (qt_now, .inl (cy.1, 639, .inl (ft_now)))] := hD
      refine lv_icmp_ge (tgt := 83) hx hb dX11_longest_27 (by decide) (fun hc_27 => ?_) (fun hc_27 => ?_)
      · rw [if_pos hc_27] at hf
        refine lv_iload_n hx hb dX11_longest_83 rfl (lv_at hl 1 rfl) ?_
        refine lv_if_ne (tgt := 91) hx hb dX11_longest_84 (by decide) (fun hc_84 => ?_) (fun hc_84 => ?_)
        · rw [if_neg hc_84] at hf
          refine lv_iload_n hx hb dX11_longest_91 rfl (lv_at hl 1 rfl) ?_
          refine lv_iconst (v := (1 : Int32)) hx hb dX11_longest_92 (by decide) ?_
          refine lv_icmp_ne (tgt := 100) hx hb dX11_longest_93 (by decide) (fun hc_93 => ?_) (fun hc_93 => ?_)
          · rw [if_neg hc_93] at hf
            refine lv_iload hx hb dX11_longest_100 (lv_at hl 4 rfl) ?_
            cases hf
            subst hQ
            exact kiret hx hb hr hlocks hK (hP.sub [2, 3, 0, 1] rfl) (hD.sub [2, 3, 0, 1] (by decide) rfl) hS rfl dX11_longest_102
          · rw [if_pos hc_93] at hf
            refine lv_iload_n hx hb dX11_longest_96 rfl (lv_at hl 3 rfl) ?_
            refine lv_goto (tgt := 102) hx hb dX11_longest_97 (by decide) ?_
            cases hf
            subst hQ
            exact kiret hx hb hr hlocks hK (hP.sub [2, 3, 0, 1] rfl) (hD.sub [2, 3, 0, 1] (by decide) rfl) hS rfl dX11_longest_102
        · rw [if_pos hc_84] at hf
          refine lv_iload_n hx hb dX11_longest_87 rfl (lv_at hl 2 rfl) ?_
          refine lv_goto (tgt := 102) hx hb dX11_longest_88 (by decide) ?_
          cases hf
          subst hQ
          exact kiret hx hb hr hlocks hK (hP.sub [2, 3, 0, 1] rfl) (hD.sub [2, 3, 0, 1] (by decide) rfl) hS rfl dX11_longest_102
      · rw [if_neg hc_27] at hf
        refine lv_aload_n hx hb dX11_longest_30 rfl (lv_at hl 0 rfl) ?_
        refine lv_iload hx hb dX11_longest_31 (lv_at hl 5 rfl) ?_
        obtain ⟨r33, hq_33, hf⟩ := bnd1_s hf
        refine kcalli (wc := [(qt, .inr (11, [.ref qt_now, .ref xt_past, .int (it_saved), .ref xt_text, .int (it_length), .ref xt_doors, .int (it_doorMany), .ref xt_label, .int (it_drawn), .ref qt_far, .ref qt_ring, .int (it_walker), .int (it_from), .ref xt_was, .int (it_steps), .int (it_faultAt), .int (it_mover)])), (qt_now, .inl (cy.1, 639, .inl (ft_now)))]) (wr := [(qt_far, .inl (cy.1, 210, .inl (cft_far))), (qt_ring, .inl (cy.1, 210, .inl (cft_ring)))]) (w1 := [(qt, .inr (11, [.ref qt_now, .ref xt_past, .int (it_saved), .ref xt_text, .int (it_length), .ref xt_doors, .int (it_doorMany), .ref xt_label, .int (it_drawn), .ref qt_far, .ref qt_ring, .int (it_walker), .int (it_from), .ref xt_was, .int (it_steps), .int (it_faultAt), .int (it_mover)])), (qt_now, .inl (cy.1, 639, .inl (ft_now)))]) hK hP hD hS hA hG [2, 3] [0, 1] rfl rfl rfl rfl rfl (fun hU hPc => va_runV (As := [.int l5]) (rest := []) ⟨hx, hb, hml, hown, hts⟩ (c_X11_isRoomAt l dC dI cy G H.size qt qt_now xt_past xt_text xt_doors xt_label qt_far qt_ring xt_was (it_saved) (it_length) (it_doorMany) (it_drawn) (it_walker) (it_from) (it_steps) (it_faultAt) (it_mover) (ft_now) (l5) r33 hq_33) (cwV 1 hts gX11_longest_X11_isRoomAt rfl rfl rfl hdX11_isRoomAt ⟨Nat.le_of_ble_eq_true rfl, Nat.le_of_ble_eq_true rfl⟩) ⟨kBlind, (va_recv hK hP (ci := 11) (q0 := 2) rfl rfl), fun U h1 h2 => ⟨rfl, hU U h1 h2⟩⟩ rfl rfl hl.1 rfl (lv_room (Nat.le_of_ble_eq_true rfl)) dX11_longest_33 ⟨Nat.zero_le _, Nat.zero_le _⟩) (r33) (fun _ _ h => h) (fun _ _ h => h) (fun H locs hP hD hS => ?_)
        have hP : va_P (dC, dI) vwCl [(qt_far, .inl (cy.1, 210, .inl (cft_far))), (qt_ring, .inl (cy.1, 210, .inl (cft_ring))), (qt, .inr (11, [.ref qt_now, .ref xt_past, .int (it_saved), .ref xt_text, .int (it_length), .ref xt_doors, .int (it_doorMany), .ref xt_label, .int (it_drawn), .ref qt_far, .ref qt_ring, .int (it_walker), .int (it_from), .ref xt_was, .int (it_steps), .int (it_faultAt), .int (it_mover)])), (qt_now, .inl (cy.1, 639, .inl (ft_now)))] H := hP
        have hD : va_D A [(qt_far, .inl (cy.1, 210, .inl (cft_far))), (qt_ring, .inl (cy.1, 210, .inl (cft_ring))), (qt, .inr (11, [.ref qt_now, .ref xt_past, .int (it_saved), .ref xt_text, .int (it_length), .ref xt_doors, .int (it_doorMany), .ref xt_label, .int (it_drawn), .ref qt_far, .ref qt_ring, .int (it_walker), .int (it_from), .ref xt_was, .int (it_steps), .int (it_faultAt), .int (it_mover)])), (qt_now, .inl (cy.1, 639, .inl (ft_now)))] := hD
        refine lv_if_eq (tgt := 77) hx hb dX11_longest_36 (by decide) (fun hc_36 => ?_) (fun hc_36 => ?_)
        · rw [if_pos hc_36] at hf
          refine lv_iinc (v := (l5 + (1 : Int32))) (lv' := [(5, .int (l5 + (1 : Int32))), (0, .ref qt), (1, .int va1), (2, .int l2), (3, .int l3), (4, .int l4)]) hx hb dX11_longest_77 hl (k := 5) rfl rfl (by decide) rfl (fun ls hl => ?_)
          refine lv_goto (tgt := 21) hx hb dX11_longest_80 (by decide) ?_
          exact ih21 (l2) (l3) (l4) ((l5 + (1 : Int32))) (cft_far) (cft_ring) _ _ (hP.sub [2, 3, 0, 1] rfl) (hD.sub [2, 3, 0, 1] (by decide) rfl) hS _ (lv_sub hl [1, 2, 3, 4, 5, 0] rfl) hf
        · rw [if_neg hc_36] at hf
          refine lv_aload_n hx hb dX11_longest_39 rfl (lv_at hl 0 rfl) ?_
          refine lv_iload hx hb dX11_longest_40 (lv_at hl 5 rfl) ?_
          obtain ⟨o42_0, o42_1, hq_42, hf⟩ := bnd2_s hf
          refine kcallv (wc := [(qt, .inr (11, [.ref qt_now, .ref xt_past, .int (it_saved), .ref xt_text, .int (it_length), .ref xt_doors, .int (it_doorMany), .ref xt_label, .int (it_drawn), .ref qt_far, .ref qt_ring, .int (it_walker), .int (it_from), .ref xt_was, .int (it_steps), .int (it_faultAt), .int (it_mover)])), (qt_now, .inl (cy.1, 639, .inl (ft_now))), (qt_far, .inl (cy.1, 210, .inl (cft_far))), (qt_ring, .inl (cy.1, 210, .inl (cft_ring)))]) (wr := []) (w1 := [(qt, .inr (11, [.ref qt_now, .ref xt_past, .int (it_saved), .ref xt_text, .int (it_length), .ref xt_doors, .int (it_doorMany), .ref xt_label, .int (it_drawn), .ref qt_far, .ref qt_ring, .int (it_walker), .int (it_from), .ref xt_was, .int (it_steps), .int (it_faultAt), .int (it_mover)])), (qt_now, .inl (cy.1, 639, .inl (ft_now))), (qt_far, .inl (cy.1, 210, .inl (o42_0))), (qt_ring, .inl (cy.1, 210, .inl (o42_1)))]) hK hP hD hS hA hG [2, 3, 0, 1] [] rfl rfl rfl rfl rfl (fun hU hPc => va_runV (As := [.int l5]) (rest := []) ⟨hx, hb, hml, hown, hts⟩ (c_X11_lays l dC dI cy G H.size qt qt_now qt_far qt_ring xt_past xt_text xt_doors xt_label xt_was (it_saved) (it_length) (it_doorMany) (it_drawn) (it_walker) (it_from) (it_steps) (it_faultAt) (it_mover) N (ft_now) (cft_far) (cft_ring) (l5) (o42_0, o42_1) hq_42) (cwV 1 hts gX11_longest_X11_lays rfl rfl rfl hdX11_lays ⟨Nat.le_of_ble_eq_true rfl, Nat.le_of_ble_eq_true rfl⟩) ⟨kBlind, (va_recv hK hP (ci := 11) (q0 := 2) rfl rfl), fun U h1 h2 => ⟨rfl, hU U h1 h2⟩⟩ rfl rfl hl.1 rfl (lv_room (Nat.le_of_ble_eq_true rfl)) dX11_longest_42 ⟨Nat.zero_le _, Nat.zero_le _⟩) (fun _ _ h => h) (fun H locs hP hD hS => ?_)
          have hP : va_P (dC, dI) vwCl [(qt, .inr (11, [.ref qt_now, .ref xt_past, .int (it_saved), .ref xt_text, .int (it_length), .ref xt_doors, .int (it_doorMany), .ref xt_label, .int (it_drawn), .ref qt_far, .ref qt_ring, .int (it_walker), .int (it_from), .ref xt_was, .int (it_steps), .int (it_faultAt), .int (it_mover)])), (qt_now, .inl (cy.1, 639, .inl (ft_now))), (qt_far, .inl (cy.1, 210, .inl (o42_0))), (qt_ring, .inl (cy.1, 210, .inl (o42_1)))] H := hP
          have hD : va_D A [(qt, .inr (11, [.ref qt_now, .ref xt_past, .int (it_saved), .ref xt_text, .int (it_length), .ref xt_doors, .int (it_doorMany), .ref xt_label, .int (it_drawn), .ref qt_far, .ref qt_ring, .int (it_walker), .int (it_from), .ref xt_was, .int (it_steps), .int (it_faultAt), .int (it_mover)])), (qt_now, .inl (cy.1, 639, .inl (ft_now))), (qt_far, .inl (cy.1, 210, .inl (o42_0))), (qt_ring, .inl (cy.1, 210, .inl (o42_1)))] := hD
          refine lv_aload_n hx hb dX11_longest_45 rfl (lv_at hl 0 rfl) ?_
          obtain ⟨r46, hq_46, hf⟩ := bnd1_s hf
          refine kcalli (wc := [(qt, .inr (11, [.ref qt_now, .ref xt_past, .int (it_saved), .ref xt_text, .int (it_length), .ref xt_doors, .int (it_doorMany), .ref xt_label, .int (it_drawn), .ref qt_far, .ref qt_ring, .int (it_walker), .int (it_from), .ref xt_was, .int (it_steps), .int (it_faultAt), .int (it_mover)])), (qt_now, .inl (cy.1, 639, .inl (ft_now))), (qt_far, .inl (cy.1, 210, .inl (o42_0)))]) (wr := [(qt_ring, .inl (cy.1, 210, .inl (o42_1)))]) (w1 := [(qt, .inr (11, [.ref qt_now, .ref xt_past, .int (it_saved), .ref xt_text, .int (it_length), .ref xt_doors, .int (it_doorMany), .ref xt_label, .int (it_drawn), .ref qt_far, .ref qt_ring, .int (it_walker), .int (it_from), .ref xt_was, .int (it_steps), .int (it_faultAt), .int (it_mover)])), (qt_now, .inl (cy.1, 639, .inl (ft_now))), (qt_far, .inl (cy.1, 210, .inl (o42_0)))]) hK hP hD hS hA hG [0, 1, 2] [3] rfl rfl rfl rfl rfl (fun hU hPc => va_runV (As := []) (rest := []) ⟨hx, hb, hml, hown, hts⟩ (c_X11_farthestOf l dC dI cy G H.size qt qt_now qt_far xt_past xt_text xt_doors xt_label qt_ring xt_was (it_saved) (it_length) (it_doorMany) (it_drawn) (it_walker) (it_from) (it_steps) (it_faultAt) (it_mover) N (ft_now) (o42_0) r46 hq_46) (cwV 0 hts gX11_longest_X11_farthestOf rfl rfl rfl hdX11_farthestOf ⟨Nat.le_of_ble_eq_true rfl, Nat.le_of_ble_eq_true rfl⟩) ⟨kBlind, (va_recv hK hP (ci := 11) (q0 := 0) rfl rfl), fun U h1 h2 => ⟨rfl, hU U h1 h2⟩⟩ rfl rfl hl.1 rfl (lv_room (Nat.le_of_ble_eq_true rfl)) dX11_longest_46 ⟨Nat.zero_le _, Nat.zero_le _⟩) (r46) (fun _ _ h => h) (fun _ _ h => h) (fun H locs hP hD hS => ?_)
          have hP : va_P (dC, dI) vwCl [(qt_ring, .inl (cy.1, 210, .inl (o42_1))), (qt, .inr (11, [.ref qt_now, .ref xt_past, .int (it_saved), .ref xt_text, .int (it_length), .ref xt_doors, .int (it_doorMany), .ref xt_label, .int (it_drawn), .ref qt_far, .ref qt_ring, .int (it_walker), .int (it_from), .ref xt_was, .int (it_steps), .int (it_faultAt), .int (it_mover)])), (qt_now, .inl (cy.1, 639, .inl (ft_now))), (qt_far, .inl (cy.1, 210, .inl (o42_0)))] H := hP
          have hD : va_D A [(qt_ring, .inl (cy.1, 210, .inl (o42_1))), (qt, .inr (11, [.ref qt_now, .ref xt_past, .int (it_saved), .ref xt_text, .int (it_length), .ref xt_doors, .int (it_doorMany), .ref xt_label, .int (it_drawn), .ref qt_far, .ref qt_ring, .int (it_walker), .int (it_from), .ref xt_was, .int (it_steps), .int (it_faultAt), .int (it_mover)])), (qt_now, .inl (cy.1, 639, .inl (ft_now))), (qt_far, .inl (cy.1, 210, .inl (o42_0)))] := hD
          refine lv_istore (lv' := [(6, .int r46), (0, .ref qt), (1, .int va1), (2, .int l2), (3, .int l3), (4, .int l4), (5, .int l5)]) hx hb dX11_longest_49 hl (by decide) rfl (fun ls hl => ?_)
          refine lv_aload_n hx hb dX11_longest_51 rfl (lv_at hl 1 rfl) ?_
          refine va_get (D := (dC, dI)) (ci := 11) (C := RX11) (T := TX11) (N := 17) hx hb hts (fun _ h => (List.mem_cons_of_mem _ (List.mem_append_right _ h))) hown hK hP 1 rfl rfl 9 (by decide) (hts _ (List.mem_cons_of_mem _ (List.mem_append_left _ (List.mem_append_left _ (List.mem_of_getElem? (i := 0) rfl))))) (fun _ h => h) rfl dX11_longest_52 ?_
          refine lv_iload hx hb dX11_longest_55 (lv_at hl 0 rfl) ?_
          obtain ⟨hk_57, hf⟩ := chk_s hf
          refine va_iald hx hb hK hP 3 0 rfl rfl hk_57 dX11_longest_57 ?_
          refine lv_iload_n hx hb dX11_longest_58 rfl (lv_at hl 3 rfl) ?_
          refine lv_icmp_le (tgt := 77) hx hb dX11_longest_59 (by decide) (fun hc_59 => ?_) (fun hc_59 => ?_)
          · rw [if_pos hc_59] at hf
            refine lv_iinc (v := (l5 + (1 : Int32))) (lv' := [(5, .int (l5 + (1 : Int32))), (6, .int r46), (0, .ref qt), (1, .int va1), (2, .int l2), (3, .int l3), (4, .int l4)]) hx hb dX11_longest_77 hl (k := 6) rfl rfl (by decide) rfl (fun ls hl => ?_)
            refine lv_goto (tgt := 21) hx hb dX11_longest_80 (by decide) ?_
            exact ih21 (l2) (l3) (l4) ((l5 + (1 : Int32))) (o42_0) (o42_1) _ _ (hP.sub [1, 2, 3, 0] rfl) (hD.sub [1, 2, 3, 0] (by decide) rfl) hS _ (lv_sub hl [2, 3, 4, 5, 6, 0] rfl) hf
          · rw [if_neg hc_59] at hf
            refine lv_aload_n hx hb dX11_longest_62 rfl (lv_at hl 1 rfl) ?_
            refine va_get (D := (dC, dI)) (ci := 11) (C := RX11) (T := TX11) (N := 17) hx hb hts (fun _ h => (List.mem_cons_of_mem _ (List.mem_append_right _ h))) hown hK hP 1 rfl rfl 9 (by decide) (hts _ (List.mem_cons_of_mem _ (List.mem_append_left _ (List.mem_append_left _ (List.mem_of_getElem? (i := 0) rfl))))) (fun _ h => h) rfl dX11_longest_63 ?_
            refine lv_iload hx hb dX11_longest_66 (lv_at hl 0 rfl) ?_
            obtain ⟨hk_68, hf⟩ := chk_s hf
            refine va_iald hx hb hK hP 3 0 rfl rfl hk_68 dX11_longest_68 ?_
            refine lv_istore_n (lv' := [(2, .int (o42_0 (r46).toNatClampNeg)), (6, .int r46), (0, .ref qt), (1, .int va1), (3, .int l3), (4, .int l4), (5, .int l5)]) hx hb dX11_longest_69 rfl hl (by decide) rfl (fun ls hl => ?_)
            refine lv_iload hx hb dX11_longest_70 (lv_at hl 6 rfl) ?_
            refine lv_istore_n (lv' := [(3, .int l5), (2, .int (o42_0 (r46).toNatClampNeg)), (6, .int r46), (0, .ref qt), (1, .int va1), (4, .int l4), (5, .int l5)]) hx hb dX11_longest_72 rfl hl (by decide) rfl (fun ls hl => ?_)
            refine lv_iload hx hb dX11_longest_73 (lv_at hl 2 rfl) ?_
            refine lv_istore (lv' := [(4, .int r46), (3, .int l5), (2, .int (o42_0 (r46).toNatClampNeg)), (6, .int r46), (0, .ref qt), (1, .int va1), (5, .int l5)]) hx hb dX11_longest_75 hl (by decide) rfl (fun ls hl => ?_)
            refine lv_iinc (v := (l5 + (1 : Int32))) (lv' := [(5, .int (l5 + (1 : Int32))), (4, .int r46), (3, .int l5), (2, .int (o42_0 (r46).toNatClampNeg)), (6, .int r46), (0, .ref qt), (1, .int va1)]) hx hb dX11_longest_77 hl (k := 6) rfl rfl (by decide) rfl (fun ls hl => ?_)
            refine lv_goto (tgt := 21) hx hb dX11_longest_80 (by decide) ?_
            exact ih21 ((o42_0 (r46).toNatClampNeg)) (l5) (r46) ((l5 + (1 : Int32))) (o42_0) (o42_1) _ _ (hP.sub [1, 2, 3, 0] rfl) (hD.sub [1, 2, 3, 0] (by decide) rfl) hS _ (lv_sub hl [5, 6, 3, 2, 1, 0] rfl) hf
  rw [f_X11_longest] at hf
  refine lv_iload_n hx hb dX11_longest_0 rfl (lv_at hl 1 rfl) ?_
  refine lv_iconst (v := (0 : Int32)) hx hb dX11_longest_1 (by decide) ?_
  refine lv_iconst (v := (2 : Int32)) hx hb dX11_longest_2 (by decide) ?_
  refine kcalli (wc := []) (wr := [(qt, .inr (11, [.ref qt_now, .ref xt_past, .int (it_saved), .ref xt_text, .int (it_length), .ref xt_doors, .int (it_doorMany), .ref xt_label, .int (it_drawn), .ref qt_far, .ref qt_ring, .int (it_walker), .int (it_from), .ref xt_was, .int (it_steps), .int (it_faultAt), .int (it_mover)])), (qt_now, .inl (cy.1, 639, .inl (ft_now))), (qt_far, .inl (cy.1, 210, .inl (ft_far))), (qt_ring, .inl (cy.1, 210, .inl (ft_ring)))]) (w1 := []) hK hP hD hS hA hG [] [0, 1, 2, 3] rfl rfl rfl rfl rfl (fun hU hPc => va_runS (As := [.int va1, .int (0 : Int32), .int (2 : Int32)]) (rest := []) ⟨hx, hb, hml, hown, hts⟩ (c_X11_in l dC dI cy G s.heap.size (va1) ((0 : Int32)) ((2 : Int32)) (t_X11_in (va1) ((0 : Int32)) ((2 : Int32))) (tot_X11_in (va1) ((0 : Int32)) ((2 : Int32)))) (va_cwS 3 hts gX11_longest_X11_in rfl rfl rfl hdX11_in.2 ⟨Nat.le_of_ble_eq_true rfl, Nat.le_of_ble_eq_true rfl⟩) ⟨kBlind, fun U h1 h2 => ⟨rfl, hU U h1 h2⟩⟩ rfl rfl hl.1 rfl (lv_room (Nat.le_of_ble_eq_true rfl)) dX11_longest_3 ⟨Nat.zero_le _, Nat.zero_le _⟩) ((t_X11_in (va1) ((0 : Int32)) ((2 : Int32)))) (fun _ _ h => h) (fun _ _ h => h) (fun H locs hP hD hS => ?_)
  have hP : va_P (dC, dI) vwCl [(qt, .inr (11, [.ref qt_now, .ref xt_past, .int (it_saved), .ref xt_text, .int (it_length), .ref xt_doors, .int (it_doorMany), .ref xt_label, .int (it_drawn), .ref qt_far, .ref qt_ring, .int (it_walker), .int (it_from), .ref xt_was, .int (it_steps), .int (it_faultAt), .int (it_mover)])), (qt_now, .inl (cy.1, 639, .inl (ft_now))), (qt_far, .inl (cy.1, 210, .inl (ft_far))), (qt_ring, .inl (cy.1, 210, .inl (ft_ring)))] H := hP
  have hD : va_D A [(qt, .inr (11, [.ref qt_now, .ref xt_past, .int (it_saved), .ref xt_text, .int (it_length), .ref xt_doors, .int (it_doorMany), .ref xt_label, .int (it_drawn), .ref qt_far, .ref qt_ring, .int (it_walker), .int (it_from), .ref xt_was, .int (it_steps), .int (it_faultAt), .int (it_mover)])), (qt_now, .inl (cy.1, 639, .inl (ft_now))), (qt_far, .inl (cy.1, 210, .inl (ft_far))), (qt_ring, .inl (cy.1, 210, .inl (ft_ring)))] := hD
  refine lv_if_ne (tgt := 11) hx hb dX11_longest_6 (by decide) (fun hc_6 => ?_) (fun hc_6 => ?_)
  · rw [if_neg hc_6] at hf
    refine lv_iconst (v := (-1 : Int32)) hx hb dX11_longest_11 (by decide) ?_
    refine lv_istore_n (lv' := [(2, .int (-1 : Int32)), (0, .ref qt), (1, .int va1)]) hx hb dX11_longest_12 rfl hl (by decide) rfl (fun ls hl => ?_)
    refine lv_iconst (v := (0 : Int32)) hx hb dX11_longest_13 (by decide) ?_
    refine lv_istore_n (lv' := [(3, .int (0 : Int32)), (2, .int (-1 : Int32)), (0, .ref qt), (1, .int va1)]) hx hb dX11_longest_14 rfl hl (by decide) rfl (fun ls hl => ?_)
    refine lv_iconst (v := (0 : Int32)) hx hb dX11_longest_15 (by decide) ?_
    refine lv_istore (lv' := [(4, .int (0 : Int32)), (3, .int (0 : Int32)), (2, .int (-1 : Int32)), (0, .ref qt), (1, .int va1)]) hx hb dX11_longest_16 hl (by decide) rfl (fun ls hl => ?_)
    refine lv_iconst (v := (0 : Int32)) hx hb dX11_longest_18 (by decide) ?_
    refine lv_istore (lv' := [(5, .int (0 : Int32)), (4, .int (0 : Int32)), (3, .int (0 : Int32)), (2, .int (-1 : Int32)), (0, .ref qt), (1, .int va1)]) hx hb dX11_longest_19 hl (by decide) rfl (fun ls hl => ?_)
    exact B21 N ((-1 : Int32)) ((0 : Int32)) ((0 : Int32)) ((0 : Int32)) (ft_far) (ft_ring) _ _ (hP.sub [0, 1, 2, 3] rfl) (hD.sub [0, 1, 2, 3] (by decide) rfl) hS _ (lv_sub hl [4, 5, 3, 2, 1, 0] rfl) hf
  · rw [if_pos hc_6] at hf
    refine lv_iconst (v := (-1 : Int32)) hx hb dX11_longest_9 (by decide) ?_
    cases hf
    subst hQ
    exact kiret hx hb hr hlocks hK (hP.sub [0, 1, 2, 3] rfl) (hD.sub [0, 1, 2, 3] (by decide) rfl) hS rfl dX11_longest_10
theorem hdX11_longest : yX11_longest.cls = RX11 ∧ yX11_longest.cls ≠ "java/lang/invoke/MethodHandle" ∧ yX11_longest.cls ≠ "java/lang/invoke/VarHandle" ∧ (parseMethodDescriptor yX11_longest.desc).map (fun d => d.parameters.length) = some 1 := by decide +kernel
noncomputable def b_X11_grade_99 (N : Nat) (ft_now : Nat → Int32) (k77 : Int32 → Int32 → Int32 → Int32 → Int32 → (Nat → Int32) → (Nat → Int32) → Option (Int32 × (Nat → Int32) × (Nat → Int32))) (l1 : Int32) (l2 : Int32) (l3 : Int32) (l5 : Int32) (s0 : Int32) (s1 : Int32) (cft_far : Nat → Int32) (cft_ring : Nat → Int32) : Option (Int32 × (Nat → Int32) × (Nat → Int32)) :=
  bnd1 (f_X11_leads N (ft_now) (cft_far) (l5)) fun r108 =>
  bnd1 (f_X11_beside (ft_now) (l5) (r108)) fun r111 =>
  k77 (l1) (l2) (l3) ((s0 + s1)) (r111) (cft_far) (cft_ring)
noncomputable def b_X11_grade_77 (N : Nat) (ft_now : Nat → Int32) : Nat → Int32 → Int32 → Int32 → Int32 → Int32 → (Nat → Int32) → (Nat → Int32) → Option (Int32 × (Nat → Int32) × (Nat → Int32))
  | 0, _, _, _, _, _, _, _ => none
  | n + 1, l1, l2, l3, l4, l5, cft_far, cft_ring =>
    if l5 = l2 then
      if l1 < 0 ∨ 210 ≤ (l1).toNatClampNeg then none else
      if l1 < 0 ∨ 210 ≤ (l1).toNatClampNeg then none else
      if ((((cft_far (l1).toNatClampNeg) + ((4 : Int32) * l4)) + (((l3 - (cft_far (l1).toNatClampNeg)) - (1 : Int32)) / (2 : Int32))) / (10 : Int32)) ≤ (9 : Int32) then
        some (((((cft_far (l1).toNatClampNeg) + ((4 : Int32) * l4)) + (((l3 - (cft_far (l1).toNatClampNeg)) - (1 : Int32)) / (2 : Int32))) / (10 : Int32)), cft_far, cft_ring)
      else
        some ((9 : Int32), cft_far, cft_ring)
    else
      bnd1 (f_X11_isFork N (ft_now) (l5)) fun r88 =>
      if r88 = 0 then
        b_X11_grade_99 N ft_now (b_X11_grade_77 N ft_now n) (l1) (l2) (l3) (l5) (l4) ((0 : Int32)) (cft_far) (cft_ring)
      else
        b_X11_grade_99 N ft_now (b_X11_grade_77 N ft_now n) (l1) (l2) (l3) (l5) (l4) ((1 : Int32)) (cft_far) (cft_ring)
noncomputable def b_X11_grade_38 (N : Nat) (ft_now : Nat → Int32) : Nat → Int32 → Int32 → Int32 → Int32 → (Nat → Int32) → (Nat → Int32) → Option (Int32 × (Nat → Int32) × (Nat → Int32))
  | 0, _, _, _, _, _, _ => none
  | n + 1, l1, l2, l3, l4, cft_far, cft_ring =>
    if (t_X11_cells (ft_now)) ≤ l4 then
      b_X11_grade_77 N ft_now N (l1) (l2) (l3) ((0 : Int32)) (l1) (cft_far) (cft_ring)
    else
      if l4 < 0 ∨ 210 ≤ (l4).toNatClampNeg then none else
      if (cft_far (l4).toNatClampNeg) < 0 then
        b_X11_grade_38 N ft_now n (l1) (l2) ((l3 + (0 : Int32))) ((l4 + (1 : Int32))) (cft_far) (cft_ring)
      else
        b_X11_grade_38 N ft_now n (l1) (l2) ((l3 + (1 : Int32))) ((l4 + (1 : Int32))) (cft_far) (cft_ring)
noncomputable def f_X11_grade (N : Nat) (ft_now : Nat → Int32) (ft_far : Nat → Int32) (ft_ring : Nat → Int32) : Option (Int32 × (Nat → Int32) × (Nat → Int32)) :=
  bnd2 (f_X11_lays N (ft_now) (ft_far) (ft_ring) ((ft_now ((8 : Int32)).toNatClampNeg))) fun o18_0 o18_1 =>
  if (ft_now ((7 : Int32)).toNatClampNeg) < 0 ∨ 210 ≤ ((ft_now ((7 : Int32)).toNatClampNeg)).toNatClampNeg then none else
  if 0 ≤ (o18_0 ((ft_now ((7 : Int32)).toNatClampNeg)).toNatClampNeg) then
    b_X11_grade_38 N ft_now N ((ft_now ((7 : Int32)).toNatClampNeg)) ((ft_now ((8 : Int32)).toNatClampNeg)) ((0 : Int32)) ((0 : Int32)) (o18_0) (o18_1)
  else
    some ((-4 : Int32), o18_0, o18_1)
abbrev rm_X11_grade : Room := { frames := 8, cells := 0, slots := 0, locals := 179 }
set_option maxHeartbeats 4000000 in
set_option maxRecDepth 100000 in
theorem c_X11_grade (l : Launch) (dC : Nat → ClassId) (dI : Nat → Nat → Nat) (cy : gC) (G : gT) (sz : Nat) (qt : Nat) (qt_now : Nat) (qt_far : Nat) (qt_ring : Nat) (xt_past : Nat) (xt_text : Nat) (xt_doors : Nat) (xt_label : Nat) (xt_was : Nat) (it_saved : Int32) (it_length : Int32) (it_doorMany : Int32) (it_drawn : Int32) (it_walker : Int32) (it_from : Int32) (it_steps : Int32) (it_faultAt : Int32) (it_mover : Int32) (N : Nat) (ft_now : Nat → Int32) (ft_far : Nat → Int32) (ft_ring : Nat → Int32) (out : Int32 × (Nat → Int32) × (Nat → Int32)) (hf : f_X11_grade N ft_now ft_far ft_ring = some out) : Met l yX11_grade wsX11_grade rm_X11_grade (va_Pc [.ref qt] (kP (dC, dI) cy G [(qt, .inr (11, [.ref qt_now, .ref xt_past, .int (it_saved), .ref xt_text, .int (it_length), .ref xt_doors, .int (it_doorMany), .ref xt_label, .int (it_drawn), .ref qt_far, .ref qt_ring, .int (it_walker), .int (it_from), .ref xt_was, .int (it_steps), .int (it_faultAt), .int (it_mover)])), (qt_now, .inl (cy.1, 639, .inl (ft_now))), (qt_far, .inl (cy.1, 210, .inl (ft_far))), (qt_ring, .inl (cy.1, 210, .inl (ft_ring)))] sz)) (va_Qi (fun r (_ : Unit) => r = out.1) (fun _ => kQ (dC, dI) cy [(qt, .inr (11, [.ref qt_now, .ref xt_past, .int (it_saved), .ref xt_text, .int (it_length), .ref xt_doors, .int (it_doorMany), .ref xt_label, .int (it_drawn), .ref qt_far, .ref qt_ring, .int (it_walker), .int (it_from), .ref xt_was, .int (it_steps), .int (it_faultAt), .int (it_mover)])), (qt_now, .inl (cy.1, 639, .inl (ft_now))), (qt_far, .inl (cy.1, 210, .inl (out.2.1))), (qt_ring, .inl (cy.1, 210, .inl (out.2.2)))] (va_A [(qt, .inr (11, [.ref qt_now, .ref xt_past, .int (it_saved), .ref xt_text, .int (it_length), .ref xt_doors, .int (it_doorMany), .ref xt_label, .int (it_drawn), .ref qt_far, .ref qt_ring, .int (it_walker), .int (it_from), .ref xt_was, .int (it_steps), .int (it_faultAt), .int (it_mover)])), (qt_now, .inl (cy.1, 639, .inl (ft_now))), (qt_far, .inl (cy.1, 210, .inl (ft_far))), (qt_ring, .inl (cy.1, 210, .inl (ft_ring)))] sz)) (va_A [(qt, .inr (11, [.ref qt_now, .ref xt_past, .int (it_saved), .ref xt_text, .int (it_length), .ref xt_doors, .int (it_doorMany), .ref xt_label, .int (it_drawn), .ref qt_far, .ref qt_ring, .int (it_walker), .int (it_from), .ref xt_was, .int (it_steps), .int (it_faultAt), .int (it_mover)])), (qt_now, .inl (cy.1, 639, .inl (ft_now))), (qt_far, .inl (cy.1, 210, .inl (ft_far))), (qt_ring, .inl (cy.1, 210, .inl (ft_ring)))] sz)) 0 0 (va_A [(qt, .inr (11, [.ref qt_now, .ref xt_past, .int (it_saved), .ref xt_text, .int (it_length), .ref xt_doors, .int (it_doorMany), .ref xt_label, .int (it_drawn), .ref qt_far, .ref qt_ring, .int (it_walker), .int (it_from), .ref xt_was, .int (it_steps), .int (it_faultAt), .int (it_mover)])), (qt_now, .inl (cy.1, 639, .inl (ft_now))), (qt_far, .inl (cy.1, 210, .inl (ft_far))), (qt_ring, .inl (cy.1, 210, .inl (ft_ring)))] sz) := by
  refine Met.ofW (cc := cX11_grade) (maxL := 7) (ret := (some .int)) (by decide) rfl ?_
  intro p e s m args below meth c s₁ B hml hv
  obtain ⟨rfl, hsz, hP, hK, hD0, hG⟩ := hv
  have hx := B.exec
  have hb := B.bytes
  have hr := B.returns
  have hts := atoms_spec (ws := wsX11_grade) B.pre
  have hown : s.vm.findClass RX11 = some m.cls := findClass_of_methodNamed B.named
  have hlocks := B.notSynchronized
  subst hsz
  have hD := hD0.self (sz := s.heap.size)
  generalize hAe : va_A [(qt, .inr (11, [.ref qt_now, .ref xt_past, .int (it_saved), .ref xt_text, .int (it_length), .ref xt_doors, .int (it_doorMany), .ref xt_label, .int (it_drawn), .ref qt_far, .ref qt_ring, .int (it_walker), .int (it_from), .ref xt_was, .int (it_steps), .int (it_faultAt), .int (it_mover)])), (qt_now, .inl (cy.1, 639, .inl (ft_now))), (qt_far, .inl (cy.1, 210, .inl (ft_far))), (qt_ring, .inl (cy.1, 210, .inl (ft_ring)))] s.heap.size = A at hD hG ⊢
  have hA : ∀ q : Nat, s.heap.size ≤ q → A q := fun q h => by rw [← hAe]; exact Or.inr h
  have hS : va_S A s.heap s.heap [] := va_S.rf
  have hP : va_P (dC, dI) vwCl [(qt, .inr (11, [.ref qt_now, .ref xt_past, .int (it_saved), .ref xt_text, .int (it_length), .ref xt_doors, .int (it_doorMany), .ref xt_label, .int (it_drawn), .ref qt_far, .ref qt_ring, .int (it_walker), .int (it_from), .ref xt_was, .int (it_steps), .int (it_faultAt), .int (it_mover)])), (qt_now, .inl (cy.1, 639, .inl (ft_now))), (qt_far, .inl (cy.1, 210, .inl (ft_far))), (qt_ring, .inl (cy.1, 210, .inl (ft_ring)))] s.heap := hP
  have hl := lv_entry ([.ref qt]) (n := 7) (Nat.le_of_ble_eq_true rfl)
  rw [lg_entry_eq]
  generalize (lg_sl ([.ref qt]) ++ List.replicate (7 - (lg_sl ([.ref qt])).length) Slot.unset).toArray = ls at hl ⊢
  have hl : lv_has ls 7 [(0, .ref qt)] := hl
  refine kgen (fun Q hQ => ?_)
  have B77 : ∀ (n77 : Nat) (l1 : Int32) (l2 : Int32) (l3 : Int32) (l4 : Int32) (l5 : Int32) (cft_far : Nat → Int32) (cft_ring : Nat → Int32) (H : Heap) (locs : List Loc), va_P (dC, dI) vwCl [(qt, .inr (11, [.ref qt_now, .ref xt_past, .int (it_saved), .ref xt_text, .int (it_length), .ref xt_doors, .int (it_doorMany), .ref xt_label, .int (it_drawn), .ref qt_far, .ref qt_ring, .int (it_walker), .int (it_from), .ref xt_was, .int (it_steps), .int (it_faultAt), .int (it_mover)])), (qt_now, .inl (cy.1, 639, .inl (ft_now))), (qt_far, .inl (cy.1, 210, .inl (cft_far))), (qt_ring, .inl (cy.1, 210, .inl (cft_ring)))] H → va_D A [(qt, .inr (11, [.ref qt_now, .ref xt_past, .int (it_saved), .ref xt_text, .int (it_length), .ref xt_doors, .int (it_doorMany), .ref xt_label, .int (it_drawn), .ref qt_far, .ref qt_ring, .int (it_walker), .int (it_from), .ref xt_was, .int (it_steps), .int (it_faultAt), .int (it_mover)])), (qt_now, .inl (cy.1, 639, .inl (ft_now))), (qt_far, .inl (cy.1, 210, .inl (cft_far))), (qt_ring, .inl (cy.1, 210, .inl (cft_ring)))] → va_S A s.heap H locs → ∀ (ls : Array Slot), lv_has ls 7 [(0, .ref qt), (1, .int l1), (2, .int l2), (3, .int l3), (4, .int l4), (5, .int l5)] → b_X11_grade_77 N ft_now n77 l1 l2 l3 l4 l5 cft_far cft_ring = some out → W p l e (headSpec wsX11_grade rm_X11_grade).room s m ([.ref qt] : List Value).toArray below meth c H locs 0 0 Q (F0 m 77 ls []) := by
    intro n77
    induction n77 with
    | zero => intro l1 l2 l3 l4 l5 cft_far cft_ring H locs hP hD hS ls hl hf; rw [b_X11_grade_77] at hf; cases hf
    | succ n77 ih77 =>
      have B99 : ∀ (l1 : Int32) (l2 : Int32) (l3 : Int32) (l5 : Int32) (s0 : Int32) (s1 : Int32) (cft_far : Nat → Int32) (cft_ring : Nat → Int32) (H : Heap) (locs : List Loc), va_P (dC, dI) vwCl [(qt, .inr (11, [.ref qt_now, .ref xt_past, .int (it_saved), .ref xt_text, .int (it_length), .ref xt_doors, .int (it_doorMany), .ref xt_label, .int (it_drawn), .ref qt_far, .ref qt_ring, .int (it_walker), .int (it_from), .ref xt_was, .int (it_steps), .int (it_faultAt), .int (it_mover)])), (qt_now, .inl (cy.1, 639, .inl (ft_now))), (qt_far, .inl (cy.1, 210, .inl (cft_far))), (qt_ring, .inl (cy.1, 210, .inl (cft_ring)))] H → va_D A [(qt, .inr (11, [.ref qt_now, .ref xt_past, .int (it_saved), .ref xt_text, .int (it_length), .ref xt_doors, .int (it_doorMany), .ref xt_label, .int (it_drawn), .ref qt_far, .ref qt_ring, .int (it_walker), .int (it_from), .ref xt_was, .int (it_steps), .int (it_faultAt), .int (it_mover)])), (qt_now, .inl (cy.1, 639, .inl (ft_now))), (qt_far, .inl (cy.1, 210, .inl (cft_far))), (qt_ring, .inl (cy.1, 210, .inl (cft_ring)))] → va_S A s.heap H locs → ∀ (ls : Array Slot), lv_has ls 7 [(0, .ref qt), (1, .int l1), (2, .int l2), (3, .int l3), (5, .int l5)] → b_X11_grade_99 N ft_now (b_X11_grade_77 N ft_now n77) l1 l2 l3 l5 s0 s1 cft_far cft_ring = some out → W p l e (headSpec wsX11_grade rm_X11_grade).room s m ([.ref qt] : List Value).toArray below meth c H locs 0 0 Q (F0 m 99 ls [.int s1, .int s0]) := by
        intro l1 l2 l3 l5 s0 s1 cft_far cft_ring H locs hP hD hS ls hl hf
        rw [b_X11_grade_99] at hf
        refine lv_iadd hx hb dX11_grade_99 ?_
        refine lv_istore (lv' := [(4, .int (s0 + s1)), (0, .ref qt), (1, .int l1), (2, .int l2), (3, .int l3), (5, .int l5)]) hx hb dX11_grade_100 hl (by decide) rfl (fun ls hl => ?_)
        refine lv_aload_n hx hb dX11_grade_102 rfl (lv_at hl 1 rfl) ?_
        refine lv_iload hx hb dX11_grade_103 (lv_at hl 5 rfl) ?_
        refine lv_aload_n hx hb dX11_grade_105 rfl (lv_at hl 1 rfl) ?_
        refine lv_iload hx hb dX11_grade_106 (lv_at hl 5 rfl) ?_
        obtain ⟨r108, hq_108, hf⟩ := bnd1_s hf
        refine kcalli (wc := [(qt, .inr (11, [.ref qt_now, .ref xt_past, .int (it_saved), .ref xt_text, .int (it_length), .ref xt_doors, .int (it_doorMany), .ref xt_label, .int (it_drawn), .ref qt_far, .ref qt_ring, .int (it_walker), .int (it_from), .ref xt_was, .int (it_steps), .int (it_faultAt), .int (it_mover)])), (qt_now, .inl (cy.1, 639, .inl (ft_now))), (qt_far, .inl (cy.1, 210, .inl (cft_far)))]) (wr := [(qt_ring, .inl (cy.1, 210, .inl (cft_ring)))]) (w1 := [(qt, .inr (11, [.ref qt_now, .ref xt_past, .int (it_saved), .ref xt_text, .int (it_length), .ref xt_doors, .int (it_doorMany), .ref xt_label, .int (it_drawn), .ref qt_far, .ref qt_ring, .int (it_walker), .int (it_from), .ref xt_was, .int (it_steps), .int (it_faultAt), .int (it_mover)])), (qt_now, .inl (cy.1, 639, .inl (ft_now))), (qt_far, .inl (cy.1, 210, .inl (cft_far)))]) hK hP hD hS hA hG [0, 1, 2] [3] rfl rfl rfl rfl rfl (fun hU hPc => va_runV (As := [.int l5]) (rest := [.int l5, .ref qt]) ⟨hx, hb, hml, hown, hts⟩ (c_X11_leads l dC dI cy G H.size qt qt_now qt_far xt_past xt_text xt_doors xt_label qt_ring xt_was (it_saved) (it_length) (it_doorMany) (it_drawn) (it_walker) (it_from) (it_steps) (it_faultAt) (it_mover) N (ft_now) (cft_far) (l5) r108 hq_108) (cwV 1 hts gX11_grade_X11_leads rfl rfl rfl hdX11_leads ⟨Nat.le_of_ble_eq_true rfl, Nat.le_of_ble_eq_true rfl⟩) ⟨kBlind, (va_recv hK hP (ci := 11) (q0 := 0) rfl rfl), fun U h1 h2 => ⟨rfl, hU U h1 h2⟩⟩ rfl rfl hl.1 rfl (lv_room (Nat.le_of_ble_eq_true rfl)) dX11_grade_108 ⟨Nat.zero_le _, Nat.zero_le _⟩) (r108) (fun _ _ h => h) (fun _ _ h => h) (fun H locs hP hD hS => ?_)
        have hP : va_P (dC, dI) vwCl [(qt_ring, .inl (cy.1, 210, .inl (cft_ring))), (qt, .inr (11, [.ref qt_now, .ref xt_past, .int (it_saved), .ref xt_text, .int (it_length), .ref xt_doors, .int (it_doorMany), .ref xt_label, .int (it_drawn), .ref qt_far, .ref qt_ring, .int (it_walker), .int (it_from), .ref xt_was, .int (it_steps), .int (it_faultAt), .int (it_mover)])), (qt_now, .inl (cy.1, 639, .inl (ft_now))), (qt_far, .inl (cy.1, 210, .inl (cft_far)))] H := hP
        have hD : va_D A [(qt_ring, .inl (cy.1, 210, .inl (cft_ring))), (qt, .inr (11, [.ref qt_now, .ref xt_past, .int (it_saved), .ref xt_text, .int (it_length), .ref xt_doors, .int (it_doorMany), .ref xt_label, .int (it_drawn), .ref qt_far, .ref qt_ring, .int (it_walker), .int (it_from), .ref xt_was, .int (it_steps), .int (it_faultAt), .int (it_mover)])), (qt_now, .inl (cy.1, 639, .inl (ft_now))), (qt_far, .inl (cy.1, 210, .inl (cft_far)))] := hD
        obtain ⟨r111, hq_111, hf⟩ := bnd1_s hf
        refine kcalli (wc := [(qt, .inr (11, [.ref qt_now, .ref xt_past, .int (it_saved), .ref xt_text, .int (it_length), .ref xt_doors, .int (it_doorMany), .ref xt_label, .int (it_drawn), .ref qt_far, .ref qt_ring, .int (it_walker), .int (it_from), .ref xt_was, .int (it_steps), .int (it_faultAt), .int (it_mover)])), (qt_now, .inl (cy.1, 639, .inl (ft_now)))]) (wr := [(qt_ring, .inl (cy.1, 210, .inl (cft_ring))), (qt_far, .inl (cy.1, 210, .inl (cft_far)))]) (w1 := [(qt, .inr (11, [.ref qt_now, .ref xt_past, .int (it_saved), .ref xt_text, .int (it_length), .ref xt_doors, .int (it_doorMany), .ref xt_label, .int (it_drawn), .ref qt_far, .ref qt_ring, .int (it_walker), .int (it_from), .ref xt_was, .int (it_steps), .int (it_faultAt), .int (it_mover)])), (qt_now, .inl (cy.1, 639, .inl (ft_now)))]) hK hP hD hS hA hG [1, 2] [0, 3] rfl rfl rfl rfl rfl (fun hU hPc => va_runV (As := [.int l5, .int r108]) (rest := []) ⟨hx, hb, hml, hown, hts⟩ (c_X11_beside l dC dI cy G H.size qt qt_now xt_past xt_text xt_doors xt_label qt_far qt_ring xt_was (it_saved) (it_length) (it_doorMany) (it_drawn) (it_walker) (it_from) (it_steps) (it_faultAt) (it_mover) (ft_now) (l5) (r108) r111 hq_111) (cwV 2 hts gX11_grade_X11_beside rfl rfl rfl hdX11_beside ⟨Nat.le_of_ble_eq_true rfl, Nat.le_of_ble_eq_true rfl⟩) ⟨kBlind, (va_recv hK hP (ci := 11) (q0 := 1) rfl rfl), fun U h1 h2 => ⟨rfl, hU U h1 h2⟩⟩ rfl rfl hl.1 rfl (lv_room (Nat.le_of_ble_eq_true rfl)) dX11_grade_111 ⟨Nat.zero_le _, Nat.zero_le _⟩) (r111) (fun _ _ h => h) (fun _ _ h => h) (fun H locs hP hD hS => ?_)
        have hP : va_P (dC, dI) vwCl [(qt_ring, .inl (cy.1, 210, .inl (cft_ring))), (qt_far, .inl (cy.1, 210, .inl (cft_far))), (qt, .inr (11, [.ref qt_now, .ref xt_past, .int (it_saved), .ref xt_text, .int (it_length), .ref xt_doors, .int (it_doorMany), .ref xt_label, .int (it_drawn), .ref qt_far, .ref qt_ring, .int (it_walker), .int (it_from), .ref xt_was, .int (it_steps), .int (it_faultAt), .int (it_mover)])), (qt_now, .inl (cy.1, 639, .inl (ft_now)))] H := hP
        have hD : va_D A [(qt_ring, .inl (cy.1, 210, .inl (cft_ring))), (qt_far, .inl (cy.1, 210, .inl (cft_far))), (qt, .inr (11, [.ref qt_now, .ref xt_past, .int (it_saved), .ref xt_text, .int (it_length), .ref xt_doors, .int (it_doorMany), .ref xt_label, .int (it_drawn), .ref qt_far, .ref qt_ring, .int (it_walker), .int (it_from), .ref xt_was, .int (it_steps), .int (it_faultAt), .int (it_mover)])), (qt_now, .inl (cy.1, 639, .inl (ft_now)))] := hD
        refine lv_istore (lv' := [(5, .int r111), (4, .int (s0 + s1)), (0, .ref qt), (1, .int l1), (2, .int l2), (3, .int l3)]) hx hb dX11_grade_114 hl (by decide) rfl (fun ls hl => ?_)
        refine lv_goto (tgt := 77) hx hb dX11_grade_116 (by decide) ?_
        exact ih77 (l1) (l2) (l3) ((s0 + s1)) (r111) (cft_far) (cft_ring) _ _ (hP.sub [2, 3, 1, 0] rfl) (hD.sub [2, 3, 1, 0] (by decide) rfl) hS _ (lv_sub hl [2, 3, 4, 5, 1, 0] rfl) hf
      intro l1 l2 l3 l4 l5 cft_far cft_ring H locs hP hD hS ls hl hf
      rw [b_X11_grade_77] at hf
      refine lv_iload hx hb dX11_grade_77 (lv_at hl 5 rfl) ?_
      refine lv_iload_n hx hb dX11_grade_79 rfl (lv_at hl 2 rfl) ?_
      refine lv_icmp_eq (tgt := 119) hx hb dX11_grade_80 (by decide) (fun hc_80 => ?_) (fun hc_80 => ?_)
      · rw [if_pos hc_80] at hf
        refine lv_aload_n hx hb dX11_grade_119 rfl (lv_at hl 0 rfl) ?_
        refine va_get (D := (dC, dI)) (ci := 11) (C := RX11) (T := TX11) (N := 17) hx hb hts (fun _ h => (List.mem_cons_of_mem _ (List.mem_append_right _ h))) hown hK hP 0 rfl rfl 9 (by decide) (hts _ (List.mem_cons_of_mem _ (List.mem_append_left _ (List.mem_append_left _ (List.mem_of_getElem? (i := 1) rfl))))) (fun _ h => h) rfl dX11_grade_120 ?_
        refine lv_iload_n hx hb dX11_grade_123 rfl (lv_at hl 1 rfl) ?_
        obtain ⟨hk_124, hf⟩ := chk_s hf
        refine va_iald hx hb hK hP 2 0 rfl rfl hk_124 dX11_grade_124 ?_
        refine lv_iconst (v := (4 : Int32)) hx hb dX11_grade_125 (by decide) ?_
        refine lv_iload hx hb dX11_grade_126 (lv_at hl 4 rfl) ?_
        refine lv_imul hx hb dX11_grade_128 ?_
        refine lv_iadd hx hb dX11_grade_129 ?_
        refine lv_iload_n hx hb dX11_grade_130 rfl (lv_at hl 3 rfl) ?_
        refine lv_aload_n hx hb dX11_grade_131 rfl (lv_at hl 0 rfl) ?_
        refine va_get (D := (dC, dI)) (ci := 11) (C := RX11) (T := TX11) (N := 17) hx hb hts (fun _ h => (List.mem_cons_of_mem _ (List.mem_append_right _ h))) hown hK hP 0 rfl rfl 9 (by decide) (hts _ (List.mem_cons_of_mem _ (List.mem_append_left _ (List.mem_append_left _ (List.mem_of_getElem? (i := 1) rfl))))) (fun _ h => h) rfl dX11_grade_132 ?_
        refine lv_iload_n hx hb dX11_grade_135 rfl (lv_at hl 1 rfl) ?_
        obtain ⟨hk_136, hf⟩ := chk_s hf
        refine va_iald hx hb hK hP 2 0 rfl rfl hk_136 dX11_grade_136 ?_
        refine lv_isub hx hb dX11_grade_137 ?_
        refine lv_iconst (v := (1 : Int32)) hx hb dX11_grade_138 (by decide) ?_
        refine lv_isub hx hb dX11_grade_139 ?_
        refine lv_iconst (v := (2 : Int32)) hx hb dX11_grade_140 (by decide) ?_
        refine lv_idiv hx hb dX11_grade_141 (by decide) ?_
        refine lv_iadd hx hb dX11_grade_142 ?_
        refine lv_bipush (v := (10 : Int32)) hx hb dX11_grade_143 (by decide) ?_
        refine lv_idiv hx hb dX11_grade_145 (by decide) ?_
        refine lv_istore (lv' := [(6, .int ((((cft_far (l1).toNatClampNeg) + ((4 : Int32) * l4)) + (((l3 - (cft_far (l1).toNatClampNeg)) - (1 : Int32)) / (2 : Int32))) / (10 : Int32))), (0, .ref qt), (1, .int l1), (2, .int l2), (3, .int l3), (4, .int l4), (5, .int l5)]) hx hb dX11_grade_146 hl (by decide) rfl (fun ls hl => ?_)
        refine lv_iload hx hb dX11_grade_148 (lv_at hl 0 rfl) ?_
        refine lv_bipush (v := (9 : Int32)) hx hb dX11_grade_150 (by decide) ?_
        refine lv_icmp_le (tgt := 160) hx hb dX11_grade_152 (by decide) (fun hc_152 => ?_) (fun hc_152 => ?_)
        · rw [if_pos hc_152] at hf
          refine lv_iload hx hb dX11_grade_160 (lv_at hl 0 rfl) ?_
          cases hf
          subst hQ
          exact kiret hx hb hr hlocks hK (hP.sub [0, 1, 2, 3] rfl) (hD.sub [0, 1, 2, 3] (by decide) rfl) hS rfl dX11_grade_162
        · rw [if_neg hc_152] at hf
          refine lv_bipush (v := (9 : Int32)) hx hb dX11_grade_155 (by decide) ?_
          refine lv_goto (tgt := 162) hx hb dX11_grade_157 (by decide) ?_
          cases hf
          subst hQ
          exact kiret hx hb hr hlocks hK (hP.sub [0, 1, 2, 3] rfl) (hD.sub [0, 1, 2, 3] (by decide) rfl) hS rfl dX11_grade_162
      · rw [if_neg hc_80] at hf
        refine lv_iload hx hb dX11_grade_83 (lv_at hl 4 rfl) ?_
        refine lv_aload_n hx hb dX11_grade_85 rfl (lv_at hl 0 rfl) ?_
        refine lv_iload hx hb dX11_grade_86 (lv_at hl 5 rfl) ?_
        obtain ⟨r88, hq_88, hf⟩ := bnd1_s hf
        refine kcalli (wc := [(qt, .inr (11, [.ref qt_now, .ref xt_past, .int (it_saved), .ref xt_text, .int (it_length), .ref xt_doors, .int (it_doorMany), .ref xt_label, .int (it_drawn), .ref qt_far, .ref qt_ring, .int (it_walker), .int (it_from), .ref xt_was, .int (it_steps), .int (it_faultAt), .int (it_mover)])), (qt_now, .inl (cy.1, 639, .inl (ft_now)))]) (wr := [(qt_far, .inl (cy.1, 210, .inl (cft_far))), (qt_ring, .inl (cy.1, 210, .inl (cft_ring)))]) (w1 := [(qt, .inr (11, [.ref qt_now, .ref xt_past, .int (it_saved), .ref xt_text, .int (it_length), .ref xt_doors, .int (it_doorMany), .ref xt_label, .int (it_drawn), .ref qt_far, .ref qt_ring, .int (it_walker), .int (it_from), .ref xt_was, .int (it_steps), .int (it_faultAt), .int (it_mover)])), (qt_now, .inl (cy.1, 639, .inl (ft_now)))]) hK hP hD hS hA hG [0, 1] [2, 3] rfl rfl rfl rfl rfl (fun hU hPc => va_runV (As := [.int l5]) (rest := [.int l4]) ⟨hx, hb, hml, hown, hts⟩ (c_X11_isFork l dC dI cy G H.size qt qt_now xt_past xt_text xt_doors xt_label qt_far qt_ring xt_was (it_saved) (it_length) (it_doorMany) (it_drawn) (it_walker) (it_from) (it_steps) (it_faultAt) (it_mover) N (ft_now) (l5) r88 hq_88) (cwV 1 hts gX11_grade_X11_isFork rfl rfl rfl hdX11_isFork ⟨Nat.le_of_ble_eq_true rfl, Nat.le_of_ble_eq_true rfl⟩) ⟨kBlind, (va_recv hK hP (ci := 11) (q0 := 0) rfl rfl), fun U h1 h2 => ⟨rfl, hU U h1 h2⟩⟩ rfl rfl hl.1 rfl (lv_room (Nat.le_of_ble_eq_true rfl)) dX11_grade_88 ⟨Nat.zero_le _, Nat.zero_le _⟩) (r88) (fun _ _ h => h) (fun _ _ h => h) (fun H locs hP hD hS => ?_)
        have hP : va_P (dC, dI) vwCl [(qt_far, .inl (cy.1, 210, .inl (cft_far))), (qt_ring, .inl (cy.1, 210, .inl (cft_ring))), (qt, .inr (11, [.ref qt_now, .ref xt_past, .int (it_saved), .ref xt_text, .int (it_length), .ref xt_doors, .int (it_doorMany), .ref xt_label, .int (it_drawn), .ref qt_far, .ref qt_ring, .int (it_walker), .int (it_from), .ref xt_was, .int (it_steps), .int (it_faultAt), .int (it_mover)])), (qt_now, .inl (cy.1, 639, .inl (ft_now)))] H := hP
        have hD : va_D A [(qt_far, .inl (cy.1, 210, .inl (cft_far))), (qt_ring, .inl (cy.1, 210, .inl (cft_ring))), (qt, .inr (11, [.ref qt_now, .ref xt_past, .int (it_saved), .ref xt_text, .int (it_length), .ref xt_doors, .int (it_doorMany), .ref xt_label, .int (it_drawn), .ref qt_far, .ref qt_ring, .int (it_walker), .int (it_from), .ref xt_was, .int (it_steps), .int (it_faultAt), .int (it_mover)])), (qt_now, .inl (cy.1, 639, .inl (ft_now)))] := hD
        refine lv_if_eq (tgt := 98) hx hb dX11_grade_91 (by decide) (fun hc_91 => ?_) (fun hc_91 => ?_)
        · rw [if_pos hc_91] at hf
          refine lv_iconst (v := (0 : Int32)) hx hb dX11_grade_98 (by decide) ?_
          exact B99 (l1) (l2) (l3) (l5) (l4) ((0 : Int32)) (cft_far) (cft_ring) _ _ (hP.sub [2, 3, 0, 1] rfl) (hD.sub [2, 3, 0, 1] (by decide) rfl) hS _ (lv_sub hl [0, 1, 2, 3, 5] rfl) hf
        · rw [if_neg hc_91] at hf
          refine lv_iconst (v := (1 : Int32)) hx hb dX11_grade_94 (by decide) ?_
          refine lv_goto (tgt := 99) hx hb dX11_grade_95 (by decide) ?_
          exact B99 (l1) (l2) (l3) (l5) (l4) ((1 : Int32)) (cft_far) (cft_ring) _ _ (hP.sub [2, 3, 0, 1] rfl) (hD.sub [2, 3, 0, 1] (by decide) rfl) hS _ (lv_sub hl [0, 1, 2, 3, 5] rfl) hf
  have B38 : ∀ (n38 : Nat) (l1 : Int32) (l2 : Int32) (l3 : Int32) (l4 : Int32) (cft_far : Nat → Int32) (cft_ring : Nat → Int32) (H : Heap) (locs : List Loc), va_P (dC, dI) vwCl [(qt, .inr (11, [.ref qt_now, .ref xt_past, .int (it_saved), .ref xt_text, .int (it_length), .ref xt_doors, .int (it_doorMany), .ref xt_label, .int (it_drawn), .ref qt_far, .ref qt_ring, .int (it_walker), .int (it_from), .ref xt_was, .int (it_steps), .int (it_faultAt), .int (it_mover)])), (qt_now, .inl (cy.1, 639, .inl (ft_now))), (qt_far, .inl (cy.1, 210, .inl (cft_far))), (qt_ring, .inl (cy.1, 210, .inl (cft_ring)))] H → va_D A [(qt, .inr (11, [.ref qt_now, .ref xt_past, .int (it_saved), .ref xt_text, .int (it_length), .ref xt_doors, .int (it_doorMany), .ref xt_label, .int (it_drawn), .ref qt_far, .ref qt_ring, .int (it_walker), .int (it_from), .ref xt_was, .int (it_steps), .int (it_faultAt), .int (it_mover)])), (qt_now, .inl (cy.1, 639, .inl (ft_now))), (qt_far, .inl (cy.1, 210, .inl (cft_far))), (qt_ring, .inl (cy.1, 210, .inl (cft_ring)))] → va_S A s.heap H locs → ∀ (ls : Array Slot), lv_has ls 7 [(0, .ref qt), (1, .int l1), (2, .int l2), (3, .int l3), (4, .int l4)] → b_X11_grade_38 N ft_now n38 l1 l2 l3 l4 cft_far cft_ring = some out → W p l e (headSpec wsX11_grade rm_X11_grade).room s m ([.ref qt] : List Value).toArray below meth c H locs 0 0 Q (F0 m 38 ls []) := by
    intro n38
    induction n38 with
    | zero => intro l1 l2 l3 l4 cft_far cft_ring H locs hP hD hS ls hl hf; rw [b_X11_grade_38] at hf; cases hf
    | succ n38 ih38 =>
      intro l1 l2 l3 l4 cft_far cft_ring H locs hP hD hS ls hl hf
      rw [b_X11_grade_38] at hf
      refine lv_iload hx hb dX11_grade_38 (lv_at hl 4 rfl) ?_
      refine lv_aload_n hx hb dX11_grade_40 rfl (lv_at hl 0 rfl) ?_
      refine kcalli (wc := [(qt, .inr (11, [.ref qt_now, .ref xt_past, .int (it_saved), .ref xt_text, .int (it_length), .ref xt_doors, .int (it_doorMany), .ref xt_label, .int (it_drawn), .ref qt_far, .ref qt_ring, .int (it_walker), .int (it_from), .ref xt_was, .int (it_steps), .int (it_faultAt), .int (it_mover)])), (qt_now, .inl (cy.1, 639, .inl (ft_now)))]) (wr := [(qt_far, .inl (cy.1, 210, .inl (cft_far))), (qt_ring, .inl (cy.1, 210, .inl (cft_ring)))]) (w1 := [(qt, .inr (11, [.ref qt_now, .ref xt_past, .int (it_saved), .ref xt_text, .int (it_length), .ref xt_doors, .int (it_doorMany), .ref xt_label, .int (it_drawn), .ref qt_far, .ref qt_ring, .int (it_walker), .int (it_from), .ref xt_was, .int (it_steps), .int (it_faultAt), .int (it_mover)])), (qt_now, .inl (cy.1, 639, .inl (ft_now)))]) hK hP hD hS hA hG [0, 1] [2, 3] rfl rfl rfl rfl rfl (fun hU hPc => va_runV (As := []) (rest := [.int l4]) ⟨hx, hb, hml, hown, hts⟩ (c_X11_cells l dC dI cy G H.size qt qt_now xt_past xt_text xt_doors xt_label qt_far qt_ring xt_was (it_saved) (it_length) (it_doorMany) (it_drawn) (it_walker) (it_from) (it_steps) (it_faultAt) (it_mover) (ft_now) (t_X11_cells (ft_now)) (tot_X11_cells (ft_now))) (cwV 0 hts gX11_grade_X11_cells rfl rfl rfl hdX11_cells ⟨Nat.le_of_ble_eq_true rfl, Nat.le_of_ble_eq_true rfl⟩) ⟨kBlind, (va_recv hK hP (ci := 11) (q0 := 0) rfl rfl), fun U h1 h2 => ⟨rfl, hU U h1 h2⟩⟩ rfl rfl hl.1 rfl (lv_room (Nat.le_of_ble_eq_true rfl)) dX11_grade_41 ⟨Nat.zero_le _, Nat.zero_le _⟩) ((t_X11_cells (ft_now))) (fun _ _ h => h) (fun _ _ h => h) (fun H locs hP hD hS => ?_)
      have hP : va_P (dC, dI) vwCl [(qt_far, .inl (cy.1, 210, .inl (cft_far))), (qt_ring, .inl (cy.1, 210, .inl (cft_ring))), (qt, .inr (11, [.ref qt_now, .ref xt_past, .int (it_saved), .ref xt_text, .int (it_length), .ref xt_doors, .int (it_doorMany), .ref xt_label, .int (it_drawn), .ref qt_far, .ref qt_ring, .int (it_walker), .int (it_from), .ref xt_was, .int (it_steps), .int (it_faultAt), .int (it_mover)])), (qt_now, .inl (cy.1, 639, .inl (ft_now)))] H := hP
      have hD : va_D A [(qt_far, .inl (cy.1, 210, .inl (cft_far))), (qt_ring, .inl (cy.1, 210, .inl (cft_ring))), (qt, .inr (11, [.ref qt_now, .ref xt_past, .int (it_saved), .ref xt_text, .int (it_length), .ref xt_doors, .int (it_doorMany), .ref xt_label, .int (it_drawn), .ref qt_far, .ref qt_ring, .int (it_walker), .int (it_from), .ref xt_was, .int (it_steps), .int (it_faultAt), .int (it_mover)])), (qt_now, .inl (cy.1, 639, .inl (ft_now)))] := hD
      refine lv_icmp_ge (tgt := 71) hx hb dX11_grade_44 (by decide) (fun hc_44 => ?_) (fun hc_44 => ?_)
      · rw [if_pos hc_44] at hf
        refine lv_iconst (v := (0 : Int32)) hx hb dX11_grade_71 (by decide) ?_
        refine lv_istore (lv' := [(4, .int (0 : Int32)), (0, .ref qt), (1, .int l1), (2, .int l2), (3, .int l3)]) hx hb dX11_grade_72 hl (by decide) rfl (fun ls hl => ?_)
        refine lv_iload_n hx hb dX11_grade_74 rfl (lv_at hl 2 rfl) ?_
        refine lv_istore (lv' := [(5, .int l1), (4, .int (0 : Int32)), (0, .ref qt), (1, .int l1), (2, .int l2), (3, .int l3)]) hx hb dX11_grade_75 hl (by decide) rfl (fun ls hl => ?_)
        exact B77 N (l1) (l2) (l3) ((0 : Int32)) (l1) (cft_far) (cft_ring) _ _ (hP.sub [2, 3, 0, 1] rfl) (hD.sub [2, 3, 0, 1] (by decide) rfl) hS _ (lv_sub hl [2, 3, 4, 5, 1, 0] rfl) hf
      · rw [if_neg hc_44] at hf
        refine lv_iload_n hx hb dX11_grade_47 rfl (lv_at hl 3 rfl) ?_
        refine lv_aload_n hx hb dX11_grade_48 rfl (lv_at hl 0 rfl) ?_
        refine va_get (D := (dC, dI)) (ci := 11) (C := RX11) (T := TX11) (N := 17) hx hb hts (fun _ h => (List.mem_cons_of_mem _ (List.mem_append_right _ h))) hown hK hP 2 rfl rfl 9 (by decide) (hts _ (List.mem_cons_of_mem _ (List.mem_append_left _ (List.mem_append_left _ (List.mem_of_getElem? (i := 1) rfl))))) (fun _ h => h) rfl dX11_grade_49 ?_
        refine lv_iload hx hb dX11_grade_52 (lv_at hl 4 rfl) ?_
        obtain ⟨hk_54, hf⟩ := chk_s hf
        refine va_iald hx hb hK hP 0 0 rfl rfl hk_54 dX11_grade_54 ?_
        refine lv_if_lt (tgt := 62) hx hb dX11_grade_55 (by decide) (fun hc_55 => ?_) (fun hc_55 => ?_)
        · rw [if_pos hc_55] at hf
          refine lv_iconst (v := (0 : Int32)) hx hb dX11_grade_62 (by decide) ?_
          refine lv_iadd hx hb dX11_grade_63 ?_
          refine lv_istore_n (lv' := [(3, .int (l3 + (0 : Int32))), (0, .ref qt), (1, .int l1), (2, .int l2), (4, .int l4)]) hx hb dX11_grade_64 rfl hl (by decide) rfl (fun ls hl => ?_)
          refine lv_iinc (v := (l4 + (1 : Int32))) (lv' := [(4, .int (l4 + (1 : Int32))), (3, .int (l3 + (0 : Int32))), (0, .ref qt), (1, .int l1), (2, .int l2)]) hx hb dX11_grade_65 hl (k := 4) rfl rfl (by decide) rfl (fun ls hl => ?_)
          refine lv_goto (tgt := 38) hx hb dX11_grade_68 (by decide) ?_
          exact ih38 (l1) (l2) ((l3 + (0 : Int32))) ((l4 + (1 : Int32))) (cft_far) (cft_ring) _ _ (hP.sub [2, 3, 0, 1] rfl) (hD.sub [2, 3, 0, 1] (by decide) rfl) hS _ (lv_sub hl [2, 3, 4, 1, 0] rfl) hf
        · rw [if_neg hc_55] at hf
          refine lv_iconst (v := (1 : Int32)) hx hb dX11_grade_58 (by decide) ?_
          refine lv_goto (tgt := 63) hx hb dX11_grade_59 (by decide) ?_
          refine lv_iadd hx hb dX11_grade_63 ?_
          refine lv_istore_n (lv' := [(3, .int (l3 + (1 : Int32))), (0, .ref qt), (1, .int l1), (2, .int l2), (4, .int l4)]) hx hb dX11_grade_64 rfl hl (by decide) rfl (fun ls hl => ?_)
          refine lv_iinc (v := (l4 + (1 : Int32))) (lv' := [(4, .int (l4 + (1 : Int32))), (3, .int (l3 + (1 : Int32))), (0, .ref qt), (1, .int l1), (2, .int l2)]) hx hb dX11_grade_65 hl (k := 4) rfl rfl (by decide) rfl (fun ls hl => ?_)
          refine lv_goto (tgt := 38) hx hb dX11_grade_68 (by decide) ?_
          exact ih38 (l1) (l2) ((l3 + (1 : Int32))) ((l4 + (1 : Int32))) (cft_far) (cft_ring) _ _ (hP.sub [2, 3, 0, 1] rfl) (hD.sub [2, 3, 0, 1] (by decide) rfl) hS _ (lv_sub hl [2, 3, 4, 1, 0] rfl) hf
  rw [f_X11_grade] at hf
  refine lv_aload_n hx hb dX11_grade_0 rfl (lv_at hl 0 rfl) ?_
  refine va_get (D := (dC, dI)) (ci := 11) (C := RX11) (T := TX11) (N := 17) hx hb hts (fun _ h => (List.mem_cons_of_mem _ (List.mem_append_right _ h))) hown hK hP 0 rfl rfl 0 (by decide) (hts _ (List.mem_cons_of_mem _ (List.mem_append_left _ (List.mem_append_left _ (List.mem_of_getElem? (i := 0) rfl))))) (fun _ h => h) rfl dX11_grade_1 ?_
  refine lv_bipush (v := (7 : Int32)) hx hb dX11_grade_4 (by decide) ?_
  refine va_iald hx hb hK hP 1 0 rfl rfl (by unfold vp_in; decide) dX11_grade_6 ?_
  refine lv_istore_n (lv' := [(1, .int (ft_now ((7 : Int32)).toNatClampNeg)), (0, .ref qt)]) hx hb dX11_grade_7 rfl hl (by decide) rfl (fun ls hl => ?_)
  refine lv_aload_n hx hb dX11_grade_8 rfl (lv_at hl 1 rfl) ?_
  refine va_get (D := (dC, dI)) (ci := 11) (C := RX11) (T := TX11) (N := 17) hx hb hts (fun _ h => (List.mem_cons_of_mem _ (List.mem_append_right _ h))) hown hK hP 0 rfl rfl 0 (by decide) (hts _ (List.mem_cons_of_mem _ (List.mem_append_left _ (List.mem_append_left _ (List.mem_of_getElem? (i := 0) rfl))))) (fun _ h => h) rfl dX11_grade_9 ?_
  refine lv_bipush (v := (8 : Int32)) hx hb dX11_grade_12 (by decide) ?_
  refine va_iald hx hb hK hP 1 0 rfl rfl (by unfold vp_in; decide) dX11_grade_14 ?_
  refine lv_istore_n (lv' := [(2, .int (ft_now ((8 : Int32)).toNatClampNeg)), (1, .int (ft_now ((7 : Int32)).toNatClampNeg)), (0, .ref qt)]) hx hb dX11_grade_15 rfl hl (by decide) rfl (fun ls hl => ?_)
  refine lv_aload_n hx hb dX11_grade_16 rfl (lv_at hl 2 rfl) ?_
  refine lv_iload_n hx hb dX11_grade_17 rfl (lv_at hl 0 rfl) ?_
  obtain ⟨o18_0, o18_1, hq_18, hf⟩ := bnd2_s hf
  refine kcallv (wc := [(qt, .inr (11, [.ref qt_now, .ref xt_past, .int (it_saved), .ref xt_text, .int (it_length), .ref xt_doors, .int (it_doorMany), .ref xt_label, .int (it_drawn), .ref qt_far, .ref qt_ring, .int (it_walker), .int (it_from), .ref xt_was, .int (it_steps), .int (it_faultAt), .int (it_mover)])), (qt_now, .inl (cy.1, 639, .inl (ft_now))), (qt_far, .inl (cy.1, 210, .inl (ft_far))), (qt_ring, .inl (cy.1, 210, .inl (ft_ring)))]) (wr := []) (w1 := [(qt, .inr (11, [.ref qt_now, .ref xt_past, .int (it_saved), .ref xt_text, .int (it_length), .ref xt_doors, .int (it_doorMany), .ref xt_label, .int (it_drawn), .ref qt_far, .ref qt_ring, .int (it_walker), .int (it_from), .ref xt_was, .int (it_steps), .int (it_faultAt), .int (it_mover)])), (qt_now, .inl (cy.1, 639, .inl (ft_now))), (qt_far, .inl (cy.1, 210, .inl (o18_0))), (qt_ring, .inl (cy.1, 210, .inl (o18_1)))]) hK hP hD hS hA hG [0, 1, 2, 3] [] rfl rfl rfl rfl rfl (fun hU hPc => va_runV (As := [.int (ft_now ((8 : Int32)).toNatClampNeg)]) (rest := []) ⟨hx, hb, hml, hown, hts⟩ (c_X11_lays l dC dI cy G s.heap.size qt qt_now qt_far qt_ring xt_past xt_text xt_doors xt_label xt_was (it_saved) (it_length) (it_doorMany) (it_drawn) (it_walker) (it_from) (it_steps) (it_faultAt) (it_mover) N (ft_now) (ft_far) (ft_ring) ((ft_now ((8 : Int32)).toNatClampNeg)) (o18_0, o18_1) hq_18) (cwV 1 hts gX11_grade_X11_lays rfl rfl rfl hdX11_lays ⟨Nat.le_of_ble_eq_true rfl, Nat.le_of_ble_eq_true rfl⟩) ⟨kBlind, (va_recv hK hP (ci := 11) (q0 := 0) rfl rfl), fun U h1 h2 => ⟨rfl, hU U h1 h2⟩⟩ rfl rfl hl.1 rfl (lv_room (Nat.le_of_ble_eq_true rfl)) dX11_grade_18 ⟨Nat.zero_le _, Nat.zero_le _⟩) (fun _ _ h => h) (fun H locs hP hD hS => ?_)
  have hP : va_P (dC, dI) vwCl [(qt, .inr (11, [.ref qt_now, .ref xt_past, .int (it_saved), .ref xt_text, .int (it_length), .ref xt_doors, .int (it_doorMany), .ref xt_label, .int (it_drawn), .ref qt_far, .ref qt_ring, .int (it_walker), .int (it_from), .ref xt_was, .int (it_steps), .int (it_faultAt), .int (it_mover)])), (qt_now, .inl (cy.1, 639, .inl (ft_now))), (qt_far, .inl (cy.1, 210, .inl (o18_0))), (qt_ring, .inl (cy.1, 210, .inl (o18_1)))] H := hP
  have hD : va_D A [(qt, .inr (11, [.ref qt_now, .ref xt_past, .int (it_saved), .ref xt_text, .int (it_length), .ref xt_doors, .int (it_doorMany), .ref xt_label, .int (it_drawn), .ref qt_far, .ref qt_ring, .int (it_walker), .int (it_from), .ref xt_was, .int (it_steps), .int (it_faultAt), .int (it_mover)])), (qt_now, .inl (cy.1, 639, .inl (ft_now))), (qt_far, .inl (cy.1, 210, .inl (o18_0))), (qt_ring, .inl (cy.1, 210, .inl (o18_1)))] := hD
  refine lv_aload_n hx hb dX11_grade_21 rfl (lv_at hl 2 rfl) ?_
  refine va_get (D := (dC, dI)) (ci := 11) (C := RX11) (T := TX11) (N := 17) hx hb hts (fun _ h => (List.mem_cons_of_mem _ (List.mem_append_right _ h))) hown hK hP 0 rfl rfl 9 (by decide) (hts _ (List.mem_cons_of_mem _ (List.mem_append_left _ (List.mem_append_left _ (List.mem_of_getElem? (i := 1) rfl))))) (fun _ h => h) rfl dX11_grade_22 ?_
  refine lv_iload_n hx hb dX11_grade_25 rfl (lv_at hl 1 rfl) ?_
  obtain ⟨hk_26, hf⟩ := chk_s hf
  refine va_iald hx hb hK hP 2 0 rfl rfl hk_26 dX11_grade_26 ?_
  refine lv_if_ge (tgt := 33) hx hb dX11_grade_27 (by decide) (fun hc_27 => ?_) (fun hc_27 => ?_)
  · rw [if_pos hc_27] at hf
    refine lv_iconst (v := (0 : Int32)) hx hb dX11_grade_33 (by decide) ?_
    refine lv_istore_n (lv' := [(3, .int (0 : Int32)), (2, .int (ft_now ((8 : Int32)).toNatClampNeg)), (1, .int (ft_now ((7 : Int32)).toNatClampNeg)), (0, .ref qt)]) hx hb dX11_grade_34 rfl hl (by decide) rfl (fun ls hl => ?_)
    refine lv_iconst (v := (0 : Int32)) hx hb dX11_grade_35 (by decide) ?_
    refine lv_istore (lv' := [(4, .int (0 : Int32)), (3, .int (0 : Int32)), (2, .int (ft_now ((8 : Int32)).toNatClampNeg)), (1, .int (ft_now ((7 : Int32)).toNatClampNeg)), (0, .ref qt)]) hx hb dX11_grade_36 hl (by decide) rfl (fun ls hl => ?_)
    exact B38 N ((ft_now ((7 : Int32)).toNatClampNeg)) ((ft_now ((8 : Int32)).toNatClampNeg)) ((0 : Int32)) ((0 : Int32)) (o18_0) (o18_1) _ _ (hP.sub [0, 1, 2, 3] rfl) (hD.sub [0, 1, 2, 3] (by decide) rfl) hS _ (lv_sub hl [4, 3, 2, 1, 0] rfl) hf
  · rw [if_neg hc_27] at hf
    refine lv_bipush (v := (-4 : Int32)) hx hb dX11_grade_30 (by decide) ?_
    cases hf
    subst hQ
    exact kiret hx hb hr hlocks hK (hP.sub [0, 1, 2, 3] rfl) (hD.sub [0, 1, 2, 3] (by decide) rfl) hS rfl dX11_grade_32
theorem hdX11_grade : yX11_grade.cls = RX11 ∧ yX11_grade.cls ≠ "java/lang/invoke/MethodHandle" ∧ yX11_grade.cls ≠ "java/lang/invoke/VarHandle" ∧ (parseMethodDescriptor yX11_grade.desc).map (fun d => d.parameters.length) = some 0 := by decide +kernel

noncomputable def f_X11_wide (ft_now : Nat → Int32) : Option (Int32) :=
  some ((((6 : Int32) * (ft_now ((0 : Int32)).toNatClampNeg)) - (1 : Int32)))
abbrev rm_X11_wide : Room := { frames := 0, cells := 0, slots := 0, locals := 0 }
set_option maxHeartbeats 4000000 in
set_option maxRecDepth 100000 in
theorem c_X11_wide (l : Launch) (dC : Nat → ClassId) (dI : Nat → Nat → Nat) (cy : gC) (G : gT) (sz : Nat) (qt : Nat) (qt_now : Nat) (xt_past : Nat) (xt_text : Nat) (xt_doors : Nat) (xt_label : Nat) (xt_far : Nat) (xt_ring : Nat) (xt_was : Nat) (it_saved : Int32) (it_length : Int32) (it_doorMany : Int32) (it_drawn : Int32) (it_walker : Int32) (it_from : Int32) (it_steps : Int32) (it_faultAt : Int32) (it_mover : Int32) (ft_now : Nat → Int32) (out : Int32) (hf : f_X11_wide ft_now = some out) : Met l yX11_wide wsX11_wide rm_X11_wide (va_Pc [.ref qt] (kP (dC, dI) cy G [(qt, .inr (11, [.ref qt_now, .ref xt_past, .int (it_saved), .ref xt_text, .int (it_length), .ref xt_doors, .int (it_doorMany), .ref xt_label, .int (it_drawn), .ref xt_far, .ref xt_ring, .int (it_walker), .int (it_from), .ref xt_was, .int (it_steps), .int (it_faultAt), .int (it_mover)])), (qt_now, .inl (cy.1, 639, .inl (ft_now)))] sz)) (va_Qi (fun r (_ : Unit) => r = out) (fun _ => kQ (dC, dI) cy [(qt, .inr (11, [.ref qt_now, .ref xt_past, .int (it_saved), .ref xt_text, .int (it_length), .ref xt_doors, .int (it_doorMany), .ref xt_label, .int (it_drawn), .ref xt_far, .ref xt_ring, .int (it_walker), .int (it_from), .ref xt_was, .int (it_steps), .int (it_faultAt), .int (it_mover)])), (qt_now, .inl (cy.1, 639, .inl (ft_now)))] (va_A [(qt, .inr (11, [.ref qt_now, .ref xt_past, .int (it_saved), .ref xt_text, .int (it_length), .ref xt_doors, .int (it_doorMany), .ref xt_label, .int (it_drawn), .ref xt_far, .ref xt_ring, .int (it_walker), .int (it_from), .ref xt_was, .int (it_steps), .int (it_faultAt), .int (it_mover)])), (qt_now, .inl (cy.1, 639, .inl (ft_now)))] sz)) (va_A [(qt, .inr (11, [.ref qt_now, .ref xt_past, .int (it_saved), .ref xt_text, .int (it_length), .ref xt_doors, .int (it_doorMany), .ref xt_label, .int (it_drawn), .ref xt_far, .ref xt_ring, .int (it_walker), .int (it_from), .ref xt_was, .int (it_steps), .int (it_faultAt), .int (it_mover)])), (qt_now, .inl (cy.1, 639, .inl (ft_now)))] sz)) 0 0 (va_A [(qt, .inr (11, [.ref qt_now, .ref xt_past, .int (it_saved), .ref xt_text, .int (it_length), .ref xt_doors, .int (it_doorMany), .ref xt_label, .int (it_drawn), .ref xt_far, .ref xt_ring, .int (it_walker), .int (it_from), .ref xt_was, .int (it_steps), .int (it_faultAt), .int (it_mover)])), (qt_now, .inl (cy.1, 639, .inl (ft_now)))] sz) := by
  refine Met.ofW (cc := cX11_wide) (maxL := 1) (ret := (some .int)) (by decide) rfl ?_
  intro p e s m args below meth c s₁ B hml hv
  obtain ⟨rfl, hsz, hP, hK, hD0, hG⟩ := hv
  have hx := B.exec
  have hb := B.bytes
  have hr := B.returns
  have hts := atoms_spec (ws := wsX11_wide) B.pre
  have hown : s.vm.findClass RX11 = some m.cls := findClass_of_methodNamed B.named
  have hlocks := B.notSynchronized
  subst hsz
  have hD := hD0.self (sz := s.heap.size)
  generalize hAe : va_A [(qt, .inr (11, [.ref qt_now, .ref xt_past, .int (it_saved), .ref xt_text, .int (it_length), .ref xt_doors, .int (it_doorMany), .ref xt_label, .int (it_drawn), .ref xt_far, .ref xt_ring, .int (it_walker), .int (it_from), .ref xt_was, .int (it_steps), .int (it_faultAt), .int (it_mover)])), (qt_now, .inl (cy.1, 639, .inl (ft_now)))] s.heap.size = A at hD hG ⊢
  have hA : ∀ q : Nat, s.heap.size ≤ q → A q := fun q h => by rw [← hAe]; exact Or.inr h
  have hS : va_S A s.heap s.heap [] := va_S.rf
  have hP : va_P (dC, dI) vwCl [(qt, .inr (11, [.ref qt_now, .ref xt_past, .int (it_saved), .ref xt_text, .int (it_length), .ref xt_doors, .int (it_doorMany), .ref xt_label, .int (it_drawn), .ref xt_far, .ref xt_ring, .int (it_walker), .int (it_from), .ref xt_was, .int (it_steps), .int (it_faultAt), .int (it_mover)])), (qt_now, .inl (cy.1, 639, .inl (ft_now)))] s.heap := hP
  have hl := lv_entry ([.ref qt]) (n := 1) (Nat.le_of_ble_eq_true rfl)
  rw [lg_entry_eq]
  generalize (lg_sl ([.ref qt]) ++ List.replicate (1 - (lg_sl ([.ref qt])).length) Slot.unset).toArray = ls at hl ⊢
  have hl : lv_has ls 1 [(0, .ref qt)] := hl
  refine kgen (fun Q hQ => ?_)
  rw [f_X11_wide] at hf
  refine lv_bipush (v := (6 : Int32)) hx hb dX11_wide_0 (by decide) ?_
  refine lv_aload_n hx hb dX11_wide_2 rfl (lv_at hl 0 rfl) ?_
  refine va_get (D := (dC, dI)) (ci := 11) (C := RX11) (T := TX11) (N := 17) hx hb hts (fun _ h => (List.mem_cons_of_mem _ (List.mem_append_right _ h))) hown hK hP 0 rfl rfl 0 (by decide) (hts _ (List.mem_cons_of_mem _ (List.mem_append_left _ (List.mem_of_getElem? (i := 0) rfl)))) (fun _ h => h) rfl dX11_wide_3 ?_
  refine lv_iconst (v := (0 : Int32)) hx hb dX11_wide_6 (by decide) ?_
  refine va_iald hx hb hK hP 1 0 rfl rfl (by unfold vp_in; decide) dX11_wide_7 ?_
  refine lv_imul hx hb dX11_wide_8 ?_
  refine lv_iconst (v := (1 : Int32)) hx hb dX11_wide_9 (by decide) ?_
  refine lv_isub hx hb dX11_wide_10 ?_
  cases hf
  subst hQ
  exact kiret hx hb hr hlocks hK (hP.sub [0, 1] rfl) (hD.sub [0, 1] (by decide) rfl) hS rfl dX11_wide_11
theorem hdX11_wide : yX11_wide.cls = RX11 ∧ yX11_wide.cls ≠ "java/lang/invoke/MethodHandle" ∧ yX11_wide.cls ≠ "java/lang/invoke/VarHandle" ∧ (parseMethodDescriptor yX11_wide.desc).map (fun d => d.parameters.length) = some 0 := by decide +kernel
noncomputable def t_X11_wide (ft_now : Nat → Int32) : Int32 :=
  (((6 : Int32) * (ft_now ((0 : Int32)).toNatClampNeg)) - (1 : Int32))
theorem tot_X11_wide (ft_now : Nat → Int32) : f_X11_wide ft_now = some (t_X11_wide ft_now) := by
  simp only [f_X11_wide, t_X11_wide]
noncomputable def f_X11_rows (va1 : Int32) (va2 : Int32) (va3 : Int32) (va4 : Int32) (va5 : Int32) : Option (Int32) :=
  some ((((((((((32 : Int32) * va1) + va2) * (32 : Int32)) + va3) * (32 : Int32)) + va4) * (32 : Int32)) + va5))
abbrev rm_X11_rows : Room := { frames := 0, cells := 0, slots := 0, locals := 0 }
set_option maxHeartbeats 4000000 in
set_option maxRecDepth 100000 in
theorem c_X11_rows (l : Launch) (dC : Nat → ClassId) (dI : Nat → Nat → Nat) (cy : gC) (G : gT) (sz : Nat) (va1 : Int32) (va2 : Int32) (va3 : Int32) (va4 : Int32) (va5 : Int32) (out : Int32) (hf : f_X11_rows va1 va2 va3 va4 va5 = some out) : Met l yX11_rows wsX11_rows rm_X11_rows (va_Pc [.int va1, .int va2, .int va3, .int va4, .int va5] (kP (dC, dI) cy G [] sz)) (va_Qi (fun r (_ : Unit) => r = out) (fun _ => kQ (dC, dI) cy [] (va_A [] sz)) (va_A [] sz)) 0 0 (va_A [] sz) := by
  refine Met.ofW (cc := cX11_rows) (maxL := 5) (ret := (some .int)) (by decide) rfl ?_
  intro p e s m args below meth c s₁ B hml hv
  obtain ⟨rfl, hsz, hP, hK, hD0, hG⟩ := hv
  have hx := B.exec
  have hb := B.bytes
  have hr := B.returns
  have hts := atoms_spec (ws := wsX11_rows) B.pre
  have hown : s.vm.findClass RX11 = some m.cls := findClass_of_methodNamed B.named
  have hlocks := B.notSynchronized
  subst hsz
  have hD := hD0.self (sz := s.heap.size)
  generalize hAe : va_A [] s.heap.size = A at hD hG ⊢
  have hA : ∀ q : Nat, s.heap.size ≤ q → A q := fun q h => by rw [← hAe]; exact Or.inr h
  have hS : va_S A s.heap s.heap [] := va_S.rf
  have hP : va_P (dC, dI) vwCl [] s.heap := hP
  have hl := lv_entry ([.int va1, .int va2, .int va3, .int va4, .int va5]) (n := 5) (Nat.le_of_ble_eq_true rfl)
  rw [lg_entry_eq]
  generalize (lg_sl ([.int va1, .int va2, .int va3, .int va4, .int va5]) ++ List.replicate (5 - (lg_sl ([.int va1, .int va2, .int va3, .int va4, .int va5])).length) Slot.unset).toArray = ls at hl ⊢
  have hl : lv_has ls 5 [(0, .int va1), (1, .int va2), (2, .int va3), (3, .int va4), (4, .int va5)] := hl
  refine kgen (fun Q hQ => ?_)
  rw [f_X11_rows] at hf
  refine lv_bipush (v := (32 : Int32)) hx hb dX11_rows_0 (by decide) ?_
  refine lv_iload_n hx hb dX11_rows_2 rfl (lv_at hl 0 rfl) ?_
  refine lv_imul hx hb dX11_rows_3 ?_
  refine lv_iload_n hx hb dX11_rows_4 rfl (lv_at hl 1 rfl) ?_
  refine lv_iadd hx hb dX11_rows_5 ?_
  refine lv_bipush (v := (32 : Int32)) hx hb dX11_rows_6 (by decide) ?_
  refine lv_imul hx hb dX11_rows_8 ?_
  refine lv_iload_n hx hb dX11_rows_9 rfl (lv_at hl 2 rfl) ?_
  refine lv_iadd hx hb dX11_rows_10 ?_
  refine lv_bipush (v := (32 : Int32)) hx hb dX11_rows_11 (by decide) ?_
  refine lv_imul hx hb dX11_rows_13 ?_
  refine lv_iload_n hx hb dX11_rows_14 rfl (lv_at hl 3 rfl) ?_
  refine lv_iadd hx hb dX11_rows_15 ?_
  refine lv_bipush (v := (32 : Int32)) hx hb dX11_rows_16 (by decide) ?_
  refine lv_imul hx hb dX11_rows_18 ?_
  refine lv_iload hx hb dX11_rows_19 (lv_at hl 4 rfl) ?_
  refine lv_iadd hx hb dX11_rows_21 ?_
  cases hf
  subst hQ
  exact kiret hx hb hr hlocks hK (hP.sub [] rfl) (hD.sub [] (by decide) rfl) hS rfl dX11_rows_22
theorem hdX11_rows : yX11_rows.cls = RX11 ∧ yX11_rows.cls ≠ "java/lang/invoke/MethodHandle" ∧ yX11_rows.cls ≠ "java/lang/invoke/VarHandle" ∧ (parseMethodDescriptor yX11_rows.desc).map (fun d => d.parameters.length) = some 5 := by decide +kernel
noncomputable def t_X11_rows (va1 : Int32) (va2 : Int32) (va3 : Int32) (va4 : Int32) (va5 : Int32) : Int32 :=
  (((((((((32 : Int32) * va1) + va2) * (32 : Int32)) + va3) * (32 : Int32)) + va4) * (32 : Int32)) + va5)
theorem tot_X11_rows (va1 : Int32) (va2 : Int32) (va3 : Int32) (va4 : Int32) (va5 : Int32) : f_X11_rows va1 va2 va3 va4 va5 = some (t_X11_rows va1 va2 va3 va4 va5) := by
  simp only [f_X11_rows, t_X11_rows]
noncomputable def f_X11_shape (va1 : Int32) : Option (Int32) :=
  if va1 = (65 : Int32) then
    some ((t_X11_rows ((31 : Int32)) ((17 : Int32)) ((31 : Int32)) ((17 : Int32)) ((17 : Int32))))
  else
    if va1 = (66 : Int32) then
      some ((0 : Int32))
    else
      if va1 = (67 : Int32) then
        some ((t_X11_rows ((31 : Int32)) ((16 : Int32)) ((16 : Int32)) ((16 : Int32)) ((31 : Int32))))
      else
        if va1 = (68 : Int32) then
          some ((0 : Int32))
        else
          if va1 = (69 : Int32) then
            some ((t_X11_rows ((31 : Int32)) ((16 : Int32)) ((30 : Int32)) ((16 : Int32)) ((31 : Int32))))
          else
            if va1 = (70 : Int32) then
              some ((t_X11_rows ((31 : Int32)) ((16 : Int32)) ((30 : Int32)) ((16 : Int32)) ((16 : Int32))))
            else
              if va1 = (71 : Int32) then
                some ((t_X11_rows ((31 : Int32)) ((16 : Int32)) ((23 : Int32)) ((17 : Int32)) ((31 : Int32))))
              else
                if va1 = (72 : Int32) then
                  some ((t_X11_rows ((17 : Int32)) ((17 : Int32)) ((31 : Int32)) ((17 : Int32)) ((17 : Int32))))
                else
                  if va1 = (73 : Int32) then
                    some ((t_X11_rows ((4 : Int32)) ((4 : Int32)) ((4 : Int32)) ((4 : Int32)) ((4 : Int32))))
                  else
                    if va1 = (74 : Int32) then
                      some ((0 : Int32))
                    else
                      if va1 = (75 : Int32) then
                        some ((0 : Int32))
                      else
                        if va1 = (76 : Int32) then
                          some ((t_X11_rows ((16 : Int32)) ((16 : Int32)) ((16 : Int32)) ((16 : Int32)) ((31 : Int32))))
                        else
                          if va1 = (77 : Int32) then
                            some ((t_X11_rows ((31 : Int32)) ((21 : Int32)) ((21 : Int32)) ((21 : Int32)) ((21 : Int32))))
                          else
                            if va1 = (78 : Int32) then
                              some ((0 : Int32))
                            else
                              if va1 = (79 : Int32) then
                                some ((t_X11_rows ((31 : Int32)) ((17 : Int32)) ((17 : Int32)) ((17 : Int32)) ((31 : Int32))))
                              else
                                if va1 = (80 : Int32) then
                                  some ((t_X11_rows ((31 : Int32)) ((17 : Int32)) ((31 : Int32)) ((16 : Int32)) ((16 : Int32))))
                                else
                                  if va1 = (81 : Int32) then
                                    some ((0 : Int32))
                                  else
                                    if va1 = (82 : Int32) then
                                      some ((0 : Int32))
                                    else
                                      if va1 = (83 : Int32) then
                                        some ((t_X11_rows ((31 : Int32)) ((16 : Int32)) ((31 : Int32)) ((1 : Int32)) ((31 : Int32))))
                                      else
                                        if va1 = (84 : Int32) then
                                          some ((t_X11_rows ((31 : Int32)) ((4 : Int32)) ((4 : Int32)) ((4 : Int32)) ((4 : Int32))))
                                        else
                                          if va1 = (85 : Int32) then
                                            some ((t_X11_rows ((17 : Int32)) ((17 : Int32)) ((17 : Int32)) ((17 : Int32)) ((31 : Int32))))
                                          else
                                            if va1 = (86 : Int32) then
                                              some ((0 : Int32))
                                            else
                                              if va1 = (87 : Int32) then
                                                some ((t_X11_rows ((21 : Int32)) ((21 : Int32)) ((21 : Int32)) ((21 : Int32)) ((31 : Int32))))
                                              else
                                                some ((0 : Int32))
abbrev rm_X11_shape : Room := { frames := 1, cells := 0, slots := 0, locals := 24 }
set_option maxHeartbeats 4000000 in
set_option maxRecDepth 100000 in
theorem c_X11_shape (l : Launch) (dC : Nat → ClassId) (dI : Nat → Nat → Nat) (cy : gC) (G : gT) (sz : Nat) (va1 : Int32) (out : Int32) (hf : f_X11_shape va1 = some out) : Met l yX11_shape wsX11_shape rm_X11_shape (va_Pc [.int va1] (kP (dC, dI) cy G [] sz)) (va_Qi (fun r (_ : Unit) => r = out) (fun _ => kQ (dC, dI) cy [] (va_A [] sz)) (va_A [] sz)) 0 0 (va_A [] sz) := by
  refine Met.ofW (cc := cX11_shape) (maxL := 1) (ret := (some .int)) (by decide) rfl ?_
  intro p e s m args below meth c s₁ B hml hv
  obtain ⟨rfl, hsz, hP, hK, hD0, hG⟩ := hv
  have hx := B.exec
  have hb := B.bytes
  have hr := B.returns
  have hts := atoms_spec (ws := wsX11_shape) B.pre
  have hown : s.vm.findClass RX11 = some m.cls := findClass_of_methodNamed B.named
  have hlocks := B.notSynchronized
  subst hsz
  have hD := hD0.self (sz := s.heap.size)
  generalize hAe : va_A [] s.heap.size = A at hD hG ⊢
  have hA : ∀ q : Nat, s.heap.size ≤ q → A q := fun q h => by rw [← hAe]; exact Or.inr h
  have hS : va_S A s.heap s.heap [] := va_S.rf
  have hP : va_P (dC, dI) vwCl [] s.heap := hP
  have hl := lv_entry ([.int va1]) (n := 1) (Nat.le_of_ble_eq_true rfl)
  rw [lg_entry_eq]
  generalize (lg_sl ([.int va1]) ++ List.replicate (1 - (lg_sl ([.int va1])).length) Slot.unset).toArray = ls at hl ⊢
  have hl : lv_has ls 1 [(0, .int va1)] := hl
  refine kgen (fun Q hQ => ?_)
  rw [f_X11_shape] at hf
  refine lv_iload_n hx hb dX11_shape_0 rfl (lv_at hl 0 rfl) ?_
  by_cases hc_1_0 : va1 = (65 : Int32)
  · rw [if_pos hc_1_0] at hf
    refine lv_tableIn (tgt := 108) hx hb dX11_shape_1 (by rw [hc_1_0]; decide) (by rw [hc_1_0]; decide) (by rw [hc_1_0]; rfl) (by decide) ?_
    refine lv_bipush (v := (31 : Int32)) hx hb dX11_shape_108 (by decide) ?_
    refine lv_bipush (v := (17 : Int32)) hx hb dX11_shape_110 (by decide) ?_
    refine lv_bipush (v := (31 : Int32)) hx hb dX11_shape_112 (by decide) ?_
    refine lv_bipush (v := (17 : Int32)) hx hb dX11_shape_114 (by decide) ?_
    refine lv_bipush (v := (17 : Int32)) hx hb dX11_shape_116 (by decide) ?_
    refine kcalli (wc := []) (wr := []) (w1 := []) hK hP hD hS hA hG [] [] rfl rfl rfl rfl rfl (fun hU hPc => va_runS (As := [.int (31 : Int32), .int (17 : Int32), .int (31 : Int32), .int (17 : Int32), .int (17 : Int32)]) (rest := []) ⟨hx, hb, hml, hown, hts⟩ (c_X11_rows l dC dI cy G s.heap.size ((31 : Int32)) ((17 : Int32)) ((31 : Int32)) ((17 : Int32)) ((17 : Int32)) (t_X11_rows ((31 : Int32)) ((17 : Int32)) ((31 : Int32)) ((17 : Int32)) ((17 : Int32))) (tot_X11_rows ((31 : Int32)) ((17 : Int32)) ((31 : Int32)) ((17 : Int32)) ((17 : Int32)))) (va_cwS 5 hts gX11_shape_X11_rows rfl rfl rfl hdX11_rows.2 ⟨Nat.le_of_ble_eq_true rfl, Nat.le_of_ble_eq_true rfl⟩) ⟨kBlind, fun U h1 h2 => ⟨rfl, hU U h1 h2⟩⟩ rfl rfl hl.1 rfl (lv_room (Nat.le_of_ble_eq_true rfl)) dX11_shape_118 ⟨Nat.zero_le _, Nat.zero_le _⟩) ((t_X11_rows ((31 : Int32)) ((17 : Int32)) ((31 : Int32)) ((17 : Int32)) ((17 : Int32)))) (fun _ _ h => h) (fun _ _ h => h) (fun H locs hP hD hS => ?_)
    cases hf
    subst hQ
    exact kiret hx hb hr hlocks hK (hP.sub [] rfl) (hD.sub [] (by decide) rfl) hS rfl dX11_shape_121
  rw [if_neg hc_1_0] at hf
  by_cases hc_1_1 : va1 = (66 : Int32)
  · rw [if_pos hc_1_1] at hf
    refine lv_tableIn (tgt := 308) hx hb dX11_shape_1 (by rw [hc_1_1]; decide) (by rw [hc_1_1]; decide) (by rw [hc_1_1]; rfl) (by decide) ?_
    refine lv_iconst (v := (0 : Int32)) hx hb dX11_shape_308 (by decide) ?_
    cases hf
    subst hQ
    exact kiret hx hb hr hlocks hK (hP.sub [] rfl) (hD.sub [] (by decide) rfl) hS rfl dX11_shape_309
  rw [if_neg hc_1_1] at hf
  by_cases hc_1_2 : va1 = (67 : Int32)
  · rw [if_pos hc_1_2] at hf
    refine lv_tableIn (tgt := 122) hx hb dX11_shape_1 (by rw [hc_1_2]; decide) (by rw [hc_1_2]; decide) (by rw [hc_1_2]; rfl) (by decide) ?_
    refine lv_bipush (v := (31 : Int32)) hx hb dX11_shape_122 (by decide) ?_
    refine lv_bipush (v := (16 : Int32)) hx hb dX11_shape_124 (by decide) ?_
    refine lv_bipush (v := (16 : Int32)) hx hb dX11_shape_126 (by decide) ?_
    refine lv_bipush (v := (16 : Int32)) hx hb dX11_shape_128 (by decide) ?_
    refine lv_bipush (v := (31 : Int32)) hx hb dX11_shape_130 (by decide) ?_
    refine kcalli (wc := []) (wr := []) (w1 := []) hK hP hD hS hA hG [] [] rfl rfl rfl rfl rfl (fun hU hPc => va_runS (As := [.int (31 : Int32), .int (16 : Int32), .int (16 : Int32), .int (16 : Int32), .int (31 : Int32)]) (rest := []) ⟨hx, hb, hml, hown, hts⟩ (c_X11_rows l dC dI cy G s.heap.size ((31 : Int32)) ((16 : Int32)) ((16 : Int32)) ((16 : Int32)) ((31 : Int32)) (t_X11_rows ((31 : Int32)) ((16 : Int32)) ((16 : Int32)) ((16 : Int32)) ((31 : Int32))) (tot_X11_rows ((31 : Int32)) ((16 : Int32)) ((16 : Int32)) ((16 : Int32)) ((31 : Int32)))) (va_cwS 5 hts gX11_shape_X11_rows rfl rfl rfl hdX11_rows.2 ⟨Nat.le_of_ble_eq_true rfl, Nat.le_of_ble_eq_true rfl⟩) ⟨kBlind, fun U h1 h2 => ⟨rfl, hU U h1 h2⟩⟩ rfl rfl hl.1 rfl (lv_room (Nat.le_of_ble_eq_true rfl)) dX11_shape_132 ⟨Nat.zero_le _, Nat.zero_le _⟩) ((t_X11_rows ((31 : Int32)) ((16 : Int32)) ((16 : Int32)) ((16 : Int32)) ((31 : Int32)))) (fun _ _ h => h) (fun _ _ h => h) (fun H locs hP hD hS => ?_)
    cases hf
    subst hQ
    exact kiret hx hb hr hlocks hK (hP.sub [] rfl) (hD.sub [] (by decide) rfl) hS rfl dX11_shape_135
  rw [if_neg hc_1_2] at hf
  by_cases hc_1_3 : va1 = (68 : Int32)
  · rw [if_pos hc_1_3] at hf
    refine lv_tableIn (tgt := 308) hx hb dX11_shape_1 (by rw [hc_1_3]; decide) (by rw [hc_1_3]; decide) (by rw [hc_1_3]; rfl) (by decide) ?_
    refine lv_iconst (v := (0 : Int32)) hx hb dX11_shape_308 (by decide) ?_
    cases hf
    subst hQ
    exact kiret hx hb hr hlocks hK (hP.sub [] rfl) (hD.sub [] (by decide) rfl) hS rfl dX11_shape_309
  rw [if_neg hc_1_3] at hf
  by_cases hc_1_4 : va1 = (69 : Int32)
  · rw [if_pos hc_1_4] at hf
    refine lv_tableIn (tgt := 136) hx hb dX11_shape_1 (by rw [hc_1_4]; decide) (by rw [hc_1_4]; decide) (by rw [hc_1_4]; rfl) (by decide) ?_
    refine lv_bipush (v := (31 : Int32)) hx hb dX11_shape_136 (by decide) ?_
    refine lv_bipush (v := (16 : Int32)) hx hb dX11_shape_138 (by decide) ?_
    refine lv_bipush (v := (30 : Int32)) hx hb dX11_shape_140 (by decide) ?_
    refine lv_bipush (v := (16 : Int32)) hx hb dX11_shape_142 (by decide) ?_
    refine lv_bipush (v := (31 : Int32)) hx hb dX11_shape_144 (by decide) ?_
    refine kcalli (wc := []) (wr := []) (w1 := []) hK hP hD hS hA hG [] [] rfl rfl rfl rfl rfl (fun hU hPc => va_runS (As := [.int (31 : Int32), .int (16 : Int32), .int (30 : Int32), .int (16 : Int32), .int (31 : Int32)]) (rest := []) ⟨hx, hb, hml, hown, hts⟩ (c_X11_rows l dC dI cy G s.heap.size ((31 : Int32)) ((16 : Int32)) ((30 : Int32)) ((16 : Int32)) ((31 : Int32)) (t_X11_rows ((31 : Int32)) ((16 : Int32)) ((30 : Int32)) ((16 : Int32)) ((31 : Int32))) (tot_X11_rows ((31 : Int32)) ((16 : Int32)) ((30 : Int32)) ((16 : Int32)) ((31 : Int32)))) (va_cwS 5 hts gX11_shape_X11_rows rfl rfl rfl hdX11_rows.2 ⟨Nat.le_of_ble_eq_true rfl, Nat.le_of_ble_eq_true rfl⟩) ⟨kBlind, fun U h1 h2 => ⟨rfl, hU U h1 h2⟩⟩ rfl rfl hl.1 rfl (lv_room (Nat.le_of_ble_eq_true rfl)) dX11_shape_146 ⟨Nat.zero_le _, Nat.zero_le _⟩) ((t_X11_rows ((31 : Int32)) ((16 : Int32)) ((30 : Int32)) ((16 : Int32)) ((31 : Int32)))) (fun _ _ h => h) (fun _ _ h => h) (fun H locs hP hD hS => ?_)
    cases hf
    subst hQ
    exact kiret hx hb hr hlocks hK (hP.sub [] rfl) (hD.sub [] (by decide) rfl) hS rfl dX11_shape_149
  rw [if_neg hc_1_4] at hf
  by_cases hc_1_5 : va1 = (70 : Int32)
  · rw [if_pos hc_1_5] at hf
    refine lv_tableIn (tgt := 150) hx hb dX11_shape_1 (by rw [hc_1_5]; decide) (by rw [hc_1_5]; decide) (by rw [hc_1_5]; rfl) (by decide) ?_
    refine lv_bipush (v := (31 : Int32)) hx hb dX11_shape_150 (by decide) ?_
    refine lv_bipush (v := (16 : Int32)) hx hb dX11_shape_152 (by decide) ?_
    refine lv_bipush (v := (30 : Int32)) hx hb dX11_shape_154 (by decide) ?_
    refine lv_bipush (v := (16 : Int32)) hx hb dX11_shape_156 (by decide) ?_
    refine lv_bipush (v := (16 : Int32)) hx hb dX11_shape_158 (by decide) ?_
    refine kcalli (wc := []) (wr := []) (w1 := []) hK hP hD hS hA hG [] [] rfl rfl rfl rfl rfl (fun hU hPc => va_runS (As := [.int (31 : Int32), .int (16 : Int32), .int (30 : Int32), .int (16 : Int32), .int (16 : Int32)]) (rest := []) ⟨hx, hb, hml, hown, hts⟩ (c_X11_rows l dC dI cy G s.heap.size ((31 : Int32)) ((16 : Int32)) ((30 : Int32)) ((16 : Int32)) ((16 : Int32)) (t_X11_rows ((31 : Int32)) ((16 : Int32)) ((30 : Int32)) ((16 : Int32)) ((16 : Int32))) (tot_X11_rows ((31 : Int32)) ((16 : Int32)) ((30 : Int32)) ((16 : Int32)) ((16 : Int32)))) (va_cwS 5 hts gX11_shape_X11_rows rfl rfl rfl hdX11_rows.2 ⟨Nat.le_of_ble_eq_true rfl, Nat.le_of_ble_eq_true rfl⟩) ⟨kBlind, fun U h1 h2 => ⟨rfl, hU U h1 h2⟩⟩ rfl rfl hl.1 rfl (lv_room (Nat.le_of_ble_eq_true rfl)) dX11_shape_160 ⟨Nat.zero_le _, Nat.zero_le _⟩) ((t_X11_rows ((31 : Int32)) ((16 : Int32)) ((30 : Int32)) ((16 : Int32)) ((16 : Int32)))) (fun _ _ h => h) (fun _ _ h => h) (fun H locs hP hD hS => ?_)
    cases hf
    subst hQ
    exact kiret hx hb hr hlocks hK (hP.sub [] rfl) (hD.sub [] (by decide) rfl) hS rfl dX11_shape_163
  rw [if_neg hc_1_5] at hf
  by_cases hc_1_6 : va1 = (71 : Int32)
  · rw [if_pos hc_1_6] at hf
    refine lv_tableIn (tgt := 164) hx hb dX11_shape_1 (by rw [hc_1_6]; decide) (by rw [hc_1_6]; decide) (by rw [hc_1_6]; rfl) (by decide) ?_
    refine lv_bipush (v := (31 : Int32)) hx hb dX11_shape_164 (by decide) ?_
    refine lv_bipush (v := (16 : Int32)) hx hb dX11_shape_166 (by decide) ?_
    refine lv_bipush (v := (23 : Int32)) hx hb dX11_shape_168 (by decide) ?_
    refine lv_bipush (v := (17 : Int32)) hx hb dX11_shape_170 (by decide) ?_
    refine lv_bipush (v := (31 : Int32)) hx hb dX11_shape_172 (by decide) ?_
    refine kcalli (wc := []) (wr := []) (w1 := []) hK hP hD hS hA hG [] [] rfl rfl rfl rfl rfl (fun hU hPc => va_runS (As := [.int (31 : Int32), .int (16 : Int32), .int (23 : Int32), .int (17 : Int32), .int (31 : Int32)]) (rest := []) ⟨hx, hb, hml, hown, hts⟩ (c_X11_rows l dC dI cy G s.heap.size ((31 : Int32)) ((16 : Int32)) ((23 : Int32)) ((17 : Int32)) ((31 : Int32)) (t_X11_rows ((31 : Int32)) ((16 : Int32)) ((23 : Int32)) ((17 : Int32)) ((31 : Int32))) (tot_X11_rows ((31 : Int32)) ((16 : Int32)) ((23 : Int32)) ((17 : Int32)) ((31 : Int32)))) (va_cwS 5 hts gX11_shape_X11_rows rfl rfl rfl hdX11_rows.2 ⟨Nat.le_of_ble_eq_true rfl, Nat.le_of_ble_eq_true rfl⟩) ⟨kBlind, fun U h1 h2 => ⟨rfl, hU U h1 h2⟩⟩ rfl rfl hl.1 rfl (lv_room (Nat.le_of_ble_eq_true rfl)) dX11_shape_174 ⟨Nat.zero_le _, Nat.zero_le _⟩) ((t_X11_rows ((31 : Int32)) ((16 : Int32)) ((23 : Int32)) ((17 : Int32)) ((31 : Int32)))) (fun _ _ h => h) (fun _ _ h => h) (fun H locs hP hD hS => ?_)
    cases hf
    subst hQ
    exact kiret hx hb hr hlocks hK (hP.sub [] rfl) (hD.sub [] (by decide) rfl) hS rfl dX11_shape_177
  rw [if_neg hc_1_6] at hf
  by_cases hc_1_7 : va1 = (72 : Int32)
  · rw [if_pos hc_1_7] at hf
    refine lv_tableIn (tgt := 178) hx hb dX11_shape_1 (by rw [hc_1_7]; decide) (by rw [hc_1_7]; decide) (by rw [hc_1_7]; rfl) (by decide) ?_
    refine lv_bipush (v := (17 : Int32)) hx hb dX11_shape_178 (by decide) ?_
    refine lv_bipush (v := (17 : Int32)) hx hb dX11_shape_180 (by decide) ?_
    refine lv_bipush (v := (31 : Int32)) hx hb dX11_shape_182 (by decide) ?_
    refine lv_bipush (v := (17 : Int32)) hx hb dX11_shape_184 (by decide) ?_
    refine lv_bipush (v := (17 : Int32)) hx hb dX11_shape_186 (by decide) ?_
    refine kcalli (wc := []) (wr := []) (w1 := []) hK hP hD hS hA hG [] [] rfl rfl rfl rfl rfl (fun hU hPc => va_runS (As := [.int (17 : Int32), .int (17 : Int32), .int (31 : Int32), .int (17 : Int32), .int (17 : Int32)]) (rest := []) ⟨hx, hb, hml, hown, hts⟩ (c_X11_rows l dC dI cy G s.heap.size ((17 : Int32)) ((17 : Int32)) ((31 : Int32)) ((17 : Int32)) ((17 : Int32)) (t_X11_rows ((17 : Int32)) ((17 : Int32)) ((31 : Int32)) ((17 : Int32)) ((17 : Int32))) (tot_X11_rows ((17 : Int32)) ((17 : Int32)) ((31 : Int32)) ((17 : Int32)) ((17 : Int32)))) (va_cwS 5 hts gX11_shape_X11_rows rfl rfl rfl hdX11_rows.2 ⟨Nat.le_of_ble_eq_true rfl, Nat.le_of_ble_eq_true rfl⟩) ⟨kBlind, fun U h1 h2 => ⟨rfl, hU U h1 h2⟩⟩ rfl rfl hl.1 rfl (lv_room (Nat.le_of_ble_eq_true rfl)) dX11_shape_188 ⟨Nat.zero_le _, Nat.zero_le _⟩) ((t_X11_rows ((17 : Int32)) ((17 : Int32)) ((31 : Int32)) ((17 : Int32)) ((17 : Int32)))) (fun _ _ h => h) (fun _ _ h => h) (fun H locs hP hD hS => ?_)
    cases hf
    subst hQ
    exact kiret hx hb hr hlocks hK (hP.sub [] rfl) (hD.sub [] (by decide) rfl) hS rfl dX11_shape_191
  rw [if_neg hc_1_7] at hf
  by_cases hc_1_8 : va1 = (73 : Int32)
  · rw [if_pos hc_1_8] at hf
    refine lv_tableIn (tgt := 192) hx hb dX11_shape_1 (by rw [hc_1_8]; decide) (by rw [hc_1_8]; decide) (by rw [hc_1_8]; rfl) (by decide) ?_
    refine lv_iconst (v := (4 : Int32)) hx hb dX11_shape_192 (by decide) ?_
    refine lv_iconst (v := (4 : Int32)) hx hb dX11_shape_193 (by decide) ?_
    refine lv_iconst (v := (4 : Int32)) hx hb dX11_shape_194 (by decide) ?_
    refine lv_iconst (v := (4 : Int32)) hx hb dX11_shape_195 (by decide) ?_
    refine lv_iconst (v := (4 : Int32)) hx hb dX11_shape_196 (by decide) ?_
    refine kcalli (wc := []) (wr := []) (w1 := []) hK hP hD hS hA hG [] [] rfl rfl rfl rfl rfl (fun hU hPc => va_runS (As := [.int (4 : Int32), .int (4 : Int32), .int (4 : Int32), .int (4 : Int32), .int (4 : Int32)]) (rest := []) ⟨hx, hb, hml, hown, hts⟩ (c_X11_rows l dC dI cy G s.heap.size ((4 : Int32)) ((4 : Int32)) ((4 : Int32)) ((4 : Int32)) ((4 : Int32)) (t_X11_rows ((4 : Int32)) ((4 : Int32)) ((4 : Int32)) ((4 : Int32)) ((4 : Int32))) (tot_X11_rows ((4 : Int32)) ((4 : Int32)) ((4 : Int32)) ((4 : Int32)) ((4 : Int32)))) (va_cwS 5 hts gX11_shape_X11_rows rfl rfl rfl hdX11_rows.2 ⟨Nat.le_of_ble_eq_true rfl, Nat.le_of_ble_eq_true rfl⟩) ⟨kBlind, fun U h1 h2 => ⟨rfl, hU U h1 h2⟩⟩ rfl rfl hl.1 rfl (lv_room (Nat.le_of_ble_eq_true rfl)) dX11_shape_197 ⟨Nat.zero_le _, Nat.zero_le _⟩) ((t_X11_rows ((4 : Int32)) ((4 : Int32)) ((4 : Int32)) ((4 : Int32)) ((4 : Int32)))) (fun _ _ h => h) (fun _ _ h => h) (fun H locs hP hD hS => ?_)
    cases hf
    subst hQ
    exact kiret hx hb hr hlocks hK (hP.sub [] rfl) (hD.sub [] (by decide) rfl) hS rfl dX11_shape_200
  rw [if_neg hc_1_8] at hf
  by_cases hc_1_9 : va1 = (74 : Int32)
  · rw [if_pos hc_1_9] at hf
    refine lv_tableIn (tgt := 308) hx hb dX11_shape_1 (by rw [hc_1_9]; decide) (by rw [hc_1_9]; decide) (by rw [hc_1_9]; rfl) (by decide) ?_
    refine lv_iconst (v := (0 : Int32)) hx hb dX11_shape_308 (by decide) ?_
    cases hf
    subst hQ
    exact kiret hx hb hr hlocks hK (hP.sub [] rfl) (hD.sub [] (by decide) rfl) hS rfl dX11_shape_309
  rw [if_neg hc_1_9] at hf
  by_cases hc_1_10 : va1 = (75 : Int32)
  · rw [if_pos hc_1_10] at hf
    refine lv_tableIn (tgt := 308) hx hb dX11_shape_1 (by rw [hc_1_10]; decide) (by rw [hc_1_10]; decide) (by rw [hc_1_10]; rfl) (by decide) ?_
    refine lv_iconst (v := (0 : Int32)) hx hb dX11_shape_308 (by decide) ?_
    cases hf
    subst hQ
    exact kiret hx hb hr hlocks hK (hP.sub [] rfl) (hD.sub [] (by decide) rfl) hS rfl dX11_shape_309
  rw [if_neg hc_1_10] at hf
  by_cases hc_1_11 : va1 = (76 : Int32)
  · rw [if_pos hc_1_11] at hf
    refine lv_tableIn (tgt := 201) hx hb dX11_shape_1 (by rw [hc_1_11]; decide) (by rw [hc_1_11]; decide) (by rw [hc_1_11]; rfl) (by decide) ?_
    refine lv_bipush (v := (16 : Int32)) hx hb dX11_shape_201 (by decide) ?_
    refine lv_bipush (v := (16 : Int32)) hx hb dX11_shape_203 (by decide) ?_
    refine lv_bipush (v := (16 : Int32)) hx hb dX11_shape_205 (by decide) ?_
    refine lv_bipush (v := (16 : Int32)) hx hb dX11_shape_207 (by decide) ?_
    refine lv_bipush (v := (31 : Int32)) hx hb dX11_shape_209 (by decide) ?_
    refine kcalli (wc := []) (wr := []) (w1 := []) hK hP hD hS hA hG [] [] rfl rfl rfl rfl rfl (fun hU hPc => va_runS (As := [.int (16 : Int32), .int (16 : Int32), .int (16 : Int32), .int (16 : Int32), .int (31 : Int32)]) (rest := []) ⟨hx, hb, hml, hown, hts⟩ (c_X11_rows l dC dI cy G s.heap.size ((16 : Int32)) ((16 : Int32)) ((16 : Int32)) ((16 : Int32)) ((31 : Int32)) (t_X11_rows ((16 : Int32)) ((16 : Int32)) ((16 : Int32)) ((16 : Int32)) ((31 : Int32))) (tot_X11_rows ((16 : Int32)) ((16 : Int32)) ((16 : Int32)) ((16 : Int32)) ((31 : Int32)))) (va_cwS 5 hts gX11_shape_X11_rows rfl rfl rfl hdX11_rows.2 ⟨Nat.le_of_ble_eq_true rfl, Nat.le_of_ble_eq_true rfl⟩) ⟨kBlind, fun U h1 h2 => ⟨rfl, hU U h1 h2⟩⟩ rfl rfl hl.1 rfl (lv_room (Nat.le_of_ble_eq_true rfl)) dX11_shape_211 ⟨Nat.zero_le _, Nat.zero_le _⟩) ((t_X11_rows ((16 : Int32)) ((16 : Int32)) ((16 : Int32)) ((16 : Int32)) ((31 : Int32)))) (fun _ _ h => h) (fun _ _ h => h) (fun H locs hP hD hS => ?_)
    cases hf
    subst hQ
    exact kiret hx hb hr hlocks hK (hP.sub [] rfl) (hD.sub [] (by decide) rfl) hS rfl dX11_shape_214
  rw [if_neg hc_1_11] at hf
  by_cases hc_1_12 : va1 = (77 : Int32)
  · rw [if_pos hc_1_12] at hf
    refine lv_tableIn (tgt := 215) hx hb dX11_shape_1 (by rw [hc_1_12]; decide) (by rw [hc_1_12]; decide) (by rw [hc_1_12]; rfl) (by decide) ?_
    refine lv_bipush (v := (31 : Int32)) hx hb dX11_shape_215 (by decide) ?_
    refine lv_bipush (v := (21 : Int32)) hx hb dX11_shape_217 (by decide) ?_
    refine lv_bipush (v := (21 : Int32)) hx hb dX11_shape_219 (by decide) ?_
    refine lv_bipush (v := (21 : Int32)) hx hb dX11_shape_221 (by decide) ?_
    refine lv_bipush (v := (21 : Int32)) hx hb dX11_shape_223 (by decide) ?_
    refine kcalli (wc := []) (wr := []) (w1 := []) hK hP hD hS hA hG [] [] rfl rfl rfl rfl rfl (fun hU hPc => va_runS (As := [.int (31 : Int32), .int (21 : Int32), .int (21 : Int32), .int (21 : Int32), .int (21 : Int32)]) (rest := []) ⟨hx, hb, hml, hown, hts⟩ (c_X11_rows l dC dI cy G s.heap.size ((31 : Int32)) ((21 : Int32)) ((21 : Int32)) ((21 : Int32)) ((21 : Int32)) (t_X11_rows ((31 : Int32)) ((21 : Int32)) ((21 : Int32)) ((21 : Int32)) ((21 : Int32))) (tot_X11_rows ((31 : Int32)) ((21 : Int32)) ((21 : Int32)) ((21 : Int32)) ((21 : Int32)))) (va_cwS 5 hts gX11_shape_X11_rows rfl rfl rfl hdX11_rows.2 ⟨Nat.le_of_ble_eq_true rfl, Nat.le_of_ble_eq_true rfl⟩) ⟨kBlind, fun U h1 h2 => ⟨rfl, hU U h1 h2⟩⟩ rfl rfl hl.1 rfl (lv_room (Nat.le_of_ble_eq_true rfl)) dX11_shape_225 ⟨Nat.zero_le _, Nat.zero_le _⟩) ((t_X11_rows ((31 : Int32)) ((21 : Int32)) ((21 : Int32)) ((21 : Int32)) ((21 : Int32)))) (fun _ _ h => h) (fun _ _ h => h) (fun H locs hP hD hS => ?_)
    cases hf
    subst hQ
    exact kiret hx hb hr hlocks hK (hP.sub [] rfl) (hD.sub [] (by decide) rfl) hS rfl dX11_shape_228
  rw [if_neg hc_1_12] at hf
  by_cases hc_1_13 : va1 = (78 : Int32)
  · rw [if_pos hc_1_13] at hf
    refine lv_tableIn (tgt := 308) hx hb dX11_shape_1 (by rw [hc_1_13]; decide) (by rw [hc_1_13]; decide) (by rw [hc_1_13]; rfl) (by decide) ?_
    refine lv_iconst (v := (0 : Int32)) hx hb dX11_shape_308 (by decide) ?_
    cases hf
    subst hQ
    exact kiret hx hb hr hlocks hK (hP.sub [] rfl) (hD.sub [] (by decide) rfl) hS rfl dX11_shape_309
  rw [if_neg hc_1_13] at hf
  by_cases hc_1_14 : va1 = (79 : Int32)
  · rw [if_pos hc_1_14] at hf
    refine lv_tableIn (tgt := 229) hx hb dX11_shape_1 (by rw [hc_1_14]; decide) (by rw [hc_1_14]; decide) (by rw [hc_1_14]; rfl) (by decide) ?_
    refine lv_bipush (v := (31 : Int32)) hx hb dX11_shape_229 (by decide) ?_
    refine lv_bipush (v := (17 : Int32)) hx hb dX11_shape_231 (by decide) ?_
    refine lv_bipush (v := (17 : Int32)) hx hb dX11_shape_233 (by decide) ?_
    refine lv_bipush (v := (17 : Int32)) hx hb dX11_shape_235 (by decide) ?_
    refine lv_bipush (v := (31 : Int32)) hx hb dX11_shape_237 (by decide) ?_
    refine kcalli (wc := []) (wr := []) (w1 := []) hK hP hD hS hA hG [] [] rfl rfl rfl rfl rfl (fun hU hPc => va_runS (As := [.int (31 : Int32), .int (17 : Int32), .int (17 : Int32), .int (17 : Int32), .int (31 : Int32)]) (rest := []) ⟨hx, hb, hml, hown, hts⟩ (c_X11_rows l dC dI cy G s.heap.size ((31 : Int32)) ((17 : Int32)) ((17 : Int32)) ((17 : Int32)) ((31 : Int32)) (t_X11_rows ((31 : Int32)) ((17 : Int32)) ((17 : Int32)) ((17 : Int32)) ((31 : Int32))) (tot_X11_rows ((31 : Int32)) ((17 : Int32)) ((17 : Int32)) ((17 : Int32)) ((31 : Int32)))) (va_cwS 5 hts gX11_shape_X11_rows rfl rfl rfl hdX11_rows.2 ⟨Nat.le_of_ble_eq_true rfl, Nat.le_of_ble_eq_true rfl⟩) ⟨kBlind, fun U h1 h2 => ⟨rfl, hU U h1 h2⟩⟩ rfl rfl hl.1 rfl (lv_room (Nat.le_of_ble_eq_true rfl)) dX11_shape_239 ⟨Nat.zero_le _, Nat.zero_le _⟩) ((t_X11_rows ((31 : Int32)) ((17 : Int32)) ((17 : Int32)) ((17 : Int32)) ((31 : Int32)))) (fun _ _ h => h) (fun _ _ h => h) (fun H locs hP hD hS => ?_)
    cases hf
    subst hQ
    exact kiret hx hb hr hlocks hK (hP.sub [] rfl) (hD.sub [] (by decide) rfl) hS rfl dX11_shape_242
  rw [if_neg hc_1_14] at hf
  by_cases hc_1_15 : va1 = (80 : Int32)
  · rw [if_pos hc_1_15] at hf
    refine lv_tableIn (tgt := 243) hx hb dX11_shape_1 (by rw [hc_1_15]; decide) (by rw [hc_1_15]; decide) (by rw [hc_1_15]; rfl) (by decide) ?_
    refine lv_bipush (v := (31 : Int32)) hx hb dX11_shape_243 (by decide) ?_
    refine lv_bipush (v := (17 : Int32)) hx hb dX11_shape_245 (by decide) ?_
    refine lv_bipush (v := (31 : Int32)) hx hb dX11_shape_247 (by decide) ?_
    refine lv_bipush (v := (16 : Int32)) hx hb dX11_shape_249 (by decide) ?_
    refine lv_bipush (v := (16 : Int32)) hx hb dX11_shape_251 (by decide) ?_
    refine kcalli (wc := []) (wr := []) (w1 := []) hK hP hD hS hA hG [] [] rfl rfl rfl rfl rfl (fun hU hPc => va_runS (As := [.int (31 : Int32), .int (17 : Int32), .int (31 : Int32), .int (16 : Int32), .int (16 : Int32)]) (rest := []) ⟨hx, hb, hml, hown, hts⟩ (c_X11_rows l dC dI cy G s.heap.size ((31 : Int32)) ((17 : Int32)) ((31 : Int32)) ((16 : Int32)) ((16 : Int32)) (t_X11_rows ((31 : Int32)) ((17 : Int32)) ((31 : Int32)) ((16 : Int32)) ((16 : Int32))) (tot_X11_rows ((31 : Int32)) ((17 : Int32)) ((31 : Int32)) ((16 : Int32)) ((16 : Int32)))) (va_cwS 5 hts gX11_shape_X11_rows rfl rfl rfl hdX11_rows.2 ⟨Nat.le_of_ble_eq_true rfl, Nat.le_of_ble_eq_true rfl⟩) ⟨kBlind, fun U h1 h2 => ⟨rfl, hU U h1 h2⟩⟩ rfl rfl hl.1 rfl (lv_room (Nat.le_of_ble_eq_true rfl)) dX11_shape_253 ⟨Nat.zero_le _, Nat.zero_le _⟩) ((t_X11_rows ((31 : Int32)) ((17 : Int32)) ((31 : Int32)) ((16 : Int32)) ((16 : Int32)))) (fun _ _ h => h) (fun _ _ h => h) (fun H locs hP hD hS => ?_)
    cases hf
    subst hQ
    exact kiret hx hb hr hlocks hK (hP.sub [] rfl) (hD.sub [] (by decide) rfl) hS rfl dX11_shape_256
  rw [if_neg hc_1_15] at hf
  by_cases hc_1_16 : va1 = (81 : Int32)
  · rw [if_pos hc_1_16] at hf
    refine lv_tableIn (tgt := 308) hx hb dX11_shape_1 (by rw [hc_1_16]; decide) (by rw [hc_1_16]; decide) (by rw [hc_1_16]; rfl) (by decide) ?_
    refine lv_iconst (v := (0 : Int32)) hx hb dX11_shape_308 (by decide) ?_
    cases hf
    subst hQ
    exact kiret hx hb hr hlocks hK (hP.sub [] rfl) (hD.sub [] (by decide) rfl) hS rfl dX11_shape_309
  rw [if_neg hc_1_16] at hf
  by_cases hc_1_17 : va1 = (82 : Int32)
  · rw [if_pos hc_1_17] at hf
    refine lv_tableIn (tgt := 308) hx hb dX11_shape_1 (by rw [hc_1_17]; decide) (by rw [hc_1_17]; decide) (by rw [hc_1_17]; rfl) (by decide) ?_
    refine lv_iconst (v := (0 : Int32)) hx hb dX11_shape_308 (by decide) ?_
    cases hf
    subst hQ
    exact kiret hx hb hr hlocks hK (hP.sub [] rfl) (hD.sub [] (by decide) rfl) hS rfl dX11_shape_309
  rw [if_neg hc_1_17] at hf
  by_cases hc_1_18 : va1 = (83 : Int32)
  · rw [if_pos hc_1_18] at hf
    refine lv_tableIn (tgt := 257) hx hb dX11_shape_1 (by rw [hc_1_18]; decide) (by rw [hc_1_18]; decide) (by rw [hc_1_18]; rfl) (by decide) ?_
    refine lv_bipush (v := (31 : Int32)) hx hb dX11_shape_257 (by decide) ?_
    refine lv_bipush (v := (16 : Int32)) hx hb dX11_shape_259 (by decide) ?_
    refine lv_bipush (v := (31 : Int32)) hx hb dX11_shape_261 (by decide) ?_
    refine lv_iconst (v := (1 : Int32)) hx hb dX11_shape_263 (by decide) ?_
    refine lv_bipush (v := (31 : Int32)) hx hb dX11_shape_264 (by decide) ?_
    refine kcalli (wc := []) (wr := []) (w1 := []) hK hP hD hS hA hG [] [] rfl rfl rfl rfl rfl (fun hU hPc => va_runS (As := [.int (31 : Int32), .int (16 : Int32), .int (31 : Int32), .int (1 : Int32), .int (31 : Int32)]) (rest := []) ⟨hx, hb, hml, hown, hts⟩ (c_X11_rows l dC dI cy G s.heap.size ((31 : Int32)) ((16 : Int32)) ((31 : Int32)) ((1 : Int32)) ((31 : Int32)) (t_X11_rows ((31 : Int32)) ((16 : Int32)) ((31 : Int32)) ((1 : Int32)) ((31 : Int32))) (tot_X11_rows ((31 : Int32)) ((16 : Int32)) ((31 : Int32)) ((1 : Int32)) ((31 : Int32)))) (va_cwS 5 hts gX11_shape_X11_rows rfl rfl rfl hdX11_rows.2 ⟨Nat.le_of_ble_eq_true rfl, Nat.le_of_ble_eq_true rfl⟩) ⟨kBlind, fun U h1 h2 => ⟨rfl, hU U h1 h2⟩⟩ rfl rfl hl.1 rfl (lv_room (Nat.le_of_ble_eq_true rfl)) dX11_shape_266 ⟨Nat.zero_le _, Nat.zero_le _⟩) ((t_X11_rows ((31 : Int32)) ((16 : Int32)) ((31 : Int32)) ((1 : Int32)) ((31 : Int32)))) (fun _ _ h => h) (fun _ _ h => h) (fun H locs hP hD hS => ?_)
    cases hf
    subst hQ
    exact kiret hx hb hr hlocks hK (hP.sub [] rfl) (hD.sub [] (by decide) rfl) hS rfl dX11_shape_269
  rw [if_neg hc_1_18] at hf
  by_cases hc_1_19 : va1 = (84 : Int32)
  · rw [if_pos hc_1_19] at hf
    refine lv_tableIn (tgt := 270) hx hb dX11_shape_1 (by rw [hc_1_19]; decide) (by rw [hc_1_19]; decide) (by rw [hc_1_19]; rfl) (by decide) ?_
    refine lv_bipush (v := (31 : Int32)) hx hb dX11_shape_270 (by decide) ?_
    refine lv_iconst (v := (4 : Int32)) hx hb dX11_shape_272 (by decide) ?_
    refine lv_iconst (v := (4 : Int32)) hx hb dX11_shape_273 (by decide) ?_
    refine lv_iconst (v := (4 : Int32)) hx hb dX11_shape_274 (by decide) ?_
    refine lv_iconst (v := (4 : Int32)) hx hb dX11_shape_275 (by decide) ?_
    refine kcalli (wc := []) (wr := []) (w1 := []) hK hP hD hS hA hG [] [] rfl rfl rfl rfl rfl (fun hU hPc => va_runS (As := [.int (31 : Int32), .int (4 : Int32), .int (4 : Int32), .int (4 : Int32), .int (4 : Int32)]) (rest := []) ⟨hx, hb, hml, hown, hts⟩ (c_X11_rows l dC dI cy G s.heap.size ((31 : Int32)) ((4 : Int32)) ((4 : Int32)) ((4 : Int32)) ((4 : Int32)) (t_X11_rows ((31 : Int32)) ((4 : Int32)) ((4 : Int32)) ((4 : Int32)) ((4 : Int32))) (tot_X11_rows ((31 : Int32)) ((4 : Int32)) ((4 : Int32)) ((4 : Int32)) ((4 : Int32)))) (va_cwS 5 hts gX11_shape_X11_rows rfl rfl rfl hdX11_rows.2 ⟨Nat.le_of_ble_eq_true rfl, Nat.le_of_ble_eq_true rfl⟩) ⟨kBlind, fun U h1 h2 => ⟨rfl, hU U h1 h2⟩⟩ rfl rfl hl.1 rfl (lv_room (Nat.le_of_ble_eq_true rfl)) dX11_shape_276 ⟨Nat.zero_le _, Nat.zero_le _⟩) ((t_X11_rows ((31 : Int32)) ((4 : Int32)) ((4 : Int32)) ((4 : Int32)) ((4 : Int32)))) (fun _ _ h => h) (fun _ _ h => h) (fun H locs hP hD hS => ?_)
    cases hf
    subst hQ
    exact kiret hx hb hr hlocks hK (hP.sub [] rfl) (hD.sub [] (by decide) rfl) hS rfl dX11_shape_279
  rw [if_neg hc_1_19] at hf
  by_cases hc_1_20 : va1 = (85 : Int32)
  · rw [if_pos hc_1_20] at hf
    refine lv_tableIn (tgt := 280) hx hb dX11_shape_1 (by rw [hc_1_20]; decide) (by rw [hc_1_20]; decide) (by rw [hc_1_20]; rfl) (by decide) ?_
    refine lv_bipush (v := (17 : Int32)) hx hb dX11_shape_280 (by decide) ?_
    refine lv_bipush (v := (17 : Int32)) hx hb dX11_shape_282 (by decide) ?_
    refine lv_bipush (v := (17 : Int32)) hx hb dX11_shape_284 (by decide) ?_
    refine lv_bipush (v := (17 : Int32)) hx hb dX11_shape_286 (by decide) ?_
    refine lv_bipush (v := (31 : Int32)) hx hb dX11_shape_288 (by decide) ?_
    refine kcalli (wc := []) (wr := []) (w1 := []) hK hP hD hS hA hG [] [] rfl rfl rfl rfl rfl (fun hU hPc => va_runS (As := [.int (17 : Int32), .int (17 : Int32), .int (17 : Int32), .int (17 : Int32), .int (31 : Int32)]) (rest := []) ⟨hx, hb, hml, hown, hts⟩ (c_X11_rows l dC dI cy G s.heap.size ((17 : Int32)) ((17 : Int32)) ((17 : Int32)) ((17 : Int32)) ((31 : Int32)) (t_X11_rows ((17 : Int32)) ((17 : Int32)) ((17 : Int32)) ((17 : Int32)) ((31 : Int32))) (tot_X11_rows ((17 : Int32)) ((17 : Int32)) ((17 : Int32)) ((17 : Int32)) ((31 : Int32)))) (va_cwS 5 hts gX11_shape_X11_rows rfl rfl rfl hdX11_rows.2 ⟨Nat.le_of_ble_eq_true rfl, Nat.le_of_ble_eq_true rfl⟩) ⟨kBlind, fun U h1 h2 => ⟨rfl, hU U h1 h2⟩⟩ rfl rfl hl.1 rfl (lv_room (Nat.le_of_ble_eq_true rfl)) dX11_shape_290 ⟨Nat.zero_le _, Nat.zero_le _⟩) ((t_X11_rows ((17 : Int32)) ((17 : Int32)) ((17 : Int32)) ((17 : Int32)) ((31 : Int32)))) (fun _ _ h => h) (fun _ _ h => h) (fun H locs hP hD hS => ?_)
    cases hf
    subst hQ
    exact kiret hx hb hr hlocks hK (hP.sub [] rfl) (hD.sub [] (by decide) rfl) hS rfl dX11_shape_293
  rw [if_neg hc_1_20] at hf
  by_cases hc_1_21 : va1 = (86 : Int32)
  · rw [if_pos hc_1_21] at hf
    refine lv_tableIn (tgt := 308) hx hb dX11_shape_1 (by rw [hc_1_21]; decide) (by rw [hc_1_21]; decide) (by rw [hc_1_21]; rfl) (by decide) ?_
    refine lv_iconst (v := (0 : Int32)) hx hb dX11_shape_308 (by decide) ?_
    cases hf
    subst hQ
    exact kiret hx hb hr hlocks hK (hP.sub [] rfl) (hD.sub [] (by decide) rfl) hS rfl dX11_shape_309
  rw [if_neg hc_1_21] at hf
  by_cases hc_1_22 : va1 = (87 : Int32)
  · rw [if_pos hc_1_22] at hf
    refine lv_tableIn (tgt := 294) hx hb dX11_shape_1 (by rw [hc_1_22]; decide) (by rw [hc_1_22]; decide) (by rw [hc_1_22]; rfl) (by decide) ?_
    refine lv_bipush (v := (21 : Int32)) hx hb dX11_shape_294 (by decide) ?_
    refine lv_bipush (v := (21 : Int32)) hx hb dX11_shape_296 (by decide) ?_
    refine lv_bipush (v := (21 : Int32)) hx hb dX11_shape_298 (by decide) ?_
    refine lv_bipush (v := (21 : Int32)) hx hb dX11_shape_300 (by decide) ?_
    refine lv_bipush (v := (31 : Int32)) hx hb dX11_shape_302 (by decide) ?_
    refine kcalli (wc := []) (wr := []) (w1 := []) hK hP hD hS hA hG [] [] rfl rfl rfl rfl rfl (fun hU hPc => va_runS (As := [.int (21 : Int32), .int (21 : Int32), .int (21 : Int32), .int (21 : Int32), .int (31 : Int32)]) (rest := []) ⟨hx, hb, hml, hown, hts⟩ (c_X11_rows l dC dI cy G s.heap.size ((21 : Int32)) ((21 : Int32)) ((21 : Int32)) ((21 : Int32)) ((31 : Int32)) (t_X11_rows ((21 : Int32)) ((21 : Int32)) ((21 : Int32)) ((21 : Int32)) ((31 : Int32))) (tot_X11_rows ((21 : Int32)) ((21 : Int32)) ((21 : Int32)) ((21 : Int32)) ((31 : Int32)))) (va_cwS 5 hts gX11_shape_X11_rows rfl rfl rfl hdX11_rows.2 ⟨Nat.le_of_ble_eq_true rfl, Nat.le_of_ble_eq_true rfl⟩) ⟨kBlind, fun U h1 h2 => ⟨rfl, hU U h1 h2⟩⟩ rfl rfl hl.1 rfl (lv_room (Nat.le_of_ble_eq_true rfl)) dX11_shape_304 ⟨Nat.zero_le _, Nat.zero_le _⟩) ((t_X11_rows ((21 : Int32)) ((21 : Int32)) ((21 : Int32)) ((21 : Int32)) ((31 : Int32)))) (fun _ _ h => h) (fun _ _ h => h) (fun H locs hP hD hS => ?_)
    cases hf
    subst hQ
    exact kiret hx hb hr hlocks hK (hP.sub [] rfl) (hD.sub [] (by decide) rfl) hS rfl dX11_shape_307
  rw [if_neg hc_1_22] at hf
  refine lv_tableOut (tgt := 308) hx hb dX11_shape_1 (by have z0 := lv_neT (a := 65) hc_1_0 (by decide); have z1 := lv_neT (a := 66) hc_1_1 (by decide); have z2 := lv_neT (a := 67) hc_1_2 (by decide); have z3 := lv_neT (a := 68) hc_1_3 (by decide); have z4 := lv_neT (a := 69) hc_1_4 (by decide); have z5 := lv_neT (a := 70) hc_1_5 (by decide); have z6 := lv_neT (a := 71) hc_1_6 (by decide); have z7 := lv_neT (a := 72) hc_1_7 (by decide); have z8 := lv_neT (a := 73) hc_1_8 (by decide); have z9 := lv_neT (a := 74) hc_1_9 (by decide); have z10 := lv_neT (a := 75) hc_1_10 (by decide); have z11 := lv_neT (a := 76) hc_1_11 (by decide); have z12 := lv_neT (a := 77) hc_1_12 (by decide); have z13 := lv_neT (a := 78) hc_1_13 (by decide); have z14 := lv_neT (a := 79) hc_1_14 (by decide); have z15 := lv_neT (a := 80) hc_1_15 (by decide); have z16 := lv_neT (a := 81) hc_1_16 (by decide); have z17 := lv_neT (a := 82) hc_1_17 (by decide); have z18 := lv_neT (a := 83) hc_1_18 (by decide); have z19 := lv_neT (a := 84) hc_1_19 (by decide); have z20 := lv_neT (a := 85) hc_1_20 (by decide); have z21 := lv_neT (a := 86) hc_1_21 (by decide); have z22 := lv_neT (a := 87) hc_1_22 (by decide); omega) (by decide) ?_
  refine lv_iconst (v := (0 : Int32)) hx hb dX11_shape_308 (by decide) ?_
  cases hf
  subst hQ
  exact kiret hx hb hr hlocks hK (hP.sub [] rfl) (hD.sub [] (by decide) rfl) hS rfl dX11_shape_309
theorem hdX11_shape : yX11_shape.cls = RX11 ∧ yX11_shape.cls ≠ "java/lang/invoke/MethodHandle" ∧ yX11_shape.cls ≠ "java/lang/invoke/VarHandle" ∧ (parseMethodDescriptor yX11_shape.desc).map (fun d => d.parameters.length) = some 1 := by decide +kernel
noncomputable def t_X11_shape (va1 : Int32) : Int32 :=
  if va1 = (65 : Int32) then
    (t_X11_rows ((31 : Int32)) ((17 : Int32)) ((31 : Int32)) ((17 : Int32)) ((17 : Int32)))
  else
    if va1 = (66 : Int32) then
      (0 : Int32)
    else
      if va1 = (67 : Int32) then
        (t_X11_rows ((31 : Int32)) ((16 : Int32)) ((16 : Int32)) ((16 : Int32)) ((31 : Int32)))
      else
        if va1 = (68 : Int32) then
          (0 : Int32)
        else
          if va1 = (69 : Int32) then
            (t_X11_rows ((31 : Int32)) ((16 : Int32)) ((30 : Int32)) ((16 : Int32)) ((31 : Int32)))
          else
            if va1 = (70 : Int32) then
              (t_X11_rows ((31 : Int32)) ((16 : Int32)) ((30 : Int32)) ((16 : Int32)) ((16 : Int32)))
            else
              if va1 = (71 : Int32) then
                (t_X11_rows ((31 : Int32)) ((16 : Int32)) ((23 : Int32)) ((17 : Int32)) ((31 : Int32)))
              else
                if va1 = (72 : Int32) then
                  (t_X11_rows ((17 : Int32)) ((17 : Int32)) ((31 : Int32)) ((17 : Int32)) ((17 : Int32)))
                else
                  if va1 = (73 : Int32) then
                    (t_X11_rows ((4 : Int32)) ((4 : Int32)) ((4 : Int32)) ((4 : Int32)) ((4 : Int32)))
                  else
                    if va1 = (74 : Int32) then
                      (0 : Int32)
                    else
                      if va1 = (75 : Int32) then
                        (0 : Int32)
                      else
                        if va1 = (76 : Int32) then
                          (t_X11_rows ((16 : Int32)) ((16 : Int32)) ((16 : Int32)) ((16 : Int32)) ((31 : Int32)))
                        else
                          if va1 = (77 : Int32) then
                            (t_X11_rows ((31 : Int32)) ((21 : Int32)) ((21 : Int32)) ((21 : Int32)) ((21 : Int32)))
                          else
                            if va1 = (78 : Int32) then
                              (0 : Int32)
                            else
                              if va1 = (79 : Int32) then
                                (t_X11_rows ((31 : Int32)) ((17 : Int32)) ((17 : Int32)) ((17 : Int32)) ((31 : Int32)))
                              else
                                if va1 = (80 : Int32) then
                                  (t_X11_rows ((31 : Int32)) ((17 : Int32)) ((31 : Int32)) ((16 : Int32)) ((16 : Int32)))
                                else
                                  if va1 = (81 : Int32) then
                                    (0 : Int32)
                                  else
                                    if va1 = (82 : Int32) then
                                      (0 : Int32)
                                    else
                                      if va1 = (83 : Int32) then
                                        (t_X11_rows ((31 : Int32)) ((16 : Int32)) ((31 : Int32)) ((1 : Int32)) ((31 : Int32)))
                                      else
                                        if va1 = (84 : Int32) then
                                          (t_X11_rows ((31 : Int32)) ((4 : Int32)) ((4 : Int32)) ((4 : Int32)) ((4 : Int32)))
                                        else
                                          if va1 = (85 : Int32) then
                                            (t_X11_rows ((17 : Int32)) ((17 : Int32)) ((17 : Int32)) ((17 : Int32)) ((31 : Int32)))
                                          else
                                            if va1 = (86 : Int32) then
                                              (0 : Int32)
                                            else
                                              if va1 = (87 : Int32) then
                                                (t_X11_rows ((21 : Int32)) ((21 : Int32)) ((21 : Int32)) ((21 : Int32)) ((31 : Int32)))
                                              else
                                                (0 : Int32)
theorem tot_X11_shape (va1 : Int32) : f_X11_shape va1 = some (t_X11_shape va1) := by
  by_cases hc_1_0 : va1 = (65 : Int32)
  · simp only [f_X11_shape, t_X11_shape, if_pos hc_1_0]
  · by_cases hc_1_1 : va1 = (66 : Int32)
    · simp only [f_X11_shape, t_X11_shape, if_neg hc_1_0, if_pos hc_1_1]
    · by_cases hc_1_2 : va1 = (67 : Int32)
      · simp only [f_X11_shape, t_X11_shape, if_neg hc_1_0, if_neg hc_1_1, if_pos hc_1_2]
      · by_cases hc_1_3 : va1 = (68 : Int32)
        · simp only [f_X11_shape, t_X11_shape, if_neg hc_1_0, if_neg hc_1_1, if_neg hc_1_2, if_pos hc_1_3]
        · by_cases hc_1_4 : va1 = (69 : Int32)
          · simp only [f_X11_shape, t_X11_shape, if_neg hc_1_0, if_neg hc_1_1, if_neg hc_1_2, if_neg hc_1_3, if_pos hc_1_4]
          · by_cases hc_1_5 : va1 = (70 : Int32)
            · simp only [f_X11_shape, t_X11_shape, if_neg hc_1_0, if_neg hc_1_1, if_neg hc_1_2, if_neg hc_1_3, if_neg hc_1_4, if_pos hc_1_5]
            · by_cases hc_1_6 : va1 = (71 : Int32)
              · simp only [f_X11_shape, t_X11_shape, if_neg hc_1_0, if_neg hc_1_1, if_neg hc_1_2, if_neg hc_1_3, if_neg hc_1_4, if_neg hc_1_5, if_pos hc_1_6]
              · by_cases hc_1_7 : va1 = (72 : Int32)
                · simp only [f_X11_shape, t_X11_shape, if_neg hc_1_0, if_neg hc_1_1, if_neg hc_1_2, if_neg hc_1_3, if_neg hc_1_4, if_neg hc_1_5, if_neg hc_1_6, if_pos hc_1_7]
                · by_cases hc_1_8 : va1 = (73 : Int32)
                  · simp only [f_X11_shape, t_X11_shape, if_neg hc_1_0, if_neg hc_1_1, if_neg hc_1_2, if_neg hc_1_3, if_neg hc_1_4, if_neg hc_1_5, if_neg hc_1_6, if_neg hc_1_7, if_pos hc_1_8]
                  · by_cases hc_1_9 : va1 = (74 : Int32)
                    · simp only [f_X11_shape, t_X11_shape, if_neg hc_1_0, if_neg hc_1_1, if_neg hc_1_2, if_neg hc_1_3, if_neg hc_1_4, if_neg hc_1_5, if_neg hc_1_6, if_neg hc_1_7, if_neg hc_1_8, if_pos hc_1_9]
                    · by_cases hc_1_10 : va1 = (75 : Int32)
                      · simp only [f_X11_shape, t_X11_shape, if_neg hc_1_0, if_neg hc_1_1, if_neg hc_1_2, if_neg hc_1_3, if_neg hc_1_4, if_neg hc_1_5, if_neg hc_1_6, if_neg hc_1_7, if_neg hc_1_8, if_neg hc_1_9, if_pos hc_1_10]
                      · by_cases hc_1_11 : va1 = (76 : Int32)
                        · simp only [f_X11_shape, t_X11_shape, if_neg hc_1_0, if_neg hc_1_1, if_neg hc_1_2, if_neg hc_1_3, if_neg hc_1_4, if_neg hc_1_5, if_neg hc_1_6, if_neg hc_1_7, if_neg hc_1_8, if_neg hc_1_9, if_neg hc_1_10, if_pos hc_1_11]
                        · by_cases hc_1_12 : va1 = (77 : Int32)
                          · simp only [f_X11_shape, t_X11_shape, if_neg hc_1_0, if_neg hc_1_1, if_neg hc_1_2, if_neg hc_1_3, if_neg hc_1_4, if_neg hc_1_5, if_neg hc_1_6, if_neg hc_1_7, if_neg hc_1_8, if_neg hc_1_9, if_neg hc_1_10, if_neg hc_1_11, if_pos hc_1_12]
                          · by_cases hc_1_13 : va1 = (78 : Int32)
                            · simp only [f_X11_shape, t_X11_shape, if_neg hc_1_0, if_neg hc_1_1, if_neg hc_1_2, if_neg hc_1_3, if_neg hc_1_4, if_neg hc_1_5, if_neg hc_1_6, if_neg hc_1_7, if_neg hc_1_8, if_neg hc_1_9, if_neg hc_1_10, if_neg hc_1_11, if_neg hc_1_12, if_pos hc_1_13]
                            · by_cases hc_1_14 : va1 = (79 : Int32)
                              · simp only [f_X11_shape, t_X11_shape, if_neg hc_1_0, if_neg hc_1_1, if_neg hc_1_2, if_neg hc_1_3, if_neg hc_1_4, if_neg hc_1_5, if_neg hc_1_6, if_neg hc_1_7, if_neg hc_1_8, if_neg hc_1_9, if_neg hc_1_10, if_neg hc_1_11, if_neg hc_1_12, if_neg hc_1_13, if_pos hc_1_14]
                              · by_cases hc_1_15 : va1 = (80 : Int32)
                                · simp only [f_X11_shape, t_X11_shape, if_neg hc_1_0, if_neg hc_1_1, if_neg hc_1_2, if_neg hc_1_3, if_neg hc_1_4, if_neg hc_1_5, if_neg hc_1_6, if_neg hc_1_7, if_neg hc_1_8, if_neg hc_1_9, if_neg hc_1_10, if_neg hc_1_11, if_neg hc_1_12, if_neg hc_1_13, if_neg hc_1_14, if_pos hc_1_15]
                                · by_cases hc_1_16 : va1 = (81 : Int32)
                                  · simp only [f_X11_shape, t_X11_shape, if_neg hc_1_0, if_neg hc_1_1, if_neg hc_1_2, if_neg hc_1_3, if_neg hc_1_4, if_neg hc_1_5, if_neg hc_1_6, if_neg hc_1_7, if_neg hc_1_8, if_neg hc_1_9, if_neg hc_1_10, if_neg hc_1_11, if_neg hc_1_12, if_neg hc_1_13, if_neg hc_1_14, if_neg hc_1_15, if_pos hc_1_16]
                                  · by_cases hc_1_17 : va1 = (82 : Int32)
                                    · simp only [f_X11_shape, t_X11_shape, if_neg hc_1_0, if_neg hc_1_1, if_neg hc_1_2, if_neg hc_1_3, if_neg hc_1_4, if_neg hc_1_5, if_neg hc_1_6, if_neg hc_1_7, if_neg hc_1_8, if_neg hc_1_9, if_neg hc_1_10, if_neg hc_1_11, if_neg hc_1_12, if_neg hc_1_13, if_neg hc_1_14, if_neg hc_1_15, if_neg hc_1_16, if_pos hc_1_17]
                                    · by_cases hc_1_18 : va1 = (83 : Int32)
                                      · simp only [f_X11_shape, t_X11_shape, if_neg hc_1_0, if_neg hc_1_1, if_neg hc_1_2, if_neg hc_1_3, if_neg hc_1_4, if_neg hc_1_5, if_neg hc_1_6, if_neg hc_1_7, if_neg hc_1_8, if_neg hc_1_9, if_neg hc_1_10, if_neg hc_1_11, if_neg hc_1_12, if_neg hc_1_13, if_neg hc_1_14, if_neg hc_1_15, if_neg hc_1_16, if_neg hc_1_17, if_pos hc_1_18]
                                      · by_cases hc_1_19 : va1 = (84 : Int32)
                                        · simp only [f_X11_shape, t_X11_shape, if_neg hc_1_0, if_neg hc_1_1, if_neg hc_1_2, if_neg hc_1_3, if_neg hc_1_4, if_neg hc_1_5, if_neg hc_1_6, if_neg hc_1_7, if_neg hc_1_8, if_neg hc_1_9, if_neg hc_1_10, if_neg hc_1_11, if_neg hc_1_12, if_neg hc_1_13, if_neg hc_1_14, if_neg hc_1_15, if_neg hc_1_16, if_neg hc_1_17, if_neg hc_1_18, if_pos hc_1_19]
                                        · by_cases hc_1_20 : va1 = (85 : Int32)
                                          · simp only [f_X11_shape, t_X11_shape, if_neg hc_1_0, if_neg hc_1_1, if_neg hc_1_2, if_neg hc_1_3, if_neg hc_1_4, if_neg hc_1_5, if_neg hc_1_6, if_neg hc_1_7, if_neg hc_1_8, if_neg hc_1_9, if_neg hc_1_10, if_neg hc_1_11, if_neg hc_1_12, if_neg hc_1_13, if_neg hc_1_14, if_neg hc_1_15, if_neg hc_1_16, if_neg hc_1_17, if_neg hc_1_18, if_neg hc_1_19, if_pos hc_1_20]
                                          · by_cases hc_1_21 : va1 = (86 : Int32)
                                            · simp only [f_X11_shape, t_X11_shape, if_neg hc_1_0, if_neg hc_1_1, if_neg hc_1_2, if_neg hc_1_3, if_neg hc_1_4, if_neg hc_1_5, if_neg hc_1_6, if_neg hc_1_7, if_neg hc_1_8, if_neg hc_1_9, if_neg hc_1_10, if_neg hc_1_11, if_neg hc_1_12, if_neg hc_1_13, if_neg hc_1_14, if_neg hc_1_15, if_neg hc_1_16, if_neg hc_1_17, if_neg hc_1_18, if_neg hc_1_19, if_neg hc_1_20, if_pos hc_1_21]
                                            · by_cases hc_1_22 : va1 = (87 : Int32)
                                              · simp only [f_X11_shape, t_X11_shape, if_neg hc_1_0, if_neg hc_1_1, if_neg hc_1_2, if_neg hc_1_3, if_neg hc_1_4, if_neg hc_1_5, if_neg hc_1_6, if_neg hc_1_7, if_neg hc_1_8, if_neg hc_1_9, if_neg hc_1_10, if_neg hc_1_11, if_neg hc_1_12, if_neg hc_1_13, if_neg hc_1_14, if_neg hc_1_15, if_neg hc_1_16, if_neg hc_1_17, if_neg hc_1_18, if_neg hc_1_19, if_neg hc_1_20, if_neg hc_1_21, if_pos hc_1_22]
                                              · simp only [f_X11_shape, t_X11_shape, if_neg hc_1_0, if_neg hc_1_1, if_neg hc_1_2, if_neg hc_1_3, if_neg hc_1_4, if_neg hc_1_5, if_neg hc_1_6, if_neg hc_1_7, if_neg hc_1_8, if_neg hc_1_9, if_neg hc_1_10, if_neg hc_1_11, if_neg hc_1_12, if_neg hc_1_13, if_neg hc_1_14, if_neg hc_1_15, if_neg hc_1_16, if_neg hc_1_17, if_neg hc_1_18, if_neg hc_1_19, if_neg hc_1_20, if_neg hc_1_21, if_neg hc_1_22]
noncomputable def f_X11_isRoomAt (ft_now : Nat → Int32) (va1 : Int32) : Option (Int32) :=
  if (t_X11_wide (ft_now)) = 0 then none else
  if (t_X11_wide (ft_now)) = 0 then none else
  if (va1 / (t_X11_wide (ft_now))) = (5 : Int32) then
    some ((1 : Int32))
  else
    if (5 : Int32) ≤ ((va1 - va1 / (t_X11_wide (ft_now)) * (t_X11_wide (ft_now))) - (va1 - va1 / (t_X11_wide (ft_now)) * (t_X11_wide (ft_now))) / (6 : Int32) * (6 : Int32)) then
      some ((0 : Int32))
    else
      if ((1 : Int32) + ((va1 - va1 / (t_X11_wide (ft_now)) * (t_X11_wide (ft_now))) / (6 : Int32))) < 0 ∨ 639 ≤ (((1 : Int32) + ((va1 - va1 / (t_X11_wide (ft_now)) * (t_X11_wide (ft_now))) / (6 : Int32)))).toNatClampNeg then none else
      if ((((t_X11_shape ((ft_now (((1 : Int32) + ((va1 - va1 / (t_X11_wide (ft_now)) * (t_X11_wide (ft_now))) / (6 : Int32)))).toNatClampNeg))) >>> (((5 : Int32) * ((4 : Int32) - (va1 / (t_X11_wide (ft_now))))) &&& 31)) >>> (((4 : Int32) - ((va1 - va1 / (t_X11_wide (ft_now)) * (t_X11_wide (ft_now))) - (va1 - va1 / (t_X11_wide (ft_now)) * (t_X11_wide (ft_now))) / (6 : Int32) * (6 : Int32))) &&& 31)) &&& (1 : Int32)) = (1 : Int32) then
        some ((1 : Int32))
      else
        some ((0 : Int32))
abbrev rm_X11_isRoomAt : Room := { frames := 2, cells := 0, slots := 0, locals := 44 }
set_option maxHeartbeats 4000000 in
set_option maxRecDepth 100000 in
theorem c_X11_isRoomAt (l : Launch) (dC : Nat → ClassId) (dI : Nat → Nat → Nat) (cy : gC) (G : gT) (sz : Nat) (qt : Nat) (qt_now : Nat) (xt_past : Nat) (xt_text : Nat) (xt_doors : Nat) (xt_label : Nat) (xt_far : Nat) (xt_ring : Nat) (xt_was : Nat) (it_saved : Int32) (it_length : Int32) (it_doorMany : Int32) (it_drawn : Int32) (it_walker : Int32) (it_from : Int32) (it_steps : Int32) (it_faultAt : Int32) (it_mover : Int32) (ft_now : Nat → Int32) (va1 : Int32) (out : Int32) (hf : f_X11_isRoomAt ft_now va1 = some out) : Met l yX11_isRoomAt wsX11_isRoomAt rm_X11_isRoomAt (va_Pc [.ref qt, .int va1] (kP (dC, dI) cy G [(qt, .inr (11, [.ref qt_now, .ref xt_past, .int (it_saved), .ref xt_text, .int (it_length), .ref xt_doors, .int (it_doorMany), .ref xt_label, .int (it_drawn), .ref xt_far, .ref xt_ring, .int (it_walker), .int (it_from), .ref xt_was, .int (it_steps), .int (it_faultAt), .int (it_mover)])), (qt_now, .inl (cy.1, 639, .inl (ft_now)))] sz)) (va_Qi (fun r (_ : Unit) => r = out) (fun _ => kQ (dC, dI) cy [(qt, .inr (11, [.ref qt_now, .ref xt_past, .int (it_saved), .ref xt_text, .int (it_length), .ref xt_doors, .int (it_doorMany), .ref xt_label, .int (it_drawn), .ref xt_far, .ref xt_ring, .int (it_walker), .int (it_from), .ref xt_was, .int (it_steps), .int (it_faultAt), .int (it_mover)])), (qt_now, .inl (cy.1, 639, .inl (ft_now)))] (va_A [(qt, .inr (11, [.ref qt_now, .ref xt_past, .int (it_saved), .ref xt_text, .int (it_length), .ref xt_doors, .int (it_doorMany), .ref xt_label, .int (it_drawn), .ref xt_far, .ref xt_ring, .int (it_walker), .int (it_from), .ref xt_was, .int (it_steps), .int (it_faultAt), .int (it_mover)])), (qt_now, .inl (cy.1, 639, .inl (ft_now)))] sz)) (va_A [(qt, .inr (11, [.ref qt_now, .ref xt_past, .int (it_saved), .ref xt_text, .int (it_length), .ref xt_doors, .int (it_doorMany), .ref xt_label, .int (it_drawn), .ref xt_far, .ref xt_ring, .int (it_walker), .int (it_from), .ref xt_was, .int (it_steps), .int (it_faultAt), .int (it_mover)])), (qt_now, .inl (cy.1, 639, .inl (ft_now)))] sz)) 0 0 (va_A [(qt, .inr (11, [.ref qt_now, .ref xt_past, .int (it_saved), .ref xt_text, .int (it_length), .ref xt_doors, .int (it_doorMany), .ref xt_label, .int (it_drawn), .ref xt_far, .ref xt_ring, .int (it_walker), .int (it_from), .ref xt_was, .int (it_steps), .int (it_faultAt), .int (it_mover)])), (qt_now, .inl (cy.1, 639, .inl (ft_now)))] sz) := by
  refine Met.ofW (cc := cX11_isRoomAt) (maxL := 4) (ret := (some .boolean)) (by decide) rfl ?_
  intro p e s m args below meth c s₁ B hml hv
  obtain ⟨rfl, hsz, hP, hK, hD0, hG⟩ := hv
  have hx := B.exec
  have hb := B.bytes
  have hr := B.returns
  have hts := atoms_spec (ws := wsX11_isRoomAt) B.pre
  have hown : s.vm.findClass RX11 = some m.cls := findClass_of_methodNamed B.named
  have hlocks := B.notSynchronized
  subst hsz
  have hD := hD0.self (sz := s.heap.size)
  generalize hAe : va_A [(qt, .inr (11, [.ref qt_now, .ref xt_past, .int (it_saved), .ref xt_text, .int (it_length), .ref xt_doors, .int (it_doorMany), .ref xt_label, .int (it_drawn), .ref xt_far, .ref xt_ring, .int (it_walker), .int (it_from), .ref xt_was, .int (it_steps), .int (it_faultAt), .int (it_mover)])), (qt_now, .inl (cy.1, 639, .inl (ft_now)))] s.heap.size = A at hD hG ⊢
  have hA : ∀ q : Nat, s.heap.size ≤ q → A q := fun q h => by rw [← hAe]; exact Or.inr h
  have hS : va_S A s.heap s.heap [] := va_S.rf
  have hP : va_P (dC, dI) vwCl [(qt, .inr (11, [.ref qt_now, .ref xt_past, .int (it_saved), .ref xt_text, .int (it_length), .ref xt_doors, .int (it_doorMany), .ref xt_label, .int (it_drawn), .ref xt_far, .ref xt_ring, .int (it_walker), .int (it_from), .ref xt_was, .int (it_steps), .int (it_faultAt), .int (it_mover)])), (qt_now, .inl (cy.1, 639, .inl (ft_now)))] s.heap := hP
  have hl := lv_entry ([.ref qt, .int va1]) (n := 4) (Nat.le_of_ble_eq_true rfl)
  rw [lg_entry_eq]
  generalize (lg_sl ([.ref qt, .int va1]) ++ List.replicate (4 - (lg_sl ([.ref qt, .int va1])).length) Slot.unset).toArray = ls at hl ⊢
  have hl : lv_has ls 4 [(0, .ref qt), (1, .int va1)] := hl
  refine kgen (fun Q hQ => ?_)
  rw [f_X11_isRoomAt] at hf
  refine lv_iload_n hx hb dX11_isRoomAt_0 rfl (lv_at hl 1 rfl) ?_
  refine lv_aload_n hx hb dX11_isRoomAt_1 rfl (lv_at hl 0 rfl) ?_
  refine kcalli (wc := [(qt, .inr (11, [.ref qt_now, .ref xt_past, .int (it_saved), .ref xt_text, .int (it_length), .ref xt_doors, .int (it_doorMany), .ref xt_label, .int (it_drawn), .ref xt_far, .ref xt_ring, .int (it_walker), .int (it_from), .ref xt_was, .int (it_steps), .int (it_faultAt), .int (it_mover)])), (qt_now, .inl (cy.1, 639, .inl (ft_now)))]) (wr := []) (w1 := [(qt, .inr (11, [.ref qt_now, .ref xt_past, .int (it_saved), .ref xt_text, .int (it_length), .ref xt_doors, .int (it_doorMany), .ref xt_label, .int (it_drawn), .ref xt_far, .ref xt_ring, .int (it_walker), .int (it_from), .ref xt_was, .int (it_steps), .int (it_faultAt), .int (it_mover)])), (qt_now, .inl (cy.1, 639, .inl (ft_now)))]) hK hP hD hS hA hG [0, 1] [] rfl rfl rfl rfl rfl (fun hU hPc => va_runV (As := []) (rest := [.int va1]) ⟨hx, hb, hml, hown, hts⟩ (c_X11_wide l dC dI cy G s.heap.size qt qt_now xt_past xt_text xt_doors xt_label xt_far xt_ring xt_was (it_saved) (it_length) (it_doorMany) (it_drawn) (it_walker) (it_from) (it_steps) (it_faultAt) (it_mover) (ft_now) (t_X11_wide (ft_now)) (tot_X11_wide (ft_now))) (cwV 0 hts gX11_isRoomAt_X11_wide rfl rfl rfl hdX11_wide ⟨Nat.le_of_ble_eq_true rfl, Nat.le_of_ble_eq_true rfl⟩) ⟨kBlind, (va_recv hK hP (ci := 11) (q0 := 0) rfl rfl), fun U h1 h2 => ⟨rfl, hU U h1 h2⟩⟩ rfl rfl hl.1 rfl (lv_room (Nat.le_of_ble_eq_true rfl)) dX11_isRoomAt_2 ⟨Nat.zero_le _, Nat.zero_le _⟩) ((t_X11_wide (ft_now))) (fun _ _ h => h) (fun _ _ h => h) (fun H locs hP hD hS => ?_)
  have hP : va_P (dC, dI) vwCl [(qt, .inr (11, [.ref qt_now, .ref xt_past, .int (it_saved), .ref xt_text, .int (it_length), .ref xt_doors, .int (it_doorMany), .ref xt_label, .int (it_drawn), .ref xt_far, .ref xt_ring, .int (it_walker), .int (it_from), .ref xt_was, .int (it_steps), .int (it_faultAt), .int (it_mover)])), (qt_now, .inl (cy.1, 639, .inl (ft_now)))] H := hP
  have hD : va_D A [(qt, .inr (11, [.ref qt_now, .ref xt_past, .int (it_saved), .ref xt_text, .int (it_length), .ref xt_doors, .int (it_doorMany), .ref xt_label, .int (it_drawn), .ref xt_far, .ref xt_ring, .int (it_walker), .int (it_from), .ref xt_was, .int (it_steps), .int (it_faultAt), .int (it_mover)])), (qt_now, .inl (cy.1, 639, .inl (ft_now)))] := hD
  obtain ⟨hk_5, hf⟩ := chk_s hf
  refine lv_idiv hx hb dX11_isRoomAt_5 hk_5 ?_
  refine lv_istore_n (lv' := [(2, .int (va1 / (t_X11_wide (ft_now)))), (0, .ref qt), (1, .int va1)]) hx hb dX11_isRoomAt_6 rfl hl (by decide) rfl (fun ls hl => ?_)
  refine lv_iload_n hx hb dX11_isRoomAt_7 rfl (lv_at hl 2 rfl) ?_
  refine lv_aload_n hx hb dX11_isRoomAt_8 rfl (lv_at hl 1 rfl) ?_
  refine kcalli (wc := [(qt, .inr (11, [.ref qt_now, .ref xt_past, .int (it_saved), .ref xt_text, .int (it_length), .ref xt_doors, .int (it_doorMany), .ref xt_label, .int (it_drawn), .ref xt_far, .ref xt_ring, .int (it_walker), .int (it_from), .ref xt_was, .int (it_steps), .int (it_faultAt), .int (it_mover)])), (qt_now, .inl (cy.1, 639, .inl (ft_now)))]) (wr := []) (w1 := [(qt, .inr (11, [.ref qt_now, .ref xt_past, .int (it_saved), .ref xt_text, .int (it_length), .ref xt_doors, .int (it_doorMany), .ref xt_label, .int (it_drawn), .ref xt_far, .ref xt_ring, .int (it_walker), .int (it_from), .ref xt_was, .int (it_steps), .int (it_faultAt), .int (it_mover)])), (qt_now, .inl (cy.1, 639, .inl (ft_now)))]) hK hP hD hS hA hG [0, 1] [] rfl rfl rfl rfl rfl (fun hU hPc => va_runV (As := []) (rest := [.int va1]) ⟨hx, hb, hml, hown, hts⟩ (c_X11_wide l dC dI cy G H.size qt qt_now xt_past xt_text xt_doors xt_label xt_far xt_ring xt_was (it_saved) (it_length) (it_doorMany) (it_drawn) (it_walker) (it_from) (it_steps) (it_faultAt) (it_mover) (ft_now) (t_X11_wide (ft_now)) (tot_X11_wide (ft_now))) (cwV 0 hts gX11_isRoomAt_X11_wide rfl rfl rfl hdX11_wide ⟨Nat.le_of_ble_eq_true rfl, Nat.le_of_ble_eq_true rfl⟩) ⟨kBlind, (va_recv hK hP (ci := 11) (q0 := 0) rfl rfl), fun U h1 h2 => ⟨rfl, hU U h1 h2⟩⟩ rfl rfl hl.1 rfl (lv_room (Nat.le_of_ble_eq_true rfl)) dX11_isRoomAt_9 ⟨Nat.zero_le _, Nat.zero_le _⟩) ((t_X11_wide (ft_now))) (fun _ _ h => h) (fun _ _ h => h) (fun H locs hP hD hS => ?_)
  have hP : va_P (dC, dI) vwCl [(qt, .inr (11, [.ref qt_now, .ref xt_past, .int (it_saved), .ref xt_text, .int (it_length), .ref xt_doors, .int (it_doorMany), .ref xt_label, .int (it_drawn), .ref xt_far, .ref xt_ring, .int (it_walker), .int (it_from), .ref xt_was, .int (it_steps), .int (it_faultAt), .int (it_mover)])), (qt_now, .inl (cy.1, 639, .inl (ft_now)))] H := hP
  have hD : va_D A [(qt, .inr (11, [.ref qt_now, .ref xt_past, .int (it_saved), .ref xt_text, .int (it_length), .ref xt_doors, .int (it_doorMany), .ref xt_label, .int (it_drawn), .ref xt_far, .ref xt_ring, .int (it_walker), .int (it_from), .ref xt_was, .int (it_steps), .int (it_faultAt), .int (it_mover)])), (qt_now, .inl (cy.1, 639, .inl (ft_now)))] := hD
  obtain ⟨hk_12, hf⟩ := chk_s hf
  refine lv_irem hx hb dX11_isRoomAt_12 hk_12 ?_
  refine lv_istore_n (lv' := [(3, .int (va1 - va1 / (t_X11_wide (ft_now)) * (t_X11_wide (ft_now)))), (2, .int (va1 / (t_X11_wide (ft_now)))), (0, .ref qt), (1, .int va1)]) hx hb dX11_isRoomAt_13 rfl hl (by decide) rfl (fun ls hl => ?_)
  refine lv_iload_n hx hb dX11_isRoomAt_14 rfl (lv_at hl 1 rfl) ?_
  refine lv_iconst (v := (5 : Int32)) hx hb dX11_isRoomAt_15 (by decide) ?_
  refine lv_icmp_ne (tgt := 21) hx hb dX11_isRoomAt_16 (by decide) (fun hc_16 => ?_) (fun hc_16 => ?_)
  · rw [if_neg hc_16] at hf
    refine lv_iload_n hx hb dX11_isRoomAt_21 rfl (lv_at hl 0 rfl) ?_
    refine lv_bipush (v := (6 : Int32)) hx hb dX11_isRoomAt_22 (by decide) ?_
    refine lv_irem hx hb dX11_isRoomAt_24 (by decide) ?_
    refine lv_iconst (v := (5 : Int32)) hx hb dX11_isRoomAt_25 (by decide) ?_
    refine lv_icmp_ge (tgt := 66) hx hb dX11_isRoomAt_26 (by decide) (fun hc_26 => ?_) (fun hc_26 => ?_)
    · rw [if_pos hc_26] at hf
      refine lv_iconst (v := (0 : Int32)) hx hb dX11_isRoomAt_66 (by decide) ?_
      cases hf
      subst hQ
      exact kzret hx hb hr hlocks rfl hK (hP.sub [0, 1] rfl) (hD.sub [0, 1] (by decide) rfl) hS rfl dX11_isRoomAt_67
    · rw [if_neg hc_26] at hf
      refine lv_aload_n hx hb dX11_isRoomAt_29 rfl (lv_at hl 2 rfl) ?_
      refine va_get (D := (dC, dI)) (ci := 11) (C := RX11) (T := TX11) (N := 17) hx hb hts (fun _ h => (List.mem_cons_of_mem _ (List.mem_append_right _ h))) hown hK hP 0 rfl rfl 0 (by decide) (hts _ (List.mem_cons_of_mem _ (List.mem_append_left _ (List.mem_of_getElem? (i := 0) rfl)))) (fun _ h => h) rfl dX11_isRoomAt_30 ?_
      refine lv_iconst (v := (1 : Int32)) hx hb dX11_isRoomAt_33 (by decide) ?_
      refine lv_iload_n hx hb dX11_isRoomAt_34 rfl (lv_at hl 0 rfl) ?_
      refine lv_bipush (v := (6 : Int32)) hx hb dX11_isRoomAt_35 (by decide) ?_
      refine lv_idiv hx hb dX11_isRoomAt_37 (by decide) ?_
      refine lv_iadd hx hb dX11_isRoomAt_38 ?_
      obtain ⟨hk_39, hf⟩ := chk_s hf
      refine va_iald hx hb hK hP 1 0 rfl rfl hk_39 dX11_isRoomAt_39 ?_
      refine kcalli (wc := []) (wr := [(qt, .inr (11, [.ref qt_now, .ref xt_past, .int (it_saved), .ref xt_text, .int (it_length), .ref xt_doors, .int (it_doorMany), .ref xt_label, .int (it_drawn), .ref xt_far, .ref xt_ring, .int (it_walker), .int (it_from), .ref xt_was, .int (it_steps), .int (it_faultAt), .int (it_mover)])), (qt_now, .inl (cy.1, 639, .inl (ft_now)))]) (w1 := []) hK hP hD hS hA hG [] [0, 1] rfl rfl rfl rfl rfl (fun hU hPc => va_runS (As := [.int (ft_now (((1 : Int32) + ((va1 - va1 / (t_X11_wide (ft_now)) * (t_X11_wide (ft_now))) / (6 : Int32)))).toNatClampNeg)]) (rest := []) ⟨hx, hb, hml, hown, hts⟩ (c_X11_shape l dC dI cy G H.size ((ft_now (((1 : Int32) + ((va1 - va1 / (t_X11_wide (ft_now)) * (t_X11_wide (ft_now))) / (6 : Int32)))).toNatClampNeg)) (t_X11_shape ((ft_now (((1 : Int32) + ((va1 - va1 / (t_X11_wide (ft_now)) * (t_X11_wide (ft_now))) / (6 : Int32)))).toNatClampNeg))) (tot_X11_shape ((ft_now (((1 : Int32) + ((va1 - va1 / (t_X11_wide (ft_now)) * (t_X11_wide (ft_now))) / (6 : Int32)))).toNatClampNeg)))) (va_cwS 1 hts gX11_isRoomAt_X11_shape rfl rfl rfl hdX11_shape.2 ⟨Nat.le_of_ble_eq_true rfl, Nat.le_of_ble_eq_true rfl⟩) ⟨kBlind, fun U h1 h2 => ⟨rfl, hU U h1 h2⟩⟩ rfl rfl hl.1 rfl (lv_room (Nat.le_of_ble_eq_true rfl)) dX11_isRoomAt_40 ⟨Nat.zero_le _, Nat.zero_le _⟩) ((t_X11_shape ((ft_now (((1 : Int32) + ((va1 - va1 / (t_X11_wide (ft_now)) * (t_X11_wide (ft_now))) / (6 : Int32)))).toNatClampNeg)))) (fun _ _ h => h) (fun _ _ h => h) (fun H locs hP hD hS => ?_)
      have hP : va_P (dC, dI) vwCl [(qt, .inr (11, [.ref qt_now, .ref xt_past, .int (it_saved), .ref xt_text, .int (it_length), .ref xt_doors, .int (it_doorMany), .ref xt_label, .int (it_drawn), .ref xt_far, .ref xt_ring, .int (it_walker), .int (it_from), .ref xt_was, .int (it_steps), .int (it_faultAt), .int (it_mover)])), (qt_now, .inl (cy.1, 639, .inl (ft_now)))] H := hP
      have hD : va_D A [(qt, .inr (11, [.ref qt_now, .ref xt_past, .int (it_saved), .ref xt_text, .int (it_length), .ref xt_doors, .int (it_doorMany), .ref xt_label, .int (it_drawn), .ref xt_far, .ref xt_ring, .int (it_walker), .int (it_from), .ref xt_was, .int (it_steps), .int (it_faultAt), .int (it_mover)])), (qt_now, .inl (cy.1, 639, .inl (ft_now)))] := hD
      refine lv_iconst (v := (5 : Int32)) hx hb dX11_isRoomAt_43 (by decide) ?_
      refine lv_iconst (v := (4 : Int32)) hx hb dX11_isRoomAt_44 (by decide) ?_
      refine lv_iload_n hx hb dX11_isRoomAt_45 rfl (lv_at hl 1 rfl) ?_
      refine lv_isub hx hb dX11_isRoomAt_46 ?_
      refine lv_imul hx hb dX11_isRoomAt_47 ?_
      refine lv_ishr hx hb dX11_isRoomAt_48 ?_
      refine lv_iconst (v := (4 : Int32)) hx hb dX11_isRoomAt_49 (by decide) ?_
      refine lv_iload_n hx hb dX11_isRoomAt_50 rfl (lv_at hl 0 rfl) ?_
      refine lv_bipush (v := (6 : Int32)) hx hb dX11_isRoomAt_51 (by decide) ?_
      refine lv_irem hx hb dX11_isRoomAt_53 (by decide) ?_
      refine lv_isub hx hb dX11_isRoomAt_54 ?_
      refine lv_ishr hx hb dX11_isRoomAt_55 ?_
      refine lv_iconst (v := (1 : Int32)) hx hb dX11_isRoomAt_56 (by decide) ?_
      refine lv_iand hx hb dX11_isRoomAt_57 ?_
      refine lv_iconst (v := (1 : Int32)) hx hb dX11_isRoomAt_58 (by decide) ?_
      refine lv_icmp_ne (tgt := 66) hx hb dX11_isRoomAt_59 (by decide) (fun hc_59 => ?_) (fun hc_59 => ?_)
      · rw [if_neg hc_59] at hf
        refine lv_iconst (v := (0 : Int32)) hx hb dX11_isRoomAt_66 (by decide) ?_
        cases hf
        subst hQ
        exact kzret hx hb hr hlocks rfl hK (hP.sub [0, 1] rfl) (hD.sub [0, 1] (by decide) rfl) hS rfl dX11_isRoomAt_67
      · rw [if_pos hc_59] at hf
        refine lv_iconst (v := (1 : Int32)) hx hb dX11_isRoomAt_62 (by decide) ?_
        refine lv_goto (tgt := 67) hx hb dX11_isRoomAt_63 (by decide) ?_
        cases hf
        subst hQ
        exact kzret hx hb hr hlocks rfl hK (hP.sub [0, 1] rfl) (hD.sub [0, 1] (by decide) rfl) hS rfl dX11_isRoomAt_67
  · rw [if_pos hc_16] at hf
    refine lv_iconst (v := (1 : Int32)) hx hb dX11_isRoomAt_19 (by decide) ?_
    cases hf
    subst hQ
    exact kzret hx hb hr hlocks rfl hK (hP.sub [0, 1] rfl) (hD.sub [0, 1] (by decide) rfl) hS rfl dX11_isRoomAt_20
theorem hdX11_isRoomAt : yX11_isRoomAt.cls = RX11 ∧ yX11_isRoomAt.cls ≠ "java/lang/invoke/MethodHandle" ∧ yX11_isRoomAt.cls ≠ "java/lang/invoke/VarHandle" ∧ (parseMethodDescriptor yX11_isRoomAt.desc).map (fun d => d.parameters.length) = some 1 := by decide +kernel
noncomputable def b_X11_begins_38 (N : Nat) : Nat → Int32 → (Nat → Int32) → Option ((Nat → Int32))
  | 0, _, _ => none
  | n + 1, l1, cft_now =>
    bnd1 (f_X11_isRoomAt (cft_now) (l1)) fun r40 =>
    if r40 = 0 then
      b_X11_begins_38 N n ((l1 + (1 : Int32))) (cft_now)
    else
      some ((upd cft_now ((8 : Int32)).toNatClampNeg l1))
noncomputable def b_X11_begins_3 (N : Nat) : Nat → Int32 → (Nat → Int32) → Option ((Nat → Int32))
  | 0, _, _ => none
  | n + 1, l1, cft_now =>
    if (639 : Int32) ≤ l1 then
      b_X11_begins_38 N N ((0 : Int32)) ((upd cft_now ((7 : Int32)).toNatClampNeg ((5 : Int32) * (t_X11_wide (cft_now)))))
    else
      if l1 < 0 ∨ 639 ≤ (l1).toNatClampNeg then none else
      b_X11_begins_3 N n ((l1 + (1 : Int32))) ((upd cft_now (l1).toNatClampNeg (0 : Int32)))
noncomputable def f_X11_begins (N : Nat) (ft_now : Nat → Int32) : Option ((Nat → Int32)) :=
  b_X11_begins_3 N N ((9 : Int32)) (ft_now)
abbrev rm_X11_begins : Room := { frames := 3, cells := 0, slots := 0, locals := 67 }
set_option maxHeartbeats 4000000 in
set_option maxRecDepth 100000 in
theorem c_X11_begins (l : Launch) (dC : Nat → ClassId) (dI : Nat → Nat → Nat) (cy : gC) (G : gT) (sz : Nat) (qt : Nat) (qt_now : Nat) (xt_past : Nat) (xt_text : Nat) (xt_doors : Nat) (xt_label : Nat) (xt_far : Nat) (xt_ring : Nat) (xt_was : Nat) (it_saved : Int32) (it_length : Int32) (it_doorMany : Int32) (it_drawn : Int32) (it_walker : Int32) (it_from : Int32) (it_steps : Int32) (it_faultAt : Int32) (it_mover : Int32) (N : Nat) (ft_now : Nat → Int32) (out : (Nat → Int32)) (hf : f_X11_begins N ft_now = some out) : Met l yX11_begins wsX11_begins rm_X11_begins (va_Pc [.ref qt] (kP (dC, dI) cy G [(qt, .inr (11, [.ref qt_now, .ref xt_past, .int (it_saved), .ref xt_text, .int (it_length), .ref xt_doors, .int (it_doorMany), .ref xt_label, .int (it_drawn), .ref xt_far, .ref xt_ring, .int (it_walker), .int (it_from), .ref xt_was, .int (it_steps), .int (it_faultAt), .int (it_mover)])), (qt_now, .inl (cy.1, 639, .inl (ft_now)))] sz)) (va_Qv (fun (_ : Unit) => True) (fun _ => kQ (dC, dI) cy [(qt, .inr (11, [.ref qt_now, .ref xt_past, .int (it_saved), .ref xt_text, .int (it_length), .ref xt_doors, .int (it_doorMany), .ref xt_label, .int (it_drawn), .ref xt_far, .ref xt_ring, .int (it_walker), .int (it_from), .ref xt_was, .int (it_steps), .int (it_faultAt), .int (it_mover)])), (qt_now, .inl (cy.1, 639, .inl (out)))] (va_A [(qt, .inr (11, [.ref qt_now, .ref xt_past, .int (it_saved), .ref xt_text, .int (it_length), .ref xt_doors, .int (it_doorMany), .ref xt_label, .int (it_drawn), .ref xt_far, .ref xt_ring, .int (it_walker), .int (it_from), .ref xt_was, .int (it_steps), .int (it_faultAt), .int (it_mover)])), (qt_now, .inl (cy.1, 639, .inl (ft_now)))] sz)) (va_A [(qt, .inr (11, [.ref qt_now, .ref xt_past, .int (it_saved), .ref xt_text, .int (it_length), .ref xt_doors, .int (it_doorMany), .ref xt_label, .int (it_drawn), .ref xt_far, .ref xt_ring, .int (it_walker), .int (it_from), .ref xt_was, .int (it_steps), .int (it_faultAt), .int (it_mover)])), (qt_now, .inl (cy.1, 639, .inl (ft_now)))] sz)) 0 0 (va_A [(qt, .inr (11, [.ref qt_now, .ref xt_past, .int (it_saved), .ref xt_text, .int (it_length), .ref xt_doors, .int (it_doorMany), .ref xt_label, .int (it_drawn), .ref xt_far, .ref xt_ring, .int (it_walker), .int (it_from), .ref xt_was, .int (it_steps), .int (it_faultAt), .int (it_mover)])), (qt_now, .inl (cy.1, 639, .inl (ft_now)))] sz) := by
  refine Met.ofW (cc := cX11_begins) (maxL := 2) (ret := none) (by decide) rfl ?_
  intro p e s m args below meth c s₁ B hml hv
  obtain ⟨rfl, hsz, hP, hK, hD0, hG⟩ := hv
  have hx := B.exec
  have hb := B.bytes
  have hr := B.returns
  have hts := atoms_spec (ws := wsX11_begins) B.pre
  have hown : s.vm.findClass RX11 = some m.cls := findClass_of_methodNamed B.named
  have hlocks := B.notSynchronized
  subst hsz
  have hD := hD0.self (sz := s.heap.size)
  generalize hAe : va_A [(qt, .inr (11, [.ref qt_now, .ref xt_past, .int (it_saved), .ref xt_text, .int (it_length), .ref xt_doors, .int (it_doorMany), .ref xt_label, .int (it_drawn), .ref xt_far, .ref xt_ring, .int (it_walker), .int (it_from), .ref xt_was, .int (it_steps), .int (it_faultAt), .int (it_mover)])), (qt_now, .inl (cy.1, 639, .inl (ft_now)))] s.heap.size = A at hD hG ⊢
  have hA : ∀ q : Nat, s.heap.size ≤ q → A q := fun q h => by rw [← hAe]; exact Or.inr h
  have hS : va_S A s.heap s.heap [] := va_S.rf
  have hP : va_P (dC, dI) vwCl [(qt, .inr (11, [.ref qt_now, .ref xt_past, .int (it_saved), .ref xt_text, .int (it_length), .ref xt_doors, .int (it_doorMany), .ref xt_label, .int (it_drawn), .ref xt_far, .ref xt_ring, .int (it_walker), .int (it_from), .ref xt_was, .int (it_steps), .int (it_faultAt), .int (it_mover)])), (qt_now, .inl (cy.1, 639, .inl (ft_now)))] s.heap := hP
  have hl := lv_entry ([.ref qt]) (n := 2) (Nat.le_of_ble_eq_true rfl)
  rw [lg_entry_eq]
  generalize (lg_sl ([.ref qt]) ++ List.replicate (2 - (lg_sl ([.ref qt])).length) Slot.unset).toArray = ls at hl ⊢
  have hl : lv_has ls 2 [(0, .ref qt)] := hl
  refine kgen (fun Q hQ => ?_)
  have B38 : ∀ (n38 : Nat) (l1 : Int32) (cft_now : Nat → Int32) (H : Heap) (locs : List Loc), va_P (dC, dI) vwCl [(qt, .inr (11, [.ref qt_now, .ref xt_past, .int (it_saved), .ref xt_text, .int (it_length), .ref xt_doors, .int (it_doorMany), .ref xt_label, .int (it_drawn), .ref xt_far, .ref xt_ring, .int (it_walker), .int (it_from), .ref xt_was, .int (it_steps), .int (it_faultAt), .int (it_mover)])), (qt_now, .inl (cy.1, 639, .inl (cft_now)))] H → va_D A [(qt, .inr (11, [.ref qt_now, .ref xt_past, .int (it_saved), .ref xt_text, .int (it_length), .ref xt_doors, .int (it_doorMany), .ref xt_label, .int (it_drawn), .ref xt_far, .ref xt_ring, .int (it_walker), .int (it_from), .ref xt_was, .int (it_steps), .int (it_faultAt), .int (it_mover)])), (qt_now, .inl (cy.1, 639, .inl (cft_now)))] → va_S A s.heap H locs → ∀ (ls : Array Slot), lv_has ls 2 [(0, .ref qt), (1, .int l1)] → b_X11_begins_38 N n38 l1 cft_now = some out → W p l e (headSpec wsX11_begins rm_X11_begins).room s m ([.ref qt] : List Value).toArray below meth c H locs 0 0 Q (F0 m 38 ls []) := by
    intro n38
    induction n38 with
    | zero => intro l1 cft_now H locs hP hD hS ls hl hf; rw [b_X11_begins_38] at hf; cases hf
    | succ n38 ih38 =>
      intro l1 cft_now H locs hP hD hS ls hl hf
      rw [b_X11_begins_38] at hf
      refine lv_aload_n hx hb dX11_begins_38 rfl (lv_at hl 0 rfl) ?_
      refine lv_iload_n hx hb dX11_begins_39 rfl (lv_at hl 1 rfl) ?_
      obtain ⟨r40, hq_40, hf⟩ := bnd1_s hf
      refine kcalli (wc := [(qt, .inr (11, [.ref qt_now, .ref xt_past, .int (it_saved), .ref xt_text, .int (it_length), .ref xt_doors, .int (it_doorMany), .ref xt_label, .int (it_drawn), .ref xt_far, .ref xt_ring, .int (it_walker), .int (it_from), .ref xt_was, .int (it_steps), .int (it_faultAt), .int (it_mover)])), (qt_now, .inl (cy.1, 639, .inl (cft_now)))]) (wr := []) (w1 := [(qt, .inr (11, [.ref qt_now, .ref xt_past, .int (it_saved), .ref xt_text, .int (it_length), .ref xt_doors, .int (it_doorMany), .ref xt_label, .int (it_drawn), .ref xt_far, .ref xt_ring, .int (it_walker), .int (it_from), .ref xt_was, .int (it_steps), .int (it_faultAt), .int (it_mover)])), (qt_now, .inl (cy.1, 639, .inl (cft_now)))]) hK hP hD hS hA hG [0, 1] [] rfl rfl rfl rfl rfl (fun hU hPc => va_runV (As := [.int l1]) (rest := []) ⟨hx, hb, hml, hown, hts⟩ (c_X11_isRoomAt l dC dI cy G H.size qt qt_now xt_past xt_text xt_doors xt_label xt_far xt_ring xt_was (it_saved) (it_length) (it_doorMany) (it_drawn) (it_walker) (it_from) (it_steps) (it_faultAt) (it_mover) (cft_now) (l1) r40 hq_40) (cwV 1 hts gX11_begins_X11_isRoomAt rfl rfl rfl hdX11_isRoomAt ⟨Nat.le_of_ble_eq_true rfl, Nat.le_of_ble_eq_true rfl⟩) ⟨kBlind, (va_recv hK hP (ci := 11) (q0 := 0) rfl rfl), fun U h1 h2 => ⟨rfl, hU U h1 h2⟩⟩ rfl rfl hl.1 rfl (lv_room (Nat.le_of_ble_eq_true rfl)) dX11_begins_40 ⟨Nat.zero_le _, Nat.zero_le _⟩) (r40) (fun _ _ h => h) (fun _ _ h => h) (fun H locs hP hD hS => ?_)
      have hP : va_P (dC, dI) vwCl [(qt, .inr (11, [.ref qt_now, .ref xt_past, .int (it_saved), .ref xt_text, .int (it_length), .ref xt_doors, .int (it_doorMany), .ref xt_label, .int (it_drawn), .ref xt_far, .ref xt_ring, .int (it_walker), .int (it_from), .ref xt_was, .int (it_steps), .int (it_faultAt), .int (it_mover)])), (qt_now, .inl (cy.1, 639, .inl (cft_now)))] H := hP
      have hD : va_D A [(qt, .inr (11, [.ref qt_now, .ref xt_past, .int (it_saved), .ref xt_text, .int (it_length), .ref xt_doors, .int (it_doorMany), .ref xt_label, .int (it_drawn), .ref xt_far, .ref xt_ring, .int (it_walker), .int (it_from), .ref xt_was, .int (it_steps), .int (it_faultAt), .int (it_mover)])), (qt_now, .inl (cy.1, 639, .inl (cft_now)))] := hD
      refine lv_if_ne (tgt := 52) hx hb dX11_begins_43 (by decide) (fun hc_43 => ?_) (fun hc_43 => ?_)
      · rw [if_neg hc_43] at hf
        refine lv_aload_n hx hb dX11_begins_52 rfl (lv_at hl 0 rfl) ?_
        refine va_get (D := (dC, dI)) (ci := 11) (C := RX11) (T := TX11) (N := 17) hx hb hts (fun _ h => (List.mem_cons_of_mem _ (List.mem_append_right _ h))) hown hK hP 0 rfl rfl 0 (by decide) (hts _ (List.mem_cons_of_mem _ (List.mem_append_left _ (List.mem_of_getElem? (i := 0) rfl)))) (fun _ h => h) rfl dX11_begins_53 ?_
        refine lv_bipush (v := (8 : Int32)) hx hb dX11_begins_56 (by decide) ?_
        refine lv_iload_n hx hb dX11_begins_58 rfl (lv_at hl 1 rfl) ?_
        refine va_iast hx hb hK hP hD hS 1 0 rfl rfl (by unfold vp_in; decide) dX11_begins_59 (fun H locs hP hD hS => ?_)
        have hP : va_P (dC, dI) vwCl [(qt, .inr (11, [.ref qt_now, .ref xt_past, .int (it_saved), .ref xt_text, .int (it_length), .ref xt_doors, .int (it_doorMany), .ref xt_label, .int (it_drawn), .ref xt_far, .ref xt_ring, .int (it_walker), .int (it_from), .ref xt_was, .int (it_steps), .int (it_faultAt), .int (it_mover)])), (qt_now, .inl (cy.1, 639, .inl ((upd cft_now ((8 : Int32)).toNatClampNeg l1))))] H := hP
        have hD : va_D A [(qt, .inr (11, [.ref qt_now, .ref xt_past, .int (it_saved), .ref xt_text, .int (it_length), .ref xt_doors, .int (it_doorMany), .ref xt_label, .int (it_drawn), .ref xt_far, .ref xt_ring, .int (it_walker), .int (it_from), .ref xt_was, .int (it_steps), .int (it_faultAt), .int (it_mover)])), (qt_now, .inl (cy.1, 639, .inl ((upd cft_now ((8 : Int32)).toNatClampNeg l1))))] := hD
        cases hf
        subst hQ
        exact kvret hx hb hr hlocks hK (hP.sub [0, 1] rfl) (hD.sub [0, 1] (by decide) rfl) hS trivial dX11_begins_60
      · rw [if_pos hc_43] at hf
        refine lv_iinc (v := (l1 + (1 : Int32))) (lv' := [(1, .int (l1 + (1 : Int32))), (0, .ref qt)]) hx hb dX11_begins_46 hl (k := 1) rfl rfl (by decide) rfl (fun ls hl => ?_)
        refine lv_goto (tgt := 38) hx hb dX11_begins_49 (by decide) ?_
        exact ih38 ((l1 + (1 : Int32))) (cft_now) _ _ (hP.sub [0, 1] rfl) (hD.sub [0, 1] (by decide) rfl) hS _ (lv_sub hl [1, 0] rfl) hf
  have B3 : ∀ (n3 : Nat) (l1 : Int32) (cft_now : Nat → Int32) (H : Heap) (locs : List Loc), va_P (dC, dI) vwCl [(qt, .inr (11, [.ref qt_now, .ref xt_past, .int (it_saved), .ref xt_text, .int (it_length), .ref xt_doors, .int (it_doorMany), .ref xt_label, .int (it_drawn), .ref xt_far, .ref xt_ring, .int (it_walker), .int (it_from), .ref xt_was, .int (it_steps), .int (it_faultAt), .int (it_mover)])), (qt_now, .inl (cy.1, 639, .inl (cft_now)))] H → va_D A [(qt, .inr (11, [.ref qt_now, .ref xt_past, .int (it_saved), .ref xt_text, .int (it_length), .ref xt_doors, .int (it_doorMany), .ref xt_label, .int (it_drawn), .ref xt_far, .ref xt_ring, .int (it_walker), .int (it_from), .ref xt_was, .int (it_steps), .int (it_faultAt), .int (it_mover)])), (qt_now, .inl (cy.1, 639, .inl (cft_now)))] → va_S A s.heap H locs → ∀ (ls : Array Slot), lv_has ls 2 [(0, .ref qt), (1, .int l1)] → b_X11_begins_3 N n3 l1 cft_now = some out → W p l e (headSpec wsX11_begins rm_X11_begins).room s m ([.ref qt] : List Value).toArray below meth c H locs 0 0 Q (F0 m 3 ls []) := by
    intro n3
    induction n3 with
    | zero => intro l1 cft_now H locs hP hD hS ls hl hf; rw [b_X11_begins_3] at hf; cases hf
    | succ n3 ih3 =>
      intro l1 cft_now H locs hP hD hS ls hl hf
      rw [b_X11_begins_3] at hf
      refine lv_iload_n hx hb dX11_begins_3 rfl (lv_at hl 1 rfl) ?_
      refine lv_sipush (v := (639 : Int32)) hx hb dX11_begins_4 (by decide) ?_
      refine lv_icmp_ge (tgt := 23) hx hb dX11_begins_7 (by decide) (fun hc_7 => ?_) (fun hc_7 => ?_)
      · rw [if_pos hc_7] at hf
        refine lv_aload_n hx hb dX11_begins_23 rfl (lv_at hl 0 rfl) ?_
        refine va_get (D := (dC, dI)) (ci := 11) (C := RX11) (T := TX11) (N := 17) hx hb hts (fun _ h => (List.mem_cons_of_mem _ (List.mem_append_right _ h))) hown hK hP 0 rfl rfl 0 (by decide) (hts _ (List.mem_cons_of_mem _ (List.mem_append_left _ (List.mem_of_getElem? (i := 0) rfl)))) (fun _ h => h) rfl dX11_begins_24 ?_
        refine lv_bipush (v := (7 : Int32)) hx hb dX11_begins_27 (by decide) ?_
        refine lv_iconst (v := (5 : Int32)) hx hb dX11_begins_29 (by decide) ?_
        refine lv_aload_n hx hb dX11_begins_30 rfl (lv_at hl 0 rfl) ?_
        refine kcalli (wc := [(qt, .inr (11, [.ref qt_now, .ref xt_past, .int (it_saved), .ref xt_text, .int (it_length), .ref xt_doors, .int (it_doorMany), .ref xt_label, .int (it_drawn), .ref xt_far, .ref xt_ring, .int (it_walker), .int (it_from), .ref xt_was, .int (it_steps), .int (it_faultAt), .int (it_mover)])), (qt_now, .inl (cy.1, 639, .inl (cft_now)))]) (wr := []) (w1 := [(qt, .inr (11, [.ref qt_now, .ref xt_past, .int (it_saved), .ref xt_text, .int (it_length), .ref xt_doors, .int (it_doorMany), .ref xt_label, .int (it_drawn), .ref xt_far, .ref xt_ring, .int (it_walker), .int (it_from), .ref xt_was, .int (it_steps), .int (it_faultAt), .int (it_mover)])), (qt_now, .inl (cy.1, 639, .inl (cft_now)))]) hK hP hD hS hA hG [0, 1] [] rfl rfl rfl rfl rfl (fun hU hPc => va_runV (As := []) (rest := [.int (5 : Int32), .int (7 : Int32), .ref qt_now]) ⟨hx, hb, hml, hown, hts⟩ (c_X11_wide l dC dI cy G H.size qt qt_now xt_past xt_text xt_doors xt_label xt_far xt_ring xt_was (it_saved) (it_length) (it_doorMany) (it_drawn) (it_walker) (it_from) (it_steps) (it_faultAt) (it_mover) (cft_now) (t_X11_wide (cft_now)) (tot_X11_wide (cft_now))) (cwV 0 hts gX11_begins_X11_wide rfl rfl rfl hdX11_wide ⟨Nat.le_of_ble_eq_true rfl, Nat.le_of_ble_eq_true rfl⟩) ⟨kBlind, (va_recv hK hP (ci := 11) (q0 := 0) rfl rfl), fun U h1 h2 => ⟨rfl, hU U h1 h2⟩⟩ rfl rfl hl.1 rfl (lv_room (Nat.le_of_ble_eq_true rfl)) dX11_begins_31 ⟨Nat.zero_le _, Nat.zero_le _⟩) ((t_X11_wide (cft_now))) (fun _ _ h => h) (fun _ _ h => h) (fun H locs hP hD hS => ?_)
        have hP : va_P (dC, dI) vwCl [(qt, .inr (11, [.ref qt_now, .ref xt_past, .int (it_saved), .ref xt_text, .int (it_length), .ref xt_doors, .int (it_doorMany), .ref xt_label, .int (it_drawn), .ref xt_far, .ref xt_ring, .int (it_walker), .int (it_from), .ref xt_was, .int (it_steps), .int (it_faultAt), .int (it_mover)])), (qt_now, .inl (cy.1, 639, .inl (cft_now)))] H := hP
        have hD : va_D A [(qt, .inr (11, [.ref qt_now, .ref xt_past, .int (it_saved), .ref xt_text, .int (it_length), .ref xt_doors, .int (it_doorMany), .ref xt_label, .int (it_drawn), .ref xt_far, .ref xt_ring, .int (it_walker), .int (it_from), .ref xt_was, .int (it_steps), .int (it_faultAt), .int (it_mover)])), (qt_now, .inl (cy.1, 639, .inl (cft_now)))] := hD
        refine lv_imul hx hb dX11_begins_34 ?_
        refine va_iast hx hb hK hP hD hS 1 0 rfl rfl (by unfold vp_in; decide) dX11_begins_35 (fun H locs hP hD hS => ?_)
        have hP : va_P (dC, dI) vwCl [(qt, .inr (11, [.ref qt_now, .ref xt_past, .int (it_saved), .ref xt_text, .int (it_length), .ref xt_doors, .int (it_doorMany), .ref xt_label, .int (it_drawn), .ref xt_far, .ref xt_ring, .int (it_walker), .int (it_from), .ref xt_was, .int (it_steps), .int (it_faultAt), .int (it_mover)])), (qt_now, .inl (cy.1, 639, .inl ((upd cft_now ((7 : Int32)).toNatClampNeg ((5 : Int32) * (t_X11_wide (cft_now)))))))] H := hP
        have hD : va_D A [(qt, .inr (11, [.ref qt_now, .ref xt_past, .int (it_saved), .ref xt_text, .int (it_length), .ref xt_doors, .int (it_doorMany), .ref xt_label, .int (it_drawn), .ref xt_far, .ref xt_ring, .int (it_walker), .int (it_from), .ref xt_was, .int (it_steps), .int (it_faultAt), .int (it_mover)])), (qt_now, .inl (cy.1, 639, .inl ((upd cft_now ((7 : Int32)).toNatClampNeg ((5 : Int32) * (t_X11_wide (cft_now)))))))] := hD
        refine lv_iconst (v := (0 : Int32)) hx hb dX11_begins_36 (by decide) ?_
        refine lv_istore_n (lv' := [(1, .int (0 : Int32)), (0, .ref qt)]) hx hb dX11_begins_37 rfl hl (by decide) rfl (fun ls hl => ?_)
        exact B38 N ((0 : Int32)) ((upd cft_now ((7 : Int32)).toNatClampNeg ((5 : Int32) * (t_X11_wide (cft_now))))) _ _ (hP.sub [0, 1] rfl) (hD.sub [0, 1] (by decide) rfl) hS _ (lv_sub hl [1, 0] rfl) hf
      · rw [if_neg hc_7] at hf
        refine lv_aload_n hx hb dX11_begins_10 rfl (lv_at hl 0 rfl) ?_
        refine va_get (D := (dC, dI)) (ci := 11) (C := RX11) (T := TX11) (N := 17) hx hb hts (fun _ h => (List.mem_cons_of_mem _ (List.mem_append_right _ h))) hown hK hP 0 rfl rfl 0 (by decide) (hts _ (List.mem_cons_of_mem _ (List.mem_append_left _ (List.mem_of_getElem? (i := 0) rfl)))) (fun _ h => h) rfl dX11_begins_11 ?_
        refine lv_iload_n hx hb dX11_begins_14 rfl (lv_at hl 1 rfl) ?_
        refine lv_iconst (v := (0 : Int32)) hx hb dX11_begins_15 (by decide) ?_
        obtain ⟨hk_16, hf⟩ := chk_s hf
        refine va_iast hx hb hK hP hD hS 1 0 rfl rfl hk_16 dX11_begins_16 (fun H locs hP hD hS => ?_)
        have hP : va_P (dC, dI) vwCl [(qt, .inr (11, [.ref qt_now, .ref xt_past, .int (it_saved), .ref xt_text, .int (it_length), .ref xt_doors, .int (it_doorMany), .ref xt_label, .int (it_drawn), .ref xt_far, .ref xt_ring, .int (it_walker), .int (it_from), .ref xt_was, .int (it_steps), .int (it_faultAt), .int (it_mover)])), (qt_now, .inl (cy.1, 639, .inl ((upd cft_now (l1).toNatClampNeg (0 : Int32)))))] H := hP
        have hD : va_D A [(qt, .inr (11, [.ref qt_now, .ref xt_past, .int (it_saved), .ref xt_text, .int (it_length), .ref xt_doors, .int (it_doorMany), .ref xt_label, .int (it_drawn), .ref xt_far, .ref xt_ring, .int (it_walker), .int (it_from), .ref xt_was, .int (it_steps), .int (it_faultAt), .int (it_mover)])), (qt_now, .inl (cy.1, 639, .inl ((upd cft_now (l1).toNatClampNeg (0 : Int32)))))] := hD
        refine lv_iinc (v := (l1 + (1 : Int32))) (lv' := [(1, .int (l1 + (1 : Int32))), (0, .ref qt)]) hx hb dX11_begins_17 hl (k := 1) rfl rfl (by decide) rfl (fun ls hl => ?_)
        refine lv_goto (tgt := 3) hx hb dX11_begins_20 (by decide) ?_
        exact ih3 ((l1 + (1 : Int32))) ((upd cft_now (l1).toNatClampNeg (0 : Int32))) _ _ (hP.sub [0, 1] rfl) (hD.sub [0, 1] (by decide) rfl) hS _ (lv_sub hl [1, 0] rfl) hf
  rw [f_X11_begins] at hf
  refine lv_bipush (v := (9 : Int32)) hx hb dX11_begins_0 (by decide) ?_
  refine lv_istore_n (lv' := [(1, .int (9 : Int32)), (0, .ref qt)]) hx hb dX11_begins_2 rfl hl (by decide) rfl (fun ls hl => ?_)
  exact B3 N ((9 : Int32)) (ft_now) _ _ (hP.sub [0, 1] rfl) (hD.sub [0, 1] (by decide) rfl) hS _ (lv_sub hl [1, 0] rfl) hf
theorem hdX11_begins : yX11_begins.cls = RX11 ∧ yX11_begins.cls ≠ "java/lang/invoke/MethodHandle" ∧ yX11_begins.cls ≠ "java/lang/invoke/VarHandle" ∧ (parseMethodDescriptor yX11_begins.desc).map (fun d => d.parameters.length) = some 0 := by decide +kernel
noncomputable def f_X11_in (va1 : Int32) (va2 : Int32) (va3 : Int32) : Option (Int32) :=
  if va1 < va2 then
    some ((0 : Int32))
  else
    if va3 < va1 then
      some ((0 : Int32))
    else
      some ((1 : Int32))
abbrev rm_X11_in : Room := { frames := 0, cells := 0, slots := 0, locals := 0 }
set_option maxHeartbeats 4000000 in
set_option maxRecDepth 100000 in
theorem c_X11_in (l : Launch) (dC : Nat → ClassId) (dI : Nat → Nat → Nat) (cy : gC) (G : gT) (sz : Nat) (va1 : Int32) (va2 : Int32) (va3 : Int32) (out : Int32) (hf : f_X11_in va1 va2 va3 = some out) : Met l yX11_in wsX11_in rm_X11_in (va_Pc [.int va1, .int va2, .int va3] (kP (dC, dI) cy G [] sz)) (va_Qi (fun r (_ : Unit) => r = out) (fun _ => kQ (dC, dI) cy [] (va_A [] sz)) (va_A [] sz)) 0 0 (va_A [] sz) := by
  refine Met.ofW (cc := cX11_in) (maxL := 3) (ret := (some .boolean)) (by decide) rfl ?_
  intro p e s m args below meth c s₁ B hml hv
  obtain ⟨rfl, hsz, hP, hK, hD0, hG⟩ := hv
  have hx := B.exec
  have hb := B.bytes
  have hr := B.returns
  have hts := atoms_spec (ws := wsX11_in) B.pre
  have hown : s.vm.findClass RX11 = some m.cls := findClass_of_methodNamed B.named
  have hlocks := B.notSynchronized
  subst hsz
  have hD := hD0.self (sz := s.heap.size)
  generalize hAe : va_A [] s.heap.size = A at hD hG ⊢
  have hA : ∀ q : Nat, s.heap.size ≤ q → A q := fun q h => by rw [← hAe]; exact Or.inr h
  have hS : va_S A s.heap s.heap [] := va_S.rf
  have hP : va_P (dC, dI) vwCl [] s.heap := hP
  have hl := lv_entry ([.int va1, .int va2, .int va3]) (n := 3) (Nat.le_of_ble_eq_true rfl)
  rw [lg_entry_eq]
  generalize (lg_sl ([.int va1, .int va2, .int va3]) ++ List.replicate (3 - (lg_sl ([.int va1, .int va2, .int va3])).length) Slot.unset).toArray = ls at hl ⊢
  have hl : lv_has ls 3 [(0, .int va1), (1, .int va2), (2, .int va3)] := hl
  refine kgen (fun Q hQ => ?_)
  rw [f_X11_in] at hf
  refine lv_iload_n hx hb dX11_in_0 rfl (lv_at hl 0 rfl) ?_
  refine lv_iload_n hx hb dX11_in_1 rfl (lv_at hl 1 rfl) ?_
  refine lv_icmp_lt (tgt := 14) hx hb dX11_in_2 (by decide) (fun hc_2 => ?_) (fun hc_2 => ?_)
  · rw [if_pos hc_2] at hf
    refine lv_iconst (v := (0 : Int32)) hx hb dX11_in_14 (by decide) ?_
    cases hf
    subst hQ
    exact kzret hx hb hr hlocks rfl hK (hP.sub [] rfl) (hD.sub [] (by decide) rfl) hS rfl dX11_in_15
  · rw [if_neg hc_2] at hf
    refine lv_iload_n hx hb dX11_in_5 rfl (lv_at hl 0 rfl) ?_
    refine lv_iload_n hx hb dX11_in_6 rfl (lv_at hl 2 rfl) ?_
    refine lv_icmp_gt (tgt := 14) hx hb dX11_in_7 (by decide) (fun hc_7 => ?_) (fun hc_7 => ?_)
    · rw [if_pos hc_7] at hf
      refine lv_iconst (v := (0 : Int32)) hx hb dX11_in_14 (by decide) ?_
      cases hf
      subst hQ
      exact kzret hx hb hr hlocks rfl hK (hP.sub [] rfl) (hD.sub [] (by decide) rfl) hS rfl dX11_in_15
    · rw [if_neg hc_7] at hf
      refine lv_iconst (v := (1 : Int32)) hx hb dX11_in_10 (by decide) ?_
      refine lv_goto (tgt := 15) hx hb dX11_in_11 (by decide) ?_
      cases hf
      subst hQ
      exact kzret hx hb hr hlocks rfl hK (hP.sub [] rfl) (hD.sub [] (by decide) rfl) hS rfl dX11_in_15
theorem hdX11_in : yX11_in.cls = RX11 ∧ yX11_in.cls ≠ "java/lang/invoke/MethodHandle" ∧ yX11_in.cls ≠ "java/lang/invoke/VarHandle" ∧ (parseMethodDescriptor yX11_in.desc).map (fun d => d.parameters.length) = some 3 := by decide +kernel
noncomputable def t_X11_in (va1 : Int32) (va2 : Int32) (va3 : Int32) : Int32 :=
  if va1 < va2 then
    (0 : Int32)
  else
    if va3 < va1 then
      (0 : Int32)
    else
      (1 : Int32)
theorem tot_X11_in (va1 : Int32) (va2 : Int32) (va3 : Int32) : f_X11_in va1 va2 va3 = some (t_X11_in va1 va2 va3) := by
  by_cases hc_2 : va1 < va2
  · simp only [f_X11_in, t_X11_in, if_pos hc_2]
  · by_cases hc_7 : va3 < va1
    · simp only [f_X11_in, t_X11_in, if_neg hc_2, if_pos hc_7]
    · simp only [f_X11_in, t_X11_in, if_neg hc_2, if_neg hc_7]
theorem bl_X11_in (va1 : Int32) (va2 : Int32) (va3 : Int32) : t_X11_in va1 va2 va3 = 0 ∨ t_X11_in va1 va2 va3 = 1 := by
  unfold t_X11_in
  repeat' (first | exact Or.inl rfl | exact Or.inr rfl | fail | split)
noncomputable def b_X11_records_51 (N : Nat) (ft_now : Nat → Int32) : Nat → Int32 → Int32 → (Nat → Int32) → Option (Int32 × (Nat → Int32))
  | 0, _, _, _ => none
  | n + 1, l1, cit_saved, cft_past =>
    if (639 : Int32) ≤ l1 then
      some ((cit_saved + (1 : Int32)), cft_past)
    else
      if l1 < 0 ∨ 639 ≤ (l1).toNatClampNeg then none else
      if (((639 : Int32) * cit_saved) + l1) < 0 ∨ 3195 ≤ ((((639 : Int32) * cit_saved) + l1)).toNatClampNeg then none else
      b_X11_records_51 N ft_now n ((l1 + (1 : Int32))) (cit_saved) ((upd cft_past ((((639 : Int32) * cit_saved) + l1)).toNatClampNeg (ft_now (l1).toNatClampNeg)))
noncomputable def b_X11_records_10 (N : Nat) (ft_now : Nat → Int32) : Nat → Int32 → Int32 → (Nat → Int32) → Option (Int32 × (Nat → Int32))
  | 0, _, _, _ => none
  | n + 1, l1, cit_saved, cft_past =>
    if (2556 : Int32) ≤ l1 then
      b_X11_records_51 N ft_now N ((0 : Int32)) ((cit_saved - (1 : Int32))) (cft_past)
    else
      if (l1 + (639 : Int32)) < 0 ∨ 3195 ≤ ((l1 + (639 : Int32))).toNatClampNeg then none else
      if l1 < 0 ∨ 3195 ≤ (l1).toNatClampNeg then none else
      b_X11_records_10 N ft_now n ((l1 + (1 : Int32))) (cit_saved) ((upd cft_past (l1).toNatClampNeg (cft_past ((l1 + (639 : Int32))).toNatClampNeg)))
noncomputable def f_X11_records (N : Nat) (it_saved : Int32) (ft_now : Nat → Int32) (ft_past : Nat → Int32) : Option (Int32 × (Nat → Int32)) :=
  if it_saved = (5 : Int32) then
    b_X11_records_10 N ft_now N ((0 : Int32)) (it_saved) (ft_past)
  else
    b_X11_records_51 N ft_now N ((0 : Int32)) (it_saved) (ft_past)
abbrev rm_X11_records : Room := { frames := 0, cells := 0, slots := 0, locals := 0 }
set_option maxHeartbeats 4000000 in
set_option maxRecDepth 100000 in
theorem c_X11_records (l : Launch) (dC : Nat → ClassId) (dI : Nat → Nat → Nat) (cy : gC) (G : gT) (sz : Nat) (qt : Nat) (qt_now : Nat) (qt_past : Nat) (xt_text : Nat) (xt_doors : Nat) (xt_label : Nat) (xt_far : Nat) (xt_ring : Nat) (xt_was : Nat) (it_length : Int32) (it_doorMany : Int32) (it_drawn : Int32) (it_walker : Int32) (it_from : Int32) (it_steps : Int32) (it_faultAt : Int32) (it_mover : Int32) (N : Nat) (it_saved : Int32) (ft_now : Nat → Int32) (ft_past : Nat → Int32) (out : Int32 × (Nat → Int32)) (hf : f_X11_records N it_saved ft_now ft_past = some out) : Met l yX11_records wsX11_records rm_X11_records (va_Pc [.ref qt] (kP (dC, dI) cy G [(qt, .inr (11, [.ref qt_now, .ref qt_past, .int (it_saved), .ref xt_text, .int (it_length), .ref xt_doors, .int (it_doorMany), .ref xt_label, .int (it_drawn), .ref xt_far, .ref xt_ring, .int (it_walker), .int (it_from), .ref xt_was, .int (it_steps), .int (it_faultAt), .int (it_mover)])), (qt_now, .inl (cy.1, 639, .inl (ft_now))), (qt_past, .inl (cy.1, 3195, .inl (ft_past)))] sz)) (va_Qv (fun (_ : Unit) => True) (fun _ => kQ (dC, dI) cy [(qt, .inr (11, [.ref qt_now, .ref qt_past, .int (out.1), .ref xt_text, .int (it_length), .ref xt_doors, .int (it_doorMany), .ref xt_label, .int (it_drawn), .ref xt_far, .ref xt_ring, .int (it_walker), .int (it_from), .ref xt_was, .int (it_steps), .int (it_faultAt), .int (it_mover)])), (qt_now, .inl (cy.1, 639, .inl (ft_now))), (qt_past, .inl (cy.1, 3195, .inl (out.2)))] (va_A [(qt, .inr (11, [.ref qt_now, .ref qt_past, .int (it_saved), .ref xt_text, .int (it_length), .ref xt_doors, .int (it_doorMany), .ref xt_label, .int (it_drawn), .ref xt_far, .ref xt_ring, .int (it_walker), .int (it_from), .ref xt_was, .int (it_steps), .int (it_faultAt), .int (it_mover)])), (qt_now, .inl (cy.1, 639, .inl (ft_now))), (qt_past, .inl (cy.1, 3195, .inl (ft_past)))] sz)) (va_A [(qt, .inr (11, [.ref qt_now, .ref qt_past, .int (it_saved), .ref xt_text, .int (it_length), .ref xt_doors, .int (it_doorMany), .ref xt_label, .int (it_drawn), .ref xt_far, .ref xt_ring, .int (it_walker), .int (it_from), .ref xt_was, .int (it_steps), .int (it_faultAt), .int (it_mover)])), (qt_now, .inl (cy.1, 639, .inl (ft_now))), (qt_past, .inl (cy.1, 3195, .inl (ft_past)))] sz)) 0 0 (va_A [(qt, .inr (11, [.ref qt_now, .ref qt_past, .int (it_saved), .ref xt_text, .int (it_length), .ref xt_doors, .int (it_doorMany), .ref xt_label, .int (it_drawn), .ref xt_far, .ref xt_ring, .int (it_walker), .int (it_from), .ref xt_was, .int (it_steps), .int (it_faultAt), .int (it_mover)])), (qt_now, .inl (cy.1, 639, .inl (ft_now))), (qt_past, .inl (cy.1, 3195, .inl (ft_past)))] sz) := by
  refine Met.ofW (cc := cX11_records) (maxL := 2) (ret := none) (by decide) rfl ?_
  intro p e s m args below meth c s₁ B hml hv
  obtain ⟨rfl, hsz, hP, hK, hD0, hG⟩ := hv
  have hx := B.exec
  have hb := B.bytes
  have hr := B.returns
  have hts := atoms_spec (ws := wsX11_records) B.pre
  have hown : s.vm.findClass RX11 = some m.cls := findClass_of_methodNamed B.named
  have hlocks := B.notSynchronized
  subst hsz
  have hD := hD0.self (sz := s.heap.size)
  generalize hAe : va_A [(qt, .inr (11, [.ref qt_now, .ref qt_past, .int (it_saved), .ref xt_text, .int (it_length), .ref xt_doors, .int (it_doorMany), .ref xt_label, .int (it_drawn), .ref xt_far, .ref xt_ring, .int (it_walker), .int (it_from), .ref xt_was, .int (it_steps), .int (it_faultAt), .int (it_mover)])), (qt_now, .inl (cy.1, 639, .inl (ft_now))), (qt_past, .inl (cy.1, 3195, .inl (ft_past)))] s.heap.size = A at hD hG ⊢
  have hA : ∀ q : Nat, s.heap.size ≤ q → A q := fun q h => by rw [← hAe]; exact Or.inr h
  have hS : va_S A s.heap s.heap [] := va_S.rf
  have hP : va_P (dC, dI) vwCl [(qt, .inr (11, [.ref qt_now, .ref qt_past, .int (it_saved), .ref xt_text, .int (it_length), .ref xt_doors, .int (it_doorMany), .ref xt_label, .int (it_drawn), .ref xt_far, .ref xt_ring, .int (it_walker), .int (it_from), .ref xt_was, .int (it_steps), .int (it_faultAt), .int (it_mover)])), (qt_now, .inl (cy.1, 639, .inl (ft_now))), (qt_past, .inl (cy.1, 3195, .inl (ft_past)))] s.heap := hP
  have hl := lv_entry ([.ref qt]) (n := 2) (Nat.le_of_ble_eq_true rfl)
  rw [lg_entry_eq]
  generalize (lg_sl ([.ref qt]) ++ List.replicate (2 - (lg_sl ([.ref qt])).length) Slot.unset).toArray = ls at hl ⊢
  have hl : lv_has ls 2 [(0, .ref qt)] := hl
  refine kgen (fun Q hQ => ?_)
  have B51 : ∀ (n51 : Nat) (l1 : Int32) (cit_saved : Int32) (cft_past : Nat → Int32) (H : Heap) (locs : List Loc), va_P (dC, dI) vwCl [(qt, .inr (11, [.ref qt_now, .ref qt_past, .int (cit_saved), .ref xt_text, .int (it_length), .ref xt_doors, .int (it_doorMany), .ref xt_label, .int (it_drawn), .ref xt_far, .ref xt_ring, .int (it_walker), .int (it_from), .ref xt_was, .int (it_steps), .int (it_faultAt), .int (it_mover)])), (qt_now, .inl (cy.1, 639, .inl (ft_now))), (qt_past, .inl (cy.1, 3195, .inl (cft_past)))] H → va_D A [(qt, .inr (11, [.ref qt_now, .ref qt_past, .int (cit_saved), .ref xt_text, .int (it_length), .ref xt_doors, .int (it_doorMany), .ref xt_label, .int (it_drawn), .ref xt_far, .ref xt_ring, .int (it_walker), .int (it_from), .ref xt_was, .int (it_steps), .int (it_faultAt), .int (it_mover)])), (qt_now, .inl (cy.1, 639, .inl (ft_now))), (qt_past, .inl (cy.1, 3195, .inl (cft_past)))] → va_S A s.heap H locs → ∀ (ls : Array Slot), lv_has ls 2 [(0, .ref qt), (1, .int l1)] → b_X11_records_51 N ft_now n51 l1 cit_saved cft_past = some out → W p l e (headSpec wsX11_records rm_X11_records).room s m ([.ref qt] : List Value).toArray below meth c H locs 0 0 Q (F0 m 51 ls []) := by
    intro n51
    induction n51 with
    | zero => intro l1 cit_saved cft_past H locs hP hD hS ls hl hf; rw [b_X11_records_51] at hf; cases hf
    | succ n51 ih51 =>
      intro l1 cit_saved cft_past H locs hP hD hS ls hl hf
      rw [b_X11_records_51] at hf
      refine lv_iload_n hx hb dX11_records_51 rfl (lv_at hl 1 rfl) ?_
      refine lv_sipush (v := (639 : Int32)) hx hb dX11_records_52 (by decide) ?_
      refine lv_icmp_ge (tgt := 85) hx hb dX11_records_55 (by decide) (fun hc_55 => ?_) (fun hc_55 => ?_)
      · rw [if_pos hc_55] at hf
        refine lv_aload_n hx hb dX11_records_85 rfl (lv_at hl 0 rfl) ?_
        refine lv_dup hx hb dX11_records_86 rfl ?_
        refine va_get (D := (dC, dI)) (ci := 11) (C := RX11) (T := TX11) (N := 17) hx hb hts (fun _ h => (List.mem_cons_of_mem _ (List.mem_append_right _ h))) hown hK hP 0 rfl rfl 2 (by decide) (hts _ (List.mem_cons_of_mem _ (List.mem_append_left _ (List.mem_of_getElem? (i := 0) rfl)))) (fun _ h => h) rfl dX11_records_87 ?_
        refine lv_iconst (v := (1 : Int32)) hx hb dX11_records_90 (by decide) ?_
        refine lv_iadd hx hb dX11_records_91 ?_
        refine va_put (D := (dC, dI)) (ci := 11) (v := .int (cit_saved + (1 : Int32))) (ty := .int) (C := RX11) (T := TX11) (N := 17) hx hb hts (fun _ h => (List.mem_cons_of_mem _ (List.mem_append_right _ h))) tyX11 tyX11_ok nmX11 hown hK hP hD hS 0 rfl rfl 2 (by decide) (hts _ (List.mem_cons_of_mem _ (List.mem_append_left _ (List.mem_of_getElem? (i := 0) rfl)))) (fun _ h => h) rfl (by decide +kernel) rfl rfl (Nat.le_of_ble_eq_true rfl) dX11_records_92 (fun H locs hP hD hS => ?_)
        have hP : va_P (dC, dI) vwCl [(qt, .inr (11, [.ref qt_now, .ref qt_past, .int ((cit_saved + (1 : Int32))), .ref xt_text, .int (it_length), .ref xt_doors, .int (it_doorMany), .ref xt_label, .int (it_drawn), .ref xt_far, .ref xt_ring, .int (it_walker), .int (it_from), .ref xt_was, .int (it_steps), .int (it_faultAt), .int (it_mover)])), (qt_now, .inl (cy.1, 639, .inl (ft_now))), (qt_past, .inl (cy.1, 3195, .inl (cft_past)))] H := hP
        have hD : va_D A [(qt, .inr (11, [.ref qt_now, .ref qt_past, .int ((cit_saved + (1 : Int32))), .ref xt_text, .int (it_length), .ref xt_doors, .int (it_doorMany), .ref xt_label, .int (it_drawn), .ref xt_far, .ref xt_ring, .int (it_walker), .int (it_from), .ref xt_was, .int (it_steps), .int (it_faultAt), .int (it_mover)])), (qt_now, .inl (cy.1, 639, .inl (ft_now))), (qt_past, .inl (cy.1, 3195, .inl (cft_past)))] := hD
        cases hf
        subst hQ
        exact kvret hx hb hr hlocks hK (hP.sub [0, 1, 2] rfl) (hD.sub [0, 1, 2] (by decide) rfl) hS trivial dX11_records_95
      · rw [if_neg hc_55] at hf
        refine lv_aload_n hx hb dX11_records_58 rfl (lv_at hl 0 rfl) ?_
        refine va_get (D := (dC, dI)) (ci := 11) (C := RX11) (T := TX11) (N := 17) hx hb hts (fun _ h => (List.mem_cons_of_mem _ (List.mem_append_right _ h))) hown hK hP 0 rfl rfl 1 (by decide) (hts _ (List.mem_cons_of_mem _ (List.mem_append_left _ (List.mem_of_getElem? (i := 1) rfl)))) (fun _ h => h) rfl dX11_records_59 ?_
        refine lv_sipush (v := (639 : Int32)) hx hb dX11_records_62 (by decide) ?_
        refine lv_aload_n hx hb dX11_records_65 rfl (lv_at hl 0 rfl) ?_
        refine va_get (D := (dC, dI)) (ci := 11) (C := RX11) (T := TX11) (N := 17) hx hb hts (fun _ h => (List.mem_cons_of_mem _ (List.mem_append_right _ h))) hown hK hP 0 rfl rfl 2 (by decide) (hts _ (List.mem_cons_of_mem _ (List.mem_append_left _ (List.mem_of_getElem? (i := 0) rfl)))) (fun _ h => h) rfl dX11_records_66 ?_
        refine lv_imul hx hb dX11_records_69 ?_
        refine lv_iload_n hx hb dX11_records_70 rfl (lv_at hl 1 rfl) ?_
        refine lv_iadd hx hb dX11_records_71 ?_
        refine lv_aload_n hx hb dX11_records_72 rfl (lv_at hl 0 rfl) ?_
        refine va_get (D := (dC, dI)) (ci := 11) (C := RX11) (T := TX11) (N := 17) hx hb hts (fun _ h => (List.mem_cons_of_mem _ (List.mem_append_right _ h))) hown hK hP 0 rfl rfl 0 (by decide) (hts _ (List.mem_cons_of_mem _ (List.mem_append_left _ (List.mem_of_getElem? (i := 2) rfl)))) (fun _ h => h) rfl dX11_records_73 ?_
        refine lv_iload_n hx hb dX11_records_76 rfl (lv_at hl 1 rfl) ?_
        obtain ⟨hk_77, hf⟩ := chk_s hf
        refine va_iald hx hb hK hP 1 0 rfl rfl hk_77 dX11_records_77 ?_
        obtain ⟨hk_78, hf⟩ := chk_s hf
        refine va_iast hx hb hK hP hD hS 2 0 rfl rfl hk_78 dX11_records_78 (fun H locs hP hD hS => ?_)
        have hP : va_P (dC, dI) vwCl [(qt, .inr (11, [.ref qt_now, .ref qt_past, .int (cit_saved), .ref xt_text, .int (it_length), .ref xt_doors, .int (it_doorMany), .ref xt_label, .int (it_drawn), .ref xt_far, .ref xt_ring, .int (it_walker), .int (it_from), .ref xt_was, .int (it_steps), .int (it_faultAt), .int (it_mover)])), (qt_now, .inl (cy.1, 639, .inl (ft_now))), (qt_past, .inl (cy.1, 3195, .inl ((upd cft_past ((((639 : Int32) * cit_saved) + l1)).toNatClampNeg (ft_now (l1).toNatClampNeg)))))] H := hP
        have hD : va_D A [(qt, .inr (11, [.ref qt_now, .ref qt_past, .int (cit_saved), .ref xt_text, .int (it_length), .ref xt_doors, .int (it_doorMany), .ref xt_label, .int (it_drawn), .ref xt_far, .ref xt_ring, .int (it_walker), .int (it_from), .ref xt_was, .int (it_steps), .int (it_faultAt), .int (it_mover)])), (qt_now, .inl (cy.1, 639, .inl (ft_now))), (qt_past, .inl (cy.1, 3195, .inl ((upd cft_past ((((639 : Int32) * cit_saved) + l1)).toNatClampNeg (ft_now (l1).toNatClampNeg)))))] := hD
        refine lv_iinc (v := (l1 + (1 : Int32))) (lv' := [(1, .int (l1 + (1 : Int32))), (0, .ref qt)]) hx hb dX11_records_79 hl (k := 1) rfl rfl (by decide) rfl (fun ls hl => ?_)
        refine lv_goto (tgt := 51) hx hb dX11_records_82 (by decide) ?_
        exact ih51 ((l1 + (1 : Int32))) (cit_saved) ((upd cft_past ((((639 : Int32) * cit_saved) + l1)).toNatClampNeg (ft_now (l1).toNatClampNeg))) _ _ (hP.sub [0, 1, 2] rfl) (hD.sub [0, 1, 2] (by decide) rfl) hS _ (lv_sub hl [1, 0] rfl) hf
  have B10 : ∀ (n10 : Nat) (l1 : Int32) (cit_saved : Int32) (cft_past : Nat → Int32) (H : Heap) (locs : List Loc), va_P (dC, dI) vwCl [(qt, .inr (11, [.ref qt_now, .ref qt_past, .int (cit_saved), .ref xt_text, .int (it_length), .ref xt_doors, .int (it_doorMany), .ref xt_label, .int (it_drawn), .ref xt_far, .ref xt_ring, .int (it_walker), .int (it_from), .ref xt_was, .int (it_steps), .int (it_faultAt), .int (it_mover)])), (qt_now, .inl (cy.1, 639, .inl (ft_now))), (qt_past, .inl (cy.1, 3195, .inl (cft_past)))] H → va_D A [(qt, .inr (11, [.ref qt_now, .ref qt_past, .int (cit_saved), .ref xt_text, .int (it_length), .ref xt_doors, .int (it_doorMany), .ref xt_label, .int (it_drawn), .ref xt_far, .ref xt_ring, .int (it_walker), .int (it_from), .ref xt_was, .int (it_steps), .int (it_faultAt), .int (it_mover)])), (qt_now, .inl (cy.1, 639, .inl (ft_now))), (qt_past, .inl (cy.1, 3195, .inl (cft_past)))] → va_S A s.heap H locs → ∀ (ls : Array Slot), lv_has ls 2 [(0, .ref qt), (1, .int l1)] → b_X11_records_10 N ft_now n10 l1 cit_saved cft_past = some out → W p l e (headSpec wsX11_records rm_X11_records).room s m ([.ref qt] : List Value).toArray below meth c H locs 0 0 Q (F0 m 10 ls []) := by
    intro n10
    induction n10 with
    | zero => intro l1 cit_saved cft_past H locs hP hD hS ls hl hf; rw [b_X11_records_10] at hf; cases hf
    | succ n10 ih10 =>
      intro l1 cit_saved cft_past H locs hP hD hS ls hl hf
      rw [b_X11_records_10] at hf
      refine lv_iload_n hx hb dX11_records_10 rfl (lv_at hl 1 rfl) ?_
      refine lv_sipush (v := (2556 : Int32)) hx hb dX11_records_11 (by decide) ?_
      refine lv_icmp_ge (tgt := 39) hx hb dX11_records_14 (by decide) (fun hc_14 => ?_) (fun hc_14 => ?_)
      · rw [if_pos hc_14] at hf
        refine lv_aload_n hx hb dX11_records_39 rfl (lv_at hl 0 rfl) ?_
        refine lv_dup hx hb dX11_records_40 rfl ?_
        refine va_get (D := (dC, dI)) (ci := 11) (C := RX11) (T := TX11) (N := 17) hx hb hts (fun _ h => (List.mem_cons_of_mem _ (List.mem_append_right _ h))) hown hK hP 0 rfl rfl 2 (by decide) (hts _ (List.mem_cons_of_mem _ (List.mem_append_left _ (List.mem_of_getElem? (i := 0) rfl)))) (fun _ h => h) rfl dX11_records_41 ?_
        refine lv_iconst (v := (1 : Int32)) hx hb dX11_records_44 (by decide) ?_
        refine lv_isub hx hb dX11_records_45 ?_
        refine va_put (D := (dC, dI)) (ci := 11) (v := .int (cit_saved - (1 : Int32))) (ty := .int) (C := RX11) (T := TX11) (N := 17) hx hb hts (fun _ h => (List.mem_cons_of_mem _ (List.mem_append_right _ h))) tyX11 tyX11_ok nmX11 hown hK hP hD hS 0 rfl rfl 2 (by decide) (hts _ (List.mem_cons_of_mem _ (List.mem_append_left _ (List.mem_of_getElem? (i := 0) rfl)))) (fun _ h => h) rfl (by decide +kernel) rfl rfl (Nat.le_of_ble_eq_true rfl) dX11_records_46 (fun H locs hP hD hS => ?_)
        have hP : va_P (dC, dI) vwCl [(qt, .inr (11, [.ref qt_now, .ref qt_past, .int ((cit_saved - (1 : Int32))), .ref xt_text, .int (it_length), .ref xt_doors, .int (it_doorMany), .ref xt_label, .int (it_drawn), .ref xt_far, .ref xt_ring, .int (it_walker), .int (it_from), .ref xt_was, .int (it_steps), .int (it_faultAt), .int (it_mover)])), (qt_now, .inl (cy.1, 639, .inl (ft_now))), (qt_past, .inl (cy.1, 3195, .inl (cft_past)))] H := hP
        have hD : va_D A [(qt, .inr (11, [.ref qt_now, .ref qt_past, .int ((cit_saved - (1 : Int32))), .ref xt_text, .int (it_length), .ref xt_doors, .int (it_doorMany), .ref xt_label, .int (it_drawn), .ref xt_far, .ref xt_ring, .int (it_walker), .int (it_from), .ref xt_was, .int (it_steps), .int (it_faultAt), .int (it_mover)])), (qt_now, .inl (cy.1, 639, .inl (ft_now))), (qt_past, .inl (cy.1, 3195, .inl (cft_past)))] := hD
        refine lv_iconst (v := (0 : Int32)) hx hb dX11_records_49 (by decide) ?_
        refine lv_istore_n (lv' := [(1, .int (0 : Int32)), (0, .ref qt)]) hx hb dX11_records_50 rfl hl (by decide) rfl (fun ls hl => ?_)
        exact B51 N ((0 : Int32)) ((cit_saved - (1 : Int32))) (cft_past) _ _ (hP.sub [0, 1, 2] rfl) (hD.sub [0, 1, 2] (by decide) rfl) hS _ (lv_sub hl [1, 0] rfl) hf
      · rw [if_neg hc_14] at hf
        refine lv_aload_n hx hb dX11_records_17 rfl (lv_at hl 0 rfl) ?_
        refine va_get (D := (dC, dI)) (ci := 11) (C := RX11) (T := TX11) (N := 17) hx hb hts (fun _ h => (List.mem_cons_of_mem _ (List.mem_append_right _ h))) hown hK hP 0 rfl rfl 1 (by decide) (hts _ (List.mem_cons_of_mem _ (List.mem_append_left _ (List.mem_of_getElem? (i := 1) rfl)))) (fun _ h => h) rfl dX11_records_18 ?_
        refine lv_iload_n hx hb dX11_records_21 rfl (lv_at hl 1 rfl) ?_
        refine lv_aload_n hx hb dX11_records_22 rfl (lv_at hl 0 rfl) ?_
        refine va_get (D := (dC, dI)) (ci := 11) (C := RX11) (T := TX11) (N := 17) hx hb hts (fun _ h => (List.mem_cons_of_mem _ (List.mem_append_right _ h))) hown hK hP 0 rfl rfl 1 (by decide) (hts _ (List.mem_cons_of_mem _ (List.mem_append_left _ (List.mem_of_getElem? (i := 1) rfl)))) (fun _ h => h) rfl dX11_records_23 ?_
        refine lv_iload_n hx hb dX11_records_26 rfl (lv_at hl 1 rfl) ?_
        refine lv_sipush (v := (639 : Int32)) hx hb dX11_records_27 (by decide) ?_
        refine lv_iadd hx hb dX11_records_30 ?_
        obtain ⟨hk_31, hf⟩ := chk_s hf
        refine va_iald hx hb hK hP 2 0 rfl rfl hk_31 dX11_records_31 ?_
        obtain ⟨hk_32, hf⟩ := chk_s hf
        refine va_iast hx hb hK hP hD hS 2 0 rfl rfl hk_32 dX11_records_32 (fun H locs hP hD hS => ?_)
        have hP : va_P (dC, dI) vwCl [(qt, .inr (11, [.ref qt_now, .ref qt_past, .int (cit_saved), .ref xt_text, .int (it_length), .ref xt_doors, .int (it_doorMany), .ref xt_label, .int (it_drawn), .ref xt_far, .ref xt_ring, .int (it_walker), .int (it_from), .ref xt_was, .int (it_steps), .int (it_faultAt), .int (it_mover)])), (qt_now, .inl (cy.1, 639, .inl (ft_now))), (qt_past, .inl (cy.1, 3195, .inl ((upd cft_past (l1).toNatClampNeg (cft_past ((l1 + (639 : Int32))).toNatClampNeg)))))] H := hP
        have hD : va_D A [(qt, .inr (11, [.ref qt_now, .ref qt_past, .int (cit_saved), .ref xt_text, .int (it_length), .ref xt_doors, .int (it_doorMany), .ref xt_label, .int (it_drawn), .ref xt_far, .ref xt_ring, .int (it_walker), .int (it_from), .ref xt_was, .int (it_steps), .int (it_faultAt), .int (it_mover)])), (qt_now, .inl (cy.1, 639, .inl (ft_now))), (qt_past, .inl (cy.1, 3195, .inl ((upd cft_past (l1).toNatClampNeg (cft_past ((l1 + (639 : Int32))).toNatClampNeg)))))] := hD
        refine lv_iinc (v := (l1 + (1 : Int32))) (lv' := [(1, .int (l1 + (1 : Int32))), (0, .ref qt)]) hx hb dX11_records_33 hl (k := 1) rfl rfl (by decide) rfl (fun ls hl => ?_)
        refine lv_goto (tgt := 10) hx hb dX11_records_36 (by decide) ?_
        exact ih10 ((l1 + (1 : Int32))) (cit_saved) ((upd cft_past (l1).toNatClampNeg (cft_past ((l1 + (639 : Int32))).toNatClampNeg))) _ _ (hP.sub [0, 1, 2] rfl) (hD.sub [0, 1, 2] (by decide) rfl) hS _ (lv_sub hl [1, 0] rfl) hf
  rw [f_X11_records] at hf
  refine lv_aload_n hx hb dX11_records_0 rfl (lv_at hl 0 rfl) ?_
  refine va_get (D := (dC, dI)) (ci := 11) (C := RX11) (T := TX11) (N := 17) hx hb hts (fun _ h => (List.mem_cons_of_mem _ (List.mem_append_right _ h))) hown hK hP 0 rfl rfl 2 (by decide) (hts _ (List.mem_cons_of_mem _ (List.mem_append_left _ (List.mem_of_getElem? (i := 0) rfl)))) (fun _ h => h) rfl dX11_records_1 ?_
  refine lv_iconst (v := (5 : Int32)) hx hb dX11_records_4 (by decide) ?_
  refine lv_icmp_ne (tgt := 49) hx hb dX11_records_5 (by decide) (fun hc_5 => ?_) (fun hc_5 => ?_)
  · rw [if_neg hc_5] at hf
    refine lv_iconst (v := (0 : Int32)) hx hb dX11_records_49 (by decide) ?_
    refine lv_istore_n (lv' := [(1, .int (0 : Int32)), (0, .ref qt)]) hx hb dX11_records_50 rfl hl (by decide) rfl (fun ls hl => ?_)
    exact B51 N ((0 : Int32)) (it_saved) (ft_past) _ _ (hP.sub [0, 1, 2] rfl) (hD.sub [0, 1, 2] (by decide) rfl) hS _ (lv_sub hl [1, 0] rfl) hf
  · rw [if_pos hc_5] at hf
    refine lv_iconst (v := (0 : Int32)) hx hb dX11_records_8 (by decide) ?_
    refine lv_istore_n (lv' := [(1, .int (0 : Int32)), (0, .ref qt)]) hx hb dX11_records_9 rfl hl (by decide) rfl (fun ls hl => ?_)
    exact B10 N ((0 : Int32)) (it_saved) (ft_past) _ _ (hP.sub [0, 1, 2] rfl) (hD.sub [0, 1, 2] (by decide) rfl) hS _ (lv_sub hl [1, 0] rfl) hf
theorem hdX11_records : yX11_records.cls = RX11 ∧ yX11_records.cls ≠ "java/lang/invoke/MethodHandle" ∧ yX11_records.cls ≠ "java/lang/invoke/VarHandle" ∧ (parseMethodDescriptor yX11_records.desc).map (fun d => d.parameters.length) = some 0 := by decide +kernel
noncomputable def b_X11_undo_22 (N : Nat) (ft_past : Nat → Int32) : Nat → Int32 → Int32 → (Nat → Int32) → Option (Int32 × Int32 × (Nat → Int32))
  | 0, _, _, _ => none
  | n + 1, l1, cit_saved, cft_now =>
    if (639 : Int32) ≤ l1 then
      some (cit_saved, cit_saved, cft_now)
    else
      if (((639 : Int32) * cit_saved) + l1) < 0 ∨ 3195 ≤ ((((639 : Int32) * cit_saved) + l1)).toNatClampNeg then none else
      if l1 < 0 ∨ 639 ≤ (l1).toNatClampNeg then none else
      b_X11_undo_22 N ft_past n ((l1 + (1 : Int32))) (cit_saved) ((upd cft_now (l1).toNatClampNeg (ft_past ((((639 : Int32) * cit_saved) + l1)).toNatClampNeg)))
noncomputable def f_X11_undo (N : Nat) (it_saved : Int32) (ft_now : Nat → Int32) (ft_past : Nat → Int32) : Option (Int32 × Int32 × (Nat → Int32)) :=
  if it_saved = 0 then
    some ((-2 : Int32), it_saved, ft_now)
  else
    b_X11_undo_22 N ft_past N ((0 : Int32)) ((it_saved - (1 : Int32))) (ft_now)
abbrev rm_X11_undo : Room := { frames := 0, cells := 0, slots := 0, locals := 0 }
set_option maxHeartbeats 4000000 in
set_option maxRecDepth 100000 in
theorem c_X11_undo (l : Launch) (dC : Nat → ClassId) (dI : Nat → Nat → Nat) (cy : gC) (G : gT) (sz : Nat) (qt : Nat) (qt_now : Nat) (qt_past : Nat) (xt_text : Nat) (xt_doors : Nat) (xt_label : Nat) (xt_far : Nat) (xt_ring : Nat) (xt_was : Nat) (it_length : Int32) (it_doorMany : Int32) (it_drawn : Int32) (it_walker : Int32) (it_from : Int32) (it_steps : Int32) (it_faultAt : Int32) (it_mover : Int32) (N : Nat) (it_saved : Int32) (ft_now : Nat → Int32) (ft_past : Nat → Int32) (out : Int32 × Int32 × (Nat → Int32)) (hf : f_X11_undo N it_saved ft_now ft_past = some out) : Met l yX11_undo wsX11_undo rm_X11_undo (va_Pc [.ref qt] (kP (dC, dI) cy G [(qt, .inr (11, [.ref qt_now, .ref qt_past, .int (it_saved), .ref xt_text, .int (it_length), .ref xt_doors, .int (it_doorMany), .ref xt_label, .int (it_drawn), .ref xt_far, .ref xt_ring, .int (it_walker), .int (it_from), .ref xt_was, .int (it_steps), .int (it_faultAt), .int (it_mover)])), (qt_now, .inl (cy.1, 639, .inl (ft_now))), (qt_past, .inl (cy.1, 3195, .inl (ft_past)))] sz)) (va_Qi (fun r (_ : Unit) => r = out.1) (fun _ => kQ (dC, dI) cy [(qt, .inr (11, [.ref qt_now, .ref qt_past, .int (out.2.1), .ref xt_text, .int (it_length), .ref xt_doors, .int (it_doorMany), .ref xt_label, .int (it_drawn), .ref xt_far, .ref xt_ring, .int (it_walker), .int (it_from), .ref xt_was, .int (it_steps), .int (it_faultAt), .int (it_mover)])), (qt_now, .inl (cy.1, 639, .inl (out.2.2))), (qt_past, .inl (cy.1, 3195, .inl (ft_past)))] (va_A [(qt, .inr (11, [.ref qt_now, .ref qt_past, .int (it_saved), .ref xt_text, .int (it_length), .ref xt_doors, .int (it_doorMany), .ref xt_label, .int (it_drawn), .ref xt_far, .ref xt_ring, .int (it_walker), .int (it_from), .ref xt_was, .int (it_steps), .int (it_faultAt), .int (it_mover)])), (qt_now, .inl (cy.1, 639, .inl (ft_now))), (qt_past, .inl (cy.1, 3195, .inl (ft_past)))] sz)) (va_A [(qt, .inr (11, [.ref qt_now, .ref qt_past, .int (it_saved), .ref xt_text, .int (it_length), .ref xt_doors, .int (it_doorMany), .ref xt_label, .int (it_drawn), .ref xt_far, .ref xt_ring, .int (it_walker), .int (it_from), .ref xt_was, .int (it_steps), .int (it_faultAt), .int (it_mover)])), (qt_now, .inl (cy.1, 639, .inl (ft_now))), (qt_past, .inl (cy.1, 3195, .inl (ft_past)))] sz)) 0 0 (va_A [(qt, .inr (11, [.ref qt_now, .ref qt_past, .int (it_saved), .ref xt_text, .int (it_length), .ref xt_doors, .int (it_doorMany), .ref xt_label, .int (it_drawn), .ref xt_far, .ref xt_ring, .int (it_walker), .int (it_from), .ref xt_was, .int (it_steps), .int (it_faultAt), .int (it_mover)])), (qt_now, .inl (cy.1, 639, .inl (ft_now))), (qt_past, .inl (cy.1, 3195, .inl (ft_past)))] sz) := by
  refine Met.ofW (cc := cX11_undo) (maxL := 2) (ret := (some .int)) (by decide) rfl ?_
  intro p e s m args below meth c s₁ B hml hv
  obtain ⟨rfl, hsz, hP, hK, hD0, hG⟩ := hv
  have hx := B.exec
  have hb := B.bytes
  have hr := B.returns
  have hts := atoms_spec (ws := wsX11_undo) B.pre
  have hown : s.vm.findClass RX11 = some m.cls := findClass_of_methodNamed B.named
  have hlocks := B.notSynchronized
  subst hsz
  have hD := hD0.self (sz := s.heap.size)
  generalize hAe : va_A [(qt, .inr (11, [.ref qt_now, .ref qt_past, .int (it_saved), .ref xt_text, .int (it_length), .ref xt_doors, .int (it_doorMany), .ref xt_label, .int (it_drawn), .ref xt_far, .ref xt_ring, .int (it_walker), .int (it_from), .ref xt_was, .int (it_steps), .int (it_faultAt), .int (it_mover)])), (qt_now, .inl (cy.1, 639, .inl (ft_now))), (qt_past, .inl (cy.1, 3195, .inl (ft_past)))] s.heap.size = A at hD hG ⊢
  have hA : ∀ q : Nat, s.heap.size ≤ q → A q := fun q h => by rw [← hAe]; exact Or.inr h
  have hS : va_S A s.heap s.heap [] := va_S.rf
  have hP : va_P (dC, dI) vwCl [(qt, .inr (11, [.ref qt_now, .ref qt_past, .int (it_saved), .ref xt_text, .int (it_length), .ref xt_doors, .int (it_doorMany), .ref xt_label, .int (it_drawn), .ref xt_far, .ref xt_ring, .int (it_walker), .int (it_from), .ref xt_was, .int (it_steps), .int (it_faultAt), .int (it_mover)])), (qt_now, .inl (cy.1, 639, .inl (ft_now))), (qt_past, .inl (cy.1, 3195, .inl (ft_past)))] s.heap := hP
  have hl := lv_entry ([.ref qt]) (n := 2) (Nat.le_of_ble_eq_true rfl)
  rw [lg_entry_eq]
  generalize (lg_sl ([.ref qt]) ++ List.replicate (2 - (lg_sl ([.ref qt])).length) Slot.unset).toArray = ls at hl ⊢
  have hl : lv_has ls 2 [(0, .ref qt)] := hl
  refine kgen (fun Q hQ => ?_)
  have B22 : ∀ (n22 : Nat) (l1 : Int32) (cit_saved : Int32) (cft_now : Nat → Int32) (H : Heap) (locs : List Loc), va_P (dC, dI) vwCl [(qt, .inr (11, [.ref qt_now, .ref qt_past, .int (cit_saved), .ref xt_text, .int (it_length), .ref xt_doors, .int (it_doorMany), .ref xt_label, .int (it_drawn), .ref xt_far, .ref xt_ring, .int (it_walker), .int (it_from), .ref xt_was, .int (it_steps), .int (it_faultAt), .int (it_mover)])), (qt_now, .inl (cy.1, 639, .inl (cft_now))), (qt_past, .inl (cy.1, 3195, .inl (ft_past)))] H → va_D A [(qt, .inr (11, [.ref qt_now, .ref qt_past, .int (cit_saved), .ref xt_text, .int (it_length), .ref xt_doors, .int (it_doorMany), .ref xt_label, .int (it_drawn), .ref xt_far, .ref xt_ring, .int (it_walker), .int (it_from), .ref xt_was, .int (it_steps), .int (it_faultAt), .int (it_mover)])), (qt_now, .inl (cy.1, 639, .inl (cft_now))), (qt_past, .inl (cy.1, 3195, .inl (ft_past)))] → va_S A s.heap H locs → ∀ (ls : Array Slot), lv_has ls 2 [(0, .ref qt), (1, .int l1)] → b_X11_undo_22 N ft_past n22 l1 cit_saved cft_now = some out → W p l e (headSpec wsX11_undo rm_X11_undo).room s m ([.ref qt] : List Value).toArray below meth c H locs 0 0 Q (F0 m 22 ls []) := by
    intro n22
    induction n22 with
    | zero => intro l1 cit_saved cft_now H locs hP hD hS ls hl hf; rw [b_X11_undo_22] at hf; cases hf
    | succ n22 ih22 =>
      intro l1 cit_saved cft_now H locs hP hD hS ls hl hf
      rw [b_X11_undo_22] at hf
      refine lv_iload_n hx hb dX11_undo_22 rfl (lv_at hl 1 rfl) ?_
      refine lv_sipush (v := (639 : Int32)) hx hb dX11_undo_23 (by decide) ?_
      refine lv_icmp_ge (tgt := 56) hx hb dX11_undo_26 (by decide) (fun hc_26 => ?_) (fun hc_26 => ?_)
      · rw [if_pos hc_26] at hf
        refine lv_aload_n hx hb dX11_undo_56 rfl (lv_at hl 0 rfl) ?_
        refine va_get (D := (dC, dI)) (ci := 11) (C := RX11) (T := TX11) (N := 17) hx hb hts (fun _ h => (List.mem_cons_of_mem _ (List.mem_append_right _ h))) hown hK hP 0 rfl rfl 2 (by decide) (hts _ (List.mem_cons_of_mem _ (List.mem_append_left _ (List.mem_of_getElem? (i := 0) rfl)))) (fun _ h => h) rfl dX11_undo_57 ?_
        cases hf
        subst hQ
        exact kiret hx hb hr hlocks hK (hP.sub [0, 1, 2] rfl) (hD.sub [0, 1, 2] (by decide) rfl) hS rfl dX11_undo_60
      · rw [if_neg hc_26] at hf
        refine lv_aload_n hx hb dX11_undo_29 rfl (lv_at hl 0 rfl) ?_
        refine va_get (D := (dC, dI)) (ci := 11) (C := RX11) (T := TX11) (N := 17) hx hb hts (fun _ h => (List.mem_cons_of_mem _ (List.mem_append_right _ h))) hown hK hP 0 rfl rfl 0 (by decide) (hts _ (List.mem_cons_of_mem _ (List.mem_append_left _ (List.mem_of_getElem? (i := 1) rfl)))) (fun _ h => h) rfl dX11_undo_30 ?_
        refine lv_iload_n hx hb dX11_undo_33 rfl (lv_at hl 1 rfl) ?_
        refine lv_aload_n hx hb dX11_undo_34 rfl (lv_at hl 0 rfl) ?_
        refine va_get (D := (dC, dI)) (ci := 11) (C := RX11) (T := TX11) (N := 17) hx hb hts (fun _ h => (List.mem_cons_of_mem _ (List.mem_append_right _ h))) hown hK hP 0 rfl rfl 1 (by decide) (hts _ (List.mem_cons_of_mem _ (List.mem_append_left _ (List.mem_of_getElem? (i := 2) rfl)))) (fun _ h => h) rfl dX11_undo_35 ?_
        refine lv_sipush (v := (639 : Int32)) hx hb dX11_undo_38 (by decide) ?_
        refine lv_aload_n hx hb dX11_undo_41 rfl (lv_at hl 0 rfl) ?_
        refine va_get (D := (dC, dI)) (ci := 11) (C := RX11) (T := TX11) (N := 17) hx hb hts (fun _ h => (List.mem_cons_of_mem _ (List.mem_append_right _ h))) hown hK hP 0 rfl rfl 2 (by decide) (hts _ (List.mem_cons_of_mem _ (List.mem_append_left _ (List.mem_of_getElem? (i := 0) rfl)))) (fun _ h => h) rfl dX11_undo_42 ?_
        refine lv_imul hx hb dX11_undo_45 ?_
        refine lv_iload_n hx hb dX11_undo_46 rfl (lv_at hl 1 rfl) ?_
        refine lv_iadd hx hb dX11_undo_47 ?_
        obtain ⟨hk_48, hf⟩ := chk_s hf
        refine va_iald hx hb hK hP 2 0 rfl rfl hk_48 dX11_undo_48 ?_
        obtain ⟨hk_49, hf⟩ := chk_s hf
        refine va_iast hx hb hK hP hD hS 1 0 rfl rfl hk_49 dX11_undo_49 (fun H locs hP hD hS => ?_)
        have hP : va_P (dC, dI) vwCl [(qt, .inr (11, [.ref qt_now, .ref qt_past, .int (cit_saved), .ref xt_text, .int (it_length), .ref xt_doors, .int (it_doorMany), .ref xt_label, .int (it_drawn), .ref xt_far, .ref xt_ring, .int (it_walker), .int (it_from), .ref xt_was, .int (it_steps), .int (it_faultAt), .int (it_mover)])), (qt_now, .inl (cy.1, 639, .inl ((upd cft_now (l1).toNatClampNeg (ft_past ((((639 : Int32) * cit_saved) + l1)).toNatClampNeg))))), (qt_past, .inl (cy.1, 3195, .inl (ft_past)))] H := hP
        have hD : va_D A [(qt, .inr (11, [.ref qt_now, .ref qt_past, .int (cit_saved), .ref xt_text, .int (it_length), .ref xt_doors, .int (it_doorMany), .ref xt_label, .int (it_drawn), .ref xt_far, .ref xt_ring, .int (it_walker), .int (it_from), .ref xt_was, .int (it_steps), .int (it_faultAt), .int (it_mover)])), (qt_now, .inl (cy.1, 639, .inl ((upd cft_now (l1).toNatClampNeg (ft_past ((((639 : Int32) * cit_saved) + l1)).toNatClampNeg))))), (qt_past, .inl (cy.1, 3195, .inl (ft_past)))] := hD
        refine lv_iinc (v := (l1 + (1 : Int32))) (lv' := [(1, .int (l1 + (1 : Int32))), (0, .ref qt)]) hx hb dX11_undo_50 hl (k := 1) rfl rfl (by decide) rfl (fun ls hl => ?_)
        refine lv_goto (tgt := 22) hx hb dX11_undo_53 (by decide) ?_
        exact ih22 ((l1 + (1 : Int32))) (cit_saved) ((upd cft_now (l1).toNatClampNeg (ft_past ((((639 : Int32) * cit_saved) + l1)).toNatClampNeg))) _ _ (hP.sub [0, 1, 2] rfl) (hD.sub [0, 1, 2] (by decide) rfl) hS _ (lv_sub hl [1, 0] rfl) hf
  rw [f_X11_undo] at hf
  refine lv_aload_n hx hb dX11_undo_0 rfl (lv_at hl 0 rfl) ?_
  refine va_get (D := (dC, dI)) (ci := 11) (C := RX11) (T := TX11) (N := 17) hx hb hts (fun _ h => (List.mem_cons_of_mem _ (List.mem_append_right _ h))) hown hK hP 0 rfl rfl 2 (by decide) (hts _ (List.mem_cons_of_mem _ (List.mem_append_left _ (List.mem_of_getElem? (i := 0) rfl)))) (fun _ h => h) rfl dX11_undo_1 ?_
  refine lv_if_ne (tgt := 10) hx hb dX11_undo_4 (by decide) (fun hc_4 => ?_) (fun hc_4 => ?_)
  · rw [if_neg hc_4] at hf
    refine lv_aload_n hx hb dX11_undo_10 rfl (lv_at hl 0 rfl) ?_
    refine lv_dup hx hb dX11_undo_11 rfl ?_
    refine va_get (D := (dC, dI)) (ci := 11) (C := RX11) (T := TX11) (N := 17) hx hb hts (fun _ h => (List.mem_cons_of_mem _ (List.mem_append_right _ h))) hown hK hP 0 rfl rfl 2 (by decide) (hts _ (List.mem_cons_of_mem _ (List.mem_append_left _ (List.mem_of_getElem? (i := 0) rfl)))) (fun _ h => h) rfl dX11_undo_12 ?_
    refine lv_iconst (v := (1 : Int32)) hx hb dX11_undo_15 (by decide) ?_
    refine lv_isub hx hb dX11_undo_16 ?_
    refine va_put (D := (dC, dI)) (ci := 11) (v := .int (it_saved - (1 : Int32))) (ty := .int) (C := RX11) (T := TX11) (N := 17) hx hb hts (fun _ h => (List.mem_cons_of_mem _ (List.mem_append_right _ h))) tyX11 tyX11_ok nmX11 hown hK hP hD hS 0 rfl rfl 2 (by decide) (hts _ (List.mem_cons_of_mem _ (List.mem_append_left _ (List.mem_of_getElem? (i := 0) rfl)))) (fun _ h => h) rfl (by decide +kernel) rfl rfl (Nat.le_of_ble_eq_true rfl) dX11_undo_17 (fun H locs hP hD hS => ?_)
    have hP : va_P (dC, dI) vwCl [(qt, .inr (11, [.ref qt_now, .ref qt_past, .int ((it_saved - (1 : Int32))), .ref xt_text, .int (it_length), .ref xt_doors, .int (it_doorMany), .ref xt_label, .int (it_drawn), .ref xt_far, .ref xt_ring, .int (it_walker), .int (it_from), .ref xt_was, .int (it_steps), .int (it_faultAt), .int (it_mover)])), (qt_now, .inl (cy.1, 639, .inl (ft_now))), (qt_past, .inl (cy.1, 3195, .inl (ft_past)))] H := hP
    have hD : va_D A [(qt, .inr (11, [.ref qt_now, .ref qt_past, .int ((it_saved - (1 : Int32))), .ref xt_text, .int (it_length), .ref xt_doors, .int (it_doorMany), .ref xt_label, .int (it_drawn), .ref xt_far, .ref xt_ring, .int (it_walker), .int (it_from), .ref xt_was, .int (it_steps), .int (it_faultAt), .int (it_mover)])), (qt_now, .inl (cy.1, 639, .inl (ft_now))), (qt_past, .inl (cy.1, 3195, .inl (ft_past)))] := hD
    refine lv_iconst (v := (0 : Int32)) hx hb dX11_undo_20 (by decide) ?_
    refine lv_istore_n (lv' := [(1, .int (0 : Int32)), (0, .ref qt)]) hx hb dX11_undo_21 rfl hl (by decide) rfl (fun ls hl => ?_)
    exact B22 N ((0 : Int32)) ((it_saved - (1 : Int32))) (ft_now) _ _ (hP.sub [0, 1, 2] rfl) (hD.sub [0, 1, 2] (by decide) rfl) hS _ (lv_sub hl [1, 0] rfl) hf
  · rw [if_pos hc_4] at hf
    refine lv_bipush (v := (-2 : Int32)) hx hb dX11_undo_7 (by decide) ?_
    cases hf
    subst hQ
    exact kiret hx hb hr hlocks hK (hP.sub [0, 1, 2] rfl) (hD.sub [0, 1, 2] (by decide) rfl) hS rfl dX11_undo_9
theorem hdX11_undo : yX11_undo.cls = RX11 ∧ yX11_undo.cls ≠ "java/lang/invoke/MethodHandle" ∧ yX11_undo.cls ≠ "java/lang/invoke/VarHandle" ∧ (parseMethodDescriptor yX11_undo.desc).map (fun d => d.parameters.length) = some 0 := by decide +kernel
noncomputable def f_X11_cells (ft_now : Nat → Int32) : Option (Int32) :=
  some (((6 : Int32) * (t_X11_wide (ft_now))))
abbrev rm_X11_cells : Room := { frames := 1, cells := 0, slots := 0, locals := 20 }
set_option maxHeartbeats 4000000 in
set_option maxRecDepth 100000 in
theorem c_X11_cells (l : Launch) (dC : Nat → ClassId) (dI : Nat → Nat → Nat) (cy : gC) (G : gT) (sz : Nat) (qt : Nat) (qt_now : Nat) (xt_past : Nat) (xt_text : Nat) (xt_doors : Nat) (xt_label : Nat) (xt_far : Nat) (xt_ring : Nat) (xt_was : Nat) (it_saved : Int32) (it_length : Int32) (it_doorMany : Int32) (it_drawn : Int32) (it_walker : Int32) (it_from : Int32) (it_steps : Int32) (it_faultAt : Int32) (it_mover : Int32) (ft_now : Nat → Int32) (out : Int32) (hf : f_X11_cells ft_now = some out) : Met l yX11_cells wsX11_cells rm_X11_cells (va_Pc [.ref qt] (kP (dC, dI) cy G [(qt, .inr (11, [.ref qt_now, .ref xt_past, .int (it_saved), .ref xt_text, .int (it_length), .ref xt_doors, .int (it_doorMany), .ref xt_label, .int (it_drawn), .ref xt_far, .ref xt_ring, .int (it_walker), .int (it_from), .ref xt_was, .int (it_steps), .int (it_faultAt), .int (it_mover)])), (qt_now, .inl (cy.1, 639, .inl (ft_now)))] sz)) (va_Qi (fun r (_ : Unit) => r = out) (fun _ => kQ (dC, dI) cy [(qt, .inr (11, [.ref qt_now, .ref xt_past, .int (it_saved), .ref xt_text, .int (it_length), .ref xt_doors, .int (it_doorMany), .ref xt_label, .int (it_drawn), .ref xt_far, .ref xt_ring, .int (it_walker), .int (it_from), .ref xt_was, .int (it_steps), .int (it_faultAt), .int (it_mover)])), (qt_now, .inl (cy.1, 639, .inl (ft_now)))] (va_A [(qt, .inr (11, [.ref qt_now, .ref xt_past, .int (it_saved), .ref xt_text, .int (it_length), .ref xt_doors, .int (it_doorMany), .ref xt_label, .int (it_drawn), .ref xt_far, .ref xt_ring, .int (it_walker), .int (it_from), .ref xt_was, .int (it_steps), .int (it_faultAt), .int (it_mover)])), (qt_now, .inl (cy.1, 639, .inl (ft_now)))] sz)) (va_A [(qt, .inr (11, [.ref qt_now, .ref xt_past, .int (it_saved), .ref xt_text, .int (it_length), .ref xt_doors, .int (it_doorMany), .ref xt_label, .int (it_drawn), .ref xt_far, .ref xt_ring, .int (it_walker), .int (it_from), .ref xt_was, .int (it_steps), .int (it_faultAt), .int (it_mover)])), (qt_now, .inl (cy.1, 639, .inl (ft_now)))] sz)) 0 0 (va_A [(qt, .inr (11, [.ref qt_now, .ref xt_past, .int (it_saved), .ref xt_text, .int (it_length), .ref xt_doors, .int (it_doorMany), .ref xt_label, .int (it_drawn), .ref xt_far, .ref xt_ring, .int (it_walker), .int (it_from), .ref xt_was, .int (it_steps), .int (it_faultAt), .int (it_mover)])), (qt_now, .inl (cy.1, 639, .inl (ft_now)))] sz) := by
  refine Met.ofW (cc := cX11_cells) (maxL := 1) (ret := (some .int)) (by decide) rfl ?_
  intro p e s m args below meth c s₁ B hml hv
  obtain ⟨rfl, hsz, hP, hK, hD0, hG⟩ := hv
  have hx := B.exec
  have hb := B.bytes
  have hr := B.returns
  have hts := atoms_spec (ws := wsX11_cells) B.pre
  have hown : s.vm.findClass RX11 = some m.cls := findClass_of_methodNamed B.named
  have hlocks := B.notSynchronized
  subst hsz
  have hD := hD0.self (sz := s.heap.size)
  generalize hAe : va_A [(qt, .inr (11, [.ref qt_now, .ref xt_past, .int (it_saved), .ref xt_text, .int (it_length), .ref xt_doors, .int (it_doorMany), .ref xt_label, .int (it_drawn), .ref xt_far, .ref xt_ring, .int (it_walker), .int (it_from), .ref xt_was, .int (it_steps), .int (it_faultAt), .int (it_mover)])), (qt_now, .inl (cy.1, 639, .inl (ft_now)))] s.heap.size = A at hD hG ⊢
  have hA : ∀ q : Nat, s.heap.size ≤ q → A q := fun q h => by rw [← hAe]; exact Or.inr h
  have hS : va_S A s.heap s.heap [] := va_S.rf
  have hP : va_P (dC, dI) vwCl [(qt, .inr (11, [.ref qt_now, .ref xt_past, .int (it_saved), .ref xt_text, .int (it_length), .ref xt_doors, .int (it_doorMany), .ref xt_label, .int (it_drawn), .ref xt_far, .ref xt_ring, .int (it_walker), .int (it_from), .ref xt_was, .int (it_steps), .int (it_faultAt), .int (it_mover)])), (qt_now, .inl (cy.1, 639, .inl (ft_now)))] s.heap := hP
  have hl := lv_entry ([.ref qt]) (n := 1) (Nat.le_of_ble_eq_true rfl)
  rw [lg_entry_eq]
  generalize (lg_sl ([.ref qt]) ++ List.replicate (1 - (lg_sl ([.ref qt])).length) Slot.unset).toArray = ls at hl ⊢
  have hl : lv_has ls 1 [(0, .ref qt)] := hl
  refine kgen (fun Q hQ => ?_)
  rw [f_X11_cells] at hf
  refine lv_bipush (v := (6 : Int32)) hx hb dX11_cells_0 (by decide) ?_
  refine lv_aload_n hx hb dX11_cells_2 rfl (lv_at hl 0 rfl) ?_
  refine kcalli (wc := [(qt, .inr (11, [.ref qt_now, .ref xt_past, .int (it_saved), .ref xt_text, .int (it_length), .ref xt_doors, .int (it_doorMany), .ref xt_label, .int (it_drawn), .ref xt_far, .ref xt_ring, .int (it_walker), .int (it_from), .ref xt_was, .int (it_steps), .int (it_faultAt), .int (it_mover)])), (qt_now, .inl (cy.1, 639, .inl (ft_now)))]) (wr := []) (w1 := [(qt, .inr (11, [.ref qt_now, .ref xt_past, .int (it_saved), .ref xt_text, .int (it_length), .ref xt_doors, .int (it_doorMany), .ref xt_label, .int (it_drawn), .ref xt_far, .ref xt_ring, .int (it_walker), .int (it_from), .ref xt_was, .int (it_steps), .int (it_faultAt), .int (it_mover)])), (qt_now, .inl (cy.1, 639, .inl (ft_now)))]) hK hP hD hS hA hG [0, 1] [] rfl rfl rfl rfl rfl (fun hU hPc => va_runV (As := []) (rest := [.int (6 : Int32)]) ⟨hx, hb, hml, hown, hts⟩ (c_X11_wide l dC dI cy G s.heap.size qt qt_now xt_past xt_text xt_doors xt_label xt_far xt_ring xt_was (it_saved) (it_length) (it_doorMany) (it_drawn) (it_walker) (it_from) (it_steps) (it_faultAt) (it_mover) (ft_now) (t_X11_wide (ft_now)) (tot_X11_wide (ft_now))) (cwV 0 hts gX11_cells_X11_wide rfl rfl rfl hdX11_wide ⟨Nat.le_of_ble_eq_true rfl, Nat.le_of_ble_eq_true rfl⟩) ⟨kBlind, (va_recv hK hP (ci := 11) (q0 := 0) rfl rfl), fun U h1 h2 => ⟨rfl, hU U h1 h2⟩⟩ rfl rfl hl.1 rfl (lv_room (Nat.le_of_ble_eq_true rfl)) dX11_cells_3 ⟨Nat.zero_le _, Nat.zero_le _⟩) ((t_X11_wide (ft_now))) (fun _ _ h => h) (fun _ _ h => h) (fun H locs hP hD hS => ?_)
  have hP : va_P (dC, dI) vwCl [(qt, .inr (11, [.ref qt_now, .ref xt_past, .int (it_saved), .ref xt_text, .int (it_length), .ref xt_doors, .int (it_doorMany), .ref xt_label, .int (it_drawn), .ref xt_far, .ref xt_ring, .int (it_walker), .int (it_from), .ref xt_was, .int (it_steps), .int (it_faultAt), .int (it_mover)])), (qt_now, .inl (cy.1, 639, .inl (ft_now)))] H := hP
  have hD : va_D A [(qt, .inr (11, [.ref qt_now, .ref xt_past, .int (it_saved), .ref xt_text, .int (it_length), .ref xt_doors, .int (it_doorMany), .ref xt_label, .int (it_drawn), .ref xt_far, .ref xt_ring, .int (it_walker), .int (it_from), .ref xt_was, .int (it_steps), .int (it_faultAt), .int (it_mover)])), (qt_now, .inl (cy.1, 639, .inl (ft_now)))] := hD
  refine lv_imul hx hb dX11_cells_6 ?_
  cases hf
  subst hQ
  exact kiret hx hb hr hlocks hK (hP.sub [0, 1] rfl) (hD.sub [0, 1] (by decide) rfl) hS rfl dX11_cells_7
theorem hdX11_cells : yX11_cells.cls = RX11 ∧ yX11_cells.cls ≠ "java/lang/invoke/MethodHandle" ∧ yX11_cells.cls ≠ "java/lang/invoke/VarHandle" ∧ (parseMethodDescriptor yX11_cells.desc).map (fun d => d.parameters.length) = some 0 := by decide +kernel
noncomputable def t_X11_cells (ft_now : Nat → Int32) : Int32 :=
  ((6 : Int32) * (t_X11_wide (ft_now)))
theorem tot_X11_cells (ft_now : Nat → Int32) : f_X11_cells ft_now = some (t_X11_cells ft_now) := by
  simp only [f_X11_cells, t_X11_cells]
noncomputable def f_X11_hasRoom (ft_now : Nat → Int32) (va1 : Int32) : Option (Int32) :=
  if (t_X11_in (va1) ((0 : Int32)) (((t_X11_cells (ft_now)) - (1 : Int32)))) = 0 then
    some ((0 : Int32))
  else
    bnd1 (f_X11_isRoomAt (ft_now) (va1)) fun r16 =>
    if r16 = 0 then
      some ((0 : Int32))
    else
      some ((1 : Int32))
abbrev rm_X11_hasRoom : Room := { frames := 3, cells := 0, slots := 0, locals := 67 }
set_option maxHeartbeats 4000000 in
set_option maxRecDepth 100000 in
theorem c_X11_hasRoom (l : Launch) (dC : Nat → ClassId) (dI : Nat → Nat → Nat) (cy : gC) (G : gT) (sz : Nat) (qt : Nat) (qt_now : Nat) (xt_past : Nat) (xt_text : Nat) (xt_doors : Nat) (xt_label : Nat) (xt_far : Nat) (xt_ring : Nat) (xt_was : Nat) (it_saved : Int32) (it_length : Int32) (it_doorMany : Int32) (it_drawn : Int32) (it_walker : Int32) (it_from : Int32) (it_steps : Int32) (it_faultAt : Int32) (it_mover : Int32) (ft_now : Nat → Int32) (va1 : Int32) (out : Int32) (hf : f_X11_hasRoom ft_now va1 = some out) : Met l yX11_hasRoom wsX11_hasRoom rm_X11_hasRoom (va_Pc [.ref qt, .int va1] (kP (dC, dI) cy G [(qt, .inr (11, [.ref qt_now, .ref xt_past, .int (it_saved), .ref xt_text, .int (it_length), .ref xt_doors, .int (it_doorMany), .ref xt_label, .int (it_drawn), .ref xt_far, .ref xt_ring, .int (it_walker), .int (it_from), .ref xt_was, .int (it_steps), .int (it_faultAt), .int (it_mover)])), (qt_now, .inl (cy.1, 639, .inl (ft_now)))] sz)) (va_Qi (fun r (_ : Unit) => r = out) (fun _ => kQ (dC, dI) cy [(qt, .inr (11, [.ref qt_now, .ref xt_past, .int (it_saved), .ref xt_text, .int (it_length), .ref xt_doors, .int (it_doorMany), .ref xt_label, .int (it_drawn), .ref xt_far, .ref xt_ring, .int (it_walker), .int (it_from), .ref xt_was, .int (it_steps), .int (it_faultAt), .int (it_mover)])), (qt_now, .inl (cy.1, 639, .inl (ft_now)))] (va_A [(qt, .inr (11, [.ref qt_now, .ref xt_past, .int (it_saved), .ref xt_text, .int (it_length), .ref xt_doors, .int (it_doorMany), .ref xt_label, .int (it_drawn), .ref xt_far, .ref xt_ring, .int (it_walker), .int (it_from), .ref xt_was, .int (it_steps), .int (it_faultAt), .int (it_mover)])), (qt_now, .inl (cy.1, 639, .inl (ft_now)))] sz)) (va_A [(qt, .inr (11, [.ref qt_now, .ref xt_past, .int (it_saved), .ref xt_text, .int (it_length), .ref xt_doors, .int (it_doorMany), .ref xt_label, .int (it_drawn), .ref xt_far, .ref xt_ring, .int (it_walker), .int (it_from), .ref xt_was, .int (it_steps), .int (it_faultAt), .int (it_mover)])), (qt_now, .inl (cy.1, 639, .inl (ft_now)))] sz)) 0 0 (va_A [(qt, .inr (11, [.ref qt_now, .ref xt_past, .int (it_saved), .ref xt_text, .int (it_length), .ref xt_doors, .int (it_doorMany), .ref xt_label, .int (it_drawn), .ref xt_far, .ref xt_ring, .int (it_walker), .int (it_from), .ref xt_was, .int (it_steps), .int (it_faultAt), .int (it_mover)])), (qt_now, .inl (cy.1, 639, .inl (ft_now)))] sz) := by
  refine Met.ofW (cc := cX11_hasRoom) (maxL := 2) (ret := (some .boolean)) (by decide) rfl ?_
  intro p e s m args below meth c s₁ B hml hv
  obtain ⟨rfl, hsz, hP, hK, hD0, hG⟩ := hv
  have hx := B.exec
  have hb := B.bytes
  have hr := B.returns
  have hts := atoms_spec (ws := wsX11_hasRoom) B.pre
  have hown : s.vm.findClass RX11 = some m.cls := findClass_of_methodNamed B.named
  have hlocks := B.notSynchronized
  subst hsz
  have hD := hD0.self (sz := s.heap.size)
  generalize hAe : va_A [(qt, .inr (11, [.ref qt_now, .ref xt_past, .int (it_saved), .ref xt_text, .int (it_length), .ref xt_doors, .int (it_doorMany), .ref xt_label, .int (it_drawn), .ref xt_far, .ref xt_ring, .int (it_walker), .int (it_from), .ref xt_was, .int (it_steps), .int (it_faultAt), .int (it_mover)])), (qt_now, .inl (cy.1, 639, .inl (ft_now)))] s.heap.size = A at hD hG ⊢
  have hA : ∀ q : Nat, s.heap.size ≤ q → A q := fun q h => by rw [← hAe]; exact Or.inr h
  have hS : va_S A s.heap s.heap [] := va_S.rf
  have hP : va_P (dC, dI) vwCl [(qt, .inr (11, [.ref qt_now, .ref xt_past, .int (it_saved), .ref xt_text, .int (it_length), .ref xt_doors, .int (it_doorMany), .ref xt_label, .int (it_drawn), .ref xt_far, .ref xt_ring, .int (it_walker), .int (it_from), .ref xt_was, .int (it_steps), .int (it_faultAt), .int (it_mover)])), (qt_now, .inl (cy.1, 639, .inl (ft_now)))] s.heap := hP
  have hl := lv_entry ([.ref qt, .int va1]) (n := 2) (Nat.le_of_ble_eq_true rfl)
  rw [lg_entry_eq]
  generalize (lg_sl ([.ref qt, .int va1]) ++ List.replicate (2 - (lg_sl ([.ref qt, .int va1])).length) Slot.unset).toArray = ls at hl ⊢
  have hl : lv_has ls 2 [(0, .ref qt), (1, .int va1)] := hl
  refine kgen (fun Q hQ => ?_)
  rw [f_X11_hasRoom] at hf
  refine lv_iload_n hx hb dX11_hasRoom_0 rfl (lv_at hl 1 rfl) ?_
  refine lv_iconst (v := (0 : Int32)) hx hb dX11_hasRoom_1 (by decide) ?_
  refine lv_aload_n hx hb dX11_hasRoom_2 rfl (lv_at hl 0 rfl) ?_
  refine kcalli (wc := [(qt, .inr (11, [.ref qt_now, .ref xt_past, .int (it_saved), .ref xt_text, .int (it_length), .ref xt_doors, .int (it_doorMany), .ref xt_label, .int (it_drawn), .ref xt_far, .ref xt_ring, .int (it_walker), .int (it_from), .ref xt_was, .int (it_steps), .int (it_faultAt), .int (it_mover)])), (qt_now, .inl (cy.1, 639, .inl (ft_now)))]) (wr := []) (w1 := [(qt, .inr (11, [.ref qt_now, .ref xt_past, .int (it_saved), .ref xt_text, .int (it_length), .ref xt_doors, .int (it_doorMany), .ref xt_label, .int (it_drawn), .ref xt_far, .ref xt_ring, .int (it_walker), .int (it_from), .ref xt_was, .int (it_steps), .int (it_faultAt), .int (it_mover)])), (qt_now, .inl (cy.1, 639, .inl (ft_now)))]) hK hP hD hS hA hG [0, 1] [] rfl rfl rfl rfl rfl (fun hU hPc => va_runV (As := []) (rest := [.int (0 : Int32), .int va1]) ⟨hx, hb, hml, hown, hts⟩ (c_X11_cells l dC dI cy G s.heap.size qt qt_now xt_past xt_text xt_doors xt_label xt_far xt_ring xt_was (it_saved) (it_length) (it_doorMany) (it_drawn) (it_walker) (it_from) (it_steps) (it_faultAt) (it_mover) (ft_now) (t_X11_cells (ft_now)) (tot_X11_cells (ft_now))) (cwV 0 hts gX11_hasRoom_X11_cells rfl rfl rfl hdX11_cells ⟨Nat.le_of_ble_eq_true rfl, Nat.le_of_ble_eq_true rfl⟩) ⟨kBlind, (va_recv hK hP (ci := 11) (q0 := 0) rfl rfl), fun U h1 h2 => ⟨rfl, hU U h1 h2⟩⟩ rfl rfl hl.1 rfl (lv_room (Nat.le_of_ble_eq_true rfl)) dX11_hasRoom_3 ⟨Nat.zero_le _, Nat.zero_le _⟩) ((t_X11_cells (ft_now))) (fun _ _ h => h) (fun _ _ h => h) (fun H locs hP hD hS => ?_)
  have hP : va_P (dC, dI) vwCl [(qt, .inr (11, [.ref qt_now, .ref xt_past, .int (it_saved), .ref xt_text, .int (it_length), .ref xt_doors, .int (it_doorMany), .ref xt_label, .int (it_drawn), .ref xt_far, .ref xt_ring, .int (it_walker), .int (it_from), .ref xt_was, .int (it_steps), .int (it_faultAt), .int (it_mover)])), (qt_now, .inl (cy.1, 639, .inl (ft_now)))] H := hP
  have hD : va_D A [(qt, .inr (11, [.ref qt_now, .ref xt_past, .int (it_saved), .ref xt_text, .int (it_length), .ref xt_doors, .int (it_doorMany), .ref xt_label, .int (it_drawn), .ref xt_far, .ref xt_ring, .int (it_walker), .int (it_from), .ref xt_was, .int (it_steps), .int (it_faultAt), .int (it_mover)])), (qt_now, .inl (cy.1, 639, .inl (ft_now)))] := hD
  refine lv_iconst (v := (1 : Int32)) hx hb dX11_hasRoom_6 (by decide) ?_
  refine lv_isub hx hb dX11_hasRoom_7 ?_
  refine kcalli (wc := []) (wr := [(qt, .inr (11, [.ref qt_now, .ref xt_past, .int (it_saved), .ref xt_text, .int (it_length), .ref xt_doors, .int (it_doorMany), .ref xt_label, .int (it_drawn), .ref xt_far, .ref xt_ring, .int (it_walker), .int (it_from), .ref xt_was, .int (it_steps), .int (it_faultAt), .int (it_mover)])), (qt_now, .inl (cy.1, 639, .inl (ft_now)))]) (w1 := []) hK hP hD hS hA hG [] [0, 1] rfl rfl rfl rfl rfl (fun hU hPc => va_runS (As := [.int va1, .int (0 : Int32), .int ((t_X11_cells (ft_now)) - (1 : Int32))]) (rest := []) ⟨hx, hb, hml, hown, hts⟩ (c_X11_in l dC dI cy G H.size (va1) ((0 : Int32)) (((t_X11_cells (ft_now)) - (1 : Int32))) (t_X11_in (va1) ((0 : Int32)) (((t_X11_cells (ft_now)) - (1 : Int32)))) (tot_X11_in (va1) ((0 : Int32)) (((t_X11_cells (ft_now)) - (1 : Int32))))) (va_cwS 3 hts gX11_hasRoom_X11_in rfl rfl rfl hdX11_in.2 ⟨Nat.le_of_ble_eq_true rfl, Nat.le_of_ble_eq_true rfl⟩) ⟨kBlind, fun U h1 h2 => ⟨rfl, hU U h1 h2⟩⟩ rfl rfl hl.1 rfl (lv_room (Nat.le_of_ble_eq_true rfl)) dX11_hasRoom_8 ⟨Nat.zero_le _, Nat.zero_le _⟩) ((t_X11_in (va1) ((0 : Int32)) (((t_X11_cells (ft_now)) - (1 : Int32))))) (fun _ _ h => h) (fun _ _ h => h) (fun H locs hP hD hS => ?_)
  have hP : va_P (dC, dI) vwCl [(qt, .inr (11, [.ref qt_now, .ref xt_past, .int (it_saved), .ref xt_text, .int (it_length), .ref xt_doors, .int (it_doorMany), .ref xt_label, .int (it_drawn), .ref xt_far, .ref xt_ring, .int (it_walker), .int (it_from), .ref xt_was, .int (it_steps), .int (it_faultAt), .int (it_mover)])), (qt_now, .inl (cy.1, 639, .inl (ft_now)))] H := hP
  have hD : va_D A [(qt, .inr (11, [.ref qt_now, .ref xt_past, .int (it_saved), .ref xt_text, .int (it_length), .ref xt_doors, .int (it_doorMany), .ref xt_label, .int (it_drawn), .ref xt_far, .ref xt_ring, .int (it_walker), .int (it_from), .ref xt_was, .int (it_steps), .int (it_faultAt), .int (it_mover)])), (qt_now, .inl (cy.1, 639, .inl (ft_now)))] := hD
  refine lv_if_eq (tgt := 26) hx hb dX11_hasRoom_11 (by decide) (fun hc_11 => ?_) (fun hc_11 => ?_)
  · rw [if_pos hc_11] at hf
    refine lv_iconst (v := (0 : Int32)) hx hb dX11_hasRoom_26 (by decide) ?_
    cases hf
    subst hQ
    exact kzret hx hb hr hlocks rfl hK (hP.sub [0, 1] rfl) (hD.sub [0, 1] (by decide) rfl) hS rfl dX11_hasRoom_27
  · rw [if_neg hc_11] at hf
    refine lv_aload_n hx hb dX11_hasRoom_14 rfl (lv_at hl 0 rfl) ?_
    refine lv_iload_n hx hb dX11_hasRoom_15 rfl (lv_at hl 1 rfl) ?_
    obtain ⟨r16, hq_16, hf⟩ := bnd1_s hf
    refine kcalli (wc := [(qt, .inr (11, [.ref qt_now, .ref xt_past, .int (it_saved), .ref xt_text, .int (it_length), .ref xt_doors, .int (it_doorMany), .ref xt_label, .int (it_drawn), .ref xt_far, .ref xt_ring, .int (it_walker), .int (it_from), .ref xt_was, .int (it_steps), .int (it_faultAt), .int (it_mover)])), (qt_now, .inl (cy.1, 639, .inl (ft_now)))]) (wr := []) (w1 := [(qt, .inr (11, [.ref qt_now, .ref xt_past, .int (it_saved), .ref xt_text, .int (it_length), .ref xt_doors, .int (it_doorMany), .ref xt_label, .int (it_drawn), .ref xt_far, .ref xt_ring, .int (it_walker), .int (it_from), .ref xt_was, .int (it_steps), .int (it_faultAt), .int (it_mover)])), (qt_now, .inl (cy.1, 639, .inl (ft_now)))]) hK hP hD hS hA hG [0, 1] [] rfl rfl rfl rfl rfl (fun hU hPc => va_runV (As := [.int va1]) (rest := []) ⟨hx, hb, hml, hown, hts⟩ (c_X11_isRoomAt l dC dI cy G H.size qt qt_now xt_past xt_text xt_doors xt_label xt_far xt_ring xt_was (it_saved) (it_length) (it_doorMany) (it_drawn) (it_walker) (it_from) (it_steps) (it_faultAt) (it_mover) (ft_now) (va1) r16 hq_16) (cwV 1 hts gX11_hasRoom_X11_isRoomAt rfl rfl rfl hdX11_isRoomAt ⟨Nat.le_of_ble_eq_true rfl, Nat.le_of_ble_eq_true rfl⟩) ⟨kBlind, (va_recv hK hP (ci := 11) (q0 := 0) rfl rfl), fun U h1 h2 => ⟨rfl, hU U h1 h2⟩⟩ rfl rfl hl.1 rfl (lv_room (Nat.le_of_ble_eq_true rfl)) dX11_hasRoom_16 ⟨Nat.zero_le _, Nat.zero_le _⟩) (r16) (fun _ _ h => h) (fun _ _ h => h) (fun H locs hP hD hS => ?_)
    have hP : va_P (dC, dI) vwCl [(qt, .inr (11, [.ref qt_now, .ref xt_past, .int (it_saved), .ref xt_text, .int (it_length), .ref xt_doors, .int (it_doorMany), .ref xt_label, .int (it_drawn), .ref xt_far, .ref xt_ring, .int (it_walker), .int (it_from), .ref xt_was, .int (it_steps), .int (it_faultAt), .int (it_mover)])), (qt_now, .inl (cy.1, 639, .inl (ft_now)))] H := hP
    have hD : va_D A [(qt, .inr (11, [.ref qt_now, .ref xt_past, .int (it_saved), .ref xt_text, .int (it_length), .ref xt_doors, .int (it_doorMany), .ref xt_label, .int (it_drawn), .ref xt_far, .ref xt_ring, .int (it_walker), .int (it_from), .ref xt_was, .int (it_steps), .int (it_faultAt), .int (it_mover)])), (qt_now, .inl (cy.1, 639, .inl (ft_now)))] := hD
    refine lv_if_eq (tgt := 26) hx hb dX11_hasRoom_19 (by decide) (fun hc_19 => ?_) (fun hc_19 => ?_)
    · rw [if_pos hc_19] at hf
      refine lv_iconst (v := (0 : Int32)) hx hb dX11_hasRoom_26 (by decide) ?_
      cases hf
      subst hQ
      exact kzret hx hb hr hlocks rfl hK (hP.sub [0, 1] rfl) (hD.sub [0, 1] (by decide) rfl) hS rfl dX11_hasRoom_27
    · rw [if_neg hc_19] at hf
      refine lv_iconst (v := (1 : Int32)) hx hb dX11_hasRoom_22 (by decide) ?_
      refine lv_goto (tgt := 27) hx hb dX11_hasRoom_23 (by decide) ?_
      cases hf
      subst hQ
      exact kzret hx hb hr hlocks rfl hK (hP.sub [0, 1] rfl) (hD.sub [0, 1] (by decide) rfl) hS rfl dX11_hasRoom_27
theorem hdX11_hasRoom : yX11_hasRoom.cls = RX11 ∧ yX11_hasRoom.cls ≠ "java/lang/invoke/MethodHandle" ∧ yX11_hasRoom.cls ≠ "java/lang/invoke/VarHandle" ∧ (parseMethodDescriptor yX11_hasRoom.desc).map (fun d => d.parameters.length) = some 1 := by decide +kernel
noncomputable def b_X11_rooms_4 (N : Nat) (ft_now : Nat → Int32) : Nat → Int32 → Int32 → Option (Int32)
  | 0, _, _ => none
  | n + 1, l1, l2 =>
    if (t_X11_cells (ft_now)) ≤ l2 then
      some (l1)
    else
      bnd1 (f_X11_isRoomAt (ft_now) (l2)) fun r15 =>
      if r15 = 0 then
        b_X11_rooms_4 N ft_now n ((l1 + (0 : Int32))) ((l2 + (1 : Int32)))
      else
        b_X11_rooms_4 N ft_now n ((l1 + (1 : Int32))) ((l2 + (1 : Int32)))
noncomputable def f_X11_rooms (N : Nat) (ft_now : Nat → Int32) : Option (Int32) :=
  b_X11_rooms_4 N ft_now N ((0 : Int32)) ((0 : Int32))
abbrev rm_X11_rooms : Room := { frames := 3, cells := 0, slots := 0, locals := 67 }
set_option maxHeartbeats 4000000 in
set_option maxRecDepth 100000 in
theorem c_X11_rooms (l : Launch) (dC : Nat → ClassId) (dI : Nat → Nat → Nat) (cy : gC) (G : gT) (sz : Nat) (qt : Nat) (qt_now : Nat) (xt_past : Nat) (xt_text : Nat) (xt_doors : Nat) (xt_label : Nat) (xt_far : Nat) (xt_ring : Nat) (xt_was : Nat) (it_saved : Int32) (it_length : Int32) (it_doorMany : Int32) (it_drawn : Int32) (it_walker : Int32) (it_from : Int32) (it_steps : Int32) (it_faultAt : Int32) (it_mover : Int32) (N : Nat) (ft_now : Nat → Int32) (out : Int32) (hf : f_X11_rooms N ft_now = some out) : Met l yX11_rooms wsX11_rooms rm_X11_rooms (va_Pc [.ref qt] (kP (dC, dI) cy G [(qt, .inr (11, [.ref qt_now, .ref xt_past, .int (it_saved), .ref xt_text, .int (it_length), .ref xt_doors, .int (it_doorMany), .ref xt_label, .int (it_drawn), .ref xt_far, .ref xt_ring, .int (it_walker), .int (it_from), .ref xt_was, .int (it_steps), .int (it_faultAt), .int (it_mover)])), (qt_now, .inl (cy.1, 639, .inl (ft_now)))] sz)) (va_Qi (fun r (_ : Unit) => r = out) (fun _ => kQ (dC, dI) cy [(qt, .inr (11, [.ref qt_now, .ref xt_past, .int (it_saved), .ref xt_text, .int (it_length), .ref xt_doors, .int (it_doorMany), .ref xt_label, .int (it_drawn), .ref xt_far, .ref xt_ring, .int (it_walker), .int (it_from), .ref xt_was, .int (it_steps), .int (it_faultAt), .int (it_mover)])), (qt_now, .inl (cy.1, 639, .inl (ft_now)))] (va_A [(qt, .inr (11, [.ref qt_now, .ref xt_past, .int (it_saved), .ref xt_text, .int (it_length), .ref xt_doors, .int (it_doorMany), .ref xt_label, .int (it_drawn), .ref xt_far, .ref xt_ring, .int (it_walker), .int (it_from), .ref xt_was, .int (it_steps), .int (it_faultAt), .int (it_mover)])), (qt_now, .inl (cy.1, 639, .inl (ft_now)))] sz)) (va_A [(qt, .inr (11, [.ref qt_now, .ref xt_past, .int (it_saved), .ref xt_text, .int (it_length), .ref xt_doors, .int (it_doorMany), .ref xt_label, .int (it_drawn), .ref xt_far, .ref xt_ring, .int (it_walker), .int (it_from), .ref xt_was, .int (it_steps), .int (it_faultAt), .int (it_mover)])), (qt_now, .inl (cy.1, 639, .inl (ft_now)))] sz)) 0 0 (va_A [(qt, .inr (11, [.ref qt_now, .ref xt_past, .int (it_saved), .ref xt_text, .int (it_length), .ref xt_doors, .int (it_doorMany), .ref xt_label, .int (it_drawn), .ref xt_far, .ref xt_ring, .int (it_walker), .int (it_from), .ref xt_was, .int (it_steps), .int (it_faultAt), .int (it_mover)])), (qt_now, .inl (cy.1, 639, .inl (ft_now)))] sz) := by
  refine Met.ofW (cc := cX11_rooms) (maxL := 3) (ret := (some .int)) (by decide) rfl ?_
  intro p e s m args below meth c s₁ B hml hv
  obtain ⟨rfl, hsz, hP, hK, hD0, hG⟩ := hv
  have hx := B.exec
  have hb := B.bytes
  have hr := B.returns
  have hts := atoms_spec (ws := wsX11_rooms) B.pre
  have hown : s.vm.findClass RX11 = some m.cls := findClass_of_methodNamed B.named
  have hlocks := B.notSynchronized
  subst hsz
  have hD := hD0.self (sz := s.heap.size)
  generalize hAe : va_A [(qt, .inr (11, [.ref qt_now, .ref xt_past, .int (it_saved), .ref xt_text, .int (it_length), .ref xt_doors, .int (it_doorMany), .ref xt_label, .int (it_drawn), .ref xt_far, .ref xt_ring, .int (it_walker), .int (it_from), .ref xt_was, .int (it_steps), .int (it_faultAt), .int (it_mover)])), (qt_now, .inl (cy.1, 639, .inl (ft_now)))] s.heap.size = A at hD hG ⊢
  have hA : ∀ q : Nat, s.heap.size ≤ q → A q := fun q h => by rw [← hAe]; exact Or.inr h
  have hS : va_S A s.heap s.heap [] := va_S.rf
  have hP : va_P (dC, dI) vwCl [(qt, .inr (11, [.ref qt_now, .ref xt_past, .int (it_saved), .ref xt_text, .int (it_length), .ref xt_doors, .int (it_doorMany), .ref xt_label, .int (it_drawn), .ref xt_far, .ref xt_ring, .int (it_walker), .int (it_from), .ref xt_was, .int (it_steps), .int (it_faultAt), .int (it_mover)])), (qt_now, .inl (cy.1, 639, .inl (ft_now)))] s.heap := hP
  have hl := lv_entry ([.ref qt]) (n := 3) (Nat.le_of_ble_eq_true rfl)
  rw [lg_entry_eq]
  generalize (lg_sl ([.ref qt]) ++ List.replicate (3 - (lg_sl ([.ref qt])).length) Slot.unset).toArray = ls at hl ⊢
  have hl : lv_has ls 3 [(0, .ref qt)] := hl
  refine kgen (fun Q hQ => ?_)
  have B4 : ∀ (n4 : Nat) (l1 : Int32) (l2 : Int32) (H : Heap) (locs : List Loc), va_P (dC, dI) vwCl [(qt, .inr (11, [.ref qt_now, .ref xt_past, .int (it_saved), .ref xt_text, .int (it_length), .ref xt_doors, .int (it_doorMany), .ref xt_label, .int (it_drawn), .ref xt_far, .ref xt_ring, .int (it_walker), .int (it_from), .ref xt_was, .int (it_steps), .int (it_faultAt), .int (it_mover)])), (qt_now, .inl (cy.1, 639, .inl (ft_now)))] H → va_D A [(qt, .inr (11, [.ref qt_now, .ref xt_past, .int (it_saved), .ref xt_text, .int (it_length), .ref xt_doors, .int (it_doorMany), .ref xt_label, .int (it_drawn), .ref xt_far, .ref xt_ring, .int (it_walker), .int (it_from), .ref xt_was, .int (it_steps), .int (it_faultAt), .int (it_mover)])), (qt_now, .inl (cy.1, 639, .inl (ft_now)))] → va_S A s.heap H locs → ∀ (ls : Array Slot), lv_has ls 3 [(0, .ref qt), (1, .int l1), (2, .int l2)] → b_X11_rooms_4 N ft_now n4 l1 l2 = some out → W p l e (headSpec wsX11_rooms rm_X11_rooms).room s m ([.ref qt] : List Value).toArray below meth c H locs 0 0 Q (F0 m 4 ls []) := by
    intro n4
    induction n4 with
    | zero => intro l1 l2 H locs hP hD hS ls hl hf; rw [b_X11_rooms_4] at hf; cases hf
    | succ n4 ih4 =>
      intro l1 l2 H locs hP hD hS ls hl hf
      rw [b_X11_rooms_4] at hf
      refine lv_iload_n hx hb dX11_rooms_4 rfl (lv_at hl 2 rfl) ?_
      refine lv_aload_n hx hb dX11_rooms_5 rfl (lv_at hl 0 rfl) ?_
      refine kcalli (wc := [(qt, .inr (11, [.ref qt_now, .ref xt_past, .int (it_saved), .ref xt_text, .int (it_length), .ref xt_doors, .int (it_doorMany), .ref xt_label, .int (it_drawn), .ref xt_far, .ref xt_ring, .int (it_walker), .int (it_from), .ref xt_was, .int (it_steps), .int (it_faultAt), .int (it_mover)])), (qt_now, .inl (cy.1, 639, .inl (ft_now)))]) (wr := []) (w1 := [(qt, .inr (11, [.ref qt_now, .ref xt_past, .int (it_saved), .ref xt_text, .int (it_length), .ref xt_doors, .int (it_doorMany), .ref xt_label, .int (it_drawn), .ref xt_far, .ref xt_ring, .int (it_walker), .int (it_from), .ref xt_was, .int (it_steps), .int (it_faultAt), .int (it_mover)])), (qt_now, .inl (cy.1, 639, .inl (ft_now)))]) hK hP hD hS hA hG [0, 1] [] rfl rfl rfl rfl rfl (fun hU hPc => va_runV (As := []) (rest := [.int l2]) ⟨hx, hb, hml, hown, hts⟩ (c_X11_cells l dC dI cy G H.size qt qt_now xt_past xt_text xt_doors xt_label xt_far xt_ring xt_was (it_saved) (it_length) (it_doorMany) (it_drawn) (it_walker) (it_from) (it_steps) (it_faultAt) (it_mover) (ft_now) (t_X11_cells (ft_now)) (tot_X11_cells (ft_now))) (cwV 0 hts gX11_rooms_X11_cells rfl rfl rfl hdX11_cells ⟨Nat.le_of_ble_eq_true rfl, Nat.le_of_ble_eq_true rfl⟩) ⟨kBlind, (va_recv hK hP (ci := 11) (q0 := 0) rfl rfl), fun U h1 h2 => ⟨rfl, hU U h1 h2⟩⟩ rfl rfl hl.1 rfl (lv_room (Nat.le_of_ble_eq_true rfl)) dX11_rooms_6 ⟨Nat.zero_le _, Nat.zero_le _⟩) ((t_X11_cells (ft_now))) (fun _ _ h => h) (fun _ _ h => h) (fun H locs hP hD hS => ?_)
      have hP : va_P (dC, dI) vwCl [(qt, .inr (11, [.ref qt_now, .ref xt_past, .int (it_saved), .ref xt_text, .int (it_length), .ref xt_doors, .int (it_doorMany), .ref xt_label, .int (it_drawn), .ref xt_far, .ref xt_ring, .int (it_walker), .int (it_from), .ref xt_was, .int (it_steps), .int (it_faultAt), .int (it_mover)])), (qt_now, .inl (cy.1, 639, .inl (ft_now)))] H := hP
      have hD : va_D A [(qt, .inr (11, [.ref qt_now, .ref xt_past, .int (it_saved), .ref xt_text, .int (it_length), .ref xt_doors, .int (it_doorMany), .ref xt_label, .int (it_drawn), .ref xt_far, .ref xt_ring, .int (it_walker), .int (it_from), .ref xt_was, .int (it_steps), .int (it_faultAt), .int (it_mover)])), (qt_now, .inl (cy.1, 639, .inl (ft_now)))] := hD
      refine lv_icmp_ge (tgt := 34) hx hb dX11_rooms_9 (by decide) (fun hc_9 => ?_) (fun hc_9 => ?_)
      · rw [if_pos hc_9] at hf
        refine lv_iload_n hx hb dX11_rooms_34 rfl (lv_at hl 1 rfl) ?_
        cases hf
        subst hQ
        exact kiret hx hb hr hlocks hK (hP.sub [0, 1] rfl) (hD.sub [0, 1] (by decide) rfl) hS rfl dX11_rooms_35
      · rw [if_neg hc_9] at hf
        refine lv_iload_n hx hb dX11_rooms_12 rfl (lv_at hl 1 rfl) ?_
        refine lv_aload_n hx hb dX11_rooms_13 rfl (lv_at hl 0 rfl) ?_
        refine lv_iload_n hx hb dX11_rooms_14 rfl (lv_at hl 2 rfl) ?_
        obtain ⟨r15, hq_15, hf⟩ := bnd1_s hf
        refine kcalli (wc := [(qt, .inr (11, [.ref qt_now, .ref xt_past, .int (it_saved), .ref xt_text, .int (it_length), .ref xt_doors, .int (it_doorMany), .ref xt_label, .int (it_drawn), .ref xt_far, .ref xt_ring, .int (it_walker), .int (it_from), .ref xt_was, .int (it_steps), .int (it_faultAt), .int (it_mover)])), (qt_now, .inl (cy.1, 639, .inl (ft_now)))]) (wr := []) (w1 := [(qt, .inr (11, [.ref qt_now, .ref xt_past, .int (it_saved), .ref xt_text, .int (it_length), .ref xt_doors, .int (it_doorMany), .ref xt_label, .int (it_drawn), .ref xt_far, .ref xt_ring, .int (it_walker), .int (it_from), .ref xt_was, .int (it_steps), .int (it_faultAt), .int (it_mover)])), (qt_now, .inl (cy.1, 639, .inl (ft_now)))]) hK hP hD hS hA hG [0, 1] [] rfl rfl rfl rfl rfl (fun hU hPc => va_runV (As := [.int l2]) (rest := [.int l1]) ⟨hx, hb, hml, hown, hts⟩ (c_X11_isRoomAt l dC dI cy G H.size qt qt_now xt_past xt_text xt_doors xt_label xt_far xt_ring xt_was (it_saved) (it_length) (it_doorMany) (it_drawn) (it_walker) (it_from) (it_steps) (it_faultAt) (it_mover) (ft_now) (l2) r15 hq_15) (cwV 1 hts gX11_rooms_X11_isRoomAt rfl rfl rfl hdX11_isRoomAt ⟨Nat.le_of_ble_eq_true rfl, Nat.le_of_ble_eq_true rfl⟩) ⟨kBlind, (va_recv hK hP (ci := 11) (q0 := 0) rfl rfl), fun U h1 h2 => ⟨rfl, hU U h1 h2⟩⟩ rfl rfl hl.1 rfl (lv_room (Nat.le_of_ble_eq_true rfl)) dX11_rooms_15 ⟨Nat.zero_le _, Nat.zero_le _⟩) (r15) (fun _ _ h => h) (fun _ _ h => h) (fun H locs hP hD hS => ?_)
        have hP : va_P (dC, dI) vwCl [(qt, .inr (11, [.ref qt_now, .ref xt_past, .int (it_saved), .ref xt_text, .int (it_length), .ref xt_doors, .int (it_doorMany), .ref xt_label, .int (it_drawn), .ref xt_far, .ref xt_ring, .int (it_walker), .int (it_from), .ref xt_was, .int (it_steps), .int (it_faultAt), .int (it_mover)])), (qt_now, .inl (cy.1, 639, .inl (ft_now)))] H := hP
        have hD : va_D A [(qt, .inr (11, [.ref qt_now, .ref xt_past, .int (it_saved), .ref xt_text, .int (it_length), .ref xt_doors, .int (it_doorMany), .ref xt_label, .int (it_drawn), .ref xt_far, .ref xt_ring, .int (it_walker), .int (it_from), .ref xt_was, .int (it_steps), .int (it_faultAt), .int (it_mover)])), (qt_now, .inl (cy.1, 639, .inl (ft_now)))] := hD
        refine lv_if_eq (tgt := 25) hx hb dX11_rooms_18 (by decide) (fun hc_18 => ?_) (fun hc_18 => ?_)
        · rw [if_pos hc_18] at hf
          refine lv_iconst (v := (0 : Int32)) hx hb dX11_rooms_25 (by decide) ?_
          refine lv_iadd hx hb dX11_rooms_26 ?_
          refine lv_istore_n (lv' := [(1, .int (l1 + (0 : Int32))), (0, .ref qt), (2, .int l2)]) hx hb dX11_rooms_27 rfl hl (by decide) rfl (fun ls hl => ?_)
          refine lv_iinc (v := (l2 + (1 : Int32))) (lv' := [(2, .int (l2 + (1 : Int32))), (1, .int (l1 + (0 : Int32))), (0, .ref qt)]) hx hb dX11_rooms_28 hl (k := 2) rfl rfl (by decide) rfl (fun ls hl => ?_)
          refine lv_goto (tgt := 4) hx hb dX11_rooms_31 (by decide) ?_
          exact ih4 ((l1 + (0 : Int32))) ((l2 + (1 : Int32))) _ _ (hP.sub [0, 1] rfl) (hD.sub [0, 1] (by decide) rfl) hS _ (lv_sub hl [2, 1, 0] rfl) hf
        · rw [if_neg hc_18] at hf
          refine lv_iconst (v := (1 : Int32)) hx hb dX11_rooms_21 (by decide) ?_
          refine lv_goto (tgt := 26) hx hb dX11_rooms_22 (by decide) ?_
          refine lv_iadd hx hb dX11_rooms_26 ?_
          refine lv_istore_n (lv' := [(1, .int (l1 + (1 : Int32))), (0, .ref qt), (2, .int l2)]) hx hb dX11_rooms_27 rfl hl (by decide) rfl (fun ls hl => ?_)
          refine lv_iinc (v := (l2 + (1 : Int32))) (lv' := [(2, .int (l2 + (1 : Int32))), (1, .int (l1 + (1 : Int32))), (0, .ref qt)]) hx hb dX11_rooms_28 hl (k := 2) rfl rfl (by decide) rfl (fun ls hl => ?_)
          refine lv_goto (tgt := 4) hx hb dX11_rooms_31 (by decide) ?_
          exact ih4 ((l1 + (1 : Int32))) ((l2 + (1 : Int32))) _ _ (hP.sub [0, 1] rfl) (hD.sub [0, 1] (by decide) rfl) hS _ (lv_sub hl [2, 1, 0] rfl) hf
  rw [f_X11_rooms] at hf
  refine lv_iconst (v := (0 : Int32)) hx hb dX11_rooms_0 (by decide) ?_
  refine lv_istore_n (lv' := [(1, .int (0 : Int32)), (0, .ref qt)]) hx hb dX11_rooms_1 rfl hl (by decide) rfl (fun ls hl => ?_)
  refine lv_iconst (v := (0 : Int32)) hx hb dX11_rooms_2 (by decide) ?_
  refine lv_istore_n (lv' := [(2, .int (0 : Int32)), (1, .int (0 : Int32)), (0, .ref qt)]) hx hb dX11_rooms_3 rfl hl (by decide) rfl (fun ls hl => ?_)
  exact B4 N ((0 : Int32)) ((0 : Int32)) _ _ (hP.sub [0, 1] rfl) (hD.sub [0, 1] (by decide) rfl) hS _ (lv_sub hl [2, 1, 0] rfl) hf
theorem hdX11_rooms : yX11_rooms.cls = RX11 ∧ yX11_rooms.cls ≠ "java/lang/invoke/MethodHandle" ∧ yX11_rooms.cls ≠ "java/lang/invoke/VarHandle" ∧ (parseMethodDescriptor yX11_rooms.desc).map (fun d => d.parameters.length) = some 0 := by decide +kernel
noncomputable def b_X11_word_72 (N : Nat) (it_length : Int32) (ft_text : Nat → Int32) : Nat → Int32 → Int32 → (Nat → Int32) → (Nat → Int32) → Option (Int32 × Int32 × (Nat → Int32) × (Nat → Int32))
  | 0, _, _, _, _ => none
  | n + 1, l2, cit_saved, cft_now, cft_past =>
    if (6 : Int32) ≤ l2 then
      bnd1 (f_X11_begins N (cft_now)) fun o111_0 =>
      bnd1 (f_X11_rooms N (o111_0)) fun r115 =>
      some (r115, cit_saved, o111_0, cft_past)
    else
      if it_length ≤ l2 then
        if ((1 : Int32) + l2) < 0 ∨ 639 ≤ (((1 : Int32) + l2)).toNatClampNeg then none else
        b_X11_word_72 N it_length ft_text n ((l2 + (1 : Int32))) (cit_saved) ((upd cft_now (((1 : Int32) + l2)).toNatClampNeg (0 : Int32))) (cft_past)
      else
        if l2 < 0 ∨ 200 ≤ (l2).toNatClampNeg then none else
        if ((1 : Int32) + l2) < 0 ∨ 639 ≤ (((1 : Int32) + l2)).toNatClampNeg then none else
        b_X11_word_72 N it_length ft_text n ((l2 + (1 : Int32))) (cit_saved) ((upd cft_now (((1 : Int32) + l2)).toNatClampNeg (ft_text (l2).toNatClampNeg))) (cft_past)
noncomputable def b_X11_word_49 (N : Nat) (it_length : Int32) (ft_text : Nat → Int32) (l1 : Int32) (cit_saved : Int32) (cft_now : Nat → Int32) (cft_past : Nat → Int32) : Option (Int32 × Int32 × (Nat → Int32) × (Nat → Int32)) :=
  if l1 = 0 then
    some ((-2 : Int32), cit_saved, cft_now, cft_past)
  else
    bnd2 (f_X11_records N (cit_saved) (cft_now) (cft_past)) fun o57_0 o57_1 =>
    b_X11_word_72 N it_length ft_text N ((0 : Int32)) (o57_0) ((upd cft_now ((0 : Int32)).toNatClampNeg it_length)) (o57_1)
noncomputable def b_X11_word_13 (N : Nat) (it_length : Int32) (ft_text : Nat → Int32) : Nat → Int32 → Int32 → Int32 → (Nat → Int32) → (Nat → Int32) → Option (Int32 × Int32 × (Nat → Int32) × (Nat → Int32))
  | 0, _, _, _, _, _ => none
  | n + 1, l1, l2, cit_saved, cft_now, cft_past =>
    if it_length ≤ l2 then
      b_X11_word_49 N it_length ft_text (l1) (cit_saved) (cft_now) (cft_past)
    else
      if l1 = 0 then
        b_X11_word_49 N it_length ft_text (l1) (cit_saved) (cft_now) (cft_past)
      else
        if l2 < 0 ∨ 200 ≤ (l2).toNatClampNeg then none else
        if (t_X11_shape ((ft_text (l2).toNatClampNeg))) ≤ 0 then
          b_X11_word_13 N it_length ft_text n ((0 : Int32)) ((l2 + (1 : Int32))) (cit_saved) (cft_now) (cft_past)
        else
          b_X11_word_13 N it_length ft_text n ((1 : Int32)) ((l2 + (1 : Int32))) (cit_saved) (cft_now) (cft_past)
noncomputable def f_X11_word (N : Nat) (it_saved : Int32) (it_length : Int32) (ft_now : Nat → Int32) (ft_past : Nat → Int32) (ft_text : Nat → Int32) : Option (Int32 × Int32 × (Nat → Int32) × (Nat → Int32)) :=
  b_X11_word_13 N it_length ft_text N ((t_X11_in (it_length) ((1 : Int32)) ((6 : Int32)))) ((0 : Int32)) (it_saved) (ft_now) (ft_past)
abbrev rm_X11_word : Room := { frames := 4, cells := 0, slots := 0, locals := 89 }
set_option maxHeartbeats 4000000 in
set_option maxRecDepth 100000 in
theorem c_X11_word (l : Launch) (dC : Nat → ClassId) (dI : Nat → Nat → Nat) (cy : gC) (G : gT) (sz : Nat) (qt : Nat) (qt_now : Nat) (qt_past : Nat) (qt_text : Nat) (xt_doors : Nat) (xt_label : Nat) (xt_far : Nat) (xt_ring : Nat) (xt_was : Nat) (it_doorMany : Int32) (it_drawn : Int32) (it_walker : Int32) (it_from : Int32) (it_steps : Int32) (it_faultAt : Int32) (it_mover : Int32) (N : Nat) (it_saved : Int32) (it_length : Int32) (ft_now : Nat → Int32) (ft_past : Nat → Int32) (ft_text : Nat → Int32) (out : Int32 × Int32 × (Nat → Int32) × (Nat → Int32)) (hf : f_X11_word N it_saved it_length ft_now ft_past ft_text = some out) : Met l yX11_word wsX11_word rm_X11_word (va_Pc [.ref qt] (kP (dC, dI) cy G [(qt, .inr (11, [.ref qt_now, .ref qt_past, .int (it_saved), .ref qt_text, .int (it_length), .ref xt_doors, .int (it_doorMany), .ref xt_label, .int (it_drawn), .ref xt_far, .ref xt_ring, .int (it_walker), .int (it_from), .ref xt_was, .int (it_steps), .int (it_faultAt), .int (it_mover)])), (qt_now, .inl (cy.1, 639, .inl (ft_now))), (qt_past, .inl (cy.1, 3195, .inl (ft_past))), (qt_text, .inl (cy.1, 200, .inl (ft_text)))] sz)) (va_Qi (fun r (_ : Unit) => r = out.1) (fun _ => kQ (dC, dI) cy [(qt, .inr (11, [.ref qt_now, .ref qt_past, .int (out.2.1), .ref qt_text, .int (it_length), .ref xt_doors, .int (it_doorMany), .ref xt_label, .int (it_drawn), .ref xt_far, .ref xt_ring, .int (it_walker), .int (it_from), .ref xt_was, .int (it_steps), .int (it_faultAt), .int (it_mover)])), (qt_now, .inl (cy.1, 639, .inl (out.2.2.1))), (qt_past, .inl (cy.1, 3195, .inl (out.2.2.2))), (qt_text, .inl (cy.1, 200, .inl (ft_text)))] (va_A [(qt, .inr (11, [.ref qt_now, .ref qt_past, .int (it_saved), .ref qt_text, .int (it_length), .ref xt_doors, .int (it_doorMany), .ref xt_label, .int (it_drawn), .ref xt_far, .ref xt_ring, .int (it_walker), .int (it_from), .ref xt_was, .int (it_steps), .int (it_faultAt), .int (it_mover)])), (qt_now, .inl (cy.1, 639, .inl (ft_now))), (qt_past, .inl (cy.1, 3195, .inl (ft_past))), (qt_text, .inl (cy.1, 200, .inl (ft_text)))] sz)) (va_A [(qt, .inr (11, [.ref qt_now, .ref qt_past, .int (it_saved), .ref qt_text, .int (it_length), .ref xt_doors, .int (it_doorMany), .ref xt_label, .int (it_drawn), .ref xt_far, .ref xt_ring, .int (it_walker), .int (it_from), .ref xt_was, .int (it_steps), .int (it_faultAt), .int (it_mover)])), (qt_now, .inl (cy.1, 639, .inl (ft_now))), (qt_past, .inl (cy.1, 3195, .inl (ft_past))), (qt_text, .inl (cy.1, 200, .inl (ft_text)))] sz)) 0 0 (va_A [(qt, .inr (11, [.ref qt_now, .ref qt_past, .int (it_saved), .ref qt_text, .int (it_length), .ref xt_doors, .int (it_doorMany), .ref xt_label, .int (it_drawn), .ref xt_far, .ref xt_ring, .int (it_walker), .int (it_from), .ref xt_was, .int (it_steps), .int (it_faultAt), .int (it_mover)])), (qt_now, .inl (cy.1, 639, .inl (ft_now))), (qt_past, .inl (cy.1, 3195, .inl (ft_past))), (qt_text, .inl (cy.1, 200, .inl (ft_text)))] sz) := by
  refine Met.ofW (cc := cX11_word) (maxL := 3) (ret := (some .int)) (by decide) rfl ?_
  intro p e s m args below meth c s₁ B hml hv
  obtain ⟨rfl, hsz, hP, hK, hD0, hG⟩ := hv
  have hx := B.exec
  have hb := B.bytes
  have hr := B.returns
  have hts := atoms_spec (ws := wsX11_word) B.pre
  have hown : s.vm.findClass RX11 = some m.cls := findClass_of_methodNamed B.named
  have hlocks := B.notSynchronized
  subst hsz
  have hD := hD0.self (sz := s.heap.size)
  generalize hAe : va_A [(qt, .inr (11, [.ref qt_now, .ref qt_past, .int (it_saved), .ref qt_text, .int (it_length), .ref xt_doors, .int (it_doorMany), .ref xt_label, .int (it_drawn), .ref xt_far, .ref xt_ring, .int (it_walker), .int (it_from), .ref xt_was, .int (it_steps), .int (it_faultAt), .int (it_mover)])), (qt_now, .inl (cy.1, 639, .inl (ft_now))), (qt_past, .inl (cy.1, 3195, .inl (ft_past))), (qt_text, .inl (cy.1, 200, .inl (ft_text)))] s.heap.size = A at hD hG ⊢
  have hA : ∀ q : Nat, s.heap.size ≤ q → A q := fun q h => by rw [← hAe]; exact Or.inr h
  have hS : va_S A s.heap s.heap [] := va_S.rf
  have hP : va_P (dC, dI) vwCl [(qt, .inr (11, [.ref qt_now, .ref qt_past, .int (it_saved), .ref qt_text, .int (it_length), .ref xt_doors, .int (it_doorMany), .ref xt_label, .int (it_drawn), .ref xt_far, .ref xt_ring, .int (it_walker), .int (it_from), .ref xt_was, .int (it_steps), .int (it_faultAt), .int (it_mover)])), (qt_now, .inl (cy.1, 639, .inl (ft_now))), (qt_past, .inl (cy.1, 3195, .inl (ft_past))), (qt_text, .inl (cy.1, 200, .inl (ft_text)))] s.heap := hP
  have hl := lv_entry ([.ref qt]) (n := 3) (Nat.le_of_ble_eq_true rfl)
  rw [lg_entry_eq]
  generalize (lg_sl ([.ref qt]) ++ List.replicate (3 - (lg_sl ([.ref qt])).length) Slot.unset).toArray = ls at hl ⊢
  have hl : lv_has ls 3 [(0, .ref qt)] := hl
  refine kgen (fun Q hQ => ?_)
  have B72 : ∀ (n72 : Nat) (l2 : Int32) (cit_saved : Int32) (cft_now : Nat → Int32) (cft_past : Nat → Int32) (H : Heap) (locs : List Loc), va_P (dC, dI) vwCl [(qt, .inr (11, [.ref qt_now, .ref qt_past, .int (cit_saved), .ref qt_text, .int (it_length), .ref xt_doors, .int (it_doorMany), .ref xt_label, .int (it_drawn), .ref xt_far, .ref xt_ring, .int (it_walker), .int (it_from), .ref xt_was, .int (it_steps), .int (it_faultAt), .int (it_mover)])), (qt_now, .inl (cy.1, 639, .inl (cft_now))), (qt_past, .inl (cy.1, 3195, .inl (cft_past))), (qt_text, .inl (cy.1, 200, .inl (ft_text)))] H → va_D A [(qt, .inr (11, [.ref qt_now, .ref qt_past, .int (cit_saved), .ref qt_text, .int (it_length), .ref xt_doors, .int (it_doorMany), .ref xt_label, .int (it_drawn), .ref xt_far, .ref xt_ring, .int (it_walker), .int (it_from), .ref xt_was, .int (it_steps), .int (it_faultAt), .int (it_mover)])), (qt_now, .inl (cy.1, 639, .inl (cft_now))), (qt_past, .inl (cy.1, 3195, .inl (cft_past))), (qt_text, .inl (cy.1, 200, .inl (ft_text)))] → va_S A s.heap H locs → ∀ (ls : Array Slot), lv_has ls 3 [(0, .ref qt), (2, .int l2)] → b_X11_word_72 N it_length ft_text n72 l2 cit_saved cft_now cft_past = some out → W p l e (headSpec wsX11_word rm_X11_word).room s m ([.ref qt] : List Value).toArray below meth c H locs 0 0 Q (F0 m 72 ls []) := by
    intro n72
    induction n72 with
    | zero => intro l2 cit_saved cft_now cft_past H locs hP hD hS ls hl hf; rw [b_X11_word_72] at hf; cases hf
    | succ n72 ih72 =>
      intro l2 cit_saved cft_now cft_past H locs hP hD hS ls hl hf
      rw [b_X11_word_72] at hf
      refine lv_iload_n hx hb dX11_word_72 rfl (lv_at hl 1 rfl) ?_
      refine lv_bipush (v := (6 : Int32)) hx hb dX11_word_73 (by decide) ?_
      refine lv_icmp_ge (tgt := 110) hx hb dX11_word_75 (by decide) (fun hc_75 => ?_) (fun hc_75 => ?_)
      · rw [if_pos hc_75] at hf
        refine lv_aload_n hx hb dX11_word_110 rfl (lv_at hl 0 rfl) ?_
        obtain ⟨o111_0, hq_111, hf⟩ := bnd1_s hf
        refine kcallv (wc := [(qt, .inr (11, [.ref qt_now, .ref qt_past, .int (cit_saved), .ref qt_text, .int (it_length), .ref xt_doors, .int (it_doorMany), .ref xt_label, .int (it_drawn), .ref xt_far, .ref xt_ring, .int (it_walker), .int (it_from), .ref xt_was, .int (it_steps), .int (it_faultAt), .int (it_mover)])), (qt_now, .inl (cy.1, 639, .inl (cft_now)))]) (wr := [(qt_past, .inl (cy.1, 3195, .inl (cft_past))), (qt_text, .inl (cy.1, 200, .inl (ft_text)))]) (w1 := [(qt, .inr (11, [.ref qt_now, .ref qt_past, .int (cit_saved), .ref qt_text, .int (it_length), .ref xt_doors, .int (it_doorMany), .ref xt_label, .int (it_drawn), .ref xt_far, .ref xt_ring, .int (it_walker), .int (it_from), .ref xt_was, .int (it_steps), .int (it_faultAt), .int (it_mover)])), (qt_now, .inl (cy.1, 639, .inl (o111_0)))]) hK hP hD hS hA hG [0, 1] [2, 3] rfl rfl rfl rfl rfl (fun hU hPc => va_runV (As := []) (rest := []) ⟨hx, hb, hml, hown, hts⟩ (c_X11_begins l dC dI cy G H.size qt qt_now qt_past qt_text xt_doors xt_label xt_far xt_ring xt_was (cit_saved) (it_length) (it_doorMany) (it_drawn) (it_walker) (it_from) (it_steps) (it_faultAt) (it_mover) N (cft_now) o111_0 hq_111) (cwV 0 hts gX11_word_X11_begins rfl rfl rfl hdX11_begins ⟨Nat.le_of_ble_eq_true rfl, Nat.le_of_ble_eq_true rfl⟩) ⟨kBlind, (va_recv hK hP (ci := 11) (q0 := 0) rfl rfl), fun U h1 h2 => ⟨rfl, hU U h1 h2⟩⟩ rfl rfl hl.1 rfl (lv_room (Nat.le_of_ble_eq_true rfl)) dX11_word_111 ⟨Nat.zero_le _, Nat.zero_le _⟩) (fun _ _ h => h) (fun H locs hP hD hS => ?_)
        have hP : va_P (dC, dI) vwCl [(qt_past, .inl (cy.1, 3195, .inl (cft_past))), (qt_text, .inl (cy.1, 200, .inl (ft_text))), (qt, .inr (11, [.ref qt_now, .ref qt_past, .int (cit_saved), .ref qt_text, .int (it_length), .ref xt_doors, .int (it_doorMany), .ref xt_label, .int (it_drawn), .ref xt_far, .ref xt_ring, .int (it_walker), .int (it_from), .ref xt_was, .int (it_steps), .int (it_faultAt), .int (it_mover)])), (qt_now, .inl (cy.1, 639, .inl (o111_0)))] H := hP
        have hD : va_D A [(qt_past, .inl (cy.1, 3195, .inl (cft_past))), (qt_text, .inl (cy.1, 200, .inl (ft_text))), (qt, .inr (11, [.ref qt_now, .ref qt_past, .int (cit_saved), .ref qt_text, .int (it_length), .ref xt_doors, .int (it_doorMany), .ref xt_label, .int (it_drawn), .ref xt_far, .ref xt_ring, .int (it_walker), .int (it_from), .ref xt_was, .int (it_steps), .int (it_faultAt), .int (it_mover)])), (qt_now, .inl (cy.1, 639, .inl (o111_0)))] := hD
        refine lv_aload_n hx hb dX11_word_114 rfl (lv_at hl 0 rfl) ?_
        obtain ⟨r115, hq_115, hf⟩ := bnd1_s hf
        refine kcalli (wc := [(qt, .inr (11, [.ref qt_now, .ref qt_past, .int (cit_saved), .ref qt_text, .int (it_length), .ref xt_doors, .int (it_doorMany), .ref xt_label, .int (it_drawn), .ref xt_far, .ref xt_ring, .int (it_walker), .int (it_from), .ref xt_was, .int (it_steps), .int (it_faultAt), .int (it_mover)])), (qt_now, .inl (cy.1, 639, .inl (o111_0)))]) (wr := [(qt_past, .inl (cy.1, 3195, .inl (cft_past))), (qt_text, .inl (cy.1, 200, .inl (ft_text)))]) (w1 := [(qt, .inr (11, [.ref qt_now, .ref qt_past, .int (cit_saved), .ref qt_text, .int (it_length), .ref xt_doors, .int (it_doorMany), .ref xt_label, .int (it_drawn), .ref xt_far, .ref xt_ring, .int (it_walker), .int (it_from), .ref xt_was, .int (it_steps), .int (it_faultAt), .int (it_mover)])), (qt_now, .inl (cy.1, 639, .inl (o111_0)))]) hK hP hD hS hA hG [2, 3] [0, 1] rfl rfl rfl rfl rfl (fun hU hPc => va_runV (As := []) (rest := []) ⟨hx, hb, hml, hown, hts⟩ (c_X11_rooms l dC dI cy G H.size qt qt_now qt_past qt_text xt_doors xt_label xt_far xt_ring xt_was (cit_saved) (it_length) (it_doorMany) (it_drawn) (it_walker) (it_from) (it_steps) (it_faultAt) (it_mover) N (o111_0) r115 hq_115) (cwV 0 hts gX11_word_X11_rooms rfl rfl rfl hdX11_rooms ⟨Nat.le_of_ble_eq_true rfl, Nat.le_of_ble_eq_true rfl⟩) ⟨kBlind, (va_recv hK hP (ci := 11) (q0 := 2) rfl rfl), fun U h1 h2 => ⟨rfl, hU U h1 h2⟩⟩ rfl rfl hl.1 rfl (lv_room (Nat.le_of_ble_eq_true rfl)) dX11_word_115 ⟨Nat.zero_le _, Nat.zero_le _⟩) (r115) (fun _ _ h => h) (fun _ _ h => h) (fun H locs hP hD hS => ?_)
        have hP : va_P (dC, dI) vwCl [(qt_past, .inl (cy.1, 3195, .inl (cft_past))), (qt_text, .inl (cy.1, 200, .inl (ft_text))), (qt, .inr (11, [.ref qt_now, .ref qt_past, .int (cit_saved), .ref qt_text, .int (it_length), .ref xt_doors, .int (it_doorMany), .ref xt_label, .int (it_drawn), .ref xt_far, .ref xt_ring, .int (it_walker), .int (it_from), .ref xt_was, .int (it_steps), .int (it_faultAt), .int (it_mover)])), (qt_now, .inl (cy.1, 639, .inl (o111_0)))] H := hP
        have hD : va_D A [(qt_past, .inl (cy.1, 3195, .inl (cft_past))), (qt_text, .inl (cy.1, 200, .inl (ft_text))), (qt, .inr (11, [.ref qt_now, .ref qt_past, .int (cit_saved), .ref qt_text, .int (it_length), .ref xt_doors, .int (it_doorMany), .ref xt_label, .int (it_drawn), .ref xt_far, .ref xt_ring, .int (it_walker), .int (it_from), .ref xt_was, .int (it_steps), .int (it_faultAt), .int (it_mover)])), (qt_now, .inl (cy.1, 639, .inl (o111_0)))] := hD
        cases hf
        subst hQ
        exact kiret hx hb hr hlocks hK (hP.sub [2, 3, 0, 1] rfl) (hD.sub [2, 3, 0, 1] (by decide) rfl) hS rfl dX11_word_118
      · rw [if_neg hc_75] at hf
        refine lv_aload_n hx hb dX11_word_78 rfl (lv_at hl 0 rfl) ?_
        refine va_get (D := (dC, dI)) (ci := 11) (C := RX11) (T := TX11) (N := 17) hx hb hts (fun _ h => (List.mem_cons_of_mem _ (List.mem_append_right _ h))) hown hK hP 0 rfl rfl 0 (by decide) (hts _ (List.mem_cons_of_mem _ (List.mem_append_left _ (List.mem_append_left _ (List.mem_of_getElem? (i := 2) rfl))))) (fun _ h => h) rfl dX11_word_79 ?_
        refine lv_iconst (v := (1 : Int32)) hx hb dX11_word_82 (by decide) ?_
        refine lv_iload_n hx hb dX11_word_83 rfl (lv_at hl 1 rfl) ?_
        refine lv_iadd hx hb dX11_word_84 ?_
        refine lv_iload_n hx hb dX11_word_85 rfl (lv_at hl 1 rfl) ?_
        refine lv_aload_n hx hb dX11_word_86 rfl (lv_at hl 0 rfl) ?_
        refine va_get (D := (dC, dI)) (ci := 11) (C := RX11) (T := TX11) (N := 17) hx hb hts (fun _ h => (List.mem_cons_of_mem _ (List.mem_append_right _ h))) hown hK hP 0 rfl rfl 4 (by decide) (hts _ (List.mem_cons_of_mem _ (List.mem_append_left _ (List.mem_append_left _ (List.mem_of_getElem? (i := 0) rfl))))) (fun _ h => h) rfl dX11_word_87 ?_
        refine lv_icmp_ge (tgt := 102) hx hb dX11_word_90 (by decide) (fun hc_90 => ?_) (fun hc_90 => ?_)
        · rw [if_pos hc_90] at hf
          refine lv_iconst (v := (0 : Int32)) hx hb dX11_word_102 (by decide) ?_
          obtain ⟨hk_103, hf⟩ := chk_s hf
          refine va_iast hx hb hK hP hD hS 1 0 rfl rfl hk_103 dX11_word_103 (fun H locs hP hD hS => ?_)
          have hP : va_P (dC, dI) vwCl [(qt, .inr (11, [.ref qt_now, .ref qt_past, .int (cit_saved), .ref qt_text, .int (it_length), .ref xt_doors, .int (it_doorMany), .ref xt_label, .int (it_drawn), .ref xt_far, .ref xt_ring, .int (it_walker), .int (it_from), .ref xt_was, .int (it_steps), .int (it_faultAt), .int (it_mover)])), (qt_now, .inl (cy.1, 639, .inl ((upd cft_now (((1 : Int32) + l2)).toNatClampNeg (0 : Int32))))), (qt_past, .inl (cy.1, 3195, .inl (cft_past))), (qt_text, .inl (cy.1, 200, .inl (ft_text)))] H := hP
          have hD : va_D A [(qt, .inr (11, [.ref qt_now, .ref qt_past, .int (cit_saved), .ref qt_text, .int (it_length), .ref xt_doors, .int (it_doorMany), .ref xt_label, .int (it_drawn), .ref xt_far, .ref xt_ring, .int (it_walker), .int (it_from), .ref xt_was, .int (it_steps), .int (it_faultAt), .int (it_mover)])), (qt_now, .inl (cy.1, 639, .inl ((upd cft_now (((1 : Int32) + l2)).toNatClampNeg (0 : Int32))))), (qt_past, .inl (cy.1, 3195, .inl (cft_past))), (qt_text, .inl (cy.1, 200, .inl (ft_text)))] := hD
          refine lv_iinc (v := (l2 + (1 : Int32))) (lv' := [(2, .int (l2 + (1 : Int32))), (0, .ref qt)]) hx hb dX11_word_104 hl (k := 1) rfl rfl (by decide) rfl (fun ls hl => ?_)
          refine lv_goto (tgt := 72) hx hb dX11_word_107 (by decide) ?_
          exact ih72 ((l2 + (1 : Int32))) (cit_saved) ((upd cft_now (((1 : Int32) + l2)).toNatClampNeg (0 : Int32))) (cft_past) _ _ (hP.sub [0, 1, 2, 3] rfl) (hD.sub [0, 1, 2, 3] (by decide) rfl) hS _ (lv_sub hl [1, 0] rfl) hf
        · rw [if_neg hc_90] at hf
          refine lv_aload_n hx hb dX11_word_93 rfl (lv_at hl 0 rfl) ?_
          refine va_get (D := (dC, dI)) (ci := 11) (C := RX11) (T := TX11) (N := 17) hx hb hts (fun _ h => (List.mem_cons_of_mem _ (List.mem_append_right _ h))) hown hK hP 0 rfl rfl 3 (by decide) (hts _ (List.mem_cons_of_mem _ (List.mem_append_left _ (List.mem_append_left _ (List.mem_of_getElem? (i := 1) rfl))))) (fun _ h => h) rfl dX11_word_94 ?_
          refine lv_iload_n hx hb dX11_word_97 rfl (lv_at hl 1 rfl) ?_
          obtain ⟨hk_98, hf⟩ := chk_s hf
          refine va_iald hx hb hK hP 3 0 rfl rfl hk_98 dX11_word_98 ?_
          refine lv_goto (tgt := 103) hx hb dX11_word_99 (by decide) ?_
          obtain ⟨hk_103, hf⟩ := chk_s hf
          refine va_iast hx hb hK hP hD hS 1 0 rfl rfl hk_103 dX11_word_103 (fun H locs hP hD hS => ?_)
          have hP : va_P (dC, dI) vwCl [(qt, .inr (11, [.ref qt_now, .ref qt_past, .int (cit_saved), .ref qt_text, .int (it_length), .ref xt_doors, .int (it_doorMany), .ref xt_label, .int (it_drawn), .ref xt_far, .ref xt_ring, .int (it_walker), .int (it_from), .ref xt_was, .int (it_steps), .int (it_faultAt), .int (it_mover)])), (qt_now, .inl (cy.1, 639, .inl ((upd cft_now (((1 : Int32) + l2)).toNatClampNeg (ft_text (l2).toNatClampNeg))))), (qt_past, .inl (cy.1, 3195, .inl (cft_past))), (qt_text, .inl (cy.1, 200, .inl (ft_text)))] H := hP
          have hD : va_D A [(qt, .inr (11, [.ref qt_now, .ref qt_past, .int (cit_saved), .ref qt_text, .int (it_length), .ref xt_doors, .int (it_doorMany), .ref xt_label, .int (it_drawn), .ref xt_far, .ref xt_ring, .int (it_walker), .int (it_from), .ref xt_was, .int (it_steps), .int (it_faultAt), .int (it_mover)])), (qt_now, .inl (cy.1, 639, .inl ((upd cft_now (((1 : Int32) + l2)).toNatClampNeg (ft_text (l2).toNatClampNeg))))), (qt_past, .inl (cy.1, 3195, .inl (cft_past))), (qt_text, .inl (cy.1, 200, .inl (ft_text)))] := hD
          refine lv_iinc (v := (l2 + (1 : Int32))) (lv' := [(2, .int (l2 + (1 : Int32))), (0, .ref qt)]) hx hb dX11_word_104 hl (k := 1) rfl rfl (by decide) rfl (fun ls hl => ?_)
          refine lv_goto (tgt := 72) hx hb dX11_word_107 (by decide) ?_
          exact ih72 ((l2 + (1 : Int32))) (cit_saved) ((upd cft_now (((1 : Int32) + l2)).toNatClampNeg (ft_text (l2).toNatClampNeg))) (cft_past) _ _ (hP.sub [0, 1, 2, 3] rfl) (hD.sub [0, 1, 2, 3] (by decide) rfl) hS _ (lv_sub hl [1, 0] rfl) hf
  have B49 : ∀ (l1 : Int32) (cit_saved : Int32) (cft_now : Nat → Int32) (cft_past : Nat → Int32) (H : Heap) (locs : List Loc), va_P (dC, dI) vwCl [(qt, .inr (11, [.ref qt_now, .ref qt_past, .int (cit_saved), .ref qt_text, .int (it_length), .ref xt_doors, .int (it_doorMany), .ref xt_label, .int (it_drawn), .ref xt_far, .ref xt_ring, .int (it_walker), .int (it_from), .ref xt_was, .int (it_steps), .int (it_faultAt), .int (it_mover)])), (qt_now, .inl (cy.1, 639, .inl (cft_now))), (qt_past, .inl (cy.1, 3195, .inl (cft_past))), (qt_text, .inl (cy.1, 200, .inl (ft_text)))] H → va_D A [(qt, .inr (11, [.ref qt_now, .ref qt_past, .int (cit_saved), .ref qt_text, .int (it_length), .ref xt_doors, .int (it_doorMany), .ref xt_label, .int (it_drawn), .ref xt_far, .ref xt_ring, .int (it_walker), .int (it_from), .ref xt_was, .int (it_steps), .int (it_faultAt), .int (it_mover)])), (qt_now, .inl (cy.1, 639, .inl (cft_now))), (qt_past, .inl (cy.1, 3195, .inl (cft_past))), (qt_text, .inl (cy.1, 200, .inl (ft_text)))] → va_S A s.heap H locs → ∀ (ls : Array Slot), lv_has ls 3 [(0, .ref qt), (1, .int l1)] → b_X11_word_49 N it_length ft_text l1 cit_saved cft_now cft_past = some out → W p l e (headSpec wsX11_word rm_X11_word).room s m ([.ref qt] : List Value).toArray below meth c H locs 0 0 Q (F0 m 49 ls []) := by
    intro l1 cit_saved cft_now cft_past H locs hP hD hS ls hl hf
    rw [b_X11_word_49] at hf
    refine lv_iload_n hx hb dX11_word_49 rfl (lv_at hl 1 rfl) ?_
    refine lv_if_ne (tgt := 56) hx hb dX11_word_50 (by decide) (fun hc_50 => ?_) (fun hc_50 => ?_)
    · rw [if_neg hc_50] at hf
      refine lv_aload_n hx hb dX11_word_56 rfl (lv_at hl 0 rfl) ?_
      obtain ⟨o57_0, o57_1, hq_57, hf⟩ := bnd2_s hf
      refine kcallv (wc := [(qt, .inr (11, [.ref qt_now, .ref qt_past, .int (cit_saved), .ref qt_text, .int (it_length), .ref xt_doors, .int (it_doorMany), .ref xt_label, .int (it_drawn), .ref xt_far, .ref xt_ring, .int (it_walker), .int (it_from), .ref xt_was, .int (it_steps), .int (it_faultAt), .int (it_mover)])), (qt_now, .inl (cy.1, 639, .inl (cft_now))), (qt_past, .inl (cy.1, 3195, .inl (cft_past)))]) (wr := [(qt_text, .inl (cy.1, 200, .inl (ft_text)))]) (w1 := [(qt, .inr (11, [.ref qt_now, .ref qt_past, .int (o57_0), .ref qt_text, .int (it_length), .ref xt_doors, .int (it_doorMany), .ref xt_label, .int (it_drawn), .ref xt_far, .ref xt_ring, .int (it_walker), .int (it_from), .ref xt_was, .int (it_steps), .int (it_faultAt), .int (it_mover)])), (qt_now, .inl (cy.1, 639, .inl (cft_now))), (qt_past, .inl (cy.1, 3195, .inl (o57_1)))]) hK hP hD hS hA hG [0, 1, 2] [3] rfl rfl rfl rfl rfl (fun hU hPc => va_runV (As := []) (rest := []) ⟨hx, hb, hml, hown, hts⟩ (c_X11_records l dC dI cy G H.size qt qt_now qt_past qt_text xt_doors xt_label xt_far xt_ring xt_was (it_length) (it_doorMany) (it_drawn) (it_walker) (it_from) (it_steps) (it_faultAt) (it_mover) N (cit_saved) (cft_now) (cft_past) (o57_0, o57_1) hq_57) (cwV 0 hts gX11_word_X11_records rfl rfl rfl hdX11_records ⟨Nat.le_of_ble_eq_true rfl, Nat.le_of_ble_eq_true rfl⟩) ⟨kBlind, (va_recv hK hP (ci := 11) (q0 := 0) rfl rfl), fun U h1 h2 => ⟨rfl, hU U h1 h2⟩⟩ rfl rfl hl.1 rfl (lv_room (Nat.le_of_ble_eq_true rfl)) dX11_word_57 ⟨Nat.zero_le _, Nat.zero_le _⟩) (fun _ _ h => h) (fun H locs hP hD hS => ?_)
      have hP : va_P (dC, dI) vwCl [(qt_text, .inl (cy.1, 200, .inl (ft_text))), (qt, .inr (11, [.ref qt_now, .ref qt_past, .int (o57_0), .ref qt_text, .int (it_length), .ref xt_doors, .int (it_doorMany), .ref xt_label, .int (it_drawn), .ref xt_far, .ref xt_ring, .int (it_walker), .int (it_from), .ref xt_was, .int (it_steps), .int (it_faultAt), .int (it_mover)])), (qt_now, .inl (cy.1, 639, .inl (cft_now))), (qt_past, .inl (cy.1, 3195, .inl (o57_1)))] H := hP
      have hD : va_D A [(qt_text, .inl (cy.1, 200, .inl (ft_text))), (qt, .inr (11, [.ref qt_now, .ref qt_past, .int (o57_0), .ref qt_text, .int (it_length), .ref xt_doors, .int (it_doorMany), .ref xt_label, .int (it_drawn), .ref xt_far, .ref xt_ring, .int (it_walker), .int (it_from), .ref xt_was, .int (it_steps), .int (it_faultAt), .int (it_mover)])), (qt_now, .inl (cy.1, 639, .inl (cft_now))), (qt_past, .inl (cy.1, 3195, .inl (o57_1)))] := hD
      refine lv_aload_n hx hb dX11_word_60 rfl (lv_at hl 0 rfl) ?_
      refine va_get (D := (dC, dI)) (ci := 11) (C := RX11) (T := TX11) (N := 17) hx hb hts (fun _ h => (List.mem_cons_of_mem _ (List.mem_append_right _ h))) hown hK hP 1 rfl rfl 0 (by decide) (hts _ (List.mem_cons_of_mem _ (List.mem_append_left _ (List.mem_append_left _ (List.mem_of_getElem? (i := 2) rfl))))) (fun _ h => h) rfl dX11_word_61 ?_
      refine lv_iconst (v := (0 : Int32)) hx hb dX11_word_64 (by decide) ?_
      refine lv_aload_n hx hb dX11_word_65 rfl (lv_at hl 0 rfl) ?_
      refine va_get (D := (dC, dI)) (ci := 11) (C := RX11) (T := TX11) (N := 17) hx hb hts (fun _ h => (List.mem_cons_of_mem _ (List.mem_append_right _ h))) hown hK hP 1 rfl rfl 4 (by decide) (hts _ (List.mem_cons_of_mem _ (List.mem_append_left _ (List.mem_append_left _ (List.mem_of_getElem? (i := 0) rfl))))) (fun _ h => h) rfl dX11_word_66 ?_
      refine va_iast hx hb hK hP hD hS 2 0 rfl rfl (by unfold vp_in; decide) dX11_word_69 (fun H locs hP hD hS => ?_)
      have hP : va_P (dC, dI) vwCl [(qt_text, .inl (cy.1, 200, .inl (ft_text))), (qt, .inr (11, [.ref qt_now, .ref qt_past, .int (o57_0), .ref qt_text, .int (it_length), .ref xt_doors, .int (it_doorMany), .ref xt_label, .int (it_drawn), .ref xt_far, .ref xt_ring, .int (it_walker), .int (it_from), .ref xt_was, .int (it_steps), .int (it_faultAt), .int (it_mover)])), (qt_now, .inl (cy.1, 639, .inl ((upd cft_now ((0 : Int32)).toNatClampNeg it_length)))), (qt_past, .inl (cy.1, 3195, .inl (o57_1)))] H := hP
      have hD : va_D A [(qt_text, .inl (cy.1, 200, .inl (ft_text))), (qt, .inr (11, [.ref qt_now, .ref qt_past, .int (o57_0), .ref qt_text, .int (it_length), .ref xt_doors, .int (it_doorMany), .ref xt_label, .int (it_drawn), .ref xt_far, .ref xt_ring, .int (it_walker), .int (it_from), .ref xt_was, .int (it_steps), .int (it_faultAt), .int (it_mover)])), (qt_now, .inl (cy.1, 639, .inl ((upd cft_now ((0 : Int32)).toNatClampNeg it_length)))), (qt_past, .inl (cy.1, 3195, .inl (o57_1)))] := hD
      refine lv_iconst (v := (0 : Int32)) hx hb dX11_word_70 (by decide) ?_
      refine lv_istore_n (lv' := [(2, .int (0 : Int32)), (0, .ref qt), (1, .int l1)]) hx hb dX11_word_71 rfl hl (by decide) rfl (fun ls hl => ?_)
      exact B72 N ((0 : Int32)) (o57_0) ((upd cft_now ((0 : Int32)).toNatClampNeg it_length)) (o57_1) _ _ (hP.sub [1, 2, 3, 0] rfl) (hD.sub [1, 2, 3, 0] (by decide) rfl) hS _ (lv_sub hl [1, 0] rfl) hf
    · rw [if_pos hc_50] at hf
      refine lv_bipush (v := (-2 : Int32)) hx hb dX11_word_53 (by decide) ?_
      cases hf
      subst hQ
      exact kiret hx hb hr hlocks hK (hP.sub [0, 1, 2, 3] rfl) (hD.sub [0, 1, 2, 3] (by decide) rfl) hS rfl dX11_word_55
  have B13 : ∀ (n13 : Nat) (l1 : Int32) (l2 : Int32) (cit_saved : Int32) (cft_now : Nat → Int32) (cft_past : Nat → Int32) (H : Heap) (locs : List Loc), va_P (dC, dI) vwCl [(qt, .inr (11, [.ref qt_now, .ref qt_past, .int (cit_saved), .ref qt_text, .int (it_length), .ref xt_doors, .int (it_doorMany), .ref xt_label, .int (it_drawn), .ref xt_far, .ref xt_ring, .int (it_walker), .int (it_from), .ref xt_was, .int (it_steps), .int (it_faultAt), .int (it_mover)])), (qt_now, .inl (cy.1, 639, .inl (cft_now))), (qt_past, .inl (cy.1, 3195, .inl (cft_past))), (qt_text, .inl (cy.1, 200, .inl (ft_text)))] H → va_D A [(qt, .inr (11, [.ref qt_now, .ref qt_past, .int (cit_saved), .ref qt_text, .int (it_length), .ref xt_doors, .int (it_doorMany), .ref xt_label, .int (it_drawn), .ref xt_far, .ref xt_ring, .int (it_walker), .int (it_from), .ref xt_was, .int (it_steps), .int (it_faultAt), .int (it_mover)])), (qt_now, .inl (cy.1, 639, .inl (cft_now))), (qt_past, .inl (cy.1, 3195, .inl (cft_past))), (qt_text, .inl (cy.1, 200, .inl (ft_text)))] → va_S A s.heap H locs → ∀ (ls : Array Slot), lv_has ls 3 [(0, .ref qt), (1, .int l1), (2, .int l2)] → b_X11_word_13 N it_length ft_text n13 l1 l2 cit_saved cft_now cft_past = some out → W p l e (headSpec wsX11_word rm_X11_word).room s m ([.ref qt] : List Value).toArray below meth c H locs 0 0 Q (F0 m 13 ls []) := by
    intro n13
    induction n13 with
    | zero => intro l1 l2 cit_saved cft_now cft_past H locs hP hD hS ls hl hf; rw [b_X11_word_13] at hf; cases hf
    | succ n13 ih13 =>
      intro l1 l2 cit_saved cft_now cft_past H locs hP hD hS ls hl hf
      rw [b_X11_word_13] at hf
      refine lv_iload_n hx hb dX11_word_13 rfl (lv_at hl 2 rfl) ?_
      refine lv_aload_n hx hb dX11_word_14 rfl (lv_at hl 0 rfl) ?_
      refine va_get (D := (dC, dI)) (ci := 11) (C := RX11) (T := TX11) (N := 17) hx hb hts (fun _ h => (List.mem_cons_of_mem _ (List.mem_append_right _ h))) hown hK hP 0 rfl rfl 4 (by decide) (hts _ (List.mem_cons_of_mem _ (List.mem_append_left _ (List.mem_append_left _ (List.mem_of_getElem? (i := 0) rfl))))) (fun _ h => h) rfl dX11_word_15 ?_
      refine lv_icmp_ge (tgt := 49) hx hb dX11_word_18 (by decide) (fun hc_18 => ?_) (fun hc_18 => ?_)
      · rw [if_pos hc_18] at hf
        exact B49 (l1) (cit_saved) (cft_now) (cft_past) _ _ (hP.sub [0, 1, 2, 3] rfl) (hD.sub [0, 1, 2, 3] (by decide) rfl) hS _ (lv_sub hl [0, 1] rfl) hf
      · rw [if_neg hc_18] at hf
        refine lv_iload_n hx hb dX11_word_21 rfl (lv_at hl 1 rfl) ?_
        refine lv_if_eq (tgt := 49) hx hb dX11_word_22 (by decide) (fun hc_22 => ?_) (fun hc_22 => ?_)
        · rw [if_pos hc_22] at hf
          exact B49 (l1) (cit_saved) (cft_now) (cft_past) _ _ (hP.sub [0, 1, 2, 3] rfl) (hD.sub [0, 1, 2, 3] (by decide) rfl) hS _ (lv_sub hl [0, 1] rfl) hf
        · rw [if_neg hc_22] at hf
          refine lv_aload_n hx hb dX11_word_25 rfl (lv_at hl 0 rfl) ?_
          refine va_get (D := (dC, dI)) (ci := 11) (C := RX11) (T := TX11) (N := 17) hx hb hts (fun _ h => (List.mem_cons_of_mem _ (List.mem_append_right _ h))) hown hK hP 0 rfl rfl 3 (by decide) (hts _ (List.mem_cons_of_mem _ (List.mem_append_left _ (List.mem_append_left _ (List.mem_of_getElem? (i := 1) rfl))))) (fun _ h => h) rfl dX11_word_26 ?_
          refine lv_iload_n hx hb dX11_word_29 rfl (lv_at hl 2 rfl) ?_
          obtain ⟨hk_30, hf⟩ := chk_s hf
          refine va_iald hx hb hK hP 3 0 rfl rfl hk_30 dX11_word_30 ?_
          refine kcalli (wc := []) (wr := [(qt, .inr (11, [.ref qt_now, .ref qt_past, .int (cit_saved), .ref qt_text, .int (it_length), .ref xt_doors, .int (it_doorMany), .ref xt_label, .int (it_drawn), .ref xt_far, .ref xt_ring, .int (it_walker), .int (it_from), .ref xt_was, .int (it_steps), .int (it_faultAt), .int (it_mover)])), (qt_now, .inl (cy.1, 639, .inl (cft_now))), (qt_past, .inl (cy.1, 3195, .inl (cft_past))), (qt_text, .inl (cy.1, 200, .inl (ft_text)))]) (w1 := []) hK hP hD hS hA hG [] [0, 1, 2, 3] rfl rfl rfl rfl rfl (fun hU hPc => va_runS (As := [.int (ft_text (l2).toNatClampNeg)]) (rest := []) ⟨hx, hb, hml, hown, hts⟩ (c_X11_shape l dC dI cy G H.size ((ft_text (l2).toNatClampNeg)) (t_X11_shape ((ft_text (l2).toNatClampNeg))) (tot_X11_shape ((ft_text (l2).toNatClampNeg)))) (va_cwS 1 hts gX11_word_X11_shape rfl rfl rfl hdX11_shape.2 ⟨Nat.le_of_ble_eq_true rfl, Nat.le_of_ble_eq_true rfl⟩) ⟨kBlind, fun U h1 h2 => ⟨rfl, hU U h1 h2⟩⟩ rfl rfl hl.1 rfl (lv_room (Nat.le_of_ble_eq_true rfl)) dX11_word_31 ⟨Nat.zero_le _, Nat.zero_le _⟩) ((t_X11_shape ((ft_text (l2).toNatClampNeg)))) (fun _ _ h => h) (fun _ _ h => h) (fun H locs hP hD hS => ?_)
          have hP : va_P (dC, dI) vwCl [(qt, .inr (11, [.ref qt_now, .ref qt_past, .int (cit_saved), .ref qt_text, .int (it_length), .ref xt_doors, .int (it_doorMany), .ref xt_label, .int (it_drawn), .ref xt_far, .ref xt_ring, .int (it_walker), .int (it_from), .ref xt_was, .int (it_steps), .int (it_faultAt), .int (it_mover)])), (qt_now, .inl (cy.1, 639, .inl (cft_now))), (qt_past, .inl (cy.1, 3195, .inl (cft_past))), (qt_text, .inl (cy.1, 200, .inl (ft_text)))] H := hP
          have hD : va_D A [(qt, .inr (11, [.ref qt_now, .ref qt_past, .int (cit_saved), .ref qt_text, .int (it_length), .ref xt_doors, .int (it_doorMany), .ref xt_label, .int (it_drawn), .ref xt_far, .ref xt_ring, .int (it_walker), .int (it_from), .ref xt_was, .int (it_steps), .int (it_faultAt), .int (it_mover)])), (qt_now, .inl (cy.1, 639, .inl (cft_now))), (qt_past, .inl (cy.1, 3195, .inl (cft_past))), (qt_text, .inl (cy.1, 200, .inl (ft_text)))] := hD
          refine lv_if_le (tgt := 41) hx hb dX11_word_34 (by decide) (fun hc_34 => ?_) (fun hc_34 => ?_)
          · rw [if_pos hc_34] at hf
            refine lv_iconst (v := (0 : Int32)) hx hb dX11_word_41 (by decide) ?_
            refine lv_istore_n (lv' := [(1, .int (0 : Int32)), (0, .ref qt), (2, .int l2)]) hx hb dX11_word_42 rfl hl (by decide) rfl (fun ls hl => ?_)
            refine lv_iinc (v := (l2 + (1 : Int32))) (lv' := [(2, .int (l2 + (1 : Int32))), (1, .int (0 : Int32)), (0, .ref qt)]) hx hb dX11_word_43 hl (k := 2) rfl rfl (by decide) rfl (fun ls hl => ?_)
            refine lv_goto (tgt := 13) hx hb dX11_word_46 (by decide) ?_
            exact ih13 ((0 : Int32)) ((l2 + (1 : Int32))) (cit_saved) (cft_now) (cft_past) _ _ (hP.sub [0, 1, 2, 3] rfl) (hD.sub [0, 1, 2, 3] (by decide) rfl) hS _ (lv_sub hl [2, 1, 0] rfl) hf
          · rw [if_neg hc_34] at hf
            refine lv_iconst (v := (1 : Int32)) hx hb dX11_word_37 (by decide) ?_
            refine lv_goto (tgt := 42) hx hb dX11_word_38 (by decide) ?_
            refine lv_istore_n (lv' := [(1, .int (1 : Int32)), (0, .ref qt), (2, .int l2)]) hx hb dX11_word_42 rfl hl (by decide) rfl (fun ls hl => ?_)
            refine lv_iinc (v := (l2 + (1 : Int32))) (lv' := [(2, .int (l2 + (1 : Int32))), (1, .int (1 : Int32)), (0, .ref qt)]) hx hb dX11_word_43 hl (k := 2) rfl rfl (by decide) rfl (fun ls hl => ?_)
            refine lv_goto (tgt := 13) hx hb dX11_word_46 (by decide) ?_
            exact ih13 ((1 : Int32)) ((l2 + (1 : Int32))) (cit_saved) (cft_now) (cft_past) _ _ (hP.sub [0, 1, 2, 3] rfl) (hD.sub [0, 1, 2, 3] (by decide) rfl) hS _ (lv_sub hl [2, 1, 0] rfl) hf
  rw [f_X11_word] at hf
  refine lv_aload_n hx hb dX11_word_0 rfl (lv_at hl 0 rfl) ?_
  refine va_get (D := (dC, dI)) (ci := 11) (C := RX11) (T := TX11) (N := 17) hx hb hts (fun _ h => (List.mem_cons_of_mem _ (List.mem_append_right _ h))) hown hK hP 0 rfl rfl 4 (by decide) (hts _ (List.mem_cons_of_mem _ (List.mem_append_left _ (List.mem_append_left _ (List.mem_of_getElem? (i := 0) rfl))))) (fun _ h => h) rfl dX11_word_1 ?_
  refine lv_iconst (v := (1 : Int32)) hx hb dX11_word_4 (by decide) ?_
  refine lv_bipush (v := (6 : Int32)) hx hb dX11_word_5 (by decide) ?_
  refine kcalli (wc := []) (wr := [(qt, .inr (11, [.ref qt_now, .ref qt_past, .int (it_saved), .ref qt_text, .int (it_length), .ref xt_doors, .int (it_doorMany), .ref xt_label, .int (it_drawn), .ref xt_far, .ref xt_ring, .int (it_walker), .int (it_from), .ref xt_was, .int (it_steps), .int (it_faultAt), .int (it_mover)])), (qt_now, .inl (cy.1, 639, .inl (ft_now))), (qt_past, .inl (cy.1, 3195, .inl (ft_past))), (qt_text, .inl (cy.1, 200, .inl (ft_text)))]) (w1 := []) hK hP hD hS hA hG [] [0, 1, 2, 3] rfl rfl rfl rfl rfl (fun hU hPc => va_runS (As := [.int it_length, .int (1 : Int32), .int (6 : Int32)]) (rest := []) ⟨hx, hb, hml, hown, hts⟩ (c_X11_in l dC dI cy G s.heap.size (it_length) ((1 : Int32)) ((6 : Int32)) (t_X11_in (it_length) ((1 : Int32)) ((6 : Int32))) (tot_X11_in (it_length) ((1 : Int32)) ((6 : Int32)))) (va_cwS 3 hts gX11_word_X11_in rfl rfl rfl hdX11_in.2 ⟨Nat.le_of_ble_eq_true rfl, Nat.le_of_ble_eq_true rfl⟩) ⟨kBlind, fun U h1 h2 => ⟨rfl, hU U h1 h2⟩⟩ rfl rfl hl.1 rfl (lv_room (Nat.le_of_ble_eq_true rfl)) dX11_word_7 ⟨Nat.zero_le _, Nat.zero_le _⟩) ((t_X11_in (it_length) ((1 : Int32)) ((6 : Int32)))) (fun _ _ h => h) (fun _ _ h => h) (fun H locs hP hD hS => ?_)
  have hP : va_P (dC, dI) vwCl [(qt, .inr (11, [.ref qt_now, .ref qt_past, .int (it_saved), .ref qt_text, .int (it_length), .ref xt_doors, .int (it_doorMany), .ref xt_label, .int (it_drawn), .ref xt_far, .ref xt_ring, .int (it_walker), .int (it_from), .ref xt_was, .int (it_steps), .int (it_faultAt), .int (it_mover)])), (qt_now, .inl (cy.1, 639, .inl (ft_now))), (qt_past, .inl (cy.1, 3195, .inl (ft_past))), (qt_text, .inl (cy.1, 200, .inl (ft_text)))] H := hP
  have hD : va_D A [(qt, .inr (11, [.ref qt_now, .ref qt_past, .int (it_saved), .ref qt_text, .int (it_length), .ref xt_doors, .int (it_doorMany), .ref xt_label, .int (it_drawn), .ref xt_far, .ref xt_ring, .int (it_walker), .int (it_from), .ref xt_was, .int (it_steps), .int (it_faultAt), .int (it_mover)])), (qt_now, .inl (cy.1, 639, .inl (ft_now))), (qt_past, .inl (cy.1, 3195, .inl (ft_past))), (qt_text, .inl (cy.1, 200, .inl (ft_text)))] := hD
  refine lv_istore_n (lv' := [(1, .int (t_X11_in (it_length) ((1 : Int32)) ((6 : Int32)))), (0, .ref qt)]) hx hb dX11_word_10 rfl hl (by decide) rfl (fun ls hl => ?_)
  refine lv_iconst (v := (0 : Int32)) hx hb dX11_word_11 (by decide) ?_
  refine lv_istore_n (lv' := [(2, .int (0 : Int32)), (1, .int (t_X11_in (it_length) ((1 : Int32)) ((6 : Int32)))), (0, .ref qt)]) hx hb dX11_word_12 rfl hl (by decide) rfl (fun ls hl => ?_)
  exact B13 N ((t_X11_in (it_length) ((1 : Int32)) ((6 : Int32)))) ((0 : Int32)) (it_saved) (ft_now) (ft_past) _ _ (hP.sub [0, 1, 2, 3] rfl) (hD.sub [0, 1, 2, 3] (by decide) rfl) hS _ (lv_sub hl [2, 1, 0] rfl) hf
theorem hdX11_word : yX11_word.cls = RX11 ∧ yX11_word.cls ≠ "java/lang/invoke/MethodHandle" ∧ yX11_word.cls ≠ "java/lang/invoke/VarHandle" ∧ (parseMethodDescriptor yX11_word.desc).map (fun d => d.parameters.length) = some 0 := by decide +kernel
noncomputable def f_X11_letterAt (ft_now : Nat → Int32) (va1 : Int32) : Option (Int32) :=
  if (t_X11_wide (ft_now)) = 0 then none else
  if (va1 / (t_X11_wide (ft_now))) = (5 : Int32) then
    some ((-1 : Int32))
  else
    if (t_X11_wide (ft_now)) = 0 then none else
    some (((va1 - va1 / (t_X11_wide (ft_now)) * (t_X11_wide (ft_now))) / (6 : Int32)))
abbrev rm_X11_letterAt : Room := { frames := 1, cells := 0, slots := 0, locals := 20 }
set_option maxHeartbeats 4000000 in
set_option maxRecDepth 100000 in
theorem c_X11_letterAt (l : Launch) (dC : Nat → ClassId) (dI : Nat → Nat → Nat) (cy : gC) (G : gT) (sz : Nat) (qt : Nat) (qt_now : Nat) (xt_past : Nat) (xt_text : Nat) (xt_doors : Nat) (xt_label : Nat) (xt_far : Nat) (xt_ring : Nat) (xt_was : Nat) (it_saved : Int32) (it_length : Int32) (it_doorMany : Int32) (it_drawn : Int32) (it_walker : Int32) (it_from : Int32) (it_steps : Int32) (it_faultAt : Int32) (it_mover : Int32) (ft_now : Nat → Int32) (va1 : Int32) (out : Int32) (hf : f_X11_letterAt ft_now va1 = some out) : Met l yX11_letterAt wsX11_letterAt rm_X11_letterAt (va_Pc [.ref qt, .int va1] (kP (dC, dI) cy G [(qt, .inr (11, [.ref qt_now, .ref xt_past, .int (it_saved), .ref xt_text, .int (it_length), .ref xt_doors, .int (it_doorMany), .ref xt_label, .int (it_drawn), .ref xt_far, .ref xt_ring, .int (it_walker), .int (it_from), .ref xt_was, .int (it_steps), .int (it_faultAt), .int (it_mover)])), (qt_now, .inl (cy.1, 639, .inl (ft_now)))] sz)) (va_Qi (fun r (_ : Unit) => r = out) (fun _ => kQ (dC, dI) cy [(qt, .inr (11, [.ref qt_now, .ref xt_past, .int (it_saved), .ref xt_text, .int (it_length), .ref xt_doors, .int (it_doorMany), .ref xt_label, .int (it_drawn), .ref xt_far, .ref xt_ring, .int (it_walker), .int (it_from), .ref xt_was, .int (it_steps), .int (it_faultAt), .int (it_mover)])), (qt_now, .inl (cy.1, 639, .inl (ft_now)))] (va_A [(qt, .inr (11, [.ref qt_now, .ref xt_past, .int (it_saved), .ref xt_text, .int (it_length), .ref xt_doors, .int (it_doorMany), .ref xt_label, .int (it_drawn), .ref xt_far, .ref xt_ring, .int (it_walker), .int (it_from), .ref xt_was, .int (it_steps), .int (it_faultAt), .int (it_mover)])), (qt_now, .inl (cy.1, 639, .inl (ft_now)))] sz)) (va_A [(qt, .inr (11, [.ref qt_now, .ref xt_past, .int (it_saved), .ref xt_text, .int (it_length), .ref xt_doors, .int (it_doorMany), .ref xt_label, .int (it_drawn), .ref xt_far, .ref xt_ring, .int (it_walker), .int (it_from), .ref xt_was, .int (it_steps), .int (it_faultAt), .int (it_mover)])), (qt_now, .inl (cy.1, 639, .inl (ft_now)))] sz)) 0 0 (va_A [(qt, .inr (11, [.ref qt_now, .ref xt_past, .int (it_saved), .ref xt_text, .int (it_length), .ref xt_doors, .int (it_doorMany), .ref xt_label, .int (it_drawn), .ref xt_far, .ref xt_ring, .int (it_walker), .int (it_from), .ref xt_was, .int (it_steps), .int (it_faultAt), .int (it_mover)])), (qt_now, .inl (cy.1, 639, .inl (ft_now)))] sz) := by
  refine Met.ofW (cc := cX11_letterAt) (maxL := 2) (ret := (some .int)) (by decide) rfl ?_
  intro p e s m args below meth c s₁ B hml hv
  obtain ⟨rfl, hsz, hP, hK, hD0, hG⟩ := hv
  have hx := B.exec
  have hb := B.bytes
  have hr := B.returns
  have hts := atoms_spec (ws := wsX11_letterAt) B.pre
  have hown : s.vm.findClass RX11 = some m.cls := findClass_of_methodNamed B.named
  have hlocks := B.notSynchronized
  subst hsz
  have hD := hD0.self (sz := s.heap.size)
  generalize hAe : va_A [(qt, .inr (11, [.ref qt_now, .ref xt_past, .int (it_saved), .ref xt_text, .int (it_length), .ref xt_doors, .int (it_doorMany), .ref xt_label, .int (it_drawn), .ref xt_far, .ref xt_ring, .int (it_walker), .int (it_from), .ref xt_was, .int (it_steps), .int (it_faultAt), .int (it_mover)])), (qt_now, .inl (cy.1, 639, .inl (ft_now)))] s.heap.size = A at hD hG ⊢
  have hA : ∀ q : Nat, s.heap.size ≤ q → A q := fun q h => by rw [← hAe]; exact Or.inr h
  have hS : va_S A s.heap s.heap [] := va_S.rf
  have hP : va_P (dC, dI) vwCl [(qt, .inr (11, [.ref qt_now, .ref xt_past, .int (it_saved), .ref xt_text, .int (it_length), .ref xt_doors, .int (it_doorMany), .ref xt_label, .int (it_drawn), .ref xt_far, .ref xt_ring, .int (it_walker), .int (it_from), .ref xt_was, .int (it_steps), .int (it_faultAt), .int (it_mover)])), (qt_now, .inl (cy.1, 639, .inl (ft_now)))] s.heap := hP
  have hl := lv_entry ([.ref qt, .int va1]) (n := 2) (Nat.le_of_ble_eq_true rfl)
  rw [lg_entry_eq]
  generalize (lg_sl ([.ref qt, .int va1]) ++ List.replicate (2 - (lg_sl ([.ref qt, .int va1])).length) Slot.unset).toArray = ls at hl ⊢
  have hl : lv_has ls 2 [(0, .ref qt), (1, .int va1)] := hl
  refine kgen (fun Q hQ => ?_)
  rw [f_X11_letterAt] at hf
  refine lv_iload_n hx hb dX11_letterAt_0 rfl (lv_at hl 1 rfl) ?_
  refine lv_aload_n hx hb dX11_letterAt_1 rfl (lv_at hl 0 rfl) ?_
  refine kcalli (wc := [(qt, .inr (11, [.ref qt_now, .ref xt_past, .int (it_saved), .ref xt_text, .int (it_length), .ref xt_doors, .int (it_doorMany), .ref xt_label, .int (it_drawn), .ref xt_far, .ref xt_ring, .int (it_walker), .int (it_from), .ref xt_was, .int (it_steps), .int (it_faultAt), .int (it_mover)])), (qt_now, .inl (cy.1, 639, .inl (ft_now)))]) (wr := []) (w1 := [(qt, .inr (11, [.ref qt_now, .ref xt_past, .int (it_saved), .ref xt_text, .int (it_length), .ref xt_doors, .int (it_doorMany), .ref xt_label, .int (it_drawn), .ref xt_far, .ref xt_ring, .int (it_walker), .int (it_from), .ref xt_was, .int (it_steps), .int (it_faultAt), .int (it_mover)])), (qt_now, .inl (cy.1, 639, .inl (ft_now)))]) hK hP hD hS hA hG [0, 1] [] rfl rfl rfl rfl rfl (fun hU hPc => va_runV (As := []) (rest := [.int va1]) ⟨hx, hb, hml, hown, hts⟩ (c_X11_wide l dC dI cy G s.heap.size qt qt_now xt_past xt_text xt_doors xt_label xt_far xt_ring xt_was (it_saved) (it_length) (it_doorMany) (it_drawn) (it_walker) (it_from) (it_steps) (it_faultAt) (it_mover) (ft_now) (t_X11_wide (ft_now)) (tot_X11_wide (ft_now))) (cwV 0 hts gX11_letterAt_X11_wide rfl rfl rfl hdX11_wide ⟨Nat.le_of_ble_eq_true rfl, Nat.le_of_ble_eq_true rfl⟩) ⟨kBlind, (va_recv hK hP (ci := 11) (q0 := 0) rfl rfl), fun U h1 h2 => ⟨rfl, hU U h1 h2⟩⟩ rfl rfl hl.1 rfl (lv_room (Nat.le_of_ble_eq_true rfl)) dX11_letterAt_2 ⟨Nat.zero_le _, Nat.zero_le _⟩) ((t_X11_wide (ft_now))) (fun _ _ h => h) (fun _ _ h => h) (fun H locs hP hD hS => ?_)
  have hP : va_P (dC, dI) vwCl [(qt, .inr (11, [.ref qt_now, .ref xt_past, .int (it_saved), .ref xt_text, .int (it_length), .ref xt_doors, .int (it_doorMany), .ref xt_label, .int (it_drawn), .ref xt_far, .ref xt_ring, .int (it_walker), .int (it_from), .ref xt_was, .int (it_steps), .int (it_faultAt), .int (it_mover)])), (qt_now, .inl (cy.1, 639, .inl (ft_now)))] H := hP
  have hD : va_D A [(qt, .inr (11, [.ref qt_now, .ref xt_past, .int (it_saved), .ref xt_text, .int (it_length), .ref xt_doors, .int (it_doorMany), .ref xt_label, .int (it_drawn), .ref xt_far, .ref xt_ring, .int (it_walker), .int (it_from), .ref xt_was, .int (it_steps), .int (it_faultAt), .int (it_mover)])), (qt_now, .inl (cy.1, 639, .inl (ft_now)))] := hD
  obtain ⟨hk_5, hf⟩ := chk_s hf
  refine lv_idiv hx hb dX11_letterAt_5 hk_5 ?_
  refine lv_iconst (v := (5 : Int32)) hx hb dX11_letterAt_6 (by decide) ?_
  refine lv_icmp_ne (tgt := 14) hx hb dX11_letterAt_7 (by decide) (fun hc_7 => ?_) (fun hc_7 => ?_)
  · rw [if_neg hc_7] at hf
    refine lv_iload_n hx hb dX11_letterAt_14 rfl (lv_at hl 1 rfl) ?_
    refine lv_aload_n hx hb dX11_letterAt_15 rfl (lv_at hl 0 rfl) ?_
    refine kcalli (wc := [(qt, .inr (11, [.ref qt_now, .ref xt_past, .int (it_saved), .ref xt_text, .int (it_length), .ref xt_doors, .int (it_doorMany), .ref xt_label, .int (it_drawn), .ref xt_far, .ref xt_ring, .int (it_walker), .int (it_from), .ref xt_was, .int (it_steps), .int (it_faultAt), .int (it_mover)])), (qt_now, .inl (cy.1, 639, .inl (ft_now)))]) (wr := []) (w1 := [(qt, .inr (11, [.ref qt_now, .ref xt_past, .int (it_saved), .ref xt_text, .int (it_length), .ref xt_doors, .int (it_doorMany), .ref xt_label, .int (it_drawn), .ref xt_far, .ref xt_ring, .int (it_walker), .int (it_from), .ref xt_was, .int (it_steps), .int (it_faultAt), .int (it_mover)])), (qt_now, .inl (cy.1, 639, .inl (ft_now)))]) hK hP hD hS hA hG [0, 1] [] rfl rfl rfl rfl rfl (fun hU hPc => va_runV (As := []) (rest := [.int va1]) ⟨hx, hb, hml, hown, hts⟩ (c_X11_wide l dC dI cy G H.size qt qt_now xt_past xt_text xt_doors xt_label xt_far xt_ring xt_was (it_saved) (it_length) (it_doorMany) (it_drawn) (it_walker) (it_from) (it_steps) (it_faultAt) (it_mover) (ft_now) (t_X11_wide (ft_now)) (tot_X11_wide (ft_now))) (cwV 0 hts gX11_letterAt_X11_wide rfl rfl rfl hdX11_wide ⟨Nat.le_of_ble_eq_true rfl, Nat.le_of_ble_eq_true rfl⟩) ⟨kBlind, (va_recv hK hP (ci := 11) (q0 := 0) rfl rfl), fun U h1 h2 => ⟨rfl, hU U h1 h2⟩⟩ rfl rfl hl.1 rfl (lv_room (Nat.le_of_ble_eq_true rfl)) dX11_letterAt_16 ⟨Nat.zero_le _, Nat.zero_le _⟩) ((t_X11_wide (ft_now))) (fun _ _ h => h) (fun _ _ h => h) (fun H locs hP hD hS => ?_)
    have hP : va_P (dC, dI) vwCl [(qt, .inr (11, [.ref qt_now, .ref xt_past, .int (it_saved), .ref xt_text, .int (it_length), .ref xt_doors, .int (it_doorMany), .ref xt_label, .int (it_drawn), .ref xt_far, .ref xt_ring, .int (it_walker), .int (it_from), .ref xt_was, .int (it_steps), .int (it_faultAt), .int (it_mover)])), (qt_now, .inl (cy.1, 639, .inl (ft_now)))] H := hP
    have hD : va_D A [(qt, .inr (11, [.ref qt_now, .ref xt_past, .int (it_saved), .ref xt_text, .int (it_length), .ref xt_doors, .int (it_doorMany), .ref xt_label, .int (it_drawn), .ref xt_far, .ref xt_ring, .int (it_walker), .int (it_from), .ref xt_was, .int (it_steps), .int (it_faultAt), .int (it_mover)])), (qt_now, .inl (cy.1, 639, .inl (ft_now)))] := hD
    obtain ⟨hk_19, hf⟩ := chk_s hf
    refine lv_irem hx hb dX11_letterAt_19 hk_19 ?_
    refine lv_bipush (v := (6 : Int32)) hx hb dX11_letterAt_20 (by decide) ?_
    refine lv_idiv hx hb dX11_letterAt_22 (by decide) ?_
    cases hf
    subst hQ
    exact kiret hx hb hr hlocks hK (hP.sub [0, 1] rfl) (hD.sub [0, 1] (by decide) rfl) hS rfl dX11_letterAt_23
  · rw [if_pos hc_7] at hf
    refine lv_iconst (v := (-1 : Int32)) hx hb dX11_letterAt_10 (by decide) ?_
    refine lv_goto (tgt := 23) hx hb dX11_letterAt_11 (by decide) ?_
    cases hf
    subst hQ
    exact kiret hx hb hr hlocks hK (hP.sub [0, 1] rfl) (hD.sub [0, 1] (by decide) rfl) hS rfl dX11_letterAt_23
theorem hdX11_letterAt : yX11_letterAt.cls = RX11 ∧ yX11_letterAt.cls ≠ "java/lang/invoke/MethodHandle" ∧ yX11_letterAt.cls ≠ "java/lang/invoke/VarHandle" ∧ (parseMethodDescriptor yX11_letterAt.desc).map (fun d => d.parameters.length) = some 1 := by decide +kernel
noncomputable def f_X11_letterOf (ft_now : Nat → Int32) (va1 : Int32) : Option (Int32) :=
  bnd1 (f_X11_hasRoom (ft_now) (va1)) fun r2 =>
  if r2 = 0 then
    some ((-1 : Int32))
  else
    bnd1 (f_X11_letterAt (ft_now) (va1)) fun r12 =>
    if 0 ≤ r12 then
      some (r12)
    else
      some ((-4 : Int32))
abbrev rm_X11_letterOf : Room := { frames := 4, cells := 0, slots := 0, locals := 88 }
set_option maxHeartbeats 4000000 in
set_option maxRecDepth 100000 in
theorem c_X11_letterOf (l : Launch) (dC : Nat → ClassId) (dI : Nat → Nat → Nat) (cy : gC) (G : gT) (sz : Nat) (qt : Nat) (qt_now : Nat) (xt_past : Nat) (xt_text : Nat) (xt_doors : Nat) (xt_label : Nat) (xt_far : Nat) (xt_ring : Nat) (xt_was : Nat) (it_saved : Int32) (it_length : Int32) (it_doorMany : Int32) (it_drawn : Int32) (it_walker : Int32) (it_from : Int32) (it_steps : Int32) (it_faultAt : Int32) (it_mover : Int32) (ft_now : Nat → Int32) (va1 : Int32) (out : Int32) (hf : f_X11_letterOf ft_now va1 = some out) : Met l yX11_letterOf wsX11_letterOf rm_X11_letterOf (va_Pc [.ref qt, .int va1] (kP (dC, dI) cy G [(qt, .inr (11, [.ref qt_now, .ref xt_past, .int (it_saved), .ref xt_text, .int (it_length), .ref xt_doors, .int (it_doorMany), .ref xt_label, .int (it_drawn), .ref xt_far, .ref xt_ring, .int (it_walker), .int (it_from), .ref xt_was, .int (it_steps), .int (it_faultAt), .int (it_mover)])), (qt_now, .inl (cy.1, 639, .inl (ft_now)))] sz)) (va_Qi (fun r (_ : Unit) => r = out) (fun _ => kQ (dC, dI) cy [(qt, .inr (11, [.ref qt_now, .ref xt_past, .int (it_saved), .ref xt_text, .int (it_length), .ref xt_doors, .int (it_doorMany), .ref xt_label, .int (it_drawn), .ref xt_far, .ref xt_ring, .int (it_walker), .int (it_from), .ref xt_was, .int (it_steps), .int (it_faultAt), .int (it_mover)])), (qt_now, .inl (cy.1, 639, .inl (ft_now)))] (va_A [(qt, .inr (11, [.ref qt_now, .ref xt_past, .int (it_saved), .ref xt_text, .int (it_length), .ref xt_doors, .int (it_doorMany), .ref xt_label, .int (it_drawn), .ref xt_far, .ref xt_ring, .int (it_walker), .int (it_from), .ref xt_was, .int (it_steps), .int (it_faultAt), .int (it_mover)])), (qt_now, .inl (cy.1, 639, .inl (ft_now)))] sz)) (va_A [(qt, .inr (11, [.ref qt_now, .ref xt_past, .int (it_saved), .ref xt_text, .int (it_length), .ref xt_doors, .int (it_doorMany), .ref xt_label, .int (it_drawn), .ref xt_far, .ref xt_ring, .int (it_walker), .int (it_from), .ref xt_was, .int (it_steps), .int (it_faultAt), .int (it_mover)])), (qt_now, .inl (cy.1, 639, .inl (ft_now)))] sz)) 0 0 (va_A [(qt, .inr (11, [.ref qt_now, .ref xt_past, .int (it_saved), .ref xt_text, .int (it_length), .ref xt_doors, .int (it_doorMany), .ref xt_label, .int (it_drawn), .ref xt_far, .ref xt_ring, .int (it_walker), .int (it_from), .ref xt_was, .int (it_steps), .int (it_faultAt), .int (it_mover)])), (qt_now, .inl (cy.1, 639, .inl (ft_now)))] sz) := by
  refine Met.ofW (cc := cX11_letterOf) (maxL := 3) (ret := (some .int)) (by decide) rfl ?_
  intro p e s m args below meth c s₁ B hml hv
  obtain ⟨rfl, hsz, hP, hK, hD0, hG⟩ := hv
  have hx := B.exec
  have hb := B.bytes
  have hr := B.returns
  have hts := atoms_spec (ws := wsX11_letterOf) B.pre
  have hown : s.vm.findClass RX11 = some m.cls := findClass_of_methodNamed B.named
  have hlocks := B.notSynchronized
  subst hsz
  have hD := hD0.self (sz := s.heap.size)
  generalize hAe : va_A [(qt, .inr (11, [.ref qt_now, .ref xt_past, .int (it_saved), .ref xt_text, .int (it_length), .ref xt_doors, .int (it_doorMany), .ref xt_label, .int (it_drawn), .ref xt_far, .ref xt_ring, .int (it_walker), .int (it_from), .ref xt_was, .int (it_steps), .int (it_faultAt), .int (it_mover)])), (qt_now, .inl (cy.1, 639, .inl (ft_now)))] s.heap.size = A at hD hG ⊢
  have hA : ∀ q : Nat, s.heap.size ≤ q → A q := fun q h => by rw [← hAe]; exact Or.inr h
  have hS : va_S A s.heap s.heap [] := va_S.rf
  have hP : va_P (dC, dI) vwCl [(qt, .inr (11, [.ref qt_now, .ref xt_past, .int (it_saved), .ref xt_text, .int (it_length), .ref xt_doors, .int (it_doorMany), .ref xt_label, .int (it_drawn), .ref xt_far, .ref xt_ring, .int (it_walker), .int (it_from), .ref xt_was, .int (it_steps), .int (it_faultAt), .int (it_mover)])), (qt_now, .inl (cy.1, 639, .inl (ft_now)))] s.heap := hP
  have hl := lv_entry ([.ref qt, .int va1]) (n := 3) (Nat.le_of_ble_eq_true rfl)
  rw [lg_entry_eq]
  generalize (lg_sl ([.ref qt, .int va1]) ++ List.replicate (3 - (lg_sl ([.ref qt, .int va1])).length) Slot.unset).toArray = ls at hl ⊢
  have hl : lv_has ls 3 [(0, .ref qt), (1, .int va1)] := hl
  refine kgen (fun Q hQ => ?_)
  rw [f_X11_letterOf] at hf
  refine lv_aload_n hx hb dX11_letterOf_0 rfl (lv_at hl 0 rfl) ?_
  refine lv_iload_n hx hb dX11_letterOf_1 rfl (lv_at hl 1 rfl) ?_
  obtain ⟨r2, hq_2, hf⟩ := bnd1_s hf
  refine kcalli (wc := [(qt, .inr (11, [.ref qt_now, .ref xt_past, .int (it_saved), .ref xt_text, .int (it_length), .ref xt_doors, .int (it_doorMany), .ref xt_label, .int (it_drawn), .ref xt_far, .ref xt_ring, .int (it_walker), .int (it_from), .ref xt_was, .int (it_steps), .int (it_faultAt), .int (it_mover)])), (qt_now, .inl (cy.1, 639, .inl (ft_now)))]) (wr := []) (w1 := [(qt, .inr (11, [.ref qt_now, .ref xt_past, .int (it_saved), .ref xt_text, .int (it_length), .ref xt_doors, .int (it_doorMany), .ref xt_label, .int (it_drawn), .ref xt_far, .ref xt_ring, .int (it_walker), .int (it_from), .ref xt_was, .int (it_steps), .int (it_faultAt), .int (it_mover)])), (qt_now, .inl (cy.1, 639, .inl (ft_now)))]) hK hP hD hS hA hG [0, 1] [] rfl rfl rfl rfl rfl (fun hU hPc => va_runV (As := [.int va1]) (rest := []) ⟨hx, hb, hml, hown, hts⟩ (c_X11_hasRoom l dC dI cy G s.heap.size qt qt_now xt_past xt_text xt_doors xt_label xt_far xt_ring xt_was (it_saved) (it_length) (it_doorMany) (it_drawn) (it_walker) (it_from) (it_steps) (it_faultAt) (it_mover) (ft_now) (va1) r2 hq_2) (cwV 1 hts gX11_letterOf_X11_hasRoom rfl rfl rfl hdX11_hasRoom ⟨Nat.le_of_ble_eq_true rfl, Nat.le_of_ble_eq_true rfl⟩) ⟨kBlind, (va_recv hK hP (ci := 11) (q0 := 0) rfl rfl), fun U h1 h2 => ⟨rfl, hU U h1 h2⟩⟩ rfl rfl hl.1 rfl (lv_room (Nat.le_of_ble_eq_true rfl)) dX11_letterOf_2 ⟨Nat.zero_le _, Nat.zero_le _⟩) (r2) (fun _ _ h => h) (fun _ _ h => h) (fun H locs hP hD hS => ?_)
  have hP : va_P (dC, dI) vwCl [(qt, .inr (11, [.ref qt_now, .ref xt_past, .int (it_saved), .ref xt_text, .int (it_length), .ref xt_doors, .int (it_doorMany), .ref xt_label, .int (it_drawn), .ref xt_far, .ref xt_ring, .int (it_walker), .int (it_from), .ref xt_was, .int (it_steps), .int (it_faultAt), .int (it_mover)])), (qt_now, .inl (cy.1, 639, .inl (ft_now)))] H := hP
  have hD : va_D A [(qt, .inr (11, [.ref qt_now, .ref xt_past, .int (it_saved), .ref xt_text, .int (it_length), .ref xt_doors, .int (it_doorMany), .ref xt_label, .int (it_drawn), .ref xt_far, .ref xt_ring, .int (it_walker), .int (it_from), .ref xt_was, .int (it_steps), .int (it_faultAt), .int (it_mover)])), (qt_now, .inl (cy.1, 639, .inl (ft_now)))] := hD
  refine lv_if_ne (tgt := 10) hx hb dX11_letterOf_5 (by decide) (fun hc_5 => ?_) (fun hc_5 => ?_)
  · rw [if_neg hc_5] at hf
    refine lv_aload_n hx hb dX11_letterOf_10 rfl (lv_at hl 0 rfl) ?_
    refine lv_iload_n hx hb dX11_letterOf_11 rfl (lv_at hl 1 rfl) ?_
    obtain ⟨r12, hq_12, hf⟩ := bnd1_s hf
    refine kcalli (wc := [(qt, .inr (11, [.ref qt_now, .ref xt_past, .int (it_saved), .ref xt_text, .int (it_length), .ref xt_doors, .int (it_doorMany), .ref xt_label, .int (it_drawn), .ref xt_far, .ref xt_ring, .int (it_walker), .int (it_from), .ref xt_was, .int (it_steps), .int (it_faultAt), .int (it_mover)])), (qt_now, .inl (cy.1, 639, .inl (ft_now)))]) (wr := []) (w1 := [(qt, .inr (11, [.ref qt_now, .ref xt_past, .int (it_saved), .ref xt_text, .int (it_length), .ref xt_doors, .int (it_doorMany), .ref xt_label, .int (it_drawn), .ref xt_far, .ref xt_ring, .int (it_walker), .int (it_from), .ref xt_was, .int (it_steps), .int (it_faultAt), .int (it_mover)])), (qt_now, .inl (cy.1, 639, .inl (ft_now)))]) hK hP hD hS hA hG [0, 1] [] rfl rfl rfl rfl rfl (fun hU hPc => va_runV (As := [.int va1]) (rest := []) ⟨hx, hb, hml, hown, hts⟩ (c_X11_letterAt l dC dI cy G H.size qt qt_now xt_past xt_text xt_doors xt_label xt_far xt_ring xt_was (it_saved) (it_length) (it_doorMany) (it_drawn) (it_walker) (it_from) (it_steps) (it_faultAt) (it_mover) (ft_now) (va1) r12 hq_12) (cwV 1 hts gX11_letterOf_X11_letterAt rfl rfl rfl hdX11_letterAt ⟨Nat.le_of_ble_eq_true rfl, Nat.le_of_ble_eq_true rfl⟩) ⟨kBlind, (va_recv hK hP (ci := 11) (q0 := 0) rfl rfl), fun U h1 h2 => ⟨rfl, hU U h1 h2⟩⟩ rfl rfl hl.1 rfl (lv_room (Nat.le_of_ble_eq_true rfl)) dX11_letterOf_12 ⟨Nat.zero_le _, Nat.zero_le _⟩) (r12) (fun _ _ h => h) (fun _ _ h => h) (fun H locs hP hD hS => ?_)
    have hP : va_P (dC, dI) vwCl [(qt, .inr (11, [.ref qt_now, .ref xt_past, .int (it_saved), .ref xt_text, .int (it_length), .ref xt_doors, .int (it_doorMany), .ref xt_label, .int (it_drawn), .ref xt_far, .ref xt_ring, .int (it_walker), .int (it_from), .ref xt_was, .int (it_steps), .int (it_faultAt), .int (it_mover)])), (qt_now, .inl (cy.1, 639, .inl (ft_now)))] H := hP
    have hD : va_D A [(qt, .inr (11, [.ref qt_now, .ref xt_past, .int (it_saved), .ref xt_text, .int (it_length), .ref xt_doors, .int (it_doorMany), .ref xt_label, .int (it_drawn), .ref xt_far, .ref xt_ring, .int (it_walker), .int (it_from), .ref xt_was, .int (it_steps), .int (it_faultAt), .int (it_mover)])), (qt_now, .inl (cy.1, 639, .inl (ft_now)))] := hD
    refine lv_istore_n (lv' := [(2, .int r12), (0, .ref qt), (1, .int va1)]) hx hb dX11_letterOf_15 rfl hl (by decide) rfl (fun ls hl => ?_)
    refine lv_iload_n hx hb dX11_letterOf_16 rfl (lv_at hl 0 rfl) ?_
    refine lv_if_ge (tgt := 25) hx hb dX11_letterOf_17 (by decide) (fun hc_17 => ?_) (fun hc_17 => ?_)
    · rw [if_pos hc_17] at hf
      refine lv_iload_n hx hb dX11_letterOf_25 rfl (lv_at hl 0 rfl) ?_
      cases hf
      subst hQ
      exact kiret hx hb hr hlocks hK (hP.sub [0, 1] rfl) (hD.sub [0, 1] (by decide) rfl) hS rfl dX11_letterOf_26
    · rw [if_neg hc_17] at hf
      refine lv_bipush (v := (-4 : Int32)) hx hb dX11_letterOf_20 (by decide) ?_
      refine lv_goto (tgt := 26) hx hb dX11_letterOf_22 (by decide) ?_
      cases hf
      subst hQ
      exact kiret hx hb hr hlocks hK (hP.sub [0, 1] rfl) (hD.sub [0, 1] (by decide) rfl) hS rfl dX11_letterOf_26
  · rw [if_pos hc_5] at hf
    refine lv_iconst (v := (-1 : Int32)) hx hb dX11_letterOf_8 (by decide) ?_
    cases hf
    subst hQ
    exact kiret hx hb hr hlocks hK (hP.sub [0, 1] rfl) (hD.sub [0, 1] (by decide) rfl) hS rfl dX11_letterOf_9
theorem hdX11_letterOf : yX11_letterOf.cls = RX11 ∧ yX11_letterOf.cls ≠ "java/lang/invoke/MethodHandle" ∧ yX11_letterOf.cls ≠ "java/lang/invoke/VarHandle" ∧ (parseMethodDescriptor yX11_letterOf.desc).map (fun d => d.parameters.length) = some 1 := by decide +kernel
noncomputable def b_X11_beside_79 (ft_now : Nat → Int32) (va1 : Int32) (va2 : Int32) (l4 : Int32) (s0 : Int32) : Option (Int32) :=
  if s0 = 0 then
    bnd1 (f_X11_hasRoom (ft_now) (l4)) fun r89 =>
    if r89 = 0 then
      some ((-1 : Int32))
    else
      some (l4)
  else
    some ((-1 : Int32))
noncomputable def b_X11_beside_78 (ft_now : Nat → Int32) (va1 : Int32) (va2 : Int32) (l4 : Int32) : Option (Int32) :=
  b_X11_beside_79 ft_now va1 va2 (l4) ((0 : Int32))
noncomputable def b_X11_beside_74 (ft_now : Nat → Int32) (va1 : Int32) (va2 : Int32) (l4 : Int32) : Option (Int32) :=
  b_X11_beside_79 ft_now va1 va2 (l4) ((1 : Int32))
noncomputable def b_X11_beside_65 (ft_now : Nat → Int32) (va1 : Int32) (va2 : Int32) (l3 : Int32) (l4 : Int32) : Option (Int32) :=
  if va2 = (3 : Int32) then
    if l3 = 0 then
      b_X11_beside_74 ft_now va1 va2 (l4)
    else
      b_X11_beside_78 ft_now va1 va2 (l4)
  else
    b_X11_beside_78 ft_now va1 va2 (l4)
noncomputable def b_X11_beside_48 (ft_now : Nat → Int32) (va1 : Int32) (va2 : Int32) (l3 : Int32) (s0 : Int32) : Option (Int32) :=
  if va2 = (1 : Int32) then
    if l3 = ((t_X11_wide (ft_now)) - (1 : Int32)) then
      b_X11_beside_74 ft_now va1 va2 (s0)
    else
      b_X11_beside_65 ft_now va1 va2 (l3) (s0)
  else
    b_X11_beside_65 ft_now va1 va2 (l3) (s0)
noncomputable def f_X11_beside (ft_now : Nat → Int32) (va1 : Int32) (va2 : Int32) : Option (Int32) :=
  if (t_X11_wide (ft_now)) = 0 then none else
  if va2 = 0 then
    b_X11_beside_48 ft_now va1 va2 ((va1 - va1 / (t_X11_wide (ft_now)) * (t_X11_wide (ft_now)))) ((va1 - (t_X11_wide (ft_now))))
  else
    if va2 = (1 : Int32) then
      b_X11_beside_48 ft_now va1 va2 ((va1 - va1 / (t_X11_wide (ft_now)) * (t_X11_wide (ft_now)))) ((va1 + (1 : Int32)))
    else
      if va2 = (2 : Int32) then
        b_X11_beside_48 ft_now va1 va2 ((va1 - va1 / (t_X11_wide (ft_now)) * (t_X11_wide (ft_now)))) ((va1 + (t_X11_wide (ft_now))))
      else
        b_X11_beside_48 ft_now va1 va2 ((va1 - va1 / (t_X11_wide (ft_now)) * (t_X11_wide (ft_now)))) ((va1 - (1 : Int32)))
abbrev rm_X11_beside : Room := { frames := 4, cells := 0, slots := 0, locals := 88 }
set_option maxHeartbeats 4000000 in
set_option maxRecDepth 100000 in
theorem c_X11_beside (l : Launch) (dC : Nat → ClassId) (dI : Nat → Nat → Nat) (cy : gC) (G : gT) (sz : Nat) (qt : Nat) (qt_now : Nat) (xt_past : Nat) (xt_text : Nat) (xt_doors : Nat) (xt_label : Nat) (xt_far : Nat) (xt_ring : Nat) (xt_was : Nat) (it_saved : Int32) (it_length : Int32) (it_doorMany : Int32) (it_drawn : Int32) (it_walker : Int32) (it_from : Int32) (it_steps : Int32) (it_faultAt : Int32) (it_mover : Int32) (ft_now : Nat → Int32) (va1 : Int32) (va2 : Int32) (out : Int32) (hf : f_X11_beside ft_now va1 va2 = some out) : Met l yX11_beside wsX11_beside rm_X11_beside (va_Pc [.ref qt, .int va1, .int va2] (kP (dC, dI) cy G [(qt, .inr (11, [.ref qt_now, .ref xt_past, .int (it_saved), .ref xt_text, .int (it_length), .ref xt_doors, .int (it_doorMany), .ref xt_label, .int (it_drawn), .ref xt_far, .ref xt_ring, .int (it_walker), .int (it_from), .ref xt_was, .int (it_steps), .int (it_faultAt), .int (it_mover)])), (qt_now, .inl (cy.1, 639, .inl (ft_now)))] sz)) (va_Qi (fun r (_ : Unit) => r = out) (fun _ => kQ (dC, dI) cy [(qt, .inr (11, [.ref qt_now, .ref xt_past, .int (it_saved), .ref xt_text, .int (it_length), .ref xt_doors, .int (it_doorMany), .ref xt_label, .int (it_drawn), .ref xt_far, .ref xt_ring, .int (it_walker), .int (it_from), .ref xt_was, .int (it_steps), .int (it_faultAt), .int (it_mover)])), (qt_now, .inl (cy.1, 639, .inl (ft_now)))] (va_A [(qt, .inr (11, [.ref qt_now, .ref xt_past, .int (it_saved), .ref xt_text, .int (it_length), .ref xt_doors, .int (it_doorMany), .ref xt_label, .int (it_drawn), .ref xt_far, .ref xt_ring, .int (it_walker), .int (it_from), .ref xt_was, .int (it_steps), .int (it_faultAt), .int (it_mover)])), (qt_now, .inl (cy.1, 639, .inl (ft_now)))] sz)) (va_A [(qt, .inr (11, [.ref qt_now, .ref xt_past, .int (it_saved), .ref xt_text, .int (it_length), .ref xt_doors, .int (it_doorMany), .ref xt_label, .int (it_drawn), .ref xt_far, .ref xt_ring, .int (it_walker), .int (it_from), .ref xt_was, .int (it_steps), .int (it_faultAt), .int (it_mover)])), (qt_now, .inl (cy.1, 639, .inl (ft_now)))] sz)) 0 0 (va_A [(qt, .inr (11, [.ref qt_now, .ref xt_past, .int (it_saved), .ref xt_text, .int (it_length), .ref xt_doors, .int (it_doorMany), .ref xt_label, .int (it_drawn), .ref xt_far, .ref xt_ring, .int (it_walker), .int (it_from), .ref xt_was, .int (it_steps), .int (it_faultAt), .int (it_mover)])), (qt_now, .inl (cy.1, 639, .inl (ft_now)))] sz) := by
  refine Met.ofW (cc := cX11_beside) (maxL := 6) (ret := (some .int)) (by decide) rfl ?_
  intro p e s m args below meth c s₁ B hml hv
  obtain ⟨rfl, hsz, hP, hK, hD0, hG⟩ := hv
  have hx := B.exec
  have hb := B.bytes
  have hr := B.returns
  have hts := atoms_spec (ws := wsX11_beside) B.pre
  have hown : s.vm.findClass RX11 = some m.cls := findClass_of_methodNamed B.named
  have hlocks := B.notSynchronized
  subst hsz
  have hD := hD0.self (sz := s.heap.size)
  generalize hAe : va_A [(qt, .inr (11, [.ref qt_now, .ref xt_past, .int (it_saved), .ref xt_text, .int (it_length), .ref xt_doors, .int (it_doorMany), .ref xt_label, .int (it_drawn), .ref xt_far, .ref xt_ring, .int (it_walker), .int (it_from), .ref xt_was, .int (it_steps), .int (it_faultAt), .int (it_mover)])), (qt_now, .inl (cy.1, 639, .inl (ft_now)))] s.heap.size = A at hD hG ⊢
  have hA : ∀ q : Nat, s.heap.size ≤ q → A q := fun q h => by rw [← hAe]; exact Or.inr h
  have hS : va_S A s.heap s.heap [] := va_S.rf
  have hP : va_P (dC, dI) vwCl [(qt, .inr (11, [.ref qt_now, .ref xt_past, .int (it_saved), .ref xt_text, .int (it_length), .ref xt_doors, .int (it_doorMany), .ref xt_label, .int (it_drawn), .ref xt_far, .ref xt_ring, .int (it_walker), .int (it_from), .ref xt_was, .int (it_steps), .int (it_faultAt), .int (it_mover)])), (qt_now, .inl (cy.1, 639, .inl (ft_now)))] s.heap := hP
  have hl := lv_entry ([.ref qt, .int va1, .int va2]) (n := 6) (Nat.le_of_ble_eq_true rfl)
  rw [lg_entry_eq]
  generalize (lg_sl ([.ref qt, .int va1, .int va2]) ++ List.replicate (6 - (lg_sl ([.ref qt, .int va1, .int va2])).length) Slot.unset).toArray = ls at hl ⊢
  have hl : lv_has ls 6 [(0, .ref qt), (1, .int va1), (2, .int va2)] := hl
  refine kgen (fun Q hQ => ?_)
  have B79 : ∀ (l4 : Int32) (s0 : Int32) (H : Heap) (locs : List Loc), va_P (dC, dI) vwCl [(qt, .inr (11, [.ref qt_now, .ref xt_past, .int (it_saved), .ref xt_text, .int (it_length), .ref xt_doors, .int (it_doorMany), .ref xt_label, .int (it_drawn), .ref xt_far, .ref xt_ring, .int (it_walker), .int (it_from), .ref xt_was, .int (it_steps), .int (it_faultAt), .int (it_mover)])), (qt_now, .inl (cy.1, 639, .inl (ft_now)))] H → va_D A [(qt, .inr (11, [.ref qt_now, .ref xt_past, .int (it_saved), .ref xt_text, .int (it_length), .ref xt_doors, .int (it_doorMany), .ref xt_label, .int (it_drawn), .ref xt_far, .ref xt_ring, .int (it_walker), .int (it_from), .ref xt_was, .int (it_steps), .int (it_faultAt), .int (it_mover)])), (qt_now, .inl (cy.1, 639, .inl (ft_now)))] → va_S A s.heap H locs → ∀ (ls : Array Slot), lv_has ls 6 [(0, .ref qt), (4, .int l4)] → b_X11_beside_79 ft_now va1 va2 l4 s0 = some out → W p l e (headSpec wsX11_beside rm_X11_beside).room s m ([.ref qt, .int va1, .int va2] : List Value).toArray below meth c H locs 0 0 Q (F0 m 79 ls [.int s0]) := by
    intro l4 s0 H locs hP hD hS ls hl hf
    rw [b_X11_beside_79] at hf
    refine lv_istore (lv' := [(5, .int s0), (0, .ref qt), (4, .int l4)]) hx hb dX11_beside_79 hl (by decide) rfl (fun ls hl => ?_)
    refine lv_iload hx hb dX11_beside_81 (lv_at hl 0 rfl) ?_
    refine lv_if_ne (tgt := 95) hx hb dX11_beside_83 (by decide) (fun hc_83 => ?_) (fun hc_83 => ?_)
    · rw [if_neg hc_83] at hf
      refine lv_iconst (v := (-1 : Int32)) hx hb dX11_beside_95 (by decide) ?_
      refine lv_goto (tgt := 101) hx hb dX11_beside_96 (by decide) ?_
      cases hf
      subst hQ
      exact kiret hx hb hr hlocks hK (hP.sub [0, 1] rfl) (hD.sub [0, 1] (by decide) rfl) hS rfl dX11_beside_101
    · rw [if_pos hc_83] at hf
      refine lv_aload_n hx hb dX11_beside_86 rfl (lv_at hl 1 rfl) ?_
      refine lv_iload hx hb dX11_beside_87 (lv_at hl 2 rfl) ?_
      obtain ⟨r89, hq_89, hf⟩ := bnd1_s hf
      refine kcalli (wc := [(qt, .inr (11, [.ref qt_now, .ref xt_past, .int (it_saved), .ref xt_text, .int (it_length), .ref xt_doors, .int (it_doorMany), .ref xt_label, .int (it_drawn), .ref xt_far, .ref xt_ring, .int (it_walker), .int (it_from), .ref xt_was, .int (it_steps), .int (it_faultAt), .int (it_mover)])), (qt_now, .inl (cy.1, 639, .inl (ft_now)))]) (wr := []) (w1 := [(qt, .inr (11, [.ref qt_now, .ref xt_past, .int (it_saved), .ref xt_text, .int (it_length), .ref xt_doors, .int (it_doorMany), .ref xt_label, .int (it_drawn), .ref xt_far, .ref xt_ring, .int (it_walker), .int (it_from), .ref xt_was, .int (it_steps), .int (it_faultAt), .int (it_mover)])), (qt_now, .inl (cy.1, 639, .inl (ft_now)))]) hK hP hD hS hA hG [0, 1] [] rfl rfl rfl rfl rfl (fun hU hPc => va_runV (As := [.int l4]) (rest := []) ⟨hx, hb, hml, hown, hts⟩ (c_X11_hasRoom l dC dI cy G H.size qt qt_now xt_past xt_text xt_doors xt_label xt_far xt_ring xt_was (it_saved) (it_length) (it_doorMany) (it_drawn) (it_walker) (it_from) (it_steps) (it_faultAt) (it_mover) (ft_now) (l4) r89 hq_89) (cwV 1 hts gX11_beside_X11_hasRoom rfl rfl rfl hdX11_hasRoom ⟨Nat.le_of_ble_eq_true rfl, Nat.le_of_ble_eq_true rfl⟩) ⟨kBlind, (va_recv hK hP (ci := 11) (q0 := 0) rfl rfl), fun U h1 h2 => ⟨rfl, hU U h1 h2⟩⟩ rfl rfl hl.1 rfl (lv_room (Nat.le_of_ble_eq_true rfl)) dX11_beside_89 ⟨Nat.zero_le _, Nat.zero_le _⟩) (r89) (fun _ _ h => h) (fun _ _ h => h) (fun H locs hP hD hS => ?_)
      have hP : va_P (dC, dI) vwCl [(qt, .inr (11, [.ref qt_now, .ref xt_past, .int (it_saved), .ref xt_text, .int (it_length), .ref xt_doors, .int (it_doorMany), .ref xt_label, .int (it_drawn), .ref xt_far, .ref xt_ring, .int (it_walker), .int (it_from), .ref xt_was, .int (it_steps), .int (it_faultAt), .int (it_mover)])), (qt_now, .inl (cy.1, 639, .inl (ft_now)))] H := hP
      have hD : va_D A [(qt, .inr (11, [.ref qt_now, .ref xt_past, .int (it_saved), .ref xt_text, .int (it_length), .ref xt_doors, .int (it_doorMany), .ref xt_label, .int (it_drawn), .ref xt_far, .ref xt_ring, .int (it_walker), .int (it_from), .ref xt_was, .int (it_steps), .int (it_faultAt), .int (it_mover)])), (qt_now, .inl (cy.1, 639, .inl (ft_now)))] := hD
      refine lv_if_ne (tgt := 99) hx hb dX11_beside_92 (by decide) (fun hc_92 => ?_) (fun hc_92 => ?_)
      · rw [if_neg hc_92] at hf
        refine lv_iload hx hb dX11_beside_99 (lv_at hl 2 rfl) ?_
        cases hf
        subst hQ
        exact kiret hx hb hr hlocks hK (hP.sub [0, 1] rfl) (hD.sub [0, 1] (by decide) rfl) hS rfl dX11_beside_101
      · rw [if_pos hc_92] at hf
        refine lv_iconst (v := (-1 : Int32)) hx hb dX11_beside_95 (by decide) ?_
        refine lv_goto (tgt := 101) hx hb dX11_beside_96 (by decide) ?_
        cases hf
        subst hQ
        exact kiret hx hb hr hlocks hK (hP.sub [0, 1] rfl) (hD.sub [0, 1] (by decide) rfl) hS rfl dX11_beside_101
  have B74 : ∀ (l4 : Int32) (H : Heap) (locs : List Loc), va_P (dC, dI) vwCl [(qt, .inr (11, [.ref qt_now, .ref xt_past, .int (it_saved), .ref xt_text, .int (it_length), .ref xt_doors, .int (it_doorMany), .ref xt_label, .int (it_drawn), .ref xt_far, .ref xt_ring, .int (it_walker), .int (it_from), .ref xt_was, .int (it_steps), .int (it_faultAt), .int (it_mover)])), (qt_now, .inl (cy.1, 639, .inl (ft_now)))] H → va_D A [(qt, .inr (11, [.ref qt_now, .ref xt_past, .int (it_saved), .ref xt_text, .int (it_length), .ref xt_doors, .int (it_doorMany), .ref xt_label, .int (it_drawn), .ref xt_far, .ref xt_ring, .int (it_walker), .int (it_from), .ref xt_was, .int (it_steps), .int (it_faultAt), .int (it_mover)])), (qt_now, .inl (cy.1, 639, .inl (ft_now)))] → va_S A s.heap H locs → ∀ (ls : Array Slot), lv_has ls 6 [(0, .ref qt), (4, .int l4)] → b_X11_beside_74 ft_now va1 va2 l4 = some out → W p l e (headSpec wsX11_beside rm_X11_beside).room s m ([.ref qt, .int va1, .int va2] : List Value).toArray below meth c H locs 0 0 Q (F0 m 74 ls []) := by
    intro l4 H locs hP hD hS ls hl hf
    rw [b_X11_beside_74] at hf
    refine lv_iconst (v := (1 : Int32)) hx hb dX11_beside_74 (by decide) ?_
    refine lv_goto (tgt := 79) hx hb dX11_beside_75 (by decide) ?_
    exact B79 (l4) ((1 : Int32)) _ _ (hP.sub [0, 1] rfl) (hD.sub [0, 1] (by decide) rfl) hS _ (lv_sub hl [0, 1] rfl) hf
  have B78 : ∀ (l4 : Int32) (H : Heap) (locs : List Loc), va_P (dC, dI) vwCl [(qt, .inr (11, [.ref qt_now, .ref xt_past, .int (it_saved), .ref xt_text, .int (it_length), .ref xt_doors, .int (it_doorMany), .ref xt_label, .int (it_drawn), .ref xt_far, .ref xt_ring, .int (it_walker), .int (it_from), .ref xt_was, .int (it_steps), .int (it_faultAt), .int (it_mover)])), (qt_now, .inl (cy.1, 639, .inl (ft_now)))] H → va_D A [(qt, .inr (11, [.ref qt_now, .ref xt_past, .int (it_saved), .ref xt_text, .int (it_length), .ref xt_doors, .int (it_doorMany), .ref xt_label, .int (it_drawn), .ref xt_far, .ref xt_ring, .int (it_walker), .int (it_from), .ref xt_was, .int (it_steps), .int (it_faultAt), .int (it_mover)])), (qt_now, .inl (cy.1, 639, .inl (ft_now)))] → va_S A s.heap H locs → ∀ (ls : Array Slot), lv_has ls 6 [(0, .ref qt), (4, .int l4)] → b_X11_beside_78 ft_now va1 va2 l4 = some out → W p l e (headSpec wsX11_beside rm_X11_beside).room s m ([.ref qt, .int va1, .int va2] : List Value).toArray below meth c H locs 0 0 Q (F0 m 78 ls []) := by
    intro l4 H locs hP hD hS ls hl hf
    rw [b_X11_beside_78] at hf
    refine lv_iconst (v := (0 : Int32)) hx hb dX11_beside_78 (by decide) ?_
    exact B79 (l4) ((0 : Int32)) _ _ (hP.sub [0, 1] rfl) (hD.sub [0, 1] (by decide) rfl) hS _ (lv_sub hl [0, 1] rfl) hf
  have B65 : ∀ (l3 : Int32) (l4 : Int32) (H : Heap) (locs : List Loc), va_P (dC, dI) vwCl [(qt, .inr (11, [.ref qt_now, .ref xt_past, .int (it_saved), .ref xt_text, .int (it_length), .ref xt_doors, .int (it_doorMany), .ref xt_label, .int (it_drawn), .ref xt_far, .ref xt_ring, .int (it_walker), .int (it_from), .ref xt_was, .int (it_steps), .int (it_faultAt), .int (it_mover)])), (qt_now, .inl (cy.1, 639, .inl (ft_now)))] H → va_D A [(qt, .inr (11, [.ref qt_now, .ref xt_past, .int (it_saved), .ref xt_text, .int (it_length), .ref xt_doors, .int (it_doorMany), .ref xt_label, .int (it_drawn), .ref xt_far, .ref xt_ring, .int (it_walker), .int (it_from), .ref xt_was, .int (it_steps), .int (it_faultAt), .int (it_mover)])), (qt_now, .inl (cy.1, 639, .inl (ft_now)))] → va_S A s.heap H locs → ∀ (ls : Array Slot), lv_has ls 6 [(0, .ref qt), (2, .int va2), (3, .int l3), (4, .int l4)] → b_X11_beside_65 ft_now va1 va2 l3 l4 = some out → W p l e (headSpec wsX11_beside rm_X11_beside).room s m ([.ref qt, .int va1, .int va2] : List Value).toArray below meth c H locs 0 0 Q (F0 m 65 ls []) := by
    intro l3 l4 H locs hP hD hS ls hl hf
    rw [b_X11_beside_65] at hf
    refine lv_iload_n hx hb dX11_beside_65 rfl (lv_at hl 1 rfl) ?_
    refine lv_iconst (v := (3 : Int32)) hx hb dX11_beside_66 (by decide) ?_
    refine lv_icmp_ne (tgt := 78) hx hb dX11_beside_67 (by decide) (fun hc_67 => ?_) (fun hc_67 => ?_)
    · rw [if_neg hc_67] at hf
      exact B78 (l4) _ _ (hP.sub [0, 1] rfl) (hD.sub [0, 1] (by decide) rfl) hS _ (lv_sub hl [0, 3] rfl) hf
    · rw [if_pos hc_67] at hf
      refine lv_iload_n hx hb dX11_beside_70 rfl (lv_at hl 2 rfl) ?_
      refine lv_if_ne (tgt := 78) hx hb dX11_beside_71 (by decide) (fun hc_71 => ?_) (fun hc_71 => ?_)
      · rw [if_neg hc_71] at hf
        exact B78 (l4) _ _ (hP.sub [0, 1] rfl) (hD.sub [0, 1] (by decide) rfl) hS _ (lv_sub hl [0, 3] rfl) hf
      · rw [if_pos hc_71] at hf
        exact B74 (l4) _ _ (hP.sub [0, 1] rfl) (hD.sub [0, 1] (by decide) rfl) hS _ (lv_sub hl [0, 3] rfl) hf
  have B48 : ∀ (l3 : Int32) (s0 : Int32) (H : Heap) (locs : List Loc), va_P (dC, dI) vwCl [(qt, .inr (11, [.ref qt_now, .ref xt_past, .int (it_saved), .ref xt_text, .int (it_length), .ref xt_doors, .int (it_doorMany), .ref xt_label, .int (it_drawn), .ref xt_far, .ref xt_ring, .int (it_walker), .int (it_from), .ref xt_was, .int (it_steps), .int (it_faultAt), .int (it_mover)])), (qt_now, .inl (cy.1, 639, .inl (ft_now)))] H → va_D A [(qt, .inr (11, [.ref qt_now, .ref xt_past, .int (it_saved), .ref xt_text, .int (it_length), .ref xt_doors, .int (it_doorMany), .ref xt_label, .int (it_drawn), .ref xt_far, .ref xt_ring, .int (it_walker), .int (it_from), .ref xt_was, .int (it_steps), .int (it_faultAt), .int (it_mover)])), (qt_now, .inl (cy.1, 639, .inl (ft_now)))] → va_S A s.heap H locs → ∀ (ls : Array Slot), lv_has ls 6 [(0, .ref qt), (2, .int va2), (3, .int l3)] → b_X11_beside_48 ft_now va1 va2 l3 s0 = some out → W p l e (headSpec wsX11_beside rm_X11_beside).room s m ([.ref qt, .int va1, .int va2] : List Value).toArray below meth c H locs 0 0 Q (F0 m 48 ls [.int s0]) := by
    intro l3 s0 H locs hP hD hS ls hl hf
    rw [b_X11_beside_48] at hf
    refine lv_istore (lv' := [(4, .int s0), (0, .ref qt), (2, .int va2), (3, .int l3)]) hx hb dX11_beside_48 hl (by decide) rfl (fun ls hl => ?_)
    refine lv_iload_n hx hb dX11_beside_50 rfl (lv_at hl 2 rfl) ?_
    refine lv_iconst (v := (1 : Int32)) hx hb dX11_beside_51 (by decide) ?_
    refine lv_icmp_ne (tgt := 65) hx hb dX11_beside_52 (by decide) (fun hc_52 => ?_) (fun hc_52 => ?_)
    · rw [if_neg hc_52] at hf
      exact B65 (l3) (s0) _ _ (hP.sub [0, 1] rfl) (hD.sub [0, 1] (by decide) rfl) hS _ (lv_sub hl [1, 2, 3, 0] rfl) hf
    · rw [if_pos hc_52] at hf
      refine lv_iload_n hx hb dX11_beside_55 rfl (lv_at hl 3 rfl) ?_
      refine lv_aload_n hx hb dX11_beside_56 rfl (lv_at hl 1 rfl) ?_
      refine kcalli (wc := [(qt, .inr (11, [.ref qt_now, .ref xt_past, .int (it_saved), .ref xt_text, .int (it_length), .ref xt_doors, .int (it_doorMany), .ref xt_label, .int (it_drawn), .ref xt_far, .ref xt_ring, .int (it_walker), .int (it_from), .ref xt_was, .int (it_steps), .int (it_faultAt), .int (it_mover)])), (qt_now, .inl (cy.1, 639, .inl (ft_now)))]) (wr := []) (w1 := [(qt, .inr (11, [.ref qt_now, .ref xt_past, .int (it_saved), .ref xt_text, .int (it_length), .ref xt_doors, .int (it_doorMany), .ref xt_label, .int (it_drawn), .ref xt_far, .ref xt_ring, .int (it_walker), .int (it_from), .ref xt_was, .int (it_steps), .int (it_faultAt), .int (it_mover)])), (qt_now, .inl (cy.1, 639, .inl (ft_now)))]) hK hP hD hS hA hG [0, 1] [] rfl rfl rfl rfl rfl (fun hU hPc => va_runV (As := []) (rest := [.int l3]) ⟨hx, hb, hml, hown, hts⟩ (c_X11_wide l dC dI cy G H.size qt qt_now xt_past xt_text xt_doors xt_label xt_far xt_ring xt_was (it_saved) (it_length) (it_doorMany) (it_drawn) (it_walker) (it_from) (it_steps) (it_faultAt) (it_mover) (ft_now) (t_X11_wide (ft_now)) (tot_X11_wide (ft_now))) (cwV 0 hts gX11_beside_X11_wide rfl rfl rfl hdX11_wide ⟨Nat.le_of_ble_eq_true rfl, Nat.le_of_ble_eq_true rfl⟩) ⟨kBlind, (va_recv hK hP (ci := 11) (q0 := 0) rfl rfl), fun U h1 h2 => ⟨rfl, hU U h1 h2⟩⟩ rfl rfl hl.1 rfl (lv_room (Nat.le_of_ble_eq_true rfl)) dX11_beside_57 ⟨Nat.zero_le _, Nat.zero_le _⟩) ((t_X11_wide (ft_now))) (fun _ _ h => h) (fun _ _ h => h) (fun H locs hP hD hS => ?_)
      have hP : va_P (dC, dI) vwCl [(qt, .inr (11, [.ref qt_now, .ref xt_past, .int (it_saved), .ref xt_text, .int (it_length), .ref xt_doors, .int (it_doorMany), .ref xt_label, .int (it_drawn), .ref xt_far, .ref xt_ring, .int (it_walker), .int (it_from), .ref xt_was, .int (it_steps), .int (it_faultAt), .int (it_mover)])), (qt_now, .inl (cy.1, 639, .inl (ft_now)))] H := hP
      have hD : va_D A [(qt, .inr (11, [.ref qt_now, .ref xt_past, .int (it_saved), .ref xt_text, .int (it_length), .ref xt_doors, .int (it_doorMany), .ref xt_label, .int (it_drawn), .ref xt_far, .ref xt_ring, .int (it_walker), .int (it_from), .ref xt_was, .int (it_steps), .int (it_faultAt), .int (it_mover)])), (qt_now, .inl (cy.1, 639, .inl (ft_now)))] := hD
      refine lv_iconst (v := (1 : Int32)) hx hb dX11_beside_60 (by decide) ?_
      refine lv_isub hx hb dX11_beside_61 ?_
      refine lv_icmp_eq (tgt := 74) hx hb dX11_beside_62 (by decide) (fun hc_62 => ?_) (fun hc_62 => ?_)
      · rw [if_pos hc_62] at hf
        exact B74 (s0) _ _ (hP.sub [0, 1] rfl) (hD.sub [0, 1] (by decide) rfl) hS _ (lv_sub hl [1, 0] rfl) hf
      · rw [if_neg hc_62] at hf
        exact B65 (l3) (s0) _ _ (hP.sub [0, 1] rfl) (hD.sub [0, 1] (by decide) rfl) hS _ (lv_sub hl [1, 2, 3, 0] rfl) hf
  rw [f_X11_beside] at hf
  refine lv_iload_n hx hb dX11_beside_0 rfl (lv_at hl 1 rfl) ?_
  refine lv_aload_n hx hb dX11_beside_1 rfl (lv_at hl 0 rfl) ?_
  refine kcalli (wc := [(qt, .inr (11, [.ref qt_now, .ref xt_past, .int (it_saved), .ref xt_text, .int (it_length), .ref xt_doors, .int (it_doorMany), .ref xt_label, .int (it_drawn), .ref xt_far, .ref xt_ring, .int (it_walker), .int (it_from), .ref xt_was, .int (it_steps), .int (it_faultAt), .int (it_mover)])), (qt_now, .inl (cy.1, 639, .inl (ft_now)))]) (wr := []) (w1 := [(qt, .inr (11, [.ref qt_now, .ref xt_past, .int (it_saved), .ref xt_text, .int (it_length), .ref xt_doors, .int (it_doorMany), .ref xt_label, .int (it_drawn), .ref xt_far, .ref xt_ring, .int (it_walker), .int (it_from), .ref xt_was, .int (it_steps), .int (it_faultAt), .int (it_mover)])), (qt_now, .inl (cy.1, 639, .inl (ft_now)))]) hK hP hD hS hA hG [0, 1] [] rfl rfl rfl rfl rfl (fun hU hPc => va_runV (As := []) (rest := [.int va1]) ⟨hx, hb, hml, hown, hts⟩ (c_X11_wide l dC dI cy G s.heap.size qt qt_now xt_past xt_text xt_doors xt_label xt_far xt_ring xt_was (it_saved) (it_length) (it_doorMany) (it_drawn) (it_walker) (it_from) (it_steps) (it_faultAt) (it_mover) (ft_now) (t_X11_wide (ft_now)) (tot_X11_wide (ft_now))) (cwV 0 hts gX11_beside_X11_wide rfl rfl rfl hdX11_wide ⟨Nat.le_of_ble_eq_true rfl, Nat.le_of_ble_eq_true rfl⟩) ⟨kBlind, (va_recv hK hP (ci := 11) (q0 := 0) rfl rfl), fun U h1 h2 => ⟨rfl, hU U h1 h2⟩⟩ rfl rfl hl.1 rfl (lv_room (Nat.le_of_ble_eq_true rfl)) dX11_beside_2 ⟨Nat.zero_le _, Nat.zero_le _⟩) ((t_X11_wide (ft_now))) (fun _ _ h => h) (fun _ _ h => h) (fun H locs hP hD hS => ?_)
  have hP : va_P (dC, dI) vwCl [(qt, .inr (11, [.ref qt_now, .ref xt_past, .int (it_saved), .ref xt_text, .int (it_length), .ref xt_doors, .int (it_doorMany), .ref xt_label, .int (it_drawn), .ref xt_far, .ref xt_ring, .int (it_walker), .int (it_from), .ref xt_was, .int (it_steps), .int (it_faultAt), .int (it_mover)])), (qt_now, .inl (cy.1, 639, .inl (ft_now)))] H := hP
  have hD : va_D A [(qt, .inr (11, [.ref qt_now, .ref xt_past, .int (it_saved), .ref xt_text, .int (it_length), .ref xt_doors, .int (it_doorMany), .ref xt_label, .int (it_drawn), .ref xt_far, .ref xt_ring, .int (it_walker), .int (it_from), .ref xt_was, .int (it_steps), .int (it_faultAt), .int (it_mover)])), (qt_now, .inl (cy.1, 639, .inl (ft_now)))] := hD
  obtain ⟨hk_5, hf⟩ := chk_s hf
  refine lv_irem hx hb dX11_beside_5 hk_5 ?_
  refine lv_istore_n (lv' := [(3, .int (va1 - va1 / (t_X11_wide (ft_now)) * (t_X11_wide (ft_now)))), (0, .ref qt), (1, .int va1), (2, .int va2)]) hx hb dX11_beside_6 rfl hl (by decide) rfl (fun ls hl => ?_)
  refine lv_iload_n hx hb dX11_beside_7 rfl (lv_at hl 3 rfl) ?_
  refine lv_if_ne (tgt := 20) hx hb dX11_beside_8 (by decide) (fun hc_8 => ?_) (fun hc_8 => ?_)
  · rw [if_neg hc_8] at hf
    refine lv_iload_n hx hb dX11_beside_20 rfl (lv_at hl 3 rfl) ?_
    refine lv_iconst (v := (1 : Int32)) hx hb dX11_beside_21 (by decide) ?_
    refine lv_icmp_ne (tgt := 31) hx hb dX11_beside_22 (by decide) (fun hc_22 => ?_) (fun hc_22 => ?_)
    · rw [if_neg hc_22] at hf
      refine lv_iload_n hx hb dX11_beside_31 rfl (lv_at hl 3 rfl) ?_
      refine lv_iconst (v := (2 : Int32)) hx hb dX11_beside_32 (by decide) ?_
      refine lv_icmp_ne (tgt := 45) hx hb dX11_beside_33 (by decide) (fun hc_33 => ?_) (fun hc_33 => ?_)
      · rw [if_neg hc_33] at hf
        refine lv_iload_n hx hb dX11_beside_45 rfl (lv_at hl 2 rfl) ?_
        refine lv_iconst (v := (1 : Int32)) hx hb dX11_beside_46 (by decide) ?_
        refine lv_isub hx hb dX11_beside_47 ?_
        exact B48 ((va1 - va1 / (t_X11_wide (ft_now)) * (t_X11_wide (ft_now)))) ((va1 - (1 : Int32))) _ _ (hP.sub [0, 1] rfl) (hD.sub [0, 1] (by decide) rfl) hS _ (lv_sub hl [1, 3, 0] rfl) hf
      · rw [if_pos hc_33] at hf
        refine lv_iload_n hx hb dX11_beside_36 rfl (lv_at hl 2 rfl) ?_
        refine lv_aload_n hx hb dX11_beside_37 rfl (lv_at hl 1 rfl) ?_
        refine kcalli (wc := [(qt, .inr (11, [.ref qt_now, .ref xt_past, .int (it_saved), .ref xt_text, .int (it_length), .ref xt_doors, .int (it_doorMany), .ref xt_label, .int (it_drawn), .ref xt_far, .ref xt_ring, .int (it_walker), .int (it_from), .ref xt_was, .int (it_steps), .int (it_faultAt), .int (it_mover)])), (qt_now, .inl (cy.1, 639, .inl (ft_now)))]) (wr := []) (w1 := [(qt, .inr (11, [.ref qt_now, .ref xt_past, .int (it_saved), .ref xt_text, .int (it_length), .ref xt_doors, .int (it_doorMany), .ref xt_label, .int (it_drawn), .ref xt_far, .ref xt_ring, .int (it_walker), .int (it_from), .ref xt_was, .int (it_steps), .int (it_faultAt), .int (it_mover)])), (qt_now, .inl (cy.1, 639, .inl (ft_now)))]) hK hP hD hS hA hG [0, 1] [] rfl rfl rfl rfl rfl (fun hU hPc => va_runV (As := []) (rest := [.int va1]) ⟨hx, hb, hml, hown, hts⟩ (c_X11_wide l dC dI cy G H.size qt qt_now xt_past xt_text xt_doors xt_label xt_far xt_ring xt_was (it_saved) (it_length) (it_doorMany) (it_drawn) (it_walker) (it_from) (it_steps) (it_faultAt) (it_mover) (ft_now) (t_X11_wide (ft_now)) (tot_X11_wide (ft_now))) (cwV 0 hts gX11_beside_X11_wide rfl rfl rfl hdX11_wide ⟨Nat.le_of_ble_eq_true rfl, Nat.le_of_ble_eq_true rfl⟩) ⟨kBlind, (va_recv hK hP (ci := 11) (q0 := 0) rfl rfl), fun U h1 h2 => ⟨rfl, hU U h1 h2⟩⟩ rfl rfl hl.1 rfl (lv_room (Nat.le_of_ble_eq_true rfl)) dX11_beside_38 ⟨Nat.zero_le _, Nat.zero_le _⟩) ((t_X11_wide (ft_now))) (fun _ _ h => h) (fun _ _ h => h) (fun H locs hP hD hS => ?_)
        have hP : va_P (dC, dI) vwCl [(qt, .inr (11, [.ref qt_now, .ref xt_past, .int (it_saved), .ref xt_text, .int (it_length), .ref xt_doors, .int (it_doorMany), .ref xt_label, .int (it_drawn), .ref xt_far, .ref xt_ring, .int (it_walker), .int (it_from), .ref xt_was, .int (it_steps), .int (it_faultAt), .int (it_mover)])), (qt_now, .inl (cy.1, 639, .inl (ft_now)))] H := hP
        have hD : va_D A [(qt, .inr (11, [.ref qt_now, .ref xt_past, .int (it_saved), .ref xt_text, .int (it_length), .ref xt_doors, .int (it_doorMany), .ref xt_label, .int (it_drawn), .ref xt_far, .ref xt_ring, .int (it_walker), .int (it_from), .ref xt_was, .int (it_steps), .int (it_faultAt), .int (it_mover)])), (qt_now, .inl (cy.1, 639, .inl (ft_now)))] := hD
        refine lv_iadd hx hb dX11_beside_41 ?_
        refine lv_goto (tgt := 48) hx hb dX11_beside_42 (by decide) ?_
        exact B48 ((va1 - va1 / (t_X11_wide (ft_now)) * (t_X11_wide (ft_now)))) ((va1 + (t_X11_wide (ft_now)))) _ _ (hP.sub [0, 1] rfl) (hD.sub [0, 1] (by decide) rfl) hS _ (lv_sub hl [1, 3, 0] rfl) hf
    · rw [if_pos hc_22] at hf
      refine lv_iload_n hx hb dX11_beside_25 rfl (lv_at hl 2 rfl) ?_
      refine lv_iconst (v := (1 : Int32)) hx hb dX11_beside_26 (by decide) ?_
      refine lv_iadd hx hb dX11_beside_27 ?_
      refine lv_goto (tgt := 48) hx hb dX11_beside_28 (by decide) ?_
      exact B48 ((va1 - va1 / (t_X11_wide (ft_now)) * (t_X11_wide (ft_now)))) ((va1 + (1 : Int32))) _ _ (hP.sub [0, 1] rfl) (hD.sub [0, 1] (by decide) rfl) hS _ (lv_sub hl [1, 3, 0] rfl) hf
  · rw [if_pos hc_8] at hf
    refine lv_iload_n hx hb dX11_beside_11 rfl (lv_at hl 2 rfl) ?_
    refine lv_aload_n hx hb dX11_beside_12 rfl (lv_at hl 1 rfl) ?_
    refine kcalli (wc := [(qt, .inr (11, [.ref qt_now, .ref xt_past, .int (it_saved), .ref xt_text, .int (it_length), .ref xt_doors, .int (it_doorMany), .ref xt_label, .int (it_drawn), .ref xt_far, .ref xt_ring, .int (it_walker), .int (it_from), .ref xt_was, .int (it_steps), .int (it_faultAt), .int (it_mover)])), (qt_now, .inl (cy.1, 639, .inl (ft_now)))]) (wr := []) (w1 := [(qt, .inr (11, [.ref qt_now, .ref xt_past, .int (it_saved), .ref xt_text, .int (it_length), .ref xt_doors, .int (it_doorMany), .ref xt_label, .int (it_drawn), .ref xt_far, .ref xt_ring, .int (it_walker), .int (it_from), .ref xt_was, .int (it_steps), .int (it_faultAt), .int (it_mover)])), (qt_now, .inl (cy.1, 639, .inl (ft_now)))]) hK hP hD hS hA hG [0, 1] [] rfl rfl rfl rfl rfl (fun hU hPc => va_runV (As := []) (rest := [.int va1]) ⟨hx, hb, hml, hown, hts⟩ (c_X11_wide l dC dI cy G H.size qt qt_now xt_past xt_text xt_doors xt_label xt_far xt_ring xt_was (it_saved) (it_length) (it_doorMany) (it_drawn) (it_walker) (it_from) (it_steps) (it_faultAt) (it_mover) (ft_now) (t_X11_wide (ft_now)) (tot_X11_wide (ft_now))) (cwV 0 hts gX11_beside_X11_wide rfl rfl rfl hdX11_wide ⟨Nat.le_of_ble_eq_true rfl, Nat.le_of_ble_eq_true rfl⟩) ⟨kBlind, (va_recv hK hP (ci := 11) (q0 := 0) rfl rfl), fun U h1 h2 => ⟨rfl, hU U h1 h2⟩⟩ rfl rfl hl.1 rfl (lv_room (Nat.le_of_ble_eq_true rfl)) dX11_beside_13 ⟨Nat.zero_le _, Nat.zero_le _⟩) ((t_X11_wide (ft_now))) (fun _ _ h => h) (fun _ _ h => h) (fun H locs hP hD hS => ?_)
    have hP : va_P (dC, dI) vwCl [(qt, .inr (11, [.ref qt_now, .ref xt_past, .int (it_saved), .ref xt_text, .int (it_length), .ref xt_doors, .int (it_doorMany), .ref xt_label, .int (it_drawn), .ref xt_far, .ref xt_ring, .int (it_walker), .int (it_from), .ref xt_was, .int (it_steps), .int (it_faultAt), .int (it_mover)])), (qt_now, .inl (cy.1, 639, .inl (ft_now)))] H := hP
    have hD : va_D A [(qt, .inr (11, [.ref qt_now, .ref xt_past, .int (it_saved), .ref xt_text, .int (it_length), .ref xt_doors, .int (it_doorMany), .ref xt_label, .int (it_drawn), .ref xt_far, .ref xt_ring, .int (it_walker), .int (it_from), .ref xt_was, .int (it_steps), .int (it_faultAt), .int (it_mover)])), (qt_now, .inl (cy.1, 639, .inl (ft_now)))] := hD
    refine lv_isub hx hb dX11_beside_16 ?_
    refine lv_goto (tgt := 48) hx hb dX11_beside_17 (by decide) ?_
    exact B48 ((va1 - va1 / (t_X11_wide (ft_now)) * (t_X11_wide (ft_now)))) ((va1 - (t_X11_wide (ft_now)))) _ _ (hP.sub [0, 1] rfl) (hD.sub [0, 1] (by decide) rfl) hS _ (lv_sub hl [1, 3, 0] rfl) hf
theorem hdX11_beside : yX11_beside.cls = RX11 ∧ yX11_beside.cls ≠ "java/lang/invoke/MethodHandle" ∧ yX11_beside.cls ≠ "java/lang/invoke/VarHandle" ∧ (parseMethodDescriptor yX11_beside.desc).map (fun d => d.parameters.length) = some 2 := by decide +kernel
noncomputable def f_X11_doorAt (ft_now : Nat → Int32) (va1 : Int32) (va2 : Int32) : Option (Int32) :=
  if va2 = 0 then
    some ((((219 : Int32) + va1) - (t_X11_wide (ft_now))))
  else
    if va2 = (1 : Int32) then
      some (((9 : Int32) + va1))
    else
      if va2 = (2 : Int32) then
        some (((219 : Int32) + va1))
      else
        some ((((9 : Int32) + va1) - (1 : Int32)))
abbrev rm_X11_doorAt : Room := { frames := 1, cells := 0, slots := 0, locals := 20 }
set_option maxHeartbeats 4000000 in
set_option maxRecDepth 100000 in
theorem c_X11_doorAt (l : Launch) (dC : Nat → ClassId) (dI : Nat → Nat → Nat) (cy : gC) (G : gT) (sz : Nat) (qt : Nat) (qt_now : Nat) (xt_past : Nat) (xt_text : Nat) (xt_doors : Nat) (xt_label : Nat) (xt_far : Nat) (xt_ring : Nat) (xt_was : Nat) (it_saved : Int32) (it_length : Int32) (it_doorMany : Int32) (it_drawn : Int32) (it_walker : Int32) (it_from : Int32) (it_steps : Int32) (it_faultAt : Int32) (it_mover : Int32) (ft_now : Nat → Int32) (va1 : Int32) (va2 : Int32) (out : Int32) (hf : f_X11_doorAt ft_now va1 va2 = some out) : Met l yX11_doorAt wsX11_doorAt rm_X11_doorAt (va_Pc [.ref qt, .int va1, .int va2] (kP (dC, dI) cy G [(qt, .inr (11, [.ref qt_now, .ref xt_past, .int (it_saved), .ref xt_text, .int (it_length), .ref xt_doors, .int (it_doorMany), .ref xt_label, .int (it_drawn), .ref xt_far, .ref xt_ring, .int (it_walker), .int (it_from), .ref xt_was, .int (it_steps), .int (it_faultAt), .int (it_mover)])), (qt_now, .inl (cy.1, 639, .inl (ft_now)))] sz)) (va_Qi (fun r (_ : Unit) => r = out) (fun _ => kQ (dC, dI) cy [(qt, .inr (11, [.ref qt_now, .ref xt_past, .int (it_saved), .ref xt_text, .int (it_length), .ref xt_doors, .int (it_doorMany), .ref xt_label, .int (it_drawn), .ref xt_far, .ref xt_ring, .int (it_walker), .int (it_from), .ref xt_was, .int (it_steps), .int (it_faultAt), .int (it_mover)])), (qt_now, .inl (cy.1, 639, .inl (ft_now)))] (va_A [(qt, .inr (11, [.ref qt_now, .ref xt_past, .int (it_saved), .ref xt_text, .int (it_length), .ref xt_doors, .int (it_doorMany), .ref xt_label, .int (it_drawn), .ref xt_far, .ref xt_ring, .int (it_walker), .int (it_from), .ref xt_was, .int (it_steps), .int (it_faultAt), .int (it_mover)])), (qt_now, .inl (cy.1, 639, .inl (ft_now)))] sz)) (va_A [(qt, .inr (11, [.ref qt_now, .ref xt_past, .int (it_saved), .ref xt_text, .int (it_length), .ref xt_doors, .int (it_doorMany), .ref xt_label, .int (it_drawn), .ref xt_far, .ref xt_ring, .int (it_walker), .int (it_from), .ref xt_was, .int (it_steps), .int (it_faultAt), .int (it_mover)])), (qt_now, .inl (cy.1, 639, .inl (ft_now)))] sz)) 0 0 (va_A [(qt, .inr (11, [.ref qt_now, .ref xt_past, .int (it_saved), .ref xt_text, .int (it_length), .ref xt_doors, .int (it_doorMany), .ref xt_label, .int (it_drawn), .ref xt_far, .ref xt_ring, .int (it_walker), .int (it_from), .ref xt_was, .int (it_steps), .int (it_faultAt), .int (it_mover)])), (qt_now, .inl (cy.1, 639, .inl (ft_now)))] sz) := by
  refine Met.ofW (cc := cX11_doorAt) (maxL := 3) (ret := (some .int)) (by decide) rfl ?_
  intro p e s m args below meth c s₁ B hml hv
  obtain ⟨rfl, hsz, hP, hK, hD0, hG⟩ := hv
  have hx := B.exec
  have hb := B.bytes
  have hr := B.returns
  have hts := atoms_spec (ws := wsX11_doorAt) B.pre
  have hown : s.vm.findClass RX11 = some m.cls := findClass_of_methodNamed B.named
  have hlocks := B.notSynchronized
  subst hsz
  have hD := hD0.self (sz := s.heap.size)
  generalize hAe : va_A [(qt, .inr (11, [.ref qt_now, .ref xt_past, .int (it_saved), .ref xt_text, .int (it_length), .ref xt_doors, .int (it_doorMany), .ref xt_label, .int (it_drawn), .ref xt_far, .ref xt_ring, .int (it_walker), .int (it_from), .ref xt_was, .int (it_steps), .int (it_faultAt), .int (it_mover)])), (qt_now, .inl (cy.1, 639, .inl (ft_now)))] s.heap.size = A at hD hG ⊢
  have hA : ∀ q : Nat, s.heap.size ≤ q → A q := fun q h => by rw [← hAe]; exact Or.inr h
  have hS : va_S A s.heap s.heap [] := va_S.rf
  have hP : va_P (dC, dI) vwCl [(qt, .inr (11, [.ref qt_now, .ref xt_past, .int (it_saved), .ref xt_text, .int (it_length), .ref xt_doors, .int (it_doorMany), .ref xt_label, .int (it_drawn), .ref xt_far, .ref xt_ring, .int (it_walker), .int (it_from), .ref xt_was, .int (it_steps), .int (it_faultAt), .int (it_mover)])), (qt_now, .inl (cy.1, 639, .inl (ft_now)))] s.heap := hP
  have hl := lv_entry ([.ref qt, .int va1, .int va2]) (n := 3) (Nat.le_of_ble_eq_true rfl)
  rw [lg_entry_eq]
  generalize (lg_sl ([.ref qt, .int va1, .int va2]) ++ List.replicate (3 - (lg_sl ([.ref qt, .int va1, .int va2])).length) Slot.unset).toArray = ls at hl ⊢
  have hl : lv_has ls 3 [(0, .ref qt), (1, .int va1), (2, .int va2)] := hl
  refine kgen (fun Q hQ => ?_)
  rw [f_X11_doorAt] at hf
  refine lv_iload_n hx hb dX11_doorAt_0 rfl (lv_at hl 2 rfl) ?_
  refine lv_if_ne (tgt := 17) hx hb dX11_doorAt_1 (by decide) (fun hc_1 => ?_) (fun hc_1 => ?_)
  · rw [if_neg hc_1] at hf
    refine lv_iload_n hx hb dX11_doorAt_17 rfl (lv_at hl 2 rfl) ?_
    refine lv_iconst (v := (1 : Int32)) hx hb dX11_doorAt_18 (by decide) ?_
    refine lv_icmp_ne (tgt := 29) hx hb dX11_doorAt_19 (by decide) (fun hc_19 => ?_) (fun hc_19 => ?_)
    · rw [if_neg hc_19] at hf
      refine lv_iload_n hx hb dX11_doorAt_29 rfl (lv_at hl 2 rfl) ?_
      refine lv_iconst (v := (2 : Int32)) hx hb dX11_doorAt_30 (by decide) ?_
      refine lv_icmp_ne (tgt := 42) hx hb dX11_doorAt_31 (by decide) (fun hc_31 => ?_) (fun hc_31 => ?_)
      · rw [if_neg hc_31] at hf
        refine lv_bipush (v := (9 : Int32)) hx hb dX11_doorAt_42 (by decide) ?_
        refine lv_iload_n hx hb dX11_doorAt_44 rfl (lv_at hl 1 rfl) ?_
        refine lv_iadd hx hb dX11_doorAt_45 ?_
        refine lv_iconst (v := (1 : Int32)) hx hb dX11_doorAt_46 (by decide) ?_
        refine lv_isub hx hb dX11_doorAt_47 ?_
        cases hf
        subst hQ
        exact kiret hx hb hr hlocks hK (hP.sub [0, 1] rfl) (hD.sub [0, 1] (by decide) rfl) hS rfl dX11_doorAt_48
      · rw [if_pos hc_31] at hf
        refine lv_sipush (v := (219 : Int32)) hx hb dX11_doorAt_34 (by decide) ?_
        refine lv_iload_n hx hb dX11_doorAt_37 rfl (lv_at hl 1 rfl) ?_
        refine lv_iadd hx hb dX11_doorAt_38 ?_
        refine lv_goto (tgt := 48) hx hb dX11_doorAt_39 (by decide) ?_
        cases hf
        subst hQ
        exact kiret hx hb hr hlocks hK (hP.sub [0, 1] rfl) (hD.sub [0, 1] (by decide) rfl) hS rfl dX11_doorAt_48
    · rw [if_pos hc_19] at hf
      refine lv_bipush (v := (9 : Int32)) hx hb dX11_doorAt_22 (by decide) ?_
      refine lv_iload_n hx hb dX11_doorAt_24 rfl (lv_at hl 1 rfl) ?_
      refine lv_iadd hx hb dX11_doorAt_25 ?_
      refine lv_goto (tgt := 48) hx hb dX11_doorAt_26 (by decide) ?_
      cases hf
      subst hQ
      exact kiret hx hb hr hlocks hK (hP.sub [0, 1] rfl) (hD.sub [0, 1] (by decide) rfl) hS rfl dX11_doorAt_48
  · rw [if_pos hc_1] at hf
    refine lv_sipush (v := (219 : Int32)) hx hb dX11_doorAt_4 (by decide) ?_
    refine lv_iload_n hx hb dX11_doorAt_7 rfl (lv_at hl 1 rfl) ?_
    refine lv_iadd hx hb dX11_doorAt_8 ?_
    refine lv_aload_n hx hb dX11_doorAt_9 rfl (lv_at hl 0 rfl) ?_
    refine kcalli (wc := [(qt, .inr (11, [.ref qt_now, .ref xt_past, .int (it_saved), .ref xt_text, .int (it_length), .ref xt_doors, .int (it_doorMany), .ref xt_label, .int (it_drawn), .ref xt_far, .ref xt_ring, .int (it_walker), .int (it_from), .ref xt_was, .int (it_steps), .int (it_faultAt), .int (it_mover)])), (qt_now, .inl (cy.1, 639, .inl (ft_now)))]) (wr := []) (w1 := [(qt, .inr (11, [.ref qt_now, .ref xt_past, .int (it_saved), .ref xt_text, .int (it_length), .ref xt_doors, .int (it_doorMany), .ref xt_label, .int (it_drawn), .ref xt_far, .ref xt_ring, .int (it_walker), .int (it_from), .ref xt_was, .int (it_steps), .int (it_faultAt), .int (it_mover)])), (qt_now, .inl (cy.1, 639, .inl (ft_now)))]) hK hP hD hS hA hG [0, 1] [] rfl rfl rfl rfl rfl (fun hU hPc => va_runV (As := []) (rest := [.int ((219 : Int32) + va1)]) ⟨hx, hb, hml, hown, hts⟩ (c_X11_wide l dC dI cy G s.heap.size qt qt_now xt_past xt_text xt_doors xt_label xt_far xt_ring xt_was (it_saved) (it_length) (it_doorMany) (it_drawn) (it_walker) (it_from) (it_steps) (it_faultAt) (it_mover) (ft_now) (t_X11_wide (ft_now)) (tot_X11_wide (ft_now))) (cwV 0 hts gX11_doorAt_X11_wide rfl rfl rfl hdX11_wide ⟨Nat.le_of_ble_eq_true rfl, Nat.le_of_ble_eq_true rfl⟩) ⟨kBlind, (va_recv hK hP (ci := 11) (q0 := 0) rfl rfl), fun U h1 h2 => ⟨rfl, hU U h1 h2⟩⟩ rfl rfl hl.1 rfl (lv_room (Nat.le_of_ble_eq_true rfl)) dX11_doorAt_10 ⟨Nat.zero_le _, Nat.zero_le _⟩) ((t_X11_wide (ft_now))) (fun _ _ h => h) (fun _ _ h => h) (fun H locs hP hD hS => ?_)
    have hP : va_P (dC, dI) vwCl [(qt, .inr (11, [.ref qt_now, .ref xt_past, .int (it_saved), .ref xt_text, .int (it_length), .ref xt_doors, .int (it_doorMany), .ref xt_label, .int (it_drawn), .ref xt_far, .ref xt_ring, .int (it_walker), .int (it_from), .ref xt_was, .int (it_steps), .int (it_faultAt), .int (it_mover)])), (qt_now, .inl (cy.1, 639, .inl (ft_now)))] H := hP
    have hD : va_D A [(qt, .inr (11, [.ref qt_now, .ref xt_past, .int (it_saved), .ref xt_text, .int (it_length), .ref xt_doors, .int (it_doorMany), .ref xt_label, .int (it_drawn), .ref xt_far, .ref xt_ring, .int (it_walker), .int (it_from), .ref xt_was, .int (it_steps), .int (it_faultAt), .int (it_mover)])), (qt_now, .inl (cy.1, 639, .inl (ft_now)))] := hD
    refine lv_isub hx hb dX11_doorAt_13 ?_
    refine lv_goto (tgt := 48) hx hb dX11_doorAt_14 (by decide) ?_
    cases hf
    subst hQ
    exact kiret hx hb hr hlocks hK (hP.sub [0, 1] rfl) (hD.sub [0, 1] (by decide) rfl) hS rfl dX11_doorAt_48
theorem hdX11_doorAt : yX11_doorAt.cls = RX11 ∧ yX11_doorAt.cls ≠ "java/lang/invoke/MethodHandle" ∧ yX11_doorAt.cls ≠ "java/lang/invoke/VarHandle" ∧ (parseMethodDescriptor yX11_doorAt.desc).map (fun d => d.parameters.length) = some 2 := by decide +kernel
noncomputable def t_X11_doorAt (ft_now : Nat → Int32) (va1 : Int32) (va2 : Int32) : Int32 :=
  if va2 = 0 then
    (((219 : Int32) + va1) - (t_X11_wide (ft_now)))
  else
    if va2 = (1 : Int32) then
      ((9 : Int32) + va1)
    else
      if va2 = (2 : Int32) then
        ((219 : Int32) + va1)
      else
        (((9 : Int32) + va1) - (1 : Int32))
theorem tot_X11_doorAt (ft_now : Nat → Int32) (va1 : Int32) (va2 : Int32) : f_X11_doorAt ft_now va1 va2 = some (t_X11_doorAt ft_now va1 va2) := by
  by_cases hc_1 : va2 = 0
  · simp only [f_X11_doorAt, t_X11_doorAt, if_pos hc_1]
  · by_cases hc_19 : va2 = (1 : Int32)
    · simp only [f_X11_doorAt, t_X11_doorAt, if_neg hc_1, if_pos hc_19]
    · by_cases hc_31 : va2 = (2 : Int32)
      · simp only [f_X11_doorAt, t_X11_doorAt, if_neg hc_1, if_neg hc_19, if_pos hc_31]
      · simp only [f_X11_doorAt, t_X11_doorAt, if_neg hc_1, if_neg hc_19, if_neg hc_31]
noncomputable def f_X11_isOpen (ft_now : Nat → Int32) (va1 : Int32) (va2 : Int32) : Option (Int32) :=
  bnd1 (f_X11_beside (ft_now) (va1) (va2)) fun r3 =>
  if r3 < 0 then
    some ((0 : Int32))
  else
    if (t_X11_doorAt (ft_now) (va1) (va2)) < 0 ∨ 639 ≤ ((t_X11_doorAt (ft_now) (va1) (va2))).toNatClampNeg then none else
    if (ft_now ((t_X11_doorAt (ft_now) (va1) (va2))).toNatClampNeg) = (1 : Int32) then
      some ((1 : Int32))
    else
      some ((0 : Int32))
abbrev rm_X11_isOpen : Room := { frames := 5, cells := 0, slots := 0, locals := 113 }
set_option maxHeartbeats 4000000 in
set_option maxRecDepth 100000 in
theorem c_X11_isOpen (l : Launch) (dC : Nat → ClassId) (dI : Nat → Nat → Nat) (cy : gC) (G : gT) (sz : Nat) (qt : Nat) (qt_now : Nat) (xt_past : Nat) (xt_text : Nat) (xt_doors : Nat) (xt_label : Nat) (xt_far : Nat) (xt_ring : Nat) (xt_was : Nat) (it_saved : Int32) (it_length : Int32) (it_doorMany : Int32) (it_drawn : Int32) (it_walker : Int32) (it_from : Int32) (it_steps : Int32) (it_faultAt : Int32) (it_mover : Int32) (ft_now : Nat → Int32) (va1 : Int32) (va2 : Int32) (out : Int32) (hf : f_X11_isOpen ft_now va1 va2 = some out) : Met l yX11_isOpen wsX11_isOpen rm_X11_isOpen (va_Pc [.ref qt, .int va1, .int va2] (kP (dC, dI) cy G [(qt, .inr (11, [.ref qt_now, .ref xt_past, .int (it_saved), .ref xt_text, .int (it_length), .ref xt_doors, .int (it_doorMany), .ref xt_label, .int (it_drawn), .ref xt_far, .ref xt_ring, .int (it_walker), .int (it_from), .ref xt_was, .int (it_steps), .int (it_faultAt), .int (it_mover)])), (qt_now, .inl (cy.1, 639, .inl (ft_now)))] sz)) (va_Qi (fun r (_ : Unit) => r = out) (fun _ => kQ (dC, dI) cy [(qt, .inr (11, [.ref qt_now, .ref xt_past, .int (it_saved), .ref xt_text, .int (it_length), .ref xt_doors, .int (it_doorMany), .ref xt_label, .int (it_drawn), .ref xt_far, .ref xt_ring, .int (it_walker), .int (it_from), .ref xt_was, .int (it_steps), .int (it_faultAt), .int (it_mover)])), (qt_now, .inl (cy.1, 639, .inl (ft_now)))] (va_A [(qt, .inr (11, [.ref qt_now, .ref xt_past, .int (it_saved), .ref xt_text, .int (it_length), .ref xt_doors, .int (it_doorMany), .ref xt_label, .int (it_drawn), .ref xt_far, .ref xt_ring, .int (it_walker), .int (it_from), .ref xt_was, .int (it_steps), .int (it_faultAt), .int (it_mover)])), (qt_now, .inl (cy.1, 639, .inl (ft_now)))] sz)) (va_A [(qt, .inr (11, [.ref qt_now, .ref xt_past, .int (it_saved), .ref xt_text, .int (it_length), .ref xt_doors, .int (it_doorMany), .ref xt_label, .int (it_drawn), .ref xt_far, .ref xt_ring, .int (it_walker), .int (it_from), .ref xt_was, .int (it_steps), .int (it_faultAt), .int (it_mover)])), (qt_now, .inl (cy.1, 639, .inl (ft_now)))] sz)) 0 0 (va_A [(qt, .inr (11, [.ref qt_now, .ref xt_past, .int (it_saved), .ref xt_text, .int (it_length), .ref xt_doors, .int (it_doorMany), .ref xt_label, .int (it_drawn), .ref xt_far, .ref xt_ring, .int (it_walker), .int (it_from), .ref xt_was, .int (it_steps), .int (it_faultAt), .int (it_mover)])), (qt_now, .inl (cy.1, 639, .inl (ft_now)))] sz) := by
  refine Met.ofW (cc := cX11_isOpen) (maxL := 3) (ret := (some .boolean)) (by decide) rfl ?_
  intro p e s m args below meth c s₁ B hml hv
  obtain ⟨rfl, hsz, hP, hK, hD0, hG⟩ := hv
  have hx := B.exec
  have hb := B.bytes
  have hr := B.returns
  have hts := atoms_spec (ws := wsX11_isOpen) B.pre
  have hown : s.vm.findClass RX11 = some m.cls := findClass_of_methodNamed B.named
  have hlocks := B.notSynchronized
  subst hsz
  have hD := hD0.self (sz := s.heap.size)
  generalize hAe : va_A [(qt, .inr (11, [.ref qt_now, .ref xt_past, .int (it_saved), .ref xt_text, .int (it_length), .ref xt_doors, .int (it_doorMany), .ref xt_label, .int (it_drawn), .ref xt_far, .ref xt_ring, .int (it_walker), .int (it_from), .ref xt_was, .int (it_steps), .int (it_faultAt), .int (it_mover)])), (qt_now, .inl (cy.1, 639, .inl (ft_now)))] s.heap.size = A at hD hG ⊢
  have hA : ∀ q : Nat, s.heap.size ≤ q → A q := fun q h => by rw [← hAe]; exact Or.inr h
  have hS : va_S A s.heap s.heap [] := va_S.rf
  have hP : va_P (dC, dI) vwCl [(qt, .inr (11, [.ref qt_now, .ref xt_past, .int (it_saved), .ref xt_text, .int (it_length), .ref xt_doors, .int (it_doorMany), .ref xt_label, .int (it_drawn), .ref xt_far, .ref xt_ring, .int (it_walker), .int (it_from), .ref xt_was, .int (it_steps), .int (it_faultAt), .int (it_mover)])), (qt_now, .inl (cy.1, 639, .inl (ft_now)))] s.heap := hP
  have hl := lv_entry ([.ref qt, .int va1, .int va2]) (n := 3) (Nat.le_of_ble_eq_true rfl)
  rw [lg_entry_eq]
  generalize (lg_sl ([.ref qt, .int va1, .int va2]) ++ List.replicate (3 - (lg_sl ([.ref qt, .int va1, .int va2])).length) Slot.unset).toArray = ls at hl ⊢
  have hl : lv_has ls 3 [(0, .ref qt), (1, .int va1), (2, .int va2)] := hl
  refine kgen (fun Q hQ => ?_)
  rw [f_X11_isOpen] at hf
  refine lv_aload_n hx hb dX11_isOpen_0 rfl (lv_at hl 0 rfl) ?_
  refine lv_iload_n hx hb dX11_isOpen_1 rfl (lv_at hl 1 rfl) ?_
  refine lv_iload_n hx hb dX11_isOpen_2 rfl (lv_at hl 2 rfl) ?_
  obtain ⟨r3, hq_3, hf⟩ := bnd1_s hf
  refine kcalli (wc := [(qt, .inr (11, [.ref qt_now, .ref xt_past, .int (it_saved), .ref xt_text, .int (it_length), .ref xt_doors, .int (it_doorMany), .ref xt_label, .int (it_drawn), .ref xt_far, .ref xt_ring, .int (it_walker), .int (it_from), .ref xt_was, .int (it_steps), .int (it_faultAt), .int (it_mover)])), (qt_now, .inl (cy.1, 639, .inl (ft_now)))]) (wr := []) (w1 := [(qt, .inr (11, [.ref qt_now, .ref xt_past, .int (it_saved), .ref xt_text, .int (it_length), .ref xt_doors, .int (it_doorMany), .ref xt_label, .int (it_drawn), .ref xt_far, .ref xt_ring, .int (it_walker), .int (it_from), .ref xt_was, .int (it_steps), .int (it_faultAt), .int (it_mover)])), (qt_now, .inl (cy.1, 639, .inl (ft_now)))]) hK hP hD hS hA hG [0, 1] [] rfl rfl rfl rfl rfl (fun hU hPc => va_runV (As := [.int va1, .int va2]) (rest := []) ⟨hx, hb, hml, hown, hts⟩ (c_X11_beside l dC dI cy G s.heap.size qt qt_now xt_past xt_text xt_doors xt_label xt_far xt_ring xt_was (it_saved) (it_length) (it_doorMany) (it_drawn) (it_walker) (it_from) (it_steps) (it_faultAt) (it_mover) (ft_now) (va1) (va2) r3 hq_3) (cwV 2 hts gX11_isOpen_X11_beside rfl rfl rfl hdX11_beside ⟨Nat.le_of_ble_eq_true rfl, Nat.le_of_ble_eq_true rfl⟩) ⟨kBlind, (va_recv hK hP (ci := 11) (q0 := 0) rfl rfl), fun U h1 h2 => ⟨rfl, hU U h1 h2⟩⟩ rfl rfl hl.1 rfl (lv_room (Nat.le_of_ble_eq_true rfl)) dX11_isOpen_3 ⟨Nat.zero_le _, Nat.zero_le _⟩) (r3) (fun _ _ h => h) (fun _ _ h => h) (fun H locs hP hD hS => ?_)
  have hP : va_P (dC, dI) vwCl [(qt, .inr (11, [.ref qt_now, .ref xt_past, .int (it_saved), .ref xt_text, .int (it_length), .ref xt_doors, .int (it_doorMany), .ref xt_label, .int (it_drawn), .ref xt_far, .ref xt_ring, .int (it_walker), .int (it_from), .ref xt_was, .int (it_steps), .int (it_faultAt), .int (it_mover)])), (qt_now, .inl (cy.1, 639, .inl (ft_now)))] H := hP
  have hD : va_D A [(qt, .inr (11, [.ref qt_now, .ref xt_past, .int (it_saved), .ref xt_text, .int (it_length), .ref xt_doors, .int (it_doorMany), .ref xt_label, .int (it_drawn), .ref xt_far, .ref xt_ring, .int (it_walker), .int (it_from), .ref xt_was, .int (it_steps), .int (it_faultAt), .int (it_mover)])), (qt_now, .inl (cy.1, 639, .inl (ft_now)))] := hD
  refine lv_if_lt (tgt := 28) hx hb dX11_isOpen_6 (by decide) (fun hc_6 => ?_) (fun hc_6 => ?_)
  · rw [if_pos hc_6] at hf
    refine lv_iconst (v := (0 : Int32)) hx hb dX11_isOpen_28 (by decide) ?_
    cases hf
    subst hQ
    exact kzret hx hb hr hlocks rfl hK (hP.sub [0, 1] rfl) (hD.sub [0, 1] (by decide) rfl) hS rfl dX11_isOpen_29
  · rw [if_neg hc_6] at hf
    refine lv_aload_n hx hb dX11_isOpen_9 rfl (lv_at hl 0 rfl) ?_
    refine va_get (D := (dC, dI)) (ci := 11) (C := RX11) (T := TX11) (N := 17) hx hb hts (fun _ h => (List.mem_cons_of_mem _ (List.mem_append_right _ h))) hown hK hP 0 rfl rfl 0 (by decide) (hts _ (List.mem_cons_of_mem _ (List.mem_append_left _ (List.mem_append_left _ (List.mem_of_getElem? (i := 0) rfl))))) (fun _ h => h) rfl dX11_isOpen_10 ?_
    refine lv_aload_n hx hb dX11_isOpen_13 rfl (lv_at hl 0 rfl) ?_
    refine lv_iload_n hx hb dX11_isOpen_14 rfl (lv_at hl 1 rfl) ?_
    refine lv_iload_n hx hb dX11_isOpen_15 rfl (lv_at hl 2 rfl) ?_
    refine kcalli (wc := [(qt, .inr (11, [.ref qt_now, .ref xt_past, .int (it_saved), .ref xt_text, .int (it_length), .ref xt_doors, .int (it_doorMany), .ref xt_label, .int (it_drawn), .ref xt_far, .ref xt_ring, .int (it_walker), .int (it_from), .ref xt_was, .int (it_steps), .int (it_faultAt), .int (it_mover)])), (qt_now, .inl (cy.1, 639, .inl (ft_now)))]) (wr := []) (w1 := [(qt, .inr (11, [.ref qt_now, .ref xt_past, .int (it_saved), .ref xt_text, .int (it_length), .ref xt_doors, .int (it_doorMany), .ref xt_label, .int (it_drawn), .ref xt_far, .ref xt_ring, .int (it_walker), .int (it_from), .ref xt_was, .int (it_steps), .int (it_faultAt), .int (it_mover)])), (qt_now, .inl (cy.1, 639, .inl (ft_now)))]) hK hP hD hS hA hG [0, 1] [] rfl rfl rfl rfl rfl (fun hU hPc => va_runV (As := [.int va1, .int va2]) (rest := [.ref qt_now]) ⟨hx, hb, hml, hown, hts⟩ (c_X11_doorAt l dC dI cy G H.size qt qt_now xt_past xt_text xt_doors xt_label xt_far xt_ring xt_was (it_saved) (it_length) (it_doorMany) (it_drawn) (it_walker) (it_from) (it_steps) (it_faultAt) (it_mover) (ft_now) (va1) (va2) (t_X11_doorAt (ft_now) (va1) (va2)) (tot_X11_doorAt (ft_now) (va1) (va2))) (cwV 2 hts gX11_isOpen_X11_doorAt rfl rfl rfl hdX11_doorAt ⟨Nat.le_of_ble_eq_true rfl, Nat.le_of_ble_eq_true rfl⟩) ⟨kBlind, (va_recv hK hP (ci := 11) (q0 := 0) rfl rfl), fun U h1 h2 => ⟨rfl, hU U h1 h2⟩⟩ rfl rfl hl.1 rfl (lv_room (Nat.le_of_ble_eq_true rfl)) dX11_isOpen_16 ⟨Nat.zero_le _, Nat.zero_le _⟩) ((t_X11_doorAt (ft_now) (va1) (va2))) (fun _ _ h => h) (fun _ _ h => h) (fun H locs hP hD hS => ?_)
    have hP : va_P (dC, dI) vwCl [(qt, .inr (11, [.ref qt_now, .ref xt_past, .int (it_saved), .ref xt_text, .int (it_length), .ref xt_doors, .int (it_doorMany), .ref xt_label, .int (it_drawn), .ref xt_far, .ref xt_ring, .int (it_walker), .int (it_from), .ref xt_was, .int (it_steps), .int (it_faultAt), .int (it_mover)])), (qt_now, .inl (cy.1, 639, .inl (ft_now)))] H := hP
    have hD : va_D A [(qt, .inr (11, [.ref qt_now, .ref xt_past, .int (it_saved), .ref xt_text, .int (it_length), .ref xt_doors, .int (it_doorMany), .ref xt_label, .int (it_drawn), .ref xt_far, .ref xt_ring, .int (it_walker), .int (it_from), .ref xt_was, .int (it_steps), .int (it_faultAt), .int (it_mover)])), (qt_now, .inl (cy.1, 639, .inl (ft_now)))] := hD
    obtain ⟨hk_19, hf⟩ := chk_s hf
    refine va_iald hx hb hK hP 1 0 rfl rfl hk_19 dX11_isOpen_19 ?_
    refine lv_iconst (v := (1 : Int32)) hx hb dX11_isOpen_20 (by decide) ?_
    refine lv_icmp_ne (tgt := 28) hx hb dX11_isOpen_21 (by decide) (fun hc_21 => ?_) (fun hc_21 => ?_)
    · rw [if_neg hc_21] at hf
      refine lv_iconst (v := (0 : Int32)) hx hb dX11_isOpen_28 (by decide) ?_
      cases hf
      subst hQ
      exact kzret hx hb hr hlocks rfl hK (hP.sub [0, 1] rfl) (hD.sub [0, 1] (by decide) rfl) hS rfl dX11_isOpen_29
    · rw [if_pos hc_21] at hf
      refine lv_iconst (v := (1 : Int32)) hx hb dX11_isOpen_24 (by decide) ?_
      refine lv_goto (tgt := 29) hx hb dX11_isOpen_25 (by decide) ?_
      cases hf
      subst hQ
      exact kzret hx hb hr hlocks rfl hK (hP.sub [0, 1] rfl) (hD.sub [0, 1] (by decide) rfl) hS rfl dX11_isOpen_29
theorem hdX11_isOpen : yX11_isOpen.cls = RX11 ∧ yX11_isOpen.cls ≠ "java/lang/invoke/MethodHandle" ∧ yX11_isOpen.cls ≠ "java/lang/invoke/VarHandle" ∧ (parseMethodDescriptor yX11_isOpen.desc).map (fun d => d.parameters.length) = some 2 := by decide +kernel
noncomputable def b_X11_openOnes_4 (N : Nat) (ft_now : Nat → Int32) (va1 : Int32) : Nat → Int32 → Int32 → Option (Int32)
  | 0, _, _ => none
  | n + 1, l2, l3 =>
    if (4 : Int32) ≤ l3 then
      some (l2)
    else
      bnd1 (f_X11_isOpen (ft_now) (va1) (l3)) fun r13 =>
      if r13 = 0 then
        b_X11_openOnes_4 N ft_now va1 n ((l2 + (0 : Int32))) ((l3 + (1 : Int32)))
      else
        b_X11_openOnes_4 N ft_now va1 n ((l2 + (1 : Int32))) ((l3 + (1 : Int32)))
noncomputable def f_X11_openOnes (N : Nat) (ft_now : Nat → Int32) (va1 : Int32) : Option (Int32) :=
  b_X11_openOnes_4 N ft_now va1 N ((0 : Int32)) ((0 : Int32))
abbrev rm_X11_openOnes : Room := { frames := 6, cells := 0, slots := 0, locals := 135 }
set_option maxHeartbeats 4000000 in
set_option maxRecDepth 100000 in
theorem c_X11_openOnes (l : Launch) (dC : Nat → ClassId) (dI : Nat → Nat → Nat) (cy : gC) (G : gT) (sz : Nat) (qt : Nat) (qt_now : Nat) (xt_past : Nat) (xt_text : Nat) (xt_doors : Nat) (xt_label : Nat) (xt_far : Nat) (xt_ring : Nat) (xt_was : Nat) (it_saved : Int32) (it_length : Int32) (it_doorMany : Int32) (it_drawn : Int32) (it_walker : Int32) (it_from : Int32) (it_steps : Int32) (it_faultAt : Int32) (it_mover : Int32) (N : Nat) (ft_now : Nat → Int32) (va1 : Int32) (out : Int32) (hf : f_X11_openOnes N ft_now va1 = some out) : Met l yX11_openOnes wsX11_openOnes rm_X11_openOnes (va_Pc [.ref qt, .int va1] (kP (dC, dI) cy G [(qt, .inr (11, [.ref qt_now, .ref xt_past, .int (it_saved), .ref xt_text, .int (it_length), .ref xt_doors, .int (it_doorMany), .ref xt_label, .int (it_drawn), .ref xt_far, .ref xt_ring, .int (it_walker), .int (it_from), .ref xt_was, .int (it_steps), .int (it_faultAt), .int (it_mover)])), (qt_now, .inl (cy.1, 639, .inl (ft_now)))] sz)) (va_Qi (fun r (_ : Unit) => r = out) (fun _ => kQ (dC, dI) cy [(qt, .inr (11, [.ref qt_now, .ref xt_past, .int (it_saved), .ref xt_text, .int (it_length), .ref xt_doors, .int (it_doorMany), .ref xt_label, .int (it_drawn), .ref xt_far, .ref xt_ring, .int (it_walker), .int (it_from), .ref xt_was, .int (it_steps), .int (it_faultAt), .int (it_mover)])), (qt_now, .inl (cy.1, 639, .inl (ft_now)))] (va_A [(qt, .inr (11, [.ref qt_now, .ref xt_past, .int (it_saved), .ref xt_text, .int (it_length), .ref xt_doors, .int (it_doorMany), .ref xt_label, .int (it_drawn), .ref xt_far, .ref xt_ring, .int (it_walker), .int (it_from), .ref xt_was, .int (it_steps), .int (it_faultAt), .int (it_mover)])), (qt_now, .inl (cy.1, 639, .inl (ft_now)))] sz)) (va_A [(qt, .inr (11, [.ref qt_now, .ref xt_past, .int (it_saved), .ref xt_text, .int (it_length), .ref xt_doors, .int (it_doorMany), .ref xt_label, .int (it_drawn), .ref xt_far, .ref xt_ring, .int (it_walker), .int (it_from), .ref xt_was, .int (it_steps), .int (it_faultAt), .int (it_mover)])), (qt_now, .inl (cy.1, 639, .inl (ft_now)))] sz)) 0 0 (va_A [(qt, .inr (11, [.ref qt_now, .ref xt_past, .int (it_saved), .ref xt_text, .int (it_length), .ref xt_doors, .int (it_doorMany), .ref xt_label, .int (it_drawn), .ref xt_far, .ref xt_ring, .int (it_walker), .int (it_from), .ref xt_was, .int (it_steps), .int (it_faultAt), .int (it_mover)])), (qt_now, .inl (cy.1, 639, .inl (ft_now)))] sz) := by
  refine Met.ofW (cc := cX11_openOnes) (maxL := 4) (ret := (some .int)) (by decide) rfl ?_
  intro p e s m args below meth c s₁ B hml hv
  obtain ⟨rfl, hsz, hP, hK, hD0, hG⟩ := hv
  have hx := B.exec
  have hb := B.bytes
  have hr := B.returns
  have hts := atoms_spec (ws := wsX11_openOnes) B.pre
  have hown : s.vm.findClass RX11 = some m.cls := findClass_of_methodNamed B.named
  have hlocks := B.notSynchronized
  subst hsz
  have hD := hD0.self (sz := s.heap.size)
  generalize hAe : va_A [(qt, .inr (11, [.ref qt_now, .ref xt_past, .int (it_saved), .ref xt_text, .int (it_length), .ref xt_doors, .int (it_doorMany), .ref xt_label, .int (it_drawn), .ref xt_far, .ref xt_ring, .int (it_walker), .int (it_from), .ref xt_was, .int (it_steps), .int (it_faultAt), .int (it_mover)])), (qt_now, .inl (cy.1, 639, .inl (ft_now)))] s.heap.size = A at hD hG ⊢
  have hA : ∀ q : Nat, s.heap.size ≤ q → A q := fun q h => by rw [← hAe]; exact Or.inr h
  have hS : va_S A s.heap s.heap [] := va_S.rf
  have hP : va_P (dC, dI) vwCl [(qt, .inr (11, [.ref qt_now, .ref xt_past, .int (it_saved), .ref xt_text, .int (it_length), .ref xt_doors, .int (it_doorMany), .ref xt_label, .int (it_drawn), .ref xt_far, .ref xt_ring, .int (it_walker), .int (it_from), .ref xt_was, .int (it_steps), .int (it_faultAt), .int (it_mover)])), (qt_now, .inl (cy.1, 639, .inl (ft_now)))] s.heap := hP
  have hl := lv_entry ([.ref qt, .int va1]) (n := 4) (Nat.le_of_ble_eq_true rfl)
  rw [lg_entry_eq]
  generalize (lg_sl ([.ref qt, .int va1]) ++ List.replicate (4 - (lg_sl ([.ref qt, .int va1])).length) Slot.unset).toArray = ls at hl ⊢
  have hl : lv_has ls 4 [(0, .ref qt), (1, .int va1)] := hl
  refine kgen (fun Q hQ => ?_)
  have B4 : ∀ (n4 : Nat) (l2 : Int32) (l3 : Int32) (H : Heap) (locs : List Loc), va_P (dC, dI) vwCl [(qt, .inr (11, [.ref qt_now, .ref xt_past, .int (it_saved), .ref xt_text, .int (it_length), .ref xt_doors, .int (it_doorMany), .ref xt_label, .int (it_drawn), .ref xt_far, .ref xt_ring, .int (it_walker), .int (it_from), .ref xt_was, .int (it_steps), .int (it_faultAt), .int (it_mover)])), (qt_now, .inl (cy.1, 639, .inl (ft_now)))] H → va_D A [(qt, .inr (11, [.ref qt_now, .ref xt_past, .int (it_saved), .ref xt_text, .int (it_length), .ref xt_doors, .int (it_doorMany), .ref xt_label, .int (it_drawn), .ref xt_far, .ref xt_ring, .int (it_walker), .int (it_from), .ref xt_was, .int (it_steps), .int (it_faultAt), .int (it_mover)])), (qt_now, .inl (cy.1, 639, .inl (ft_now)))] → va_S A s.heap H locs → ∀ (ls : Array Slot), lv_has ls 4 [(0, .ref qt), (1, .int va1), (2, .int l2), (3, .int l3)] → b_X11_openOnes_4 N ft_now va1 n4 l2 l3 = some out → W p l e (headSpec wsX11_openOnes rm_X11_openOnes).room s m ([.ref qt, .int va1] : List Value).toArray below meth c H locs 0 0 Q (F0 m 4 ls []) := by
    intro n4
    induction n4 with
    | zero => intro l2 l3 H locs hP hD hS ls hl hf; rw [b_X11_openOnes_4] at hf; cases hf
    | succ n4 ih4 =>
      intro l2 l3 H locs hP hD hS ls hl hf
      rw [b_X11_openOnes_4] at hf
      refine lv_iload_n hx hb dX11_openOnes_4 rfl (lv_at hl 3 rfl) ?_
      refine lv_iconst (v := (4 : Int32)) hx hb dX11_openOnes_5 (by decide) ?_
      refine lv_icmp_ge (tgt := 32) hx hb dX11_openOnes_6 (by decide) (fun hc_6 => ?_) (fun hc_6 => ?_)
      · rw [if_pos hc_6] at hf
        refine lv_iload_n hx hb dX11_openOnes_32 rfl (lv_at hl 2 rfl) ?_
        cases hf
        subst hQ
        exact kiret hx hb hr hlocks hK (hP.sub [0, 1] rfl) (hD.sub [0, 1] (by decide) rfl) hS rfl dX11_openOnes_33
      · rw [if_neg hc_6] at hf
        refine lv_iload_n hx hb dX11_openOnes_9 rfl (lv_at hl 2 rfl) ?_
        refine lv_aload_n hx hb dX11_openOnes_10 rfl (lv_at hl 0 rfl) ?_
        refine lv_iload_n hx hb dX11_openOnes_11 rfl (lv_at hl 1 rfl) ?_
        refine lv_iload_n hx hb dX11_openOnes_12 rfl (lv_at hl 3 rfl) ?_
        obtain ⟨r13, hq_13, hf⟩ := bnd1_s hf
        refine kcalli (wc := [(qt, .inr (11, [.ref qt_now, .ref xt_past, .int (it_saved), .ref xt_text, .int (it_length), .ref xt_doors, .int (it_doorMany), .ref xt_label, .int (it_drawn), .ref xt_far, .ref xt_ring, .int (it_walker), .int (it_from), .ref xt_was, .int (it_steps), .int (it_faultAt), .int (it_mover)])), (qt_now, .inl (cy.1, 639, .inl (ft_now)))]) (wr := []) (w1 := [(qt, .inr (11, [.ref qt_now, .ref xt_past, .int (it_saved), .ref xt_text, .int (it_length), .ref xt_doors, .int (it_doorMany), .ref xt_label, .int (it_drawn), .ref xt_far, .ref xt_ring, .int (it_walker), .int (it_from), .ref xt_was, .int (it_steps), .int (it_faultAt), .int (it_mover)])), (qt_now, .inl (cy.1, 639, .inl (ft_now)))]) hK hP hD hS hA hG [0, 1] [] rfl rfl rfl rfl rfl (fun hU hPc => va_runV (As := [.int va1, .int l3]) (rest := [.int l2]) ⟨hx, hb, hml, hown, hts⟩ (c_X11_isOpen l dC dI cy G H.size qt qt_now xt_past xt_text xt_doors xt_label xt_far xt_ring xt_was (it_saved) (it_length) (it_doorMany) (it_drawn) (it_walker) (it_from) (it_steps) (it_faultAt) (it_mover) (ft_now) (va1) (l3) r13 hq_13) (cwV 2 hts gX11_openOnes_X11_isOpen rfl rfl rfl hdX11_isOpen ⟨Nat.le_of_ble_eq_true rfl, Nat.le_of_ble_eq_true rfl⟩) ⟨kBlind, (va_recv hK hP (ci := 11) (q0 := 0) rfl rfl), fun U h1 h2 => ⟨rfl, hU U h1 h2⟩⟩ rfl rfl hl.1 rfl (lv_room (Nat.le_of_ble_eq_true rfl)) dX11_openOnes_13 ⟨Nat.zero_le _, Nat.zero_le _⟩) (r13) (fun _ _ h => h) (fun _ _ h => h) (fun H locs hP hD hS => ?_)
        have hP : va_P (dC, dI) vwCl [(qt, .inr (11, [.ref qt_now, .ref xt_past, .int (it_saved), .ref xt_text, .int (it_length), .ref xt_doors, .int (it_doorMany), .ref xt_label, .int (it_drawn), .ref xt_far, .ref xt_ring, .int (it_walker), .int (it_from), .ref xt_was, .int (it_steps), .int (it_faultAt), .int (it_mover)])), (qt_now, .inl (cy.1, 639, .inl (ft_now)))] H := hP
        have hD : va_D A [(qt, .inr (11, [.ref qt_now, .ref xt_past, .int (it_saved), .ref xt_text, .int (it_length), .ref xt_doors, .int (it_doorMany), .ref xt_label, .int (it_drawn), .ref xt_far, .ref xt_ring, .int (it_walker), .int (it_from), .ref xt_was, .int (it_steps), .int (it_faultAt), .int (it_mover)])), (qt_now, .inl (cy.1, 639, .inl (ft_now)))] := hD
        refine lv_if_eq (tgt := 23) hx hb dX11_openOnes_16 (by decide) (fun hc_16 => ?_) (fun hc_16 => ?_)
        · rw [if_pos hc_16] at hf
          refine lv_iconst (v := (0 : Int32)) hx hb dX11_openOnes_23 (by decide) ?_
          refine lv_iadd hx hb dX11_openOnes_24 ?_
          refine lv_istore_n (lv' := [(2, .int (l2 + (0 : Int32))), (0, .ref qt), (1, .int va1), (3, .int l3)]) hx hb dX11_openOnes_25 rfl hl (by decide) rfl (fun ls hl => ?_)
          refine lv_iinc (v := (l3 + (1 : Int32))) (lv' := [(3, .int (l3 + (1 : Int32))), (2, .int (l2 + (0 : Int32))), (0, .ref qt), (1, .int va1)]) hx hb dX11_openOnes_26 hl (k := 3) rfl rfl (by decide) rfl (fun ls hl => ?_)
          refine lv_goto (tgt := 4) hx hb dX11_openOnes_29 (by decide) ?_
          exact ih4 ((l2 + (0 : Int32))) ((l3 + (1 : Int32))) _ _ (hP.sub [0, 1] rfl) (hD.sub [0, 1] (by decide) rfl) hS _ (lv_sub hl [2, 3, 1, 0] rfl) hf
        · rw [if_neg hc_16] at hf
          refine lv_iconst (v := (1 : Int32)) hx hb dX11_openOnes_19 (by decide) ?_
          refine lv_goto (tgt := 24) hx hb dX11_openOnes_20 (by decide) ?_
          refine lv_iadd hx hb dX11_openOnes_24 ?_
          refine lv_istore_n (lv' := [(2, .int (l2 + (1 : Int32))), (0, .ref qt), (1, .int va1), (3, .int l3)]) hx hb dX11_openOnes_25 rfl hl (by decide) rfl (fun ls hl => ?_)
          refine lv_iinc (v := (l3 + (1 : Int32))) (lv' := [(3, .int (l3 + (1 : Int32))), (2, .int (l2 + (1 : Int32))), (0, .ref qt), (1, .int va1)]) hx hb dX11_openOnes_26 hl (k := 3) rfl rfl (by decide) rfl (fun ls hl => ?_)
          refine lv_goto (tgt := 4) hx hb dX11_openOnes_29 (by decide) ?_
          exact ih4 ((l2 + (1 : Int32))) ((l3 + (1 : Int32))) _ _ (hP.sub [0, 1] rfl) (hD.sub [0, 1] (by decide) rfl) hS _ (lv_sub hl [2, 3, 1, 0] rfl) hf
  rw [f_X11_openOnes] at hf
  refine lv_iconst (v := (0 : Int32)) hx hb dX11_openOnes_0 (by decide) ?_
  refine lv_istore_n (lv' := [(2, .int (0 : Int32)), (0, .ref qt), (1, .int va1)]) hx hb dX11_openOnes_1 rfl hl (by decide) rfl (fun ls hl => ?_)
  refine lv_iconst (v := (0 : Int32)) hx hb dX11_openOnes_2 (by decide) ?_
  refine lv_istore_n (lv' := [(3, .int (0 : Int32)), (2, .int (0 : Int32)), (0, .ref qt), (1, .int va1)]) hx hb dX11_openOnes_3 rfl hl (by decide) rfl (fun ls hl => ?_)
  exact B4 N ((0 : Int32)) ((0 : Int32)) _ _ (hP.sub [0, 1] rfl) (hD.sub [0, 1] (by decide) rfl) hS _ (lv_sub hl [2, 3, 1, 0] rfl) hf
theorem hdX11_openOnes : yX11_openOnes.cls = RX11 ∧ yX11_openOnes.cls ≠ "java/lang/invoke/MethodHandle" ∧ yX11_openOnes.cls ≠ "java/lang/invoke/VarHandle" ∧ (parseMethodDescriptor yX11_openOnes.desc).map (fun d => d.parameters.length) = some 1 := by decide +kernel
noncomputable def b_X11_countsDoors_25 (N : Nat) (ft_now : Nat → Int32) (k7 : Int32 → Int32 → (Nat → Int32) → Option (Int32 × (Nat → Int32))) : Nat → Int32 → Int32 → Int32 → (Nat → Int32) → Option (Int32 × (Nat → Int32))
  | 0, _, _, _, _ => none
  | n + 1, l1, l2, cit_doorMany, cft_doors =>
    if (3 : Int32) ≤ l2 then
      k7 ((l1 + (1 : Int32))) (cit_doorMany) (cft_doors)
    else
      bnd1 (f_X11_beside (ft_now) (l1) (l2)) fun r33 =>
      if r33 < 0 then
        b_X11_countsDoors_25 N ft_now k7 n (l1) ((l2 + (1 : Int32))) (cit_doorMany) (cft_doors)
      else
        if cit_doorMany < 0 ∨ 420 ≤ (cit_doorMany).toNatClampNeg then none else
        b_X11_countsDoors_25 N ft_now k7 n (l1) ((l2 + (1 : Int32))) ((cit_doorMany + (1 : Int32))) ((upd cft_doors (cit_doorMany).toNatClampNeg ((((2 : Int32) * l1) + l2) - (1 : Int32))))
noncomputable def b_X11_countsDoors_7 (N : Nat) (ft_now : Nat → Int32) : Nat → Int32 → Int32 → (Nat → Int32) → Option (Int32 × (Nat → Int32))
  | 0, _, _, _ => none
  | n + 1, l1, cit_doorMany, cft_doors =>
    if (t_X11_cells (ft_now)) ≤ l1 then
      some (cit_doorMany, cft_doors)
    else
      bnd1 (f_X11_isRoomAt (ft_now) (l1)) fun r17 =>
      if r17 = 0 then
        b_X11_countsDoors_7 N ft_now n ((l1 + (1 : Int32))) (cit_doorMany) (cft_doors)
      else
        b_X11_countsDoors_25 N ft_now (b_X11_countsDoors_7 N ft_now n) N (l1) ((1 : Int32)) (cit_doorMany) (cft_doors)
noncomputable def f_X11_countsDoors (N : Nat) (it_doorMany : Int32) (ft_now : Nat → Int32) (ft_doors : Nat → Int32) : Option (Int32 × (Nat → Int32)) :=
  b_X11_countsDoors_7 N ft_now N ((0 : Int32)) ((0 : Int32)) (ft_doors)
abbrev rm_X11_countsDoors : Room := { frames := 5, cells := 0, slots := 0, locals := 113 }
set_option maxHeartbeats 4000000 in
set_option maxRecDepth 100000 in
theorem c_X11_countsDoors (l : Launch) (dC : Nat → ClassId) (dI : Nat → Nat → Nat) (cy : gC) (G : gT) (sz : Nat) (qt : Nat) (qt_now : Nat) (qt_doors : Nat) (xt_past : Nat) (xt_text : Nat) (xt_label : Nat) (xt_far : Nat) (xt_ring : Nat) (xt_was : Nat) (it_saved : Int32) (it_length : Int32) (it_drawn : Int32) (it_walker : Int32) (it_from : Int32) (it_steps : Int32) (it_faultAt : Int32) (it_mover : Int32) (N : Nat) (it_doorMany : Int32) (ft_now : Nat → Int32) (ft_doors : Nat → Int32) (out : Int32 × (Nat → Int32)) (hf : f_X11_countsDoors N it_doorMany ft_now ft_doors = some out) : Met l yX11_countsDoors wsX11_countsDoors rm_X11_countsDoors (va_Pc [.ref qt] (kP (dC, dI) cy G [(qt, .inr (11, [.ref qt_now, .ref xt_past, .int (it_saved), .ref xt_text, .int (it_length), .ref qt_doors, .int (it_doorMany), .ref xt_label, .int (it_drawn), .ref xt_far, .ref xt_ring, .int (it_walker), .int (it_from), .ref xt_was, .int (it_steps), .int (it_faultAt), .int (it_mover)])), (qt_now, .inl (cy.1, 639, .inl (ft_now))), (qt_doors, .inl (cy.1, 420, .inl (ft_doors)))] sz)) (va_Qv (fun (_ : Unit) => True) (fun _ => kQ (dC, dI) cy [(qt, .inr (11, [.ref qt_now, .ref xt_past, .int (it_saved), .ref xt_text, .int (it_length), .ref qt_doors, .int (out.1), .ref xt_label, .int (it_drawn), .ref xt_far, .ref xt_ring, .int (it_walker), .int (it_from), .ref xt_was, .int (it_steps), .int (it_faultAt), .int (it_mover)])), (qt_now, .inl (cy.1, 639, .inl (ft_now))), (qt_doors, .inl (cy.1, 420, .inl (out.2)))] (va_A [(qt, .inr (11, [.ref qt_now, .ref xt_past, .int (it_saved), .ref xt_text, .int (it_length), .ref qt_doors, .int (it_doorMany), .ref xt_label, .int (it_drawn), .ref xt_far, .ref xt_ring, .int (it_walker), .int (it_from), .ref xt_was, .int (it_steps), .int (it_faultAt), .int (it_mover)])), (qt_now, .inl (cy.1, 639, .inl (ft_now))), (qt_doors, .inl (cy.1, 420, .inl (ft_doors)))] sz)) (va_A [(qt, .inr (11, [.ref qt_now, .ref xt_past, .int (it_saved), .ref xt_text, .int (it_length), .ref qt_doors, .int (it_doorMany), .ref xt_label, .int (it_drawn), .ref xt_far, .ref xt_ring, .int (it_walker), .int (it_from), .ref xt_was, .int (it_steps), .int (it_faultAt), .int (it_mover)])), (qt_now, .inl (cy.1, 639, .inl (ft_now))), (qt_doors, .inl (cy.1, 420, .inl (ft_doors)))] sz)) 0 0 (va_A [(qt, .inr (11, [.ref qt_now, .ref xt_past, .int (it_saved), .ref xt_text, .int (it_length), .ref qt_doors, .int (it_doorMany), .ref xt_label, .int (it_drawn), .ref xt_far, .ref xt_ring, .int (it_walker), .int (it_from), .ref xt_was, .int (it_steps), .int (it_faultAt), .int (it_mover)])), (qt_now, .inl (cy.1, 639, .inl (ft_now))), (qt_doors, .inl (cy.1, 420, .inl (ft_doors)))] sz) := by
  refine Met.ofW (cc := cX11_countsDoors) (maxL := 3) (ret := none) (by decide) rfl ?_
  intro p e s m args below meth c s₁ B hml hv
  obtain ⟨rfl, hsz, hP, hK, hD0, hG⟩ := hv
  have hx := B.exec
  have hb := B.bytes
  have hr := B.returns
  have hts := atoms_spec (ws := wsX11_countsDoors) B.pre
  have hown : s.vm.findClass RX11 = some m.cls := findClass_of_methodNamed B.named
  have hlocks := B.notSynchronized
  subst hsz
  have hD := hD0.self (sz := s.heap.size)
  generalize hAe : va_A [(qt, .inr (11, [.ref qt_now, .ref xt_past, .int (it_saved), .ref xt_text, .int (it_length), .ref qt_doors, .int (it_doorMany), .ref xt_label, .int (it_drawn), .ref xt_far, .ref xt_ring, .int (it_walker), .int (it_from), .ref xt_was, .int (it_steps), .int (it_faultAt), .int (it_mover)])), (qt_now, .inl (cy.1, 639, .inl (ft_now))), (qt_doors, .inl (cy.1, 420, .inl (ft_doors)))] s.heap.size = A at hD hG ⊢
  have hA : ∀ q : Nat, s.heap.size ≤ q → A q := fun q h => by rw [← hAe]; exact Or.inr h
  have hS : va_S A s.heap s.heap [] := va_S.rf
  have hP : va_P (dC, dI) vwCl [(qt, .inr (11, [.ref qt_now, .ref xt_past, .int (it_saved), .ref xt_text, .int (it_length), .ref qt_doors, .int (it_doorMany), .ref xt_label, .int (it_drawn), .ref xt_far, .ref xt_ring, .int (it_walker), .int (it_from), .ref xt_was, .int (it_steps), .int (it_faultAt), .int (it_mover)])), (qt_now, .inl (cy.1, 639, .inl (ft_now))), (qt_doors, .inl (cy.1, 420, .inl (ft_doors)))] s.heap := hP
  have hl := lv_entry ([.ref qt]) (n := 3) (Nat.le_of_ble_eq_true rfl)
  rw [lg_entry_eq]
  generalize (lg_sl ([.ref qt]) ++ List.replicate (3 - (lg_sl ([.ref qt])).length) Slot.unset).toArray = ls at hl ⊢
  have hl : lv_has ls 3 [(0, .ref qt)] := hl
  refine kgen (fun Q hQ => ?_)
  have B7 : ∀ (n7 : Nat) (l1 : Int32) (cit_doorMany : Int32) (cft_doors : Nat → Int32) (H : Heap) (locs : List Loc), va_P (dC, dI) vwCl [(qt, .inr (11, [.ref qt_now, .ref xt_past, .int (it_saved), .ref xt_text, .int (it_length), .ref qt_doors, .int (cit_doorMany), .ref xt_label, .int (it_drawn), .ref xt_far, .ref xt_ring, .int (it_walker), .int (it_from), .ref xt_was, .int (it_steps), .int (it_faultAt), .int (it_mover)])), (qt_now, .inl (cy.1, 639, .inl (ft_now))), (qt_doors, .inl (cy.1, 420, .inl (cft_doors)))] H → va_D A [(qt, .inr (11, [.ref qt_now, .ref xt_past, .int (it_saved), .ref xt_text, .int (it_length), .ref qt_doors, .int (cit_doorMany), .ref xt_label, .int (it_drawn), .ref xt_far, .ref xt_ring, .int (it_walker), .int (it_from), .ref xt_was, .int (it_steps), .int (it_faultAt), .int (it_mover)])), (qt_now, .inl (cy.1, 639, .inl (ft_now))), (qt_doors, .inl (cy.1, 420, .inl (cft_doors)))] → va_S A s.heap H locs → ∀ (ls : Array Slot), lv_has ls 3 [(0, .ref qt), (1, .int l1)] → b_X11_countsDoors_7 N ft_now n7 l1 cit_doorMany cft_doors = some out → W p l e (headSpec wsX11_countsDoors rm_X11_countsDoors).room s m ([.ref qt] : List Value).toArray below meth c H locs 0 0 Q (F0 m 7 ls []) := by
    intro n7
    induction n7 with
    | zero => intro l1 cit_doorMany cft_doors H locs hP hD hS ls hl hf; rw [b_X11_countsDoors_7] at hf; cases hf
    | succ n7 ih7 =>
      have B25 : ∀ (n25 : Nat) (l1 : Int32) (l2 : Int32) (cit_doorMany : Int32) (cft_doors : Nat → Int32) (H : Heap) (locs : List Loc), va_P (dC, dI) vwCl [(qt, .inr (11, [.ref qt_now, .ref xt_past, .int (it_saved), .ref xt_text, .int (it_length), .ref qt_doors, .int (cit_doorMany), .ref xt_label, .int (it_drawn), .ref xt_far, .ref xt_ring, .int (it_walker), .int (it_from), .ref xt_was, .int (it_steps), .int (it_faultAt), .int (it_mover)])), (qt_now, .inl (cy.1, 639, .inl (ft_now))), (qt_doors, .inl (cy.1, 420, .inl (cft_doors)))] H → va_D A [(qt, .inr (11, [.ref qt_now, .ref xt_past, .int (it_saved), .ref xt_text, .int (it_length), .ref qt_doors, .int (cit_doorMany), .ref xt_label, .int (it_drawn), .ref xt_far, .ref xt_ring, .int (it_walker), .int (it_from), .ref xt_was, .int (it_steps), .int (it_faultAt), .int (it_mover)])), (qt_now, .inl (cy.1, 639, .inl (ft_now))), (qt_doors, .inl (cy.1, 420, .inl (cft_doors)))] → va_S A s.heap H locs → ∀ (ls : Array Slot), lv_has ls 3 [(0, .ref qt), (1, .int l1), (2, .int l2)] → b_X11_countsDoors_25 N ft_now (b_X11_countsDoors_7 N ft_now n7) n25 l1 l2 cit_doorMany cft_doors = some out → W p l e (headSpec wsX11_countsDoors rm_X11_countsDoors).room s m ([.ref qt] : List Value).toArray below meth c H locs 0 0 Q (F0 m 25 ls []) := by
        intro n25
        induction n25 with
        | zero => intro l1 l2 cit_doorMany cft_doors H locs hP hD hS ls hl hf; rw [b_X11_countsDoors_25] at hf; cases hf
        | succ n25 ih25 =>
          intro l1 l2 cit_doorMany cft_doors H locs hP hD hS ls hl hf
          rw [b_X11_countsDoors_25] at hf
          refine lv_iload_n hx hb dX11_countsDoors_25 rfl (lv_at hl 2 rfl) ?_
          refine lv_iconst (v := (3 : Int32)) hx hb dX11_countsDoors_26 (by decide) ?_
          refine lv_icmp_ge (tgt := 71) hx hb dX11_countsDoors_27 (by decide) (fun hc_27 => ?_) (fun hc_27 => ?_)
          · rw [if_pos hc_27] at hf
            refine lv_iinc (v := (l1 + (1 : Int32))) (lv' := [(1, .int (l1 + (1 : Int32))), (0, .ref qt), (2, .int l2)]) hx hb dX11_countsDoors_71 hl (k := 1) rfl rfl (by decide) rfl (fun ls hl => ?_)
            refine lv_goto (tgt := 7) hx hb dX11_countsDoors_74 (by decide) ?_
            exact ih7 ((l1 + (1 : Int32))) (cit_doorMany) (cft_doors) _ _ (hP.sub [0, 1, 2] rfl) (hD.sub [0, 1, 2] (by decide) rfl) hS _ (lv_sub hl [1, 0] rfl) hf
          · rw [if_neg hc_27] at hf
            refine lv_aload_n hx hb dX11_countsDoors_30 rfl (lv_at hl 0 rfl) ?_
            refine lv_iload_n hx hb dX11_countsDoors_31 rfl (lv_at hl 1 rfl) ?_
            refine lv_iload_n hx hb dX11_countsDoors_32 rfl (lv_at hl 2 rfl) ?_
            obtain ⟨r33, hq_33, hf⟩ := bnd1_s hf
            refine kcalli (wc := [(qt, .inr (11, [.ref qt_now, .ref xt_past, .int (it_saved), .ref xt_text, .int (it_length), .ref qt_doors, .int (cit_doorMany), .ref xt_label, .int (it_drawn), .ref xt_far, .ref xt_ring, .int (it_walker), .int (it_from), .ref xt_was, .int (it_steps), .int (it_faultAt), .int (it_mover)])), (qt_now, .inl (cy.1, 639, .inl (ft_now)))]) (wr := [(qt_doors, .inl (cy.1, 420, .inl (cft_doors)))]) (w1 := [(qt, .inr (11, [.ref qt_now, .ref xt_past, .int (it_saved), .ref xt_text, .int (it_length), .ref qt_doors, .int (cit_doorMany), .ref xt_label, .int (it_drawn), .ref xt_far, .ref xt_ring, .int (it_walker), .int (it_from), .ref xt_was, .int (it_steps), .int (it_faultAt), .int (it_mover)])), (qt_now, .inl (cy.1, 639, .inl (ft_now)))]) hK hP hD hS hA hG [0, 1] [2] rfl rfl rfl rfl rfl (fun hU hPc => va_runV (As := [.int l1, .int l2]) (rest := []) ⟨hx, hb, hml, hown, hts⟩ (c_X11_beside l dC dI cy G H.size qt qt_now xt_past xt_text qt_doors xt_label xt_far xt_ring xt_was (it_saved) (it_length) (cit_doorMany) (it_drawn) (it_walker) (it_from) (it_steps) (it_faultAt) (it_mover) (ft_now) (l1) (l2) r33 hq_33) (cwV 2 hts gX11_countsDoors_X11_beside rfl rfl rfl hdX11_beside ⟨Nat.le_of_ble_eq_true rfl, Nat.le_of_ble_eq_true rfl⟩) ⟨kBlind, (va_recv hK hP (ci := 11) (q0 := 0) rfl rfl), fun U h1 h2 => ⟨rfl, hU U h1 h2⟩⟩ rfl rfl hl.1 rfl (lv_room (Nat.le_of_ble_eq_true rfl)) dX11_countsDoors_33 ⟨Nat.zero_le _, Nat.zero_le _⟩) (r33) (fun _ _ h => h) (fun _ _ h => h) (fun H locs hP hD hS => ?_)
            have hP : va_P (dC, dI) vwCl [(qt_doors, .inl (cy.1, 420, .inl (cft_doors))), (qt, .inr (11, [.ref qt_now, .ref xt_past, .int (it_saved), .ref xt_text, .int (it_length), .ref qt_doors, .int (cit_doorMany), .ref xt_label, .int (it_drawn), .ref xt_far, .ref xt_ring, .int (it_walker), .int (it_from), .ref xt_was, .int (it_steps), .int (it_faultAt), .int (it_mover)])), (qt_now, .inl (cy.1, 639, .inl (ft_now)))] H := hP
            have hD : va_D A [(qt_doors, .inl (cy.1, 420, .inl (cft_doors))), (qt, .inr (11, [.ref qt_now, .ref xt_past, .int (it_saved), .ref xt_text, .int (it_length), .ref qt_doors, .int (cit_doorMany), .ref xt_label, .int (it_drawn), .ref xt_far, .ref xt_ring, .int (it_walker), .int (it_from), .ref xt_was, .int (it_steps), .int (it_faultAt), .int (it_mover)])), (qt_now, .inl (cy.1, 639, .inl (ft_now)))] := hD
            refine lv_if_lt (tgt := 65) hx hb dX11_countsDoors_36 (by decide) (fun hc_36 => ?_) (fun hc_36 => ?_)
            · rw [if_pos hc_36] at hf
              refine lv_iinc (v := (l2 + (1 : Int32))) (lv' := [(2, .int (l2 + (1 : Int32))), (0, .ref qt), (1, .int l1)]) hx hb dX11_countsDoors_65 hl (k := 2) rfl rfl (by decide) rfl (fun ls hl => ?_)
              refine lv_goto (tgt := 25) hx hb dX11_countsDoors_68 (by decide) ?_
              exact ih25 (l1) ((l2 + (1 : Int32))) (cit_doorMany) (cft_doors) _ _ (hP.sub [1, 2, 0] rfl) (hD.sub [1, 2, 0] (by decide) rfl) hS _ (lv_sub hl [1, 2, 0] rfl) hf
            · rw [if_neg hc_36] at hf
              refine lv_aload_n hx hb dX11_countsDoors_39 rfl (lv_at hl 0 rfl) ?_
              refine va_get (D := (dC, dI)) (ci := 11) (C := RX11) (T := TX11) (N := 17) hx hb hts (fun _ h => (List.mem_cons_of_mem _ (List.mem_append_right _ h))) hown hK hP 1 rfl rfl 5 (by decide) (hts _ (List.mem_cons_of_mem _ (List.mem_append_left _ (List.mem_append_left _ (List.mem_of_getElem? (i := 1) rfl))))) (fun _ h => h) rfl dX11_countsDoors_40 ?_
              refine lv_aload_n hx hb dX11_countsDoors_43 rfl (lv_at hl 0 rfl) ?_
              refine va_get (D := (dC, dI)) (ci := 11) (C := RX11) (T := TX11) (N := 17) hx hb hts (fun _ h => (List.mem_cons_of_mem _ (List.mem_append_right _ h))) hown hK hP 1 rfl rfl 6 (by decide) (hts _ (List.mem_cons_of_mem _ (List.mem_append_left _ (List.mem_append_left _ (List.mem_of_getElem? (i := 0) rfl))))) (fun _ h => h) rfl dX11_countsDoors_44 ?_
              refine lv_iconst (v := (2 : Int32)) hx hb dX11_countsDoors_47 (by decide) ?_
              refine lv_iload_n hx hb dX11_countsDoors_48 rfl (lv_at hl 1 rfl) ?_
              refine lv_imul hx hb dX11_countsDoors_49 ?_
              refine lv_iload_n hx hb dX11_countsDoors_50 rfl (lv_at hl 2 rfl) ?_
              refine lv_iadd hx hb dX11_countsDoors_51 ?_
              refine lv_iconst (v := (1 : Int32)) hx hb dX11_countsDoors_52 (by decide) ?_
              refine lv_isub hx hb dX11_countsDoors_53 ?_
              obtain ⟨hk_54, hf⟩ := chk_s hf
              refine va_iast hx hb hK hP hD hS 0 0 rfl rfl hk_54 dX11_countsDoors_54 (fun H locs hP hD hS => ?_)
              have hP : va_P (dC, dI) vwCl [(qt_doors, .inl (cy.1, 420, .inl ((upd cft_doors (cit_doorMany).toNatClampNeg ((((2 : Int32) * l1) + l2) - (1 : Int32)))))), (qt, .inr (11, [.ref qt_now, .ref xt_past, .int (it_saved), .ref xt_text, .int (it_length), .ref qt_doors, .int (cit_doorMany), .ref xt_label, .int (it_drawn), .ref xt_far, .ref xt_ring, .int (it_walker), .int (it_from), .ref xt_was, .int (it_steps), .int (it_faultAt), .int (it_mover)])), (qt_now, .inl (cy.1, 639, .inl (ft_now)))] H := hP
              have hD : va_D A [(qt_doors, .inl (cy.1, 420, .inl ((upd cft_doors (cit_doorMany).toNatClampNeg ((((2 : Int32) * l1) + l2) - (1 : Int32)))))), (qt, .inr (11, [.ref qt_now, .ref xt_past, .int (it_saved), .ref xt_text, .int (it_length), .ref qt_doors, .int (cit_doorMany), .ref xt_label, .int (it_drawn), .ref xt_far, .ref xt_ring, .int (it_walker), .int (it_from), .ref xt_was, .int (it_steps), .int (it_faultAt), .int (it_mover)])), (qt_now, .inl (cy.1, 639, .inl (ft_now)))] := hD
              refine lv_aload_n hx hb dX11_countsDoors_55 rfl (lv_at hl 0 rfl) ?_
              refine lv_dup hx hb dX11_countsDoors_56 rfl ?_
              refine va_get (D := (dC, dI)) (ci := 11) (C := RX11) (T := TX11) (N := 17) hx hb hts (fun _ h => (List.mem_cons_of_mem _ (List.mem_append_right _ h))) hown hK hP 1 rfl rfl 6 (by decide) (hts _ (List.mem_cons_of_mem _ (List.mem_append_left _ (List.mem_append_left _ (List.mem_of_getElem? (i := 0) rfl))))) (fun _ h => h) rfl dX11_countsDoors_57 ?_
              refine lv_iconst (v := (1 : Int32)) hx hb dX11_countsDoors_60 (by decide) ?_
              refine lv_iadd hx hb dX11_countsDoors_61 ?_
              refine va_put (D := (dC, dI)) (ci := 11) (v := .int (cit_doorMany + (1 : Int32))) (ty := .int) (C := RX11) (T := TX11) (N := 17) hx hb hts (fun _ h => (List.mem_cons_of_mem _ (List.mem_append_right _ h))) tyX11 tyX11_ok nmX11 hown hK hP hD hS 1 rfl rfl 6 (by decide) (hts _ (List.mem_cons_of_mem _ (List.mem_append_left _ (List.mem_append_left _ (List.mem_of_getElem? (i := 0) rfl))))) (fun _ h => h) rfl (by decide +kernel) rfl rfl (Nat.le_of_ble_eq_true rfl) dX11_countsDoors_62 (fun H locs hP hD hS => ?_)
              have hP : va_P (dC, dI) vwCl [(qt_doors, .inl (cy.1, 420, .inl ((upd cft_doors (cit_doorMany).toNatClampNeg ((((2 : Int32) * l1) + l2) - (1 : Int32)))))), (qt, .inr (11, [.ref qt_now, .ref xt_past, .int (it_saved), .ref xt_text, .int (it_length), .ref qt_doors, .int ((cit_doorMany + (1 : Int32))), .ref xt_label, .int (it_drawn), .ref xt_far, .ref xt_ring, .int (it_walker), .int (it_from), .ref xt_was, .int (it_steps), .int (it_faultAt), .int (it_mover)])), (qt_now, .inl (cy.1, 639, .inl (ft_now)))] H := hP
              have hD : va_D A [(qt_doors, .inl (cy.1, 420, .inl ((upd cft_doors (cit_doorMany).toNatClampNeg ((((2 : Int32) * l1) + l2) - (1 : Int32)))))), (qt, .inr (11, [.ref qt_now, .ref xt_past, .int (it_saved), .ref xt_text, .int (it_length), .ref qt_doors, .int ((cit_doorMany + (1 : Int32))), .ref xt_label, .int (it_drawn), .ref xt_far, .ref xt_ring, .int (it_walker), .int (it_from), .ref xt_was, .int (it_steps), .int (it_faultAt), .int (it_mover)])), (qt_now, .inl (cy.1, 639, .inl (ft_now)))] := hD
              refine lv_iinc (v := (l2 + (1 : Int32))) (lv' := [(2, .int (l2 + (1 : Int32))), (0, .ref qt), (1, .int l1)]) hx hb dX11_countsDoors_65 hl (k := 2) rfl rfl (by decide) rfl (fun ls hl => ?_)
              refine lv_goto (tgt := 25) hx hb dX11_countsDoors_68 (by decide) ?_
              exact ih25 (l1) ((l2 + (1 : Int32))) ((cit_doorMany + (1 : Int32))) ((upd cft_doors (cit_doorMany).toNatClampNeg ((((2 : Int32) * l1) + l2) - (1 : Int32)))) _ _ (hP.sub [1, 2, 0] rfl) (hD.sub [1, 2, 0] (by decide) rfl) hS _ (lv_sub hl [1, 2, 0] rfl) hf
      intro l1 cit_doorMany cft_doors H locs hP hD hS ls hl hf
      rw [b_X11_countsDoors_7] at hf
      refine lv_iload_n hx hb dX11_countsDoors_7 rfl (lv_at hl 1 rfl) ?_
      refine lv_aload_n hx hb dX11_countsDoors_8 rfl (lv_at hl 0 rfl) ?_
      refine kcalli (wc := [(qt, .inr (11, [.ref qt_now, .ref xt_past, .int (it_saved), .ref xt_text, .int (it_length), .ref qt_doors, .int (cit_doorMany), .ref xt_label, .int (it_drawn), .ref xt_far, .ref xt_ring, .int (it_walker), .int (it_from), .ref xt_was, .int (it_steps), .int (it_faultAt), .int (it_mover)])), (qt_now, .inl (cy.1, 639, .inl (ft_now)))]) (wr := [(qt_doors, .inl (cy.1, 420, .inl (cft_doors)))]) (w1 := [(qt, .inr (11, [.ref qt_now, .ref xt_past, .int (it_saved), .ref xt_text, .int (it_length), .ref qt_doors, .int (cit_doorMany), .ref xt_label, .int (it_drawn), .ref xt_far, .ref xt_ring, .int (it_walker), .int (it_from), .ref xt_was, .int (it_steps), .int (it_faultAt), .int (it_mover)])), (qt_now, .inl (cy.1, 639, .inl (ft_now)))]) hK hP hD hS hA hG [0, 1] [2] rfl rfl rfl rfl rfl (fun hU hPc => va_runV (As := []) (rest := [.int l1]) ⟨hx, hb, hml, hown, hts⟩ (c_X11_cells l dC dI cy G H.size qt qt_now xt_past xt_text qt_doors xt_label xt_far xt_ring xt_was (it_saved) (it_length) (cit_doorMany) (it_drawn) (it_walker) (it_from) (it_steps) (it_faultAt) (it_mover) (ft_now) (t_X11_cells (ft_now)) (tot_X11_cells (ft_now))) (cwV 0 hts gX11_countsDoors_X11_cells rfl rfl rfl hdX11_cells ⟨Nat.le_of_ble_eq_true rfl, Nat.le_of_ble_eq_true rfl⟩) ⟨kBlind, (va_recv hK hP (ci := 11) (q0 := 0) rfl rfl), fun U h1 h2 => ⟨rfl, hU U h1 h2⟩⟩ rfl rfl hl.1 rfl (lv_room (Nat.le_of_ble_eq_true rfl)) dX11_countsDoors_9 ⟨Nat.zero_le _, Nat.zero_le _⟩) ((t_X11_cells (ft_now))) (fun _ _ h => h) (fun _ _ h => h) (fun H locs hP hD hS => ?_)
      have hP : va_P (dC, dI) vwCl [(qt_doors, .inl (cy.1, 420, .inl (cft_doors))), (qt, .inr (11, [.ref qt_now, .ref xt_past, .int (it_saved), .ref xt_text, .int (it_length), .ref qt_doors, .int (cit_doorMany), .ref xt_label, .int (it_drawn), .ref xt_far, .ref xt_ring, .int (it_walker), .int (it_from), .ref xt_was, .int (it_steps), .int (it_faultAt), .int (it_mover)])), (qt_now, .inl (cy.1, 639, .inl (ft_now)))] H := hP
      have hD : va_D A [(qt_doors, .inl (cy.1, 420, .inl (cft_doors))), (qt, .inr (11, [.ref qt_now, .ref xt_past, .int (it_saved), .ref xt_text, .int (it_length), .ref qt_doors, .int (cit_doorMany), .ref xt_label, .int (it_drawn), .ref xt_far, .ref xt_ring, .int (it_walker), .int (it_from), .ref xt_was, .int (it_steps), .int (it_faultAt), .int (it_mover)])), (qt_now, .inl (cy.1, 639, .inl (ft_now)))] := hD
      refine lv_icmp_ge (tgt := 77) hx hb dX11_countsDoors_12 (by decide) (fun hc_12 => ?_) (fun hc_12 => ?_)
      · rw [if_pos hc_12] at hf
        cases hf
        subst hQ
        exact kvret hx hb hr hlocks hK (hP.sub [1, 2, 0] rfl) (hD.sub [1, 2, 0] (by decide) rfl) hS trivial dX11_countsDoors_77
      · rw [if_neg hc_12] at hf
        refine lv_aload_n hx hb dX11_countsDoors_15 rfl (lv_at hl 0 rfl) ?_
        refine lv_iload_n hx hb dX11_countsDoors_16 rfl (lv_at hl 1 rfl) ?_
        obtain ⟨r17, hq_17, hf⟩ := bnd1_s hf
        refine kcalli (wc := [(qt, .inr (11, [.ref qt_now, .ref xt_past, .int (it_saved), .ref xt_text, .int (it_length), .ref qt_doors, .int (cit_doorMany), .ref xt_label, .int (it_drawn), .ref xt_far, .ref xt_ring, .int (it_walker), .int (it_from), .ref xt_was, .int (it_steps), .int (it_faultAt), .int (it_mover)])), (qt_now, .inl (cy.1, 639, .inl (ft_now)))]) (wr := [(qt_doors, .inl (cy.1, 420, .inl (cft_doors)))]) (w1 := [(qt, .inr (11, [.ref qt_now, .ref xt_past, .int (it_saved), .ref xt_text, .int (it_length), .ref qt_doors, .int (cit_doorMany), .ref xt_label, .int (it_drawn), .ref xt_far, .ref xt_ring, .int (it_walker), .int (it_from), .ref xt_was, .int (it_steps), .int (it_faultAt), .int (it_mover)])), (qt_now, .inl (cy.1, 639, .inl (ft_now)))]) hK hP hD hS hA hG [1, 2] [0] rfl rfl rfl rfl rfl (fun hU hPc => va_runV (As := [.int l1]) (rest := []) ⟨hx, hb, hml, hown, hts⟩ (c_X11_isRoomAt l dC dI cy G H.size qt qt_now xt_past xt_text qt_doors xt_label xt_far xt_ring xt_was (it_saved) (it_length) (cit_doorMany) (it_drawn) (it_walker) (it_from) (it_steps) (it_faultAt) (it_mover) (ft_now) (l1) r17 hq_17) (cwV 1 hts gX11_countsDoors_X11_isRoomAt rfl rfl rfl hdX11_isRoomAt ⟨Nat.le_of_ble_eq_true rfl, Nat.le_of_ble_eq_true rfl⟩) ⟨kBlind, (va_recv hK hP (ci := 11) (q0 := 1) rfl rfl), fun U h1 h2 => ⟨rfl, hU U h1 h2⟩⟩ rfl rfl hl.1 rfl (lv_room (Nat.le_of_ble_eq_true rfl)) dX11_countsDoors_17 ⟨Nat.zero_le _, Nat.zero_le _⟩) (r17) (fun _ _ h => h) (fun _ _ h => h) (fun H locs hP hD hS => ?_)
        have hP : va_P (dC, dI) vwCl [(qt_doors, .inl (cy.1, 420, .inl (cft_doors))), (qt, .inr (11, [.ref qt_now, .ref xt_past, .int (it_saved), .ref xt_text, .int (it_length), .ref qt_doors, .int (cit_doorMany), .ref xt_label, .int (it_drawn), .ref xt_far, .ref xt_ring, .int (it_walker), .int (it_from), .ref xt_was, .int (it_steps), .int (it_faultAt), .int (it_mover)])), (qt_now, .inl (cy.1, 639, .inl (ft_now)))] H := hP
        have hD : va_D A [(qt_doors, .inl (cy.1, 420, .inl (cft_doors))), (qt, .inr (11, [.ref qt_now, .ref xt_past, .int (it_saved), .ref xt_text, .int (it_length), .ref qt_doors, .int (cit_doorMany), .ref xt_label, .int (it_drawn), .ref xt_far, .ref xt_ring, .int (it_walker), .int (it_from), .ref xt_was, .int (it_steps), .int (it_faultAt), .int (it_mover)])), (qt_now, .inl (cy.1, 639, .inl (ft_now)))] := hD
        refine lv_if_eq (tgt := 71) hx hb dX11_countsDoors_20 (by decide) (fun hc_20 => ?_) (fun hc_20 => ?_)
        · rw [if_pos hc_20] at hf
          refine lv_iinc (v := (l1 + (1 : Int32))) (lv' := [(1, .int (l1 + (1 : Int32))), (0, .ref qt)]) hx hb dX11_countsDoors_71 hl (k := 1) rfl rfl (by decide) rfl (fun ls hl => ?_)
          refine lv_goto (tgt := 7) hx hb dX11_countsDoors_74 (by decide) ?_
          exact ih7 ((l1 + (1 : Int32))) (cit_doorMany) (cft_doors) _ _ (hP.sub [1, 2, 0] rfl) (hD.sub [1, 2, 0] (by decide) rfl) hS _ (lv_sub hl [1, 0] rfl) hf
        · rw [if_neg hc_20] at hf
          refine lv_iconst (v := (1 : Int32)) hx hb dX11_countsDoors_23 (by decide) ?_
          refine lv_istore_n (lv' := [(2, .int (1 : Int32)), (0, .ref qt), (1, .int l1)]) hx hb dX11_countsDoors_24 rfl hl (by decide) rfl (fun ls hl => ?_)
          exact B25 N (l1) ((1 : Int32)) (cit_doorMany) (cft_doors) _ _ (hP.sub [1, 2, 0] rfl) (hD.sub [1, 2, 0] (by decide) rfl) hS _ (lv_sub hl [1, 2, 0] rfl) hf
  rw [f_X11_countsDoors] at hf
  refine lv_aload_n hx hb dX11_countsDoors_0 rfl (lv_at hl 0 rfl) ?_
  refine lv_iconst (v := (0 : Int32)) hx hb dX11_countsDoors_1 (by decide) ?_
  refine va_put (D := (dC, dI)) (ci := 11) (v := .int (0 : Int32)) (ty := .int) (C := RX11) (T := TX11) (N := 17) hx hb hts (fun _ h => (List.mem_cons_of_mem _ (List.mem_append_right _ h))) tyX11 tyX11_ok nmX11 hown hK hP hD hS 0 rfl rfl 6 (by decide) (hts _ (List.mem_cons_of_mem _ (List.mem_append_left _ (List.mem_append_left _ (List.mem_of_getElem? (i := 0) rfl))))) (fun _ h => h) rfl (by decide +kernel) rfl rfl (Nat.le_of_ble_eq_true rfl) dX11_countsDoors_2 (fun H locs hP hD hS => ?_)
  have hP : va_P (dC, dI) vwCl [(qt, .inr (11, [.ref qt_now, .ref xt_past, .int (it_saved), .ref xt_text, .int (it_length), .ref qt_doors, .int ((0 : Int32)), .ref xt_label, .int (it_drawn), .ref xt_far, .ref xt_ring, .int (it_walker), .int (it_from), .ref xt_was, .int (it_steps), .int (it_faultAt), .int (it_mover)])), (qt_now, .inl (cy.1, 639, .inl (ft_now))), (qt_doors, .inl (cy.1, 420, .inl (ft_doors)))] H := hP
  have hD : va_D A [(qt, .inr (11, [.ref qt_now, .ref xt_past, .int (it_saved), .ref xt_text, .int (it_length), .ref qt_doors, .int ((0 : Int32)), .ref xt_label, .int (it_drawn), .ref xt_far, .ref xt_ring, .int (it_walker), .int (it_from), .ref xt_was, .int (it_steps), .int (it_faultAt), .int (it_mover)])), (qt_now, .inl (cy.1, 639, .inl (ft_now))), (qt_doors, .inl (cy.1, 420, .inl (ft_doors)))] := hD
  refine lv_iconst (v := (0 : Int32)) hx hb dX11_countsDoors_5 (by decide) ?_
  refine lv_istore_n (lv' := [(1, .int (0 : Int32)), (0, .ref qt)]) hx hb dX11_countsDoors_6 rfl hl (by decide) rfl (fun ls hl => ?_)
  exact B7 N ((0 : Int32)) ((0 : Int32)) (ft_doors) _ _ (hP.sub [0, 1, 2] rfl) (hD.sub [0, 1, 2] (by decide) rfl) hS _ (lv_sub hl [1, 0] rfl) hf
theorem hdX11_countsDoors : yX11_countsDoors.cls = RX11 ∧ yX11_countsDoors.cls ≠ "java/lang/invoke/MethodHandle" ∧ yX11_countsDoors.cls ≠ "java/lang/invoke/VarHandle" ∧ (parseMethodDescriptor yX11_countsDoors.desc).map (fun d => d.parameters.length) = some 0 := by decide +kernel
noncomputable def b_X11_letterValue_135 (N : Nat) (ft_now : Nat → Int32) (va1 : Int32) (va2 : Int32) (k5 : Int32 → Int32 → Option (Int32)) (k61 : Int32 → Int32 → Int32 → Int32 → Option (Int32)) (l3 : Int32) (l4 : Int32) (l5 : Int32) (l6 : Int32) (s0 : Int32) : Option (Int32) :=
  if s0 = 0 then
    k61 ((l3 + (0 : Int32))) (l4) (l5) ((l6 + (1 : Int32)))
  else
    if va2 = (2 : Int32) then
      k61 ((l3 + (1 : Int32))) (l4) (l5) ((l6 + (1 : Int32)))
    else
      bnd1 (f_X11_isOpen (ft_now) (l4) (l6)) fun r153 =>
      if r153 = 0 then
        k61 ((l3 + (0 : Int32))) (l4) (l5) ((l6 + (1 : Int32)))
      else
        k61 ((l3 + (1 : Int32))) (l4) (l5) ((l6 + (1 : Int32)))
noncomputable def b_X11_letterValue_103 (N : Nat) (ft_now : Nat → Int32) (va1 : Int32) (va2 : Int32) (k5 : Int32 → Int32 → Option (Int32)) (k61 : Int32 → Int32 → Int32 → Int32 → Option (Int32)) (l3 : Int32) (l4 : Int32) (l5 : Int32) (l6 : Int32) (s0 : Int32) : Option (Int32) :=
  if va2 = (4 : Int32) then
    if s0 = (-1 : Int32) then
      b_X11_letterValue_135 N ft_now va1 va2 (k5) (k61) (l3) (l4) (l5) (l6) ((1 : Int32))
    else
      b_X11_letterValue_135 N ft_now va1 va2 (k5) (k61) (l3) (l4) (l5) (l6) ((0 : Int32))
  else
    if s0 = va1 then
      b_X11_letterValue_135 N ft_now va1 va2 (k5) (k61) (l3) (l4) (l5) (l6) ((1 : Int32))
    else
      b_X11_letterValue_135 N ft_now va1 va2 (k5) (k61) (l3) (l4) (l5) (l6) ((0 : Int32))
noncomputable def b_X11_letterValue_61 (N : Nat) (ft_now : Nat → Int32) (va1 : Int32) (va2 : Int32) (k5 : Int32 → Int32 → Option (Int32)) : Nat → Int32 → Int32 → Int32 → Int32 → Option (Int32)
  | 0, _, _, _, _ => none
  | n + 1, l3, l4, l5, l6 =>
    if (3 : Int32) ≤ l6 then
      k5 (l3) ((l4 + (1 : Int32)))
    else
      if l5 = 0 then
        k5 (l3) ((l4 + (1 : Int32)))
      else
        if va2 ≤ (1 : Int32) then
          k5 (l3) ((l4 + (1 : Int32)))
        else
          bnd1 (f_X11_beside (ft_now) (l4) (l6)) fun r82 =>
          if 0 ≤ r82 then
            bnd1 (f_X11_letterAt (ft_now) (r82)) fun r100 =>
            b_X11_letterValue_103 N ft_now va1 va2 (k5) (b_X11_letterValue_61 N ft_now va1 va2 k5 n) (l3) (l4) (l5) (l6) (r100)
          else
            b_X11_letterValue_103 N ft_now va1 va2 (k5) (b_X11_letterValue_61 N ft_now va1 va2 k5 n) (l3) (l4) (l5) (l6) ((-2 : Int32))
noncomputable def b_X11_letterValue_38 (N : Nat) (ft_now : Nat → Int32) (va1 : Int32) (va2 : Int32) (k5 : Int32 → Int32 → Option (Int32)) (l3 : Int32) (l4 : Int32) (s0 : Int32) : Option (Int32) :=
  if s0 = 0 then
    b_X11_letterValue_61 N ft_now va1 va2 (k5) N ((l3 + (0 : Int32))) (l4) (s0) ((1 : Int32))
  else
    if va2 = (1 : Int32) then
      b_X11_letterValue_61 N ft_now va1 va2 (k5) N ((l3 + (1 : Int32))) (l4) (s0) ((1 : Int32))
    else
      b_X11_letterValue_61 N ft_now va1 va2 (k5) N ((l3 + (0 : Int32))) (l4) (s0) ((1 : Int32))
noncomputable def b_X11_letterValue_37 (N : Nat) (ft_now : Nat → Int32) (va1 : Int32) (va2 : Int32) (k5 : Int32 → Int32 → Option (Int32)) (l3 : Int32) (l4 : Int32) : Option (Int32) :=
  b_X11_letterValue_38 N ft_now va1 va2 (k5) (l3) (l4) ((0 : Int32))
noncomputable def b_X11_letterValue_5 (N : Nat) (ft_now : Nat → Int32) (va1 : Int32) (va2 : Int32) : Nat → Int32 → Int32 → Option (Int32)
  | 0, _, _ => none
  | n + 1, l3, l4 =>
    if (t_X11_cells (ft_now)) ≤ l4 then
      some (l3)
    else
      bnd1 (f_X11_isRoomAt (ft_now) (l4)) fun r17 =>
      if r17 = 0 then
        b_X11_letterValue_37 N ft_now va1 va2 (b_X11_letterValue_5 N ft_now va1 va2 n) (l3) (l4)
      else
        bnd1 (f_X11_letterAt (ft_now) (l4)) fun r26 =>
        if r26 = va1 then
          b_X11_letterValue_38 N ft_now va1 va2 (b_X11_letterValue_5 N ft_now va1 va2 n) (l3) (l4) ((1 : Int32))
        else
          b_X11_letterValue_37 N ft_now va1 va2 (b_X11_letterValue_5 N ft_now va1 va2 n) (l3) (l4)
noncomputable def f_X11_letterValue (N : Nat) (ft_now : Nat → Int32) (va1 : Int32) (va2 : Int32) : Option (Int32) :=
  b_X11_letterValue_5 N ft_now va1 va2 N ((0 : Int32)) ((0 : Int32))
abbrev rm_X11_letterValue : Room := { frames := 6, cells := 0, slots := 0, locals := 135 }
set_option maxHeartbeats 4000000 in
set_option maxRecDepth 100000 in
theorem c_X11_letterValue (l : Launch) (dC : Nat → ClassId) (dI : Nat → Nat → Nat) (cy : gC) (G : gT) (sz : Nat) (qt : Nat) (qt_now : Nat) (xt_past : Nat) (xt_text : Nat) (xt_doors : Nat) (xt_label : Nat) (xt_far : Nat) (xt_ring : Nat) (xt_was : Nat) (it_saved : Int32) (it_length : Int32) (it_doorMany : Int32) (it_drawn : Int32) (it_walker : Int32) (it_from : Int32) (it_steps : Int32) (it_faultAt : Int32) (it_mover : Int32) (N : Nat) (ft_now : Nat → Int32) (va1 : Int32) (va2 : Int32) (out : Int32) (hf : f_X11_letterValue N ft_now va1 va2 = some out) : Met l yX11_letterValue wsX11_letterValue rm_X11_letterValue (va_Pc [.ref qt, .int va1, .int va2] (kP (dC, dI) cy G [(qt, .inr (11, [.ref qt_now, .ref xt_past, .int (it_saved), .ref xt_text, .int (it_length), .ref xt_doors, .int (it_doorMany), .ref xt_label, .int (it_drawn), .ref xt_far, .ref xt_ring, .int (it_walker), .int (it_from), .ref xt_was, .int (it_steps), .int (it_faultAt), .int (it_mover)])), (qt_now, .inl (cy.1, 639, .inl (ft_now)))] sz)) (va_Qi (fun r (_ : Unit) => r = out) (fun _ => kQ (dC, dI) cy [(qt, .inr (11, [.ref qt_now, .ref xt_past, .int (it_saved), .ref xt_text, .int (it_length), .ref xt_doors, .int (it_doorMany), .ref xt_label, .int (it_drawn), .ref xt_far, .ref xt_ring, .int (it_walker), .int (it_from), .ref xt_was, .int (it_steps), .int (it_faultAt), .int (it_mover)])), (qt_now, .inl (cy.1, 639, .inl (ft_now)))] (va_A [(qt, .inr (11, [.ref qt_now, .ref xt_past, .int (it_saved), .ref xt_text, .int (it_length), .ref xt_doors, .int (it_doorMany), .ref xt_label, .int (it_drawn), .ref xt_far, .ref xt_ring, .int (it_walker), .int (it_from), .ref xt_was, .int (it_steps), .int (it_faultAt), .int (it_mover)])), (qt_now, .inl (cy.1, 639, .inl (ft_now)))] sz)) (va_A [(qt, .inr (11, [.ref qt_now, .ref xt_past, .int (it_saved), .ref xt_text, .int (it_length), .ref xt_doors, .int (it_doorMany), .ref xt_label, .int (it_drawn), .ref xt_far, .ref xt_ring, .int (it_walker), .int (it_from), .ref xt_was, .int (it_steps), .int (it_faultAt), .int (it_mover)])), (qt_now, .inl (cy.1, 639, .inl (ft_now)))] sz)) 0 0 (va_A [(qt, .inr (11, [.ref qt_now, .ref xt_past, .int (it_saved), .ref xt_text, .int (it_length), .ref xt_doors, .int (it_doorMany), .ref xt_label, .int (it_drawn), .ref xt_far, .ref xt_ring, .int (it_walker), .int (it_from), .ref xt_was, .int (it_steps), .int (it_faultAt), .int (it_mover)])), (qt_now, .inl (cy.1, 639, .inl (ft_now)))] sz) := by
  refine Met.ofW (cc := cX11_letterValue) (maxL := 10) (ret := (some .int)) (by decide) rfl ?_
  intro p e s m args below meth c s₁ B hml hv
  obtain ⟨rfl, hsz, hP, hK, hD0, hG⟩ := hv
  have hx := B.exec
  have hb := B.bytes
  have hr := B.returns
  have hts := atoms_spec (ws := wsX11_letterValue) B.pre
  have hown : s.vm.findClass RX11 = some m.cls := findClass_of_methodNamed B.named
  have hlocks := B.notSynchronized
  subst hsz
  have hD := hD0.self (sz := s.heap.size)
  generalize hAe : va_A [(qt, .inr (11, [.ref qt_now, .ref xt_past, .int (it_saved), .ref xt_text, .int (it_length), .ref xt_doors, .int (it_doorMany), .ref xt_label, .int (it_drawn), .ref xt_far, .ref xt_ring, .int (it_walker), .int (it_from), .ref xt_was, .int (it_steps), .int (it_faultAt), .int (it_mover)])), (qt_now, .inl (cy.1, 639, .inl (ft_now)))] s.heap.size = A at hD hG ⊢
  have hA : ∀ q : Nat, s.heap.size ≤ q → A q := fun q h => by rw [← hAe]; exact Or.inr h
  have hS : va_S A s.heap s.heap [] := va_S.rf
  have hP : va_P (dC, dI) vwCl [(qt, .inr (11, [.ref qt_now, .ref xt_past, .int (it_saved), .ref xt_text, .int (it_length), .ref xt_doors, .int (it_doorMany), .ref xt_label, .int (it_drawn), .ref xt_far, .ref xt_ring, .int (it_walker), .int (it_from), .ref xt_was, .int (it_steps), .int (it_faultAt), .int (it_mover)])), (qt_now, .inl (cy.1, 639, .inl (ft_now)))] s.heap := hP
  have hl := lv_entry ([.ref qt, .int va1, .int va2]) (n := 10) (Nat.le_of_ble_eq_true rfl)
  rw [lg_entry_eq]
  generalize (lg_sl ([.ref qt, .int va1, .int va2]) ++ List.replicate (10 - (lg_sl ([.ref qt, .int va1, .int va2])).length) Slot.unset).toArray = ls at hl ⊢
  have hl : lv_has ls 10 [(0, .ref qt), (1, .int va1), (2, .int va2)] := hl
  refine kgen (fun Q hQ => ?_)
  have B5 : ∀ (n5 : Nat) (l3 : Int32) (l4 : Int32) (H : Heap) (locs : List Loc), va_P (dC, dI) vwCl [(qt, .inr (11, [.ref qt_now, .ref xt_past, .int (it_saved), .ref xt_text, .int (it_length), .ref xt_doors, .int (it_doorMany), .ref xt_label, .int (it_drawn), .ref xt_far, .ref xt_ring, .int (it_walker), .int (it_from), .ref xt_was, .int (it_steps), .int (it_faultAt), .int (it_mover)])), (qt_now, .inl (cy.1, 639, .inl (ft_now)))] H → va_D A [(qt, .inr (11, [.ref qt_now, .ref xt_past, .int (it_saved), .ref xt_text, .int (it_length), .ref xt_doors, .int (it_doorMany), .ref xt_label, .int (it_drawn), .ref xt_far, .ref xt_ring, .int (it_walker), .int (it_from), .ref xt_was, .int (it_steps), .int (it_faultAt), .int (it_mover)])), (qt_now, .inl (cy.1, 639, .inl (ft_now)))] → va_S A s.heap H locs → ∀ (ls : Array Slot), lv_has ls 10 [(0, .ref qt), (1, .int va1), (2, .int va2), (3, .int l3), (4, .int l4)] → b_X11_letterValue_5 N ft_now va1 va2 n5 l3 l4 = some out → W p l e (headSpec wsX11_letterValue rm_X11_letterValue).room s m ([.ref qt, .int va1, .int va2] : List Value).toArray below meth c H locs 0 0 Q (F0 m 5 ls []) := by
    intro n5
    induction n5 with
    | zero => intro l3 l4 H locs hP hD hS ls hl hf; rw [b_X11_letterValue_5] at hf; cases hf
    | succ n5 ih5 =>
      have B61 : ∀ (n61 : Nat) (l3 : Int32) (l4 : Int32) (l5 : Int32) (l6 : Int32) (H : Heap) (locs : List Loc), va_P (dC, dI) vwCl [(qt, .inr (11, [.ref qt_now, .ref xt_past, .int (it_saved), .ref xt_text, .int (it_length), .ref xt_doors, .int (it_doorMany), .ref xt_label, .int (it_drawn), .ref xt_far, .ref xt_ring, .int (it_walker), .int (it_from), .ref xt_was, .int (it_steps), .int (it_faultAt), .int (it_mover)])), (qt_now, .inl (cy.1, 639, .inl (ft_now)))] H → va_D A [(qt, .inr (11, [.ref qt_now, .ref xt_past, .int (it_saved), .ref xt_text, .int (it_length), .ref xt_doors, .int (it_doorMany), .ref xt_label, .int (it_drawn), .ref xt_far, .ref xt_ring, .int (it_walker), .int (it_from), .ref xt_was, .int (it_steps), .int (it_faultAt), .int (it_mover)])), (qt_now, .inl (cy.1, 639, .inl (ft_now)))] → va_S A s.heap H locs → ∀ (ls : Array Slot), lv_has ls 10 [(0, .ref qt), (1, .int va1), (2, .int va2), (3, .int l3), (4, .int l4), (5, .int l5), (6, .int l6)] → b_X11_letterValue_61 N ft_now va1 va2 (b_X11_letterValue_5 N ft_now va1 va2 n5) n61 l3 l4 l5 l6 = some out → W p l e (headSpec wsX11_letterValue rm_X11_letterValue).room s m ([.ref qt, .int va1, .int va2] : List Value).toArray below meth c H locs 0 0 Q (F0 m 61 ls []) := by
        intro n61
        induction n61 with
        | zero => intro l3 l4 l5 l6 H locs hP hD hS ls hl hf; rw [b_X11_letterValue_61] at hf; cases hf
        | succ n61 ih61 =>
          have B135 : ∀ (l3 : Int32) (l4 : Int32) (l5 : Int32) (l6 : Int32) (s0 : Int32) (H : Heap) (locs : List Loc), va_P (dC, dI) vwCl [(qt, .inr (11, [.ref qt_now, .ref xt_past, .int (it_saved), .ref xt_text, .int (it_length), .ref xt_doors, .int (it_doorMany), .ref xt_label, .int (it_drawn), .ref xt_far, .ref xt_ring, .int (it_walker), .int (it_from), .ref xt_was, .int (it_steps), .int (it_faultAt), .int (it_mover)])), (qt_now, .inl (cy.1, 639, .inl (ft_now)))] H → va_D A [(qt, .inr (11, [.ref qt_now, .ref xt_past, .int (it_saved), .ref xt_text, .int (it_length), .ref xt_doors, .int (it_doorMany), .ref xt_label, .int (it_drawn), .ref xt_far, .ref xt_ring, .int (it_walker), .int (it_from), .ref xt_was, .int (it_steps), .int (it_faultAt), .int (it_mover)])), (qt_now, .inl (cy.1, 639, .inl (ft_now)))] → va_S A s.heap H locs → ∀ (ls : Array Slot), lv_has ls 10 [(0, .ref qt), (1, .int va1), (2, .int va2), (3, .int l3), (4, .int l4), (5, .int l5), (6, .int l6)] → b_X11_letterValue_135 N ft_now va1 va2 (b_X11_letterValue_5 N ft_now va1 va2 n5) (b_X11_letterValue_61 N ft_now va1 va2 (b_X11_letterValue_5 N ft_now va1 va2 n5) n61) l3 l4 l5 l6 s0 = some out → W p l e (headSpec wsX11_letterValue rm_X11_letterValue).room s m ([.ref qt, .int va1, .int va2] : List Value).toArray below meth c H locs 0 0 Q (F0 m 135 ls [.int s0]) := by
            intro l3 l4 l5 l6 s0 H locs hP hD hS ls hl hf
            rw [b_X11_letterValue_135] at hf
            refine lv_istore (lv' := [(9, .int s0), (0, .ref qt), (1, .int va1), (2, .int va2), (3, .int l3), (4, .int l4), (5, .int l5), (6, .int l6)]) hx hb dX11_letterValue_135 hl (by decide) rfl (fun ls hl => ?_)
            refine lv_iload_n hx hb dX11_letterValue_137 rfl (lv_at hl 4 rfl) ?_
            refine lv_iload hx hb dX11_letterValue_138 (lv_at hl 0 rfl) ?_
            refine lv_if_eq (tgt := 163) hx hb dX11_letterValue_140 (by decide) (fun hc_140 => ?_) (fun hc_140 => ?_)
            · rw [if_pos hc_140] at hf
              refine lv_iconst (v := (0 : Int32)) hx hb dX11_letterValue_163 (by decide) ?_
              refine lv_iadd hx hb dX11_letterValue_164 ?_
              refine lv_istore_n (lv' := [(3, .int (l3 + (0 : Int32))), (9, .int s0), (0, .ref qt), (1, .int va1), (2, .int va2), (4, .int l4), (5, .int l5), (6, .int l6)]) hx hb dX11_letterValue_165 rfl hl (by decide) rfl (fun ls hl => ?_)
              refine lv_iinc (v := (l6 + (1 : Int32))) (lv' := [(6, .int (l6 + (1 : Int32))), (3, .int (l3 + (0 : Int32))), (9, .int s0), (0, .ref qt), (1, .int va1), (2, .int va2), (4, .int l4), (5, .int l5)]) hx hb dX11_letterValue_166 hl (k := 7) rfl rfl (by decide) rfl (fun ls hl => ?_)
              refine lv_goto (tgt := 61) hx hb dX11_letterValue_169 (by decide) ?_
              exact ih61 ((l3 + (0 : Int32))) (l4) (l5) ((l6 + (1 : Int32))) _ _ (hP.sub [0, 1] rfl) (hD.sub [0, 1] (by decide) rfl) hS _ (lv_sub hl [3, 4, 5, 1, 6, 7, 0] rfl) hf
            · rw [if_neg hc_140] at hf
              refine lv_iload_n hx hb dX11_letterValue_143 rfl (lv_at hl 3 rfl) ?_
              refine lv_iconst (v := (2 : Int32)) hx hb dX11_letterValue_144 (by decide) ?_
              refine lv_icmp_eq (tgt := 159) hx hb dX11_letterValue_145 (by decide) (fun hc_145 => ?_) (fun hc_145 => ?_)
              · rw [if_pos hc_145] at hf
                refine lv_iconst (v := (1 : Int32)) hx hb dX11_letterValue_159 (by decide) ?_
                refine lv_goto (tgt := 164) hx hb dX11_letterValue_160 (by decide) ?_
                refine lv_iadd hx hb dX11_letterValue_164 ?_
                refine lv_istore_n (lv' := [(3, .int (l3 + (1 : Int32))), (9, .int s0), (0, .ref qt), (1, .int va1), (2, .int va2), (4, .int l4), (5, .int l5), (6, .int l6)]) hx hb dX11_letterValue_165 rfl hl (by decide) rfl (fun ls hl => ?_)
                refine lv_iinc (v := (l6 + (1 : Int32))) (lv' := [(6, .int (l6 + (1 : Int32))), (3, .int (l3 + (1 : Int32))), (9, .int s0), (0, .ref qt), (1, .int va1), (2, .int va2), (4, .int l4), (5, .int l5)]) hx hb dX11_letterValue_166 hl (k := 7) rfl rfl (by decide) rfl (fun ls hl => ?_)
                refine lv_goto (tgt := 61) hx hb dX11_letterValue_169 (by decide) ?_
                exact ih61 ((l3 + (1 : Int32))) (l4) (l5) ((l6 + (1 : Int32))) _ _ (hP.sub [0, 1] rfl) (hD.sub [0, 1] (by decide) rfl) hS _ (lv_sub hl [3, 4, 5, 1, 6, 7, 0] rfl) hf
              · rw [if_neg hc_145] at hf
                refine lv_aload_n hx hb dX11_letterValue_148 rfl (lv_at hl 1 rfl) ?_
                refine lv_iload hx hb dX11_letterValue_149 (lv_at hl 5 rfl) ?_
                refine lv_iload hx hb dX11_letterValue_151 (lv_at hl 7 rfl) ?_
                obtain ⟨r153, hq_153, hf⟩ := bnd1_s hf
                refine kcalli (wc := [(qt, .inr (11, [.ref qt_now, .ref xt_past, .int (it_saved), .ref xt_text, .int (it_length), .ref xt_doors, .int (it_doorMany), .ref xt_label, .int (it_drawn), .ref xt_far, .ref xt_ring, .int (it_walker), .int (it_from), .ref xt_was, .int (it_steps), .int (it_faultAt), .int (it_mover)])), (qt_now, .inl (cy.1, 639, .inl (ft_now)))]) (wr := []) (w1 := [(qt, .inr (11, [.ref qt_now, .ref xt_past, .int (it_saved), .ref xt_text, .int (it_length), .ref xt_doors, .int (it_doorMany), .ref xt_label, .int (it_drawn), .ref xt_far, .ref xt_ring, .int (it_walker), .int (it_from), .ref xt_was, .int (it_steps), .int (it_faultAt), .int (it_mover)])), (qt_now, .inl (cy.1, 639, .inl (ft_now)))]) hK hP hD hS hA hG [0, 1] [] rfl rfl rfl rfl rfl (fun hU hPc => va_runV (As := [.int l4, .int l6]) (rest := [.int l3]) ⟨hx, hb, hml, hown, hts⟩ (c_X11_isOpen l dC dI cy G H.size qt qt_now xt_past xt_text xt_doors xt_label xt_far xt_ring xt_was (it_saved) (it_length) (it_doorMany) (it_drawn) (it_walker) (it_from) (it_steps) (it_faultAt) (it_mover) (ft_now) (l4) (l6) r153 hq_153) (cwV 2 hts gX11_letterValue_X11_isOpen rfl rfl rfl hdX11_isOpen ⟨Nat.le_of_ble_eq_true rfl, Nat.le_of_ble_eq_true rfl⟩) ⟨kBlind, (va_recv hK hP (ci := 11) (q0 := 0) rfl rfl), fun U h1 h2 => ⟨rfl, hU U h1 h2⟩⟩ rfl rfl hl.1 rfl (lv_room (Nat.le_of_ble_eq_true rfl)) dX11_letterValue_153 ⟨Nat.zero_le _, Nat.zero_le _⟩) (r153) (fun _ _ h => h) (fun _ _ h => h) (fun H locs hP hD hS => ?_)
                have hP : va_P (dC, dI) vwCl [(qt, .inr (11, [.ref qt_now, .ref xt_past, .int (it_saved), .ref xt_text, .int (it_length), .ref xt_doors, .int (it_doorMany), .ref xt_label, .int (it_drawn), .ref xt_far, .ref xt_ring, .int (it_walker), .int (it_from), .ref xt_was, .int (it_steps), .int (it_faultAt), .int (it_mover)])), (qt_now, .inl (cy.1, 639, .inl (ft_now)))] H := hP
                have hD : va_D A [(qt, .inr (11, [.ref qt_now, .ref xt_past, .int (it_saved), .ref xt_text, .int (it_length), .ref xt_doors, .int (it_doorMany), .ref xt_label, .int (it_drawn), .ref xt_far, .ref xt_ring, .int (it_walker), .int (it_from), .ref xt_was, .int (it_steps), .int (it_faultAt), .int (it_mover)])), (qt_now, .inl (cy.1, 639, .inl (ft_now)))] := hD
                refine lv_if_eq (tgt := 163) hx hb dX11_letterValue_156 (by decide) (fun hc_156 => ?_) (fun hc_156 => ?_)
                · rw [if_pos hc_156] at hf
                  refine lv_iconst (v := (0 : Int32)) hx hb dX11_letterValue_163 (by decide) ?_
                  refine lv_iadd hx hb dX11_letterValue_164 ?_
                  refine lv_istore_n (lv' := [(3, .int (l3 + (0 : Int32))), (9, .int s0), (0, .ref qt), (1, .int va1), (2, .int va2), (4, .int l4), (5, .int l5), (6, .int l6)]) hx hb dX11_letterValue_165 rfl hl (by decide) rfl (fun ls hl => ?_)
                  refine lv_iinc (v := (l6 + (1 : Int32))) (lv' := [(6, .int (l6 + (1 : Int32))), (3, .int (l3 + (0 : Int32))), (9, .int s0), (0, .ref qt), (1, .int va1), (2, .int va2), (4, .int l4), (5, .int l5)]) hx hb dX11_letterValue_166 hl (k := 7) rfl rfl (by decide) rfl (fun ls hl => ?_)
                  refine lv_goto (tgt := 61) hx hb dX11_letterValue_169 (by decide) ?_
                  exact ih61 ((l3 + (0 : Int32))) (l4) (l5) ((l6 + (1 : Int32))) _ _ (hP.sub [0, 1] rfl) (hD.sub [0, 1] (by decide) rfl) hS _ (lv_sub hl [3, 4, 5, 1, 6, 7, 0] rfl) hf
                · rw [if_neg hc_156] at hf
                  refine lv_iconst (v := (1 : Int32)) hx hb dX11_letterValue_159 (by decide) ?_
                  refine lv_goto (tgt := 164) hx hb dX11_letterValue_160 (by decide) ?_
                  refine lv_iadd hx hb dX11_letterValue_164 ?_
                  refine lv_istore_n (lv' := [(3, .int (l3 + (1 : Int32))), (9, .int s0), (0, .ref qt), (1, .int va1), (2, .int va2), (4, .int l4), (5, .int l5), (6, .int l6)]) hx hb dX11_letterValue_165 rfl hl (by decide) rfl (fun ls hl => ?_)
                  refine lv_iinc (v := (l6 + (1 : Int32))) (lv' := [(6, .int (l6 + (1 : Int32))), (3, .int (l3 + (1 : Int32))), (9, .int s0), (0, .ref qt), (1, .int va1), (2, .int va2), (4, .int l4), (5, .int l5)]) hx hb dX11_letterValue_166 hl (k := 7) rfl rfl (by decide) rfl (fun ls hl => ?_)
                  refine lv_goto (tgt := 61) hx hb dX11_letterValue_169 (by decide) ?_
                  exact ih61 ((l3 + (1 : Int32))) (l4) (l5) ((l6 + (1 : Int32))) _ _ (hP.sub [0, 1] rfl) (hD.sub [0, 1] (by decide) rfl) hS _ (lv_sub hl [3, 4, 5, 1, 6, 7, 0] rfl) hf
          have B103 : ∀ (l3 : Int32) (l4 : Int32) (l5 : Int32) (l6 : Int32) (s0 : Int32) (H : Heap) (locs : List Loc), va_P (dC, dI) vwCl [(qt, .inr (11, [.ref qt_now, .ref xt_past, .int (it_saved), .ref xt_text, .int (it_length), .ref xt_doors, .int (it_doorMany), .ref xt_label, .int (it_drawn), .ref xt_far, .ref xt_ring, .int (it_walker), .int (it_from), .ref xt_was, .int (it_steps), .int (it_faultAt), .int (it_mover)])), (qt_now, .inl (cy.1, 639, .inl (ft_now)))] H → va_D A [(qt, .inr (11, [.ref qt_now, .ref xt_past, .int (it_saved), .ref xt_text, .int (it_length), .ref xt_doors, .int (it_doorMany), .ref xt_label, .int (it_drawn), .ref xt_far, .ref xt_ring, .int (it_walker), .int (it_from), .ref xt_was, .int (it_steps), .int (it_faultAt), .int (it_mover)])), (qt_now, .inl (cy.1, 639, .inl (ft_now)))] → va_S A s.heap H locs → ∀ (ls : Array Slot), lv_has ls 10 [(0, .ref qt), (1, .int va1), (2, .int va2), (3, .int l3), (4, .int l4), (5, .int l5), (6, .int l6)] → b_X11_letterValue_103 N ft_now va1 va2 (b_X11_letterValue_5 N ft_now va1 va2 n5) (b_X11_letterValue_61 N ft_now va1 va2 (b_X11_letterValue_5 N ft_now va1 va2 n5) n61) l3 l4 l5 l6 s0 = some out → W p l e (headSpec wsX11_letterValue rm_X11_letterValue).room s m ([.ref qt, .int va1, .int va2] : List Value).toArray below meth c H locs 0 0 Q (F0 m 103 ls [.int s0]) := by
            intro l3 l4 l5 l6 s0 H locs hP hD hS ls hl hf
            rw [b_X11_letterValue_103] at hf
            refine lv_istore (lv' := [(8, .int s0), (0, .ref qt), (1, .int va1), (2, .int va2), (3, .int l3), (4, .int l4), (5, .int l5), (6, .int l6)]) hx hb dX11_letterValue_103 hl (by decide) rfl (fun ls hl => ?_)
            refine lv_iload_n hx hb dX11_letterValue_105 rfl (lv_at hl 3 rfl) ?_
            refine lv_iconst (v := (4 : Int32)) hx hb dX11_letterValue_106 (by decide) ?_
            refine lv_icmp_ne (tgt := 124) hx hb dX11_letterValue_107 (by decide) (fun hc_107 => ?_) (fun hc_107 => ?_)
            · rw [if_neg hc_107] at hf
              refine lv_iload hx hb dX11_letterValue_124 (lv_at hl 0 rfl) ?_
              refine lv_iload_n hx hb dX11_letterValue_126 rfl (lv_at hl 2 rfl) ?_
              refine lv_icmp_ne (tgt := 134) hx hb dX11_letterValue_127 (by decide) (fun hc_127 => ?_) (fun hc_127 => ?_)
              · rw [if_neg hc_127] at hf
                refine lv_iconst (v := (0 : Int32)) hx hb dX11_letterValue_134 (by decide) ?_
                exact B135 (l3) (l4) (l5) (l6) ((0 : Int32)) _ _ (hP.sub [0, 1] rfl) (hD.sub [0, 1] (by decide) rfl) hS _ (lv_sub hl [1, 2, 3, 4, 5, 6, 7] rfl) hf
              · rw [if_pos hc_127] at hf
                refine lv_iconst (v := (1 : Int32)) hx hb dX11_letterValue_130 (by decide) ?_
                refine lv_goto (tgt := 135) hx hb dX11_letterValue_131 (by decide) ?_
                exact B135 (l3) (l4) (l5) (l6) ((1 : Int32)) _ _ (hP.sub [0, 1] rfl) (hD.sub [0, 1] (by decide) rfl) hS _ (lv_sub hl [1, 2, 3, 4, 5, 6, 7] rfl) hf
            · rw [if_pos hc_107] at hf
              refine lv_iload hx hb dX11_letterValue_110 (lv_at hl 0 rfl) ?_
              refine lv_iconst (v := (-1 : Int32)) hx hb dX11_letterValue_112 (by decide) ?_
              refine lv_icmp_ne (tgt := 120) hx hb dX11_letterValue_113 (by decide) (fun hc_113 => ?_) (fun hc_113 => ?_)
              · rw [if_neg hc_113] at hf
                refine lv_iconst (v := (0 : Int32)) hx hb dX11_letterValue_120 (by decide) ?_
                refine lv_goto (tgt := 135) hx hb dX11_letterValue_121 (by decide) ?_
                exact B135 (l3) (l4) (l5) (l6) ((0 : Int32)) _ _ (hP.sub [0, 1] rfl) (hD.sub [0, 1] (by decide) rfl) hS _ (lv_sub hl [1, 2, 3, 4, 5, 6, 7] rfl) hf
              · rw [if_pos hc_113] at hf
                refine lv_iconst (v := (1 : Int32)) hx hb dX11_letterValue_116 (by decide) ?_
                refine lv_goto (tgt := 135) hx hb dX11_letterValue_117 (by decide) ?_
                exact B135 (l3) (l4) (l5) (l6) ((1 : Int32)) _ _ (hP.sub [0, 1] rfl) (hD.sub [0, 1] (by decide) rfl) hS _ (lv_sub hl [1, 2, 3, 4, 5, 6, 7] rfl) hf
          intro l3 l4 l5 l6 H locs hP hD hS ls hl hf
          rw [b_X11_letterValue_61] at hf
          refine lv_iload hx hb dX11_letterValue_61 (lv_at hl 6 rfl) ?_
          refine lv_iconst (v := (3 : Int32)) hx hb dX11_letterValue_63 (by decide) ?_
          refine lv_icmp_ge (tgt := 172) hx hb dX11_letterValue_64 (by decide) (fun hc_64 => ?_) (fun hc_64 => ?_)
          · rw [if_pos hc_64] at hf
            refine lv_iinc (v := (l4 + (1 : Int32))) (lv' := [(4, .int (l4 + (1 : Int32))), (0, .ref qt), (1, .int va1), (2, .int va2), (3, .int l3), (5, .int l5), (6, .int l6)]) hx hb dX11_letterValue_172 hl (k := 4) rfl rfl (by decide) rfl (fun ls hl => ?_)
            refine lv_goto (tgt := 5) hx hb dX11_letterValue_175 (by decide) ?_
            exact ih5 (l3) ((l4 + (1 : Int32))) _ _ (hP.sub [0, 1] rfl) (hD.sub [0, 1] (by decide) rfl) hS _ (lv_sub hl [1, 2, 3, 4, 0] rfl) hf
          · rw [if_neg hc_64] at hf
            refine lv_iload hx hb dX11_letterValue_67 (lv_at hl 5 rfl) ?_
            refine lv_if_eq (tgt := 172) hx hb dX11_letterValue_69 (by decide) (fun hc_69 => ?_) (fun hc_69 => ?_)
            · rw [if_pos hc_69] at hf
              refine lv_iinc (v := (l4 + (1 : Int32))) (lv' := [(4, .int (l4 + (1 : Int32))), (0, .ref qt), (1, .int va1), (2, .int va2), (3, .int l3), (5, .int l5), (6, .int l6)]) hx hb dX11_letterValue_172 hl (k := 4) rfl rfl (by decide) rfl (fun ls hl => ?_)
              refine lv_goto (tgt := 5) hx hb dX11_letterValue_175 (by decide) ?_
              exact ih5 (l3) ((l4 + (1 : Int32))) _ _ (hP.sub [0, 1] rfl) (hD.sub [0, 1] (by decide) rfl) hS _ (lv_sub hl [1, 2, 3, 4, 0] rfl) hf
            · rw [if_neg hc_69] at hf
              refine lv_iload_n hx hb dX11_letterValue_72 rfl (lv_at hl 2 rfl) ?_
              refine lv_iconst (v := (1 : Int32)) hx hb dX11_letterValue_73 (by decide) ?_
              refine lv_icmp_le (tgt := 172) hx hb dX11_letterValue_74 (by decide) (fun hc_74 => ?_) (fun hc_74 => ?_)
              · rw [if_pos hc_74] at hf
                refine lv_iinc (v := (l4 + (1 : Int32))) (lv' := [(4, .int (l4 + (1 : Int32))), (0, .ref qt), (1, .int va1), (2, .int va2), (3, .int l3), (5, .int l5), (6, .int l6)]) hx hb dX11_letterValue_172 hl (k := 4) rfl rfl (by decide) rfl (fun ls hl => ?_)
                refine lv_goto (tgt := 5) hx hb dX11_letterValue_175 (by decide) ?_
                exact ih5 (l3) ((l4 + (1 : Int32))) _ _ (hP.sub [0, 1] rfl) (hD.sub [0, 1] (by decide) rfl) hS _ (lv_sub hl [1, 2, 3, 4, 0] rfl) hf
              · rw [if_neg hc_74] at hf
                refine lv_aload_n hx hb dX11_letterValue_77 rfl (lv_at hl 0 rfl) ?_
                refine lv_iload hx hb dX11_letterValue_78 (lv_at hl 4 rfl) ?_
                refine lv_iload hx hb dX11_letterValue_80 (lv_at hl 6 rfl) ?_
                obtain ⟨r82, hq_82, hf⟩ := bnd1_s hf
                refine kcalli (wc := [(qt, .inr (11, [.ref qt_now, .ref xt_past, .int (it_saved), .ref xt_text, .int (it_length), .ref xt_doors, .int (it_doorMany), .ref xt_label, .int (it_drawn), .ref xt_far, .ref xt_ring, .int (it_walker), .int (it_from), .ref xt_was, .int (it_steps), .int (it_faultAt), .int (it_mover)])), (qt_now, .inl (cy.1, 639, .inl (ft_now)))]) (wr := []) (w1 := [(qt, .inr (11, [.ref qt_now, .ref xt_past, .int (it_saved), .ref xt_text, .int (it_length), .ref xt_doors, .int (it_doorMany), .ref xt_label, .int (it_drawn), .ref xt_far, .ref xt_ring, .int (it_walker), .int (it_from), .ref xt_was, .int (it_steps), .int (it_faultAt), .int (it_mover)])), (qt_now, .inl (cy.1, 639, .inl (ft_now)))]) hK hP hD hS hA hG [0, 1] [] rfl rfl rfl rfl rfl (fun hU hPc => va_runV (As := [.int l4, .int l6]) (rest := []) ⟨hx, hb, hml, hown, hts⟩ (c_X11_beside l dC dI cy G H.size qt qt_now xt_past xt_text xt_doors xt_label xt_far xt_ring xt_was (it_saved) (it_length) (it_doorMany) (it_drawn) (it_walker) (it_from) (it_steps) (it_faultAt) (it_mover) (ft_now) (l4) (l6) r82 hq_82) (cwV 2 hts gX11_letterValue_X11_beside rfl rfl rfl hdX11_beside ⟨Nat.le_of_ble_eq_true rfl, Nat.le_of_ble_eq_true rfl⟩) ⟨kBlind, (va_recv hK hP (ci := 11) (q0 := 0) rfl rfl), fun U h1 h2 => ⟨rfl, hU U h1 h2⟩⟩ rfl rfl hl.1 rfl (lv_room (Nat.le_of_ble_eq_true rfl)) dX11_letterValue_82 ⟨Nat.zero_le _, Nat.zero_le _⟩) (r82) (fun _ _ h => h) (fun _ _ h => h) (fun H locs hP hD hS => ?_)
                have hP : va_P (dC, dI) vwCl [(qt, .inr (11, [.ref qt_now, .ref xt_past, .int (it_saved), .ref xt_text, .int (it_length), .ref xt_doors, .int (it_doorMany), .ref xt_label, .int (it_drawn), .ref xt_far, .ref xt_ring, .int (it_walker), .int (it_from), .ref xt_was, .int (it_steps), .int (it_faultAt), .int (it_mover)])), (qt_now, .inl (cy.1, 639, .inl (ft_now)))] H := hP
                have hD : va_D A [(qt, .inr (11, [.ref qt_now, .ref xt_past, .int (it_saved), .ref xt_text, .int (it_length), .ref xt_doors, .int (it_doorMany), .ref xt_label, .int (it_drawn), .ref xt_far, .ref xt_ring, .int (it_walker), .int (it_from), .ref xt_was, .int (it_steps), .int (it_faultAt), .int (it_mover)])), (qt_now, .inl (cy.1, 639, .inl (ft_now)))] := hD
                refine lv_istore (lv' := [(7, .int r82), (0, .ref qt), (1, .int va1), (2, .int va2), (3, .int l3), (4, .int l4), (5, .int l5), (6, .int l6)]) hx hb dX11_letterValue_85 hl (by decide) rfl (fun ls hl => ?_)
                refine lv_iload hx hb dX11_letterValue_87 (lv_at hl 0 rfl) ?_
                refine lv_if_ge (tgt := 97) hx hb dX11_letterValue_89 (by decide) (fun hc_89 => ?_) (fun hc_89 => ?_)
                · rw [if_pos hc_89] at hf
                  refine lv_aload_n hx hb dX11_letterValue_97 rfl (lv_at hl 1 rfl) ?_
                  refine lv_iload hx hb dX11_letterValue_98 (lv_at hl 0 rfl) ?_
                  obtain ⟨r100, hq_100, hf⟩ := bnd1_s hf
                  refine kcalli (wc := [(qt, .inr (11, [.ref qt_now, .ref xt_past, .int (it_saved), .ref xt_text, .int (it_length), .ref xt_doors, .int (it_doorMany), .ref xt_label, .int (it_drawn), .ref xt_far, .ref xt_ring, .int (it_walker), .int (it_from), .ref xt_was, .int (it_steps), .int (it_faultAt), .int (it_mover)])), (qt_now, .inl (cy.1, 639, .inl (ft_now)))]) (wr := []) (w1 := [(qt, .inr (11, [.ref qt_now, .ref xt_past, .int (it_saved), .ref xt_text, .int (it_length), .ref xt_doors, .int (it_doorMany), .ref xt_label, .int (it_drawn), .ref xt_far, .ref xt_ring, .int (it_walker), .int (it_from), .ref xt_was, .int (it_steps), .int (it_faultAt), .int (it_mover)])), (qt_now, .inl (cy.1, 639, .inl (ft_now)))]) hK hP hD hS hA hG [0, 1] [] rfl rfl rfl rfl rfl (fun hU hPc => va_runV (As := [.int r82]) (rest := []) ⟨hx, hb, hml, hown, hts⟩ (c_X11_letterAt l dC dI cy G H.size qt qt_now xt_past xt_text xt_doors xt_label xt_far xt_ring xt_was (it_saved) (it_length) (it_doorMany) (it_drawn) (it_walker) (it_from) (it_steps) (it_faultAt) (it_mover) (ft_now) (r82) r100 hq_100) (cwV 1 hts gX11_letterValue_X11_letterAt rfl rfl rfl hdX11_letterAt ⟨Nat.le_of_ble_eq_true rfl, Nat.le_of_ble_eq_true rfl⟩) ⟨kBlind, (va_recv hK hP (ci := 11) (q0 := 0) rfl rfl), fun U h1 h2 => ⟨rfl, hU U h1 h2⟩⟩ rfl rfl hl.1 rfl (lv_room (Nat.le_of_ble_eq_true rfl)) dX11_letterValue_100 ⟨Nat.zero_le _, Nat.zero_le _⟩) (r100) (fun _ _ h => h) (fun _ _ h => h) (fun H locs hP hD hS => ?_)
                  have hP : va_P (dC, dI) vwCl [(qt, .inr (11, [.ref qt_now, .ref xt_past, .int (it_saved), .ref xt_text, .int (it_length), .ref xt_doors, .int (it_doorMany), .ref xt_label, .int (it_drawn), .ref xt_far, .ref xt_ring, .int (it_walker), .int (it_from), .ref xt_was, .int (it_steps), .int (it_faultAt), .int (it_mover)])), (qt_now, .inl (cy.1, 639, .inl (ft_now)))] H := hP
                  have hD : va_D A [(qt, .inr (11, [.ref qt_now, .ref xt_past, .int (it_saved), .ref xt_text, .int (it_length), .ref xt_doors, .int (it_doorMany), .ref xt_label, .int (it_drawn), .ref xt_far, .ref xt_ring, .int (it_walker), .int (it_from), .ref xt_was, .int (it_steps), .int (it_faultAt), .int (it_mover)])), (qt_now, .inl (cy.1, 639, .inl (ft_now)))] := hD
                  exact B103 (l3) (l4) (l5) (l6) (r100) _ _ (hP.sub [0, 1] rfl) (hD.sub [0, 1] (by decide) rfl) hS _ (lv_sub hl [1, 2, 3, 4, 5, 6, 7] rfl) hf
                · rw [if_neg hc_89] at hf
                  refine lv_bipush (v := (-2 : Int32)) hx hb dX11_letterValue_92 (by decide) ?_
                  refine lv_goto (tgt := 103) hx hb dX11_letterValue_94 (by decide) ?_
                  exact B103 (l3) (l4) (l5) (l6) ((-2 : Int32)) _ _ (hP.sub [0, 1] rfl) (hD.sub [0, 1] (by decide) rfl) hS _ (lv_sub hl [1, 2, 3, 4, 5, 6, 7] rfl) hf
      have B38 : ∀ (l3 : Int32) (l4 : Int32) (s0 : Int32) (H : Heap) (locs : List Loc), va_P (dC, dI) vwCl [(qt, .inr (11, [.ref qt_now, .ref xt_past, .int (it_saved), .ref xt_text, .int (it_length), .ref xt_doors, .int (it_doorMany), .ref xt_label, .int (it_drawn), .ref xt_far, .ref xt_ring, .int (it_walker), .int (it_from), .ref xt_was, .int (it_steps), .int (it_faultAt), .int (it_mover)])), (qt_now, .inl (cy.1, 639, .inl (ft_now)))] H → va_D A [(qt, .inr (11, [.ref qt_now, .ref xt_past, .int (it_saved), .ref xt_text, .int (it_length), .ref xt_doors, .int (it_doorMany), .ref xt_label, .int (it_drawn), .ref xt_far, .ref xt_ring, .int (it_walker), .int (it_from), .ref xt_was, .int (it_steps), .int (it_faultAt), .int (it_mover)])), (qt_now, .inl (cy.1, 639, .inl (ft_now)))] → va_S A s.heap H locs → ∀ (ls : Array Slot), lv_has ls 10 [(0, .ref qt), (1, .int va1), (2, .int va2), (3, .int l3), (4, .int l4)] → b_X11_letterValue_38 N ft_now va1 va2 (b_X11_letterValue_5 N ft_now va1 va2 n5) l3 l4 s0 = some out → W p l e (headSpec wsX11_letterValue rm_X11_letterValue).room s m ([.ref qt, .int va1, .int va2] : List Value).toArray below meth c H locs 0 0 Q (F0 m 38 ls [.int s0]) := by
        intro l3 l4 s0 H locs hP hD hS ls hl hf
        rw [b_X11_letterValue_38] at hf
        refine lv_istore (lv' := [(5, .int s0), (0, .ref qt), (1, .int va1), (2, .int va2), (3, .int l3), (4, .int l4)]) hx hb dX11_letterValue_38 hl (by decide) rfl (fun ls hl => ?_)
        refine lv_iload_n hx hb dX11_letterValue_40 rfl (lv_at hl 4 rfl) ?_
        refine lv_iload hx hb dX11_letterValue_41 (lv_at hl 0 rfl) ?_
        refine lv_if_eq (tgt := 55) hx hb dX11_letterValue_43 (by decide) (fun hc_43 => ?_) (fun hc_43 => ?_)
        · rw [if_pos hc_43] at hf
          refine lv_iconst (v := (0 : Int32)) hx hb dX11_letterValue_55 (by decide) ?_
          refine lv_iadd hx hb dX11_letterValue_56 ?_
          refine lv_istore_n (lv' := [(3, .int (l3 + (0 : Int32))), (5, .int s0), (0, .ref qt), (1, .int va1), (2, .int va2), (4, .int l4)]) hx hb dX11_letterValue_57 rfl hl (by decide) rfl (fun ls hl => ?_)
          refine lv_iconst (v := (1 : Int32)) hx hb dX11_letterValue_58 (by decide) ?_
          refine lv_istore (lv' := [(6, .int (1 : Int32)), (3, .int (l3 + (0 : Int32))), (5, .int s0), (0, .ref qt), (1, .int va1), (2, .int va2), (4, .int l4)]) hx hb dX11_letterValue_59 hl (by decide) rfl (fun ls hl => ?_)
          exact B61 N ((l3 + (0 : Int32))) (l4) (s0) ((1 : Int32)) _ _ (hP.sub [0, 1] rfl) (hD.sub [0, 1] (by decide) rfl) hS _ (lv_sub hl [3, 4, 5, 1, 6, 2, 0] rfl) hf
        · rw [if_neg hc_43] at hf
          refine lv_iload_n hx hb dX11_letterValue_46 rfl (lv_at hl 3 rfl) ?_
          refine lv_iconst (v := (1 : Int32)) hx hb dX11_letterValue_47 (by decide) ?_
          refine lv_icmp_ne (tgt := 55) hx hb dX11_letterValue_48 (by decide) (fun hc_48 => ?_) (fun hc_48 => ?_)
          · rw [if_neg hc_48] at hf
            refine lv_iconst (v := (0 : Int32)) hx hb dX11_letterValue_55 (by decide) ?_
            refine lv_iadd hx hb dX11_letterValue_56 ?_
            refine lv_istore_n (lv' := [(3, .int (l3 + (0 : Int32))), (5, .int s0), (0, .ref qt), (1, .int va1), (2, .int va2), (4, .int l4)]) hx hb dX11_letterValue_57 rfl hl (by decide) rfl (fun ls hl => ?_)
            refine lv_iconst (v := (1 : Int32)) hx hb dX11_letterValue_58 (by decide) ?_
            refine lv_istore (lv' := [(6, .int (1 : Int32)), (3, .int (l3 + (0 : Int32))), (5, .int s0), (0, .ref qt), (1, .int va1), (2, .int va2), (4, .int l4)]) hx hb dX11_letterValue_59 hl (by decide) rfl (fun ls hl => ?_)
            exact B61 N ((l3 + (0 : Int32))) (l4) (s0) ((1 : Int32)) _ _ (hP.sub [0, 1] rfl) (hD.sub [0, 1] (by decide) rfl) hS _ (lv_sub hl [3, 4, 5, 1, 6, 2, 0] rfl) hf
          · rw [if_pos hc_48] at hf
            refine lv_iconst (v := (1 : Int32)) hx hb dX11_letterValue_51 (by decide) ?_
            refine lv_goto (tgt := 56) hx hb dX11_letterValue_52 (by decide) ?_
            refine lv_iadd hx hb dX11_letterValue_56 ?_
            refine lv_istore_n (lv' := [(3, .int (l3 + (1 : Int32))), (5, .int s0), (0, .ref qt), (1, .int va1), (2, .int va2), (4, .int l4)]) hx hb dX11_letterValue_57 rfl hl (by decide) rfl (fun ls hl => ?_)
            refine lv_iconst (v := (1 : Int32)) hx hb dX11_letterValue_58 (by decide) ?_
            refine lv_istore (lv' := [(6, .int (1 : Int32)), (3, .int (l3 + (1 : Int32))), (5, .int s0), (0, .ref qt), (1, .int va1), (2, .int va2), (4, .int l4)]) hx hb dX11_letterValue_59 hl (by decide) rfl (fun ls hl => ?_)
            exact B61 N ((l3 + (1 : Int32))) (l4) (s0) ((1 : Int32)) _ _ (hP.sub [0, 1] rfl) (hD.sub [0, 1] (by decide) rfl) hS _ (lv_sub hl [3, 4, 5, 1, 6, 2, 0] rfl) hf
      have B37 : ∀ (l3 : Int32) (l4 : Int32) (H : Heap) (locs : List Loc), va_P (dC, dI) vwCl [(qt, .inr (11, [.ref qt_now, .ref xt_past, .int (it_saved), .ref xt_text, .int (it_length), .ref xt_doors, .int (it_doorMany), .ref xt_label, .int (it_drawn), .ref xt_far, .ref xt_ring, .int (it_walker), .int (it_from), .ref xt_was, .int (it_steps), .int (it_faultAt), .int (it_mover)])), (qt_now, .inl (cy.1, 639, .inl (ft_now)))] H → va_D A [(qt, .inr (11, [.ref qt_now, .ref xt_past, .int (it_saved), .ref xt_text, .int (it_length), .ref xt_doors, .int (it_doorMany), .ref xt_label, .int (it_drawn), .ref xt_far, .ref xt_ring, .int (it_walker), .int (it_from), .ref xt_was, .int (it_steps), .int (it_faultAt), .int (it_mover)])), (qt_now, .inl (cy.1, 639, .inl (ft_now)))] → va_S A s.heap H locs → ∀ (ls : Array Slot), lv_has ls 10 [(0, .ref qt), (1, .int va1), (2, .int va2), (3, .int l3), (4, .int l4)] → b_X11_letterValue_37 N ft_now va1 va2 (b_X11_letterValue_5 N ft_now va1 va2 n5) l3 l4 = some out → W p l e (headSpec wsX11_letterValue rm_X11_letterValue).room s m ([.ref qt, .int va1, .int va2] : List Value).toArray below meth c H locs 0 0 Q (F0 m 37 ls []) := by
        intro l3 l4 H locs hP hD hS ls hl hf
        rw [b_X11_letterValue_37] at hf
        refine lv_iconst (v := (0 : Int32)) hx hb dX11_letterValue_37 (by decide) ?_
        exact B38 (l3) (l4) ((0 : Int32)) _ _ (hP.sub [0, 1] rfl) (hD.sub [0, 1] (by decide) rfl) hS _ (lv_sub hl [0, 1, 2, 3, 4] rfl) hf
      intro l3 l4 H locs hP hD hS ls hl hf
      rw [b_X11_letterValue_5] at hf
      refine lv_iload hx hb dX11_letterValue_5 (lv_at hl 4 rfl) ?_
      refine lv_aload_n hx hb dX11_letterValue_7 rfl (lv_at hl 0 rfl) ?_
      refine kcalli (wc := [(qt, .inr (11, [.ref qt_now, .ref xt_past, .int (it_saved), .ref xt_text, .int (it_length), .ref xt_doors, .int (it_doorMany), .ref xt_label, .int (it_drawn), .ref xt_far, .ref xt_ring, .int (it_walker), .int (it_from), .ref xt_was, .int (it_steps), .int (it_faultAt), .int (it_mover)])), (qt_now, .inl (cy.1, 639, .inl (ft_now)))]) (wr := []) (w1 := [(qt, .inr (11, [.ref qt_now, .ref xt_past, .int (it_saved), .ref xt_text, .int (it_length), .ref xt_doors, .int (it_doorMany), .ref xt_label, .int (it_drawn), .ref xt_far, .ref xt_ring, .int (it_walker), .int (it_from), .ref xt_was, .int (it_steps), .int (it_faultAt), .int (it_mover)])), (qt_now, .inl (cy.1, 639, .inl (ft_now)))]) hK hP hD hS hA hG [0, 1] [] rfl rfl rfl rfl rfl (fun hU hPc => va_runV (As := []) (rest := [.int l4]) ⟨hx, hb, hml, hown, hts⟩ (c_X11_cells l dC dI cy G H.size qt qt_now xt_past xt_text xt_doors xt_label xt_far xt_ring xt_was (it_saved) (it_length) (it_doorMany) (it_drawn) (it_walker) (it_from) (it_steps) (it_faultAt) (it_mover) (ft_now) (t_X11_cells (ft_now)) (tot_X11_cells (ft_now))) (cwV 0 hts gX11_letterValue_X11_cells rfl rfl rfl hdX11_cells ⟨Nat.le_of_ble_eq_true rfl, Nat.le_of_ble_eq_true rfl⟩) ⟨kBlind, (va_recv hK hP (ci := 11) (q0 := 0) rfl rfl), fun U h1 h2 => ⟨rfl, hU U h1 h2⟩⟩ rfl rfl hl.1 rfl (lv_room (Nat.le_of_ble_eq_true rfl)) dX11_letterValue_8 ⟨Nat.zero_le _, Nat.zero_le _⟩) ((t_X11_cells (ft_now))) (fun _ _ h => h) (fun _ _ h => h) (fun H locs hP hD hS => ?_)
      have hP : va_P (dC, dI) vwCl [(qt, .inr (11, [.ref qt_now, .ref xt_past, .int (it_saved), .ref xt_text, .int (it_length), .ref xt_doors, .int (it_doorMany), .ref xt_label, .int (it_drawn), .ref xt_far, .ref xt_ring, .int (it_walker), .int (it_from), .ref xt_was, .int (it_steps), .int (it_faultAt), .int (it_mover)])), (qt_now, .inl (cy.1, 639, .inl (ft_now)))] H := hP
      have hD : va_D A [(qt, .inr (11, [.ref qt_now, .ref xt_past, .int (it_saved), .ref xt_text, .int (it_length), .ref xt_doors, .int (it_doorMany), .ref xt_label, .int (it_drawn), .ref xt_far, .ref xt_ring, .int (it_walker), .int (it_from), .ref xt_was, .int (it_steps), .int (it_faultAt), .int (it_mover)])), (qt_now, .inl (cy.1, 639, .inl (ft_now)))] := hD
      refine lv_icmp_ge (tgt := 178) hx hb dX11_letterValue_11 (by decide) (fun hc_11 => ?_) (fun hc_11 => ?_)
      · rw [if_pos hc_11] at hf
        refine lv_iload_n hx hb dX11_letterValue_178 rfl (lv_at hl 3 rfl) ?_
        cases hf
        subst hQ
        exact kiret hx hb hr hlocks hK (hP.sub [0, 1] rfl) (hD.sub [0, 1] (by decide) rfl) hS rfl dX11_letterValue_179
      · rw [if_neg hc_11] at hf
        refine lv_aload_n hx hb dX11_letterValue_14 rfl (lv_at hl 0 rfl) ?_
        refine lv_iload hx hb dX11_letterValue_15 (lv_at hl 4 rfl) ?_
        obtain ⟨r17, hq_17, hf⟩ := bnd1_s hf
        refine kcalli (wc := [(qt, .inr (11, [.ref qt_now, .ref xt_past, .int (it_saved), .ref xt_text, .int (it_length), .ref xt_doors, .int (it_doorMany), .ref xt_label, .int (it_drawn), .ref xt_far, .ref xt_ring, .int (it_walker), .int (it_from), .ref xt_was, .int (it_steps), .int (it_faultAt), .int (it_mover)])), (qt_now, .inl (cy.1, 639, .inl (ft_now)))]) (wr := []) (w1 := [(qt, .inr (11, [.ref qt_now, .ref xt_past, .int (it_saved), .ref xt_text, .int (it_length), .ref xt_doors, .int (it_doorMany), .ref xt_label, .int (it_drawn), .ref xt_far, .ref xt_ring, .int (it_walker), .int (it_from), .ref xt_was, .int (it_steps), .int (it_faultAt), .int (it_mover)])), (qt_now, .inl (cy.1, 639, .inl (ft_now)))]) hK hP hD hS hA hG [0, 1] [] rfl rfl rfl rfl rfl (fun hU hPc => va_runV (As := [.int l4]) (rest := []) ⟨hx, hb, hml, hown, hts⟩ (c_X11_isRoomAt l dC dI cy G H.size qt qt_now xt_past xt_text xt_doors xt_label xt_far xt_ring xt_was (it_saved) (it_length) (it_doorMany) (it_drawn) (it_walker) (it_from) (it_steps) (it_faultAt) (it_mover) (ft_now) (l4) r17 hq_17) (cwV 1 hts gX11_letterValue_X11_isRoomAt rfl rfl rfl hdX11_isRoomAt ⟨Nat.le_of_ble_eq_true rfl, Nat.le_of_ble_eq_true rfl⟩) ⟨kBlind, (va_recv hK hP (ci := 11) (q0 := 0) rfl rfl), fun U h1 h2 => ⟨rfl, hU U h1 h2⟩⟩ rfl rfl hl.1 rfl (lv_room (Nat.le_of_ble_eq_true rfl)) dX11_letterValue_17 ⟨Nat.zero_le _, Nat.zero_le _⟩) (r17) (fun _ _ h => h) (fun _ _ h => h) (fun H locs hP hD hS => ?_)
        have hP : va_P (dC, dI) vwCl [(qt, .inr (11, [.ref qt_now, .ref xt_past, .int (it_saved), .ref xt_text, .int (it_length), .ref xt_doors, .int (it_doorMany), .ref xt_label, .int (it_drawn), .ref xt_far, .ref xt_ring, .int (it_walker), .int (it_from), .ref xt_was, .int (it_steps), .int (it_faultAt), .int (it_mover)])), (qt_now, .inl (cy.1, 639, .inl (ft_now)))] H := hP
        have hD : va_D A [(qt, .inr (11, [.ref qt_now, .ref xt_past, .int (it_saved), .ref xt_text, .int (it_length), .ref xt_doors, .int (it_doorMany), .ref xt_label, .int (it_drawn), .ref xt_far, .ref xt_ring, .int (it_walker), .int (it_from), .ref xt_was, .int (it_steps), .int (it_faultAt), .int (it_mover)])), (qt_now, .inl (cy.1, 639, .inl (ft_now)))] := hD
        refine lv_if_eq (tgt := 37) hx hb dX11_letterValue_20 (by decide) (fun hc_20 => ?_) (fun hc_20 => ?_)
        · rw [if_pos hc_20] at hf
          exact B37 (l3) (l4) _ _ (hP.sub [0, 1] rfl) (hD.sub [0, 1] (by decide) rfl) hS _ (lv_sub hl [0, 1, 2, 3, 4] rfl) hf
        · rw [if_neg hc_20] at hf
          refine lv_aload_n hx hb dX11_letterValue_23 rfl (lv_at hl 0 rfl) ?_
          refine lv_iload hx hb dX11_letterValue_24 (lv_at hl 4 rfl) ?_
          obtain ⟨r26, hq_26, hf⟩ := bnd1_s hf
          refine kcalli (wc := [(qt, .inr (11, [.ref qt_now, .ref xt_past, .int (it_saved), .ref xt_text, .int (it_length), .ref xt_doors, .int (it_doorMany), .ref xt_label, .int (it_drawn), .ref xt_far, .ref xt_ring, .int (it_walker), .int (it_from), .ref xt_was, .int (it_steps), .int (it_faultAt), .int (it_mover)])), (qt_now, .inl (cy.1, 639, .inl (ft_now)))]) (wr := []) (w1 := [(qt, .inr (11, [.ref qt_now, .ref xt_past, .int (it_saved), .ref xt_text, .int (it_length), .ref xt_doors, .int (it_doorMany), .ref xt_label, .int (it_drawn), .ref xt_far, .ref xt_ring, .int (it_walker), .int (it_from), .ref xt_was, .int (it_steps), .int (it_faultAt), .int (it_mover)])), (qt_now, .inl (cy.1, 639, .inl (ft_now)))]) hK hP hD hS hA hG [0, 1] [] rfl rfl rfl rfl rfl (fun hU hPc => va_runV (As := [.int l4]) (rest := []) ⟨hx, hb, hml, hown, hts⟩ (c_X11_letterAt l dC dI cy G H.size qt qt_now xt_past xt_text xt_doors xt_label xt_far xt_ring xt_was (it_saved) (it_length) (it_doorMany) (it_drawn) (it_walker) (it_from) (it_steps) (it_faultAt) (it_mover) (ft_now) (l4) r26 hq_26) (cwV 1 hts gX11_letterValue_X11_letterAt rfl rfl rfl hdX11_letterAt ⟨Nat.le_of_ble_eq_true rfl, Nat.le_of_ble_eq_true rfl⟩) ⟨kBlind, (va_recv hK hP (ci := 11) (q0 := 0) rfl rfl), fun U h1 h2 => ⟨rfl, hU U h1 h2⟩⟩ rfl rfl hl.1 rfl (lv_room (Nat.le_of_ble_eq_true rfl)) dX11_letterValue_26 ⟨Nat.zero_le _, Nat.zero_le _⟩) (r26) (fun _ _ h => h) (fun _ _ h => h) (fun H locs hP hD hS => ?_)
          have hP : va_P (dC, dI) vwCl [(qt, .inr (11, [.ref qt_now, .ref xt_past, .int (it_saved), .ref xt_text, .int (it_length), .ref xt_doors, .int (it_doorMany), .ref xt_label, .int (it_drawn), .ref xt_far, .ref xt_ring, .int (it_walker), .int (it_from), .ref xt_was, .int (it_steps), .int (it_faultAt), .int (it_mover)])), (qt_now, .inl (cy.1, 639, .inl (ft_now)))] H := hP
          have hD : va_D A [(qt, .inr (11, [.ref qt_now, .ref xt_past, .int (it_saved), .ref xt_text, .int (it_length), .ref xt_doors, .int (it_doorMany), .ref xt_label, .int (it_drawn), .ref xt_far, .ref xt_ring, .int (it_walker), .int (it_from), .ref xt_was, .int (it_steps), .int (it_faultAt), .int (it_mover)])), (qt_now, .inl (cy.1, 639, .inl (ft_now)))] := hD
          refine lv_iload_n hx hb dX11_letterValue_29 rfl (lv_at hl 1 rfl) ?_
          refine lv_icmp_ne (tgt := 37) hx hb dX11_letterValue_30 (by decide) (fun hc_30 => ?_) (fun hc_30 => ?_)
          · rw [if_neg hc_30] at hf
            exact B37 (l3) (l4) _ _ (hP.sub [0, 1] rfl) (hD.sub [0, 1] (by decide) rfl) hS _ (lv_sub hl [0, 1, 2, 3, 4] rfl) hf
          · rw [if_pos hc_30] at hf
            refine lv_iconst (v := (1 : Int32)) hx hb dX11_letterValue_33 (by decide) ?_
            refine lv_goto (tgt := 38) hx hb dX11_letterValue_34 (by decide) ?_
            exact B38 (l3) (l4) ((1 : Int32)) _ _ (hP.sub [0, 1] rfl) (hD.sub [0, 1] (by decide) rfl) hS _ (lv_sub hl [0, 1, 2, 3, 4] rfl) hf
  rw [f_X11_letterValue] at hf
  refine lv_iconst (v := (0 : Int32)) hx hb dX11_letterValue_0 (by decide) ?_
  refine lv_istore_n (lv' := [(3, .int (0 : Int32)), (0, .ref qt), (1, .int va1), (2, .int va2)]) hx hb dX11_letterValue_1 rfl hl (by decide) rfl (fun ls hl => ?_)
  refine lv_iconst (v := (0 : Int32)) hx hb dX11_letterValue_2 (by decide) ?_
  refine lv_istore (lv' := [(4, .int (0 : Int32)), (3, .int (0 : Int32)), (0, .ref qt), (1, .int va1), (2, .int va2)]) hx hb dX11_letterValue_3 hl (by decide) rfl (fun ls hl => ?_)
  exact B5 N ((0 : Int32)) ((0 : Int32)) _ _ (hP.sub [0, 1] rfl) (hD.sub [0, 1] (by decide) rfl) hS _ (lv_sub hl [2, 3, 4, 1, 0] rfl) hf
theorem hdX11_letterValue : yX11_letterValue.cls = RX11 ∧ yX11_letterValue.cls ≠ "java/lang/invoke/MethodHandle" ∧ yX11_letterValue.cls ≠ "java/lang/invoke/VarHandle" ∧ (parseMethodDescriptor yX11_letterValue.desc).map (fun d => d.parameters.length) = some 2 := by decide +kernel
noncomputable def f_X11_letter (N : Nat) (ft_now : Nat → Int32) (va1 : Int32) (va2 : Int32) : Option (Int32) :=
  if va1 < 0 then
    some ((-1 : Int32))
  else
    if (t_X11_in (va2) ((0 : Int32)) ((4 : Int32))) = 0 then
      some ((-1 : Int32))
    else
      if va1 < (ft_now ((0 : Int32)).toNatClampNeg) then
        if va2 = 0 then
          if ((1 : Int32) + va1) < 0 ∨ 639 ≤ (((1 : Int32) + va1)).toNatClampNeg then none else
          some ((ft_now (((1 : Int32) + va1)).toNatClampNeg))
        else
          bnd1 (f_X11_letterValue N (ft_now) (va1) (va2)) fun r48 =>
          some (r48)
      else
        some ((-4 : Int32))
abbrev rm_X11_letter : Room := { frames := 7, cells := 0, slots := 0, locals := 164 }
set_option maxHeartbeats 4000000 in
set_option maxRecDepth 100000 in
theorem c_X11_letter (l : Launch) (dC : Nat → ClassId) (dI : Nat → Nat → Nat) (cy : gC) (G : gT) (sz : Nat) (qt : Nat) (qt_now : Nat) (xt_past : Nat) (xt_text : Nat) (xt_doors : Nat) (xt_label : Nat) (xt_far : Nat) (xt_ring : Nat) (xt_was : Nat) (it_saved : Int32) (it_length : Int32) (it_doorMany : Int32) (it_drawn : Int32) (it_walker : Int32) (it_from : Int32) (it_steps : Int32) (it_faultAt : Int32) (it_mover : Int32) (N : Nat) (ft_now : Nat → Int32) (va1 : Int32) (va2 : Int32) (out : Int32) (hf : f_X11_letter N ft_now va1 va2 = some out) : Met l yX11_letter wsX11_letter rm_X11_letter (va_Pc [.ref qt, .int va1, .int va2] (kP (dC, dI) cy G [(qt, .inr (11, [.ref qt_now, .ref xt_past, .int (it_saved), .ref xt_text, .int (it_length), .ref xt_doors, .int (it_doorMany), .ref xt_label, .int (it_drawn), .ref xt_far, .ref xt_ring, .int (it_walker), .int (it_from), .ref xt_was, .int (it_steps), .int (it_faultAt), .int (it_mover)])), (qt_now, .inl (cy.1, 639, .inl (ft_now)))] sz)) (va_Qi (fun r (_ : Unit) => r = out) (fun _ => kQ (dC, dI) cy [(qt, .inr (11, [.ref qt_now, .ref xt_past, .int (it_saved), .ref xt_text, .int (it_length), .ref xt_doors, .int (it_doorMany), .ref xt_label, .int (it_drawn), .ref xt_far, .ref xt_ring, .int (it_walker), .int (it_from), .ref xt_was, .int (it_steps), .int (it_faultAt), .int (it_mover)])), (qt_now, .inl (cy.1, 639, .inl (ft_now)))] (va_A [(qt, .inr (11, [.ref qt_now, .ref xt_past, .int (it_saved), .ref xt_text, .int (it_length), .ref xt_doors, .int (it_doorMany), .ref xt_label, .int (it_drawn), .ref xt_far, .ref xt_ring, .int (it_walker), .int (it_from), .ref xt_was, .int (it_steps), .int (it_faultAt), .int (it_mover)])), (qt_now, .inl (cy.1, 639, .inl (ft_now)))] sz)) (va_A [(qt, .inr (11, [.ref qt_now, .ref xt_past, .int (it_saved), .ref xt_text, .int (it_length), .ref xt_doors, .int (it_doorMany), .ref xt_label, .int (it_drawn), .ref xt_far, .ref xt_ring, .int (it_walker), .int (it_from), .ref xt_was, .int (it_steps), .int (it_faultAt), .int (it_mover)])), (qt_now, .inl (cy.1, 639, .inl (ft_now)))] sz)) 0 0 (va_A [(qt, .inr (11, [.ref qt_now, .ref xt_past, .int (it_saved), .ref xt_text, .int (it_length), .ref xt_doors, .int (it_doorMany), .ref xt_label, .int (it_drawn), .ref xt_far, .ref xt_ring, .int (it_walker), .int (it_from), .ref xt_was, .int (it_steps), .int (it_faultAt), .int (it_mover)])), (qt_now, .inl (cy.1, 639, .inl (ft_now)))] sz) := by
  refine Met.ofW (cc := cX11_letter) (maxL := 3) (ret := (some .int)) (by decide) rfl ?_
  intro p e s m args below meth c s₁ B hml hv
  obtain ⟨rfl, hsz, hP, hK, hD0, hG⟩ := hv
  have hx := B.exec
  have hb := B.bytes
  have hr := B.returns
  have hts := atoms_spec (ws := wsX11_letter) B.pre
  have hown : s.vm.findClass RX11 = some m.cls := findClass_of_methodNamed B.named
  have hlocks := B.notSynchronized
  subst hsz
  have hD := hD0.self (sz := s.heap.size)
  generalize hAe : va_A [(qt, .inr (11, [.ref qt_now, .ref xt_past, .int (it_saved), .ref xt_text, .int (it_length), .ref xt_doors, .int (it_doorMany), .ref xt_label, .int (it_drawn), .ref xt_far, .ref xt_ring, .int (it_walker), .int (it_from), .ref xt_was, .int (it_steps), .int (it_faultAt), .int (it_mover)])), (qt_now, .inl (cy.1, 639, .inl (ft_now)))] s.heap.size = A at hD hG ⊢
  have hA : ∀ q : Nat, s.heap.size ≤ q → A q := fun q h => by rw [← hAe]; exact Or.inr h
  have hS : va_S A s.heap s.heap [] := va_S.rf
  have hP : va_P (dC, dI) vwCl [(qt, .inr (11, [.ref qt_now, .ref xt_past, .int (it_saved), .ref xt_text, .int (it_length), .ref xt_doors, .int (it_doorMany), .ref xt_label, .int (it_drawn), .ref xt_far, .ref xt_ring, .int (it_walker), .int (it_from), .ref xt_was, .int (it_steps), .int (it_faultAt), .int (it_mover)])), (qt_now, .inl (cy.1, 639, .inl (ft_now)))] s.heap := hP
  have hl := lv_entry ([.ref qt, .int va1, .int va2]) (n := 3) (Nat.le_of_ble_eq_true rfl)
  rw [lg_entry_eq]
  generalize (lg_sl ([.ref qt, .int va1, .int va2]) ++ List.replicate (3 - (lg_sl ([.ref qt, .int va1, .int va2])).length) Slot.unset).toArray = ls at hl ⊢
  have hl : lv_has ls 3 [(0, .ref qt), (1, .int va1), (2, .int va2)] := hl
  refine kgen (fun Q hQ => ?_)
  rw [f_X11_letter] at hf
  refine lv_iload_n hx hb dX11_letter_0 rfl (lv_at hl 1 rfl) ?_
  refine lv_if_lt (tgt := 13) hx hb dX11_letter_1 (by decide) (fun hc_1 => ?_) (fun hc_1 => ?_)
  · rw [if_pos hc_1] at hf
    refine lv_iconst (v := (-1 : Int32)) hx hb dX11_letter_13 (by decide) ?_
    cases hf
    subst hQ
    exact kiret hx hb hr hlocks hK (hP.sub [0, 1] rfl) (hD.sub [0, 1] (by decide) rfl) hS rfl dX11_letter_14
  · rw [if_neg hc_1] at hf
    refine lv_iload_n hx hb dX11_letter_4 rfl (lv_at hl 2 rfl) ?_
    refine lv_iconst (v := (0 : Int32)) hx hb dX11_letter_5 (by decide) ?_
    refine lv_iconst (v := (4 : Int32)) hx hb dX11_letter_6 (by decide) ?_
    refine kcalli (wc := []) (wr := [(qt, .inr (11, [.ref qt_now, .ref xt_past, .int (it_saved), .ref xt_text, .int (it_length), .ref xt_doors, .int (it_doorMany), .ref xt_label, .int (it_drawn), .ref xt_far, .ref xt_ring, .int (it_walker), .int (it_from), .ref xt_was, .int (it_steps), .int (it_faultAt), .int (it_mover)])), (qt_now, .inl (cy.1, 639, .inl (ft_now)))]) (w1 := []) hK hP hD hS hA hG [] [0, 1] rfl rfl rfl rfl rfl (fun hU hPc => va_runS (As := [.int va2, .int (0 : Int32), .int (4 : Int32)]) (rest := []) ⟨hx, hb, hml, hown, hts⟩ (c_X11_in l dC dI cy G s.heap.size (va2) ((0 : Int32)) ((4 : Int32)) (t_X11_in (va2) ((0 : Int32)) ((4 : Int32))) (tot_X11_in (va2) ((0 : Int32)) ((4 : Int32)))) (va_cwS 3 hts gX11_letter_X11_in rfl rfl rfl hdX11_in.2 ⟨Nat.le_of_ble_eq_true rfl, Nat.le_of_ble_eq_true rfl⟩) ⟨kBlind, fun U h1 h2 => ⟨rfl, hU U h1 h2⟩⟩ rfl rfl hl.1 rfl (lv_room (Nat.le_of_ble_eq_true rfl)) dX11_letter_7 ⟨Nat.zero_le _, Nat.zero_le _⟩) ((t_X11_in (va2) ((0 : Int32)) ((4 : Int32)))) (fun _ _ h => h) (fun _ _ h => h) (fun H locs hP hD hS => ?_)
    have hP : va_P (dC, dI) vwCl [(qt, .inr (11, [.ref qt_now, .ref xt_past, .int (it_saved), .ref xt_text, .int (it_length), .ref xt_doors, .int (it_doorMany), .ref xt_label, .int (it_drawn), .ref xt_far, .ref xt_ring, .int (it_walker), .int (it_from), .ref xt_was, .int (it_steps), .int (it_faultAt), .int (it_mover)])), (qt_now, .inl (cy.1, 639, .inl (ft_now)))] H := hP
    have hD : va_D A [(qt, .inr (11, [.ref qt_now, .ref xt_past, .int (it_saved), .ref xt_text, .int (it_length), .ref xt_doors, .int (it_doorMany), .ref xt_label, .int (it_drawn), .ref xt_far, .ref xt_ring, .int (it_walker), .int (it_from), .ref xt_was, .int (it_steps), .int (it_faultAt), .int (it_mover)])), (qt_now, .inl (cy.1, 639, .inl (ft_now)))] := hD
    refine lv_if_ne (tgt := 15) hx hb dX11_letter_10 (by decide) (fun hc_10 => ?_) (fun hc_10 => ?_)
    · rw [if_neg hc_10] at hf
      refine lv_iload_n hx hb dX11_letter_15 rfl (lv_at hl 1 rfl) ?_
      refine lv_aload_n hx hb dX11_letter_16 rfl (lv_at hl 0 rfl) ?_
      refine va_get (D := (dC, dI)) (ci := 11) (C := RX11) (T := TX11) (N := 17) hx hb hts (fun _ h => (List.mem_cons_of_mem _ (List.mem_append_right _ h))) hown hK hP 0 rfl rfl 0 (by decide) (hts _ (List.mem_cons_of_mem _ (List.mem_append_left _ (List.mem_append_left _ (List.mem_of_getElem? (i := 0) rfl))))) (fun _ h => h) rfl dX11_letter_17 ?_
      refine lv_iconst (v := (0 : Int32)) hx hb dX11_letter_20 (by decide) ?_
      refine va_iald hx hb hK hP 1 0 rfl rfl (by unfold vp_in; decide) dX11_letter_21 ?_
      refine lv_icmp_lt (tgt := 30) hx hb dX11_letter_22 (by decide) (fun hc_22 => ?_) (fun hc_22 => ?_)
      · rw [if_pos hc_22] at hf
        refine lv_iload_n hx hb dX11_letter_30 rfl (lv_at hl 2 rfl) ?_
        refine lv_if_ne (tgt := 45) hx hb dX11_letter_31 (by decide) (fun hc_31 => ?_) (fun hc_31 => ?_)
        · rw [if_neg hc_31] at hf
          refine lv_aload_n hx hb dX11_letter_45 rfl (lv_at hl 0 rfl) ?_
          refine lv_iload_n hx hb dX11_letter_46 rfl (lv_at hl 1 rfl) ?_
          refine lv_iload_n hx hb dX11_letter_47 rfl (lv_at hl 2 rfl) ?_
          obtain ⟨r48, hq_48, hf⟩ := bnd1_s hf
          refine kcalli (wc := [(qt, .inr (11, [.ref qt_now, .ref xt_past, .int (it_saved), .ref xt_text, .int (it_length), .ref xt_doors, .int (it_doorMany), .ref xt_label, .int (it_drawn), .ref xt_far, .ref xt_ring, .int (it_walker), .int (it_from), .ref xt_was, .int (it_steps), .int (it_faultAt), .int (it_mover)])), (qt_now, .inl (cy.1, 639, .inl (ft_now)))]) (wr := []) (w1 := [(qt, .inr (11, [.ref qt_now, .ref xt_past, .int (it_saved), .ref xt_text, .int (it_length), .ref xt_doors, .int (it_doorMany), .ref xt_label, .int (it_drawn), .ref xt_far, .ref xt_ring, .int (it_walker), .int (it_from), .ref xt_was, .int (it_steps), .int (it_faultAt), .int (it_mover)])), (qt_now, .inl (cy.1, 639, .inl (ft_now)))]) hK hP hD hS hA hG [0, 1] [] rfl rfl rfl rfl rfl (fun hU hPc => va_runV (As := [.int va1, .int va2]) (rest := []) ⟨hx, hb, hml, hown, hts⟩ (c_X11_letterValue l dC dI cy G H.size qt qt_now xt_past xt_text xt_doors xt_label xt_far xt_ring xt_was (it_saved) (it_length) (it_doorMany) (it_drawn) (it_walker) (it_from) (it_steps) (it_faultAt) (it_mover) N (ft_now) (va1) (va2) r48 hq_48) (cwV 2 hts gX11_letter_X11_letterValue rfl rfl rfl hdX11_letterValue ⟨Nat.le_of_ble_eq_true rfl, Nat.le_of_ble_eq_true rfl⟩) ⟨kBlind, (va_recv hK hP (ci := 11) (q0 := 0) rfl rfl), fun U h1 h2 => ⟨rfl, hU U h1 h2⟩⟩ rfl rfl hl.1 rfl (lv_room (Nat.le_of_ble_eq_true rfl)) dX11_letter_48 ⟨Nat.zero_le _, Nat.zero_le _⟩) (r48) (fun _ _ h => h) (fun _ _ h => h) (fun H locs hP hD hS => ?_)
          have hP : va_P (dC, dI) vwCl [(qt, .inr (11, [.ref qt_now, .ref xt_past, .int (it_saved), .ref xt_text, .int (it_length), .ref xt_doors, .int (it_doorMany), .ref xt_label, .int (it_drawn), .ref xt_far, .ref xt_ring, .int (it_walker), .int (it_from), .ref xt_was, .int (it_steps), .int (it_faultAt), .int (it_mover)])), (qt_now, .inl (cy.1, 639, .inl (ft_now)))] H := hP
          have hD : va_D A [(qt, .inr (11, [.ref qt_now, .ref xt_past, .int (it_saved), .ref xt_text, .int (it_length), .ref xt_doors, .int (it_doorMany), .ref xt_label, .int (it_drawn), .ref xt_far, .ref xt_ring, .int (it_walker), .int (it_from), .ref xt_was, .int (it_steps), .int (it_faultAt), .int (it_mover)])), (qt_now, .inl (cy.1, 639, .inl (ft_now)))] := hD
          cases hf
          subst hQ
          exact kiret hx hb hr hlocks hK (hP.sub [0, 1] rfl) (hD.sub [0, 1] (by decide) rfl) hS rfl dX11_letter_51
        · rw [if_pos hc_31] at hf
          refine lv_aload_n hx hb dX11_letter_34 rfl (lv_at hl 0 rfl) ?_
          refine va_get (D := (dC, dI)) (ci := 11) (C := RX11) (T := TX11) (N := 17) hx hb hts (fun _ h => (List.mem_cons_of_mem _ (List.mem_append_right _ h))) hown hK hP 0 rfl rfl 0 (by decide) (hts _ (List.mem_cons_of_mem _ (List.mem_append_left _ (List.mem_append_left _ (List.mem_of_getElem? (i := 0) rfl))))) (fun _ h => h) rfl dX11_letter_35 ?_
          refine lv_iconst (v := (1 : Int32)) hx hb dX11_letter_38 (by decide) ?_
          refine lv_iload_n hx hb dX11_letter_39 rfl (lv_at hl 1 rfl) ?_
          refine lv_iadd hx hb dX11_letter_40 ?_
          obtain ⟨hk_41, hf⟩ := chk_s hf
          refine va_iald hx hb hK hP 1 0 rfl rfl hk_41 dX11_letter_41 ?_
          refine lv_goto (tgt := 51) hx hb dX11_letter_42 (by decide) ?_
          cases hf
          subst hQ
          exact kiret hx hb hr hlocks hK (hP.sub [0, 1] rfl) (hD.sub [0, 1] (by decide) rfl) hS rfl dX11_letter_51
      · rw [if_neg hc_22] at hf
        refine lv_bipush (v := (-4 : Int32)) hx hb dX11_letter_25 (by decide) ?_
        refine lv_goto (tgt := 51) hx hb dX11_letter_27 (by decide) ?_
        cases hf
        subst hQ
        exact kiret hx hb hr hlocks hK (hP.sub [0, 1] rfl) (hD.sub [0, 1] (by decide) rfl) hS rfl dX11_letter_51
    · rw [if_pos hc_10] at hf
      refine lv_iconst (v := (-1 : Int32)) hx hb dX11_letter_13 (by decide) ?_
      cases hf
      subst hQ
      exact kiret hx hb hr hlocks hK (hP.sub [0, 1] rfl) (hD.sub [0, 1] (by decide) rfl) hS rfl dX11_letter_14
theorem hdX11_letter : yX11_letter.cls = RX11 ∧ yX11_letter.cls ≠ "java/lang/invoke/MethodHandle" ∧ yX11_letter.cls ≠ "java/lang/invoke/VarHandle" ∧ (parseMethodDescriptor yX11_letter.desc).map (fun d => d.parameters.length) = some 2 := by decide +kernel
noncomputable def f_X11_isRoom (ft_now : Nat → Int32) (va1 : Int32) : Option (Int32) :=
  if (t_X11_in (va1) ((0 : Int32)) (((t_X11_cells (ft_now)) - (1 : Int32)))) = 0 then
    some ((-1 : Int32))
  else
    bnd1 (f_X11_isRoomAt (ft_now) (va1)) fun r20 =>
    if r20 = 0 then
      some ((0 : Int32))
    else
      some ((1 : Int32))
abbrev rm_X11_isRoom : Room := { frames := 3, cells := 0, slots := 0, locals := 67 }
set_option maxHeartbeats 4000000 in
set_option maxRecDepth 100000 in
theorem c_X11_isRoom (l : Launch) (dC : Nat → ClassId) (dI : Nat → Nat → Nat) (cy : gC) (G : gT) (sz : Nat) (qt : Nat) (qt_now : Nat) (xt_past : Nat) (xt_text : Nat) (xt_doors : Nat) (xt_label : Nat) (xt_far : Nat) (xt_ring : Nat) (xt_was : Nat) (it_saved : Int32) (it_length : Int32) (it_doorMany : Int32) (it_drawn : Int32) (it_walker : Int32) (it_from : Int32) (it_steps : Int32) (it_faultAt : Int32) (it_mover : Int32) (ft_now : Nat → Int32) (va1 : Int32) (out : Int32) (hf : f_X11_isRoom ft_now va1 = some out) : Met l yX11_isRoom wsX11_isRoom rm_X11_isRoom (va_Pc [.ref qt, .int va1] (kP (dC, dI) cy G [(qt, .inr (11, [.ref qt_now, .ref xt_past, .int (it_saved), .ref xt_text, .int (it_length), .ref xt_doors, .int (it_doorMany), .ref xt_label, .int (it_drawn), .ref xt_far, .ref xt_ring, .int (it_walker), .int (it_from), .ref xt_was, .int (it_steps), .int (it_faultAt), .int (it_mover)])), (qt_now, .inl (cy.1, 639, .inl (ft_now)))] sz)) (va_Qi (fun r (_ : Unit) => r = out) (fun _ => kQ (dC, dI) cy [(qt, .inr (11, [.ref qt_now, .ref xt_past, .int (it_saved), .ref xt_text, .int (it_length), .ref xt_doors, .int (it_doorMany), .ref xt_label, .int (it_drawn), .ref xt_far, .ref xt_ring, .int (it_walker), .int (it_from), .ref xt_was, .int (it_steps), .int (it_faultAt), .int (it_mover)])), (qt_now, .inl (cy.1, 639, .inl (ft_now)))] (va_A [(qt, .inr (11, [.ref qt_now, .ref xt_past, .int (it_saved), .ref xt_text, .int (it_length), .ref xt_doors, .int (it_doorMany), .ref xt_label, .int (it_drawn), .ref xt_far, .ref xt_ring, .int (it_walker), .int (it_from), .ref xt_was, .int (it_steps), .int (it_faultAt), .int (it_mover)])), (qt_now, .inl (cy.1, 639, .inl (ft_now)))] sz)) (va_A [(qt, .inr (11, [.ref qt_now, .ref xt_past, .int (it_saved), .ref xt_text, .int (it_length), .ref xt_doors, .int (it_doorMany), .ref xt_label, .int (it_drawn), .ref xt_far, .ref xt_ring, .int (it_walker), .int (it_from), .ref xt_was, .int (it_steps), .int (it_faultAt), .int (it_mover)])), (qt_now, .inl (cy.1, 639, .inl (ft_now)))] sz)) 0 0 (va_A [(qt, .inr (11, [.ref qt_now, .ref xt_past, .int (it_saved), .ref xt_text, .int (it_length), .ref xt_doors, .int (it_doorMany), .ref xt_label, .int (it_drawn), .ref xt_far, .ref xt_ring, .int (it_walker), .int (it_from), .ref xt_was, .int (it_steps), .int (it_faultAt), .int (it_mover)])), (qt_now, .inl (cy.1, 639, .inl (ft_now)))] sz) := by
  refine Met.ofW (cc := cX11_isRoom) (maxL := 2) (ret := (some .int)) (by decide) rfl ?_
  intro p e s m args below meth c s₁ B hml hv
  obtain ⟨rfl, hsz, hP, hK, hD0, hG⟩ := hv
  have hx := B.exec
  have hb := B.bytes
  have hr := B.returns
  have hts := atoms_spec (ws := wsX11_isRoom) B.pre
  have hown : s.vm.findClass RX11 = some m.cls := findClass_of_methodNamed B.named
  have hlocks := B.notSynchronized
  subst hsz
  have hD := hD0.self (sz := s.heap.size)
  generalize hAe : va_A [(qt, .inr (11, [.ref qt_now, .ref xt_past, .int (it_saved), .ref xt_text, .int (it_length), .ref xt_doors, .int (it_doorMany), .ref xt_label, .int (it_drawn), .ref xt_far, .ref xt_ring, .int (it_walker), .int (it_from), .ref xt_was, .int (it_steps), .int (it_faultAt), .int (it_mover)])), (qt_now, .inl (cy.1, 639, .inl (ft_now)))] s.heap.size = A at hD hG ⊢
  have hA : ∀ q : Nat, s.heap.size ≤ q → A q := fun q h => by rw [← hAe]; exact Or.inr h
  have hS : va_S A s.heap s.heap [] := va_S.rf
  have hP : va_P (dC, dI) vwCl [(qt, .inr (11, [.ref qt_now, .ref xt_past, .int (it_saved), .ref xt_text, .int (it_length), .ref xt_doors, .int (it_doorMany), .ref xt_label, .int (it_drawn), .ref xt_far, .ref xt_ring, .int (it_walker), .int (it_from), .ref xt_was, .int (it_steps), .int (it_faultAt), .int (it_mover)])), (qt_now, .inl (cy.1, 639, .inl (ft_now)))] s.heap := hP
  have hl := lv_entry ([.ref qt, .int va1]) (n := 2) (Nat.le_of_ble_eq_true rfl)
  rw [lg_entry_eq]
  generalize (lg_sl ([.ref qt, .int va1]) ++ List.replicate (2 - (lg_sl ([.ref qt, .int va1])).length) Slot.unset).toArray = ls at hl ⊢
  have hl : lv_has ls 2 [(0, .ref qt), (1, .int va1)] := hl
  refine kgen (fun Q hQ => ?_)
  rw [f_X11_isRoom] at hf
  refine lv_iload_n hx hb dX11_isRoom_0 rfl (lv_at hl 1 rfl) ?_
  refine lv_iconst (v := (0 : Int32)) hx hb dX11_isRoom_1 (by decide) ?_
  refine lv_aload_n hx hb dX11_isRoom_2 rfl (lv_at hl 0 rfl) ?_
  refine kcalli (wc := [(qt, .inr (11, [.ref qt_now, .ref xt_past, .int (it_saved), .ref xt_text, .int (it_length), .ref xt_doors, .int (it_doorMany), .ref xt_label, .int (it_drawn), .ref xt_far, .ref xt_ring, .int (it_walker), .int (it_from), .ref xt_was, .int (it_steps), .int (it_faultAt), .int (it_mover)])), (qt_now, .inl (cy.1, 639, .inl (ft_now)))]) (wr := []) (w1 := [(qt, .inr (11, [.ref qt_now, .ref xt_past, .int (it_saved), .ref xt_text, .int (it_length), .ref xt_doors, .int (it_doorMany), .ref xt_label, .int (it_drawn), .ref xt_far, .ref xt_ring, .int (it_walker), .int (it_from), .ref xt_was, .int (it_steps), .int (it_faultAt), .int (it_mover)])), (qt_now, .inl (cy.1, 639, .inl (ft_now)))]) hK hP hD hS hA hG [0, 1] [] rfl rfl rfl rfl rfl (fun hU hPc => va_runV (As := []) (rest := [.int (0 : Int32), .int va1]) ⟨hx, hb, hml, hown, hts⟩ (c_X11_cells l dC dI cy G s.heap.size qt qt_now xt_past xt_text xt_doors xt_label xt_far xt_ring xt_was (it_saved) (it_length) (it_doorMany) (it_drawn) (it_walker) (it_from) (it_steps) (it_faultAt) (it_mover) (ft_now) (t_X11_cells (ft_now)) (tot_X11_cells (ft_now))) (cwV 0 hts gX11_isRoom_X11_cells rfl rfl rfl hdX11_cells ⟨Nat.le_of_ble_eq_true rfl, Nat.le_of_ble_eq_true rfl⟩) ⟨kBlind, (va_recv hK hP (ci := 11) (q0 := 0) rfl rfl), fun U h1 h2 => ⟨rfl, hU U h1 h2⟩⟩ rfl rfl hl.1 rfl (lv_room (Nat.le_of_ble_eq_true rfl)) dX11_isRoom_3 ⟨Nat.zero_le _, Nat.zero_le _⟩) ((t_X11_cells (ft_now))) (fun _ _ h => h) (fun _ _ h => h) (fun H locs hP hD hS => ?_)
  have hP : va_P (dC, dI) vwCl [(qt, .inr (11, [.ref qt_now, .ref xt_past, .int (it_saved), .ref xt_text, .int (it_length), .ref xt_doors, .int (it_doorMany), .ref xt_label, .int (it_drawn), .ref xt_far, .ref xt_ring, .int (it_walker), .int (it_from), .ref xt_was, .int (it_steps), .int (it_faultAt), .int (it_mover)])), (qt_now, .inl (cy.1, 639, .inl (ft_now)))] H := hP
  have hD : va_D A [(qt, .inr (11, [.ref qt_now, .ref xt_past, .int (it_saved), .ref xt_text, .int (it_length), .ref xt_doors, .int (it_doorMany), .ref xt_label, .int (it_drawn), .ref xt_far, .ref xt_ring, .int (it_walker), .int (it_from), .ref xt_was, .int (it_steps), .int (it_faultAt), .int (it_mover)])), (qt_now, .inl (cy.1, 639, .inl (ft_now)))] := hD
  refine lv_iconst (v := (1 : Int32)) hx hb dX11_isRoom_6 (by decide) ?_
  refine lv_isub hx hb dX11_isRoom_7 ?_
  refine kcalli (wc := []) (wr := [(qt, .inr (11, [.ref qt_now, .ref xt_past, .int (it_saved), .ref xt_text, .int (it_length), .ref xt_doors, .int (it_doorMany), .ref xt_label, .int (it_drawn), .ref xt_far, .ref xt_ring, .int (it_walker), .int (it_from), .ref xt_was, .int (it_steps), .int (it_faultAt), .int (it_mover)])), (qt_now, .inl (cy.1, 639, .inl (ft_now)))]) (w1 := []) hK hP hD hS hA hG [] [0, 1] rfl rfl rfl rfl rfl (fun hU hPc => va_runS (As := [.int va1, .int (0 : Int32), .int ((t_X11_cells (ft_now)) - (1 : Int32))]) (rest := []) ⟨hx, hb, hml, hown, hts⟩ (c_X11_in l dC dI cy G H.size (va1) ((0 : Int32)) (((t_X11_cells (ft_now)) - (1 : Int32))) (t_X11_in (va1) ((0 : Int32)) (((t_X11_cells (ft_now)) - (1 : Int32)))) (tot_X11_in (va1) ((0 : Int32)) (((t_X11_cells (ft_now)) - (1 : Int32))))) (va_cwS 3 hts gX11_isRoom_X11_in rfl rfl rfl hdX11_in.2 ⟨Nat.le_of_ble_eq_true rfl, Nat.le_of_ble_eq_true rfl⟩) ⟨kBlind, fun U h1 h2 => ⟨rfl, hU U h1 h2⟩⟩ rfl rfl hl.1 rfl (lv_room (Nat.le_of_ble_eq_true rfl)) dX11_isRoom_8 ⟨Nat.zero_le _, Nat.zero_le _⟩) ((t_X11_in (va1) ((0 : Int32)) (((t_X11_cells (ft_now)) - (1 : Int32))))) (fun _ _ h => h) (fun _ _ h => h) (fun H locs hP hD hS => ?_)
  have hP : va_P (dC, dI) vwCl [(qt, .inr (11, [.ref qt_now, .ref xt_past, .int (it_saved), .ref xt_text, .int (it_length), .ref xt_doors, .int (it_doorMany), .ref xt_label, .int (it_drawn), .ref xt_far, .ref xt_ring, .int (it_walker), .int (it_from), .ref xt_was, .int (it_steps), .int (it_faultAt), .int (it_mover)])), (qt_now, .inl (cy.1, 639, .inl (ft_now)))] H := hP
  have hD : va_D A [(qt, .inr (11, [.ref qt_now, .ref xt_past, .int (it_saved), .ref xt_text, .int (it_length), .ref xt_doors, .int (it_doorMany), .ref xt_label, .int (it_drawn), .ref xt_far, .ref xt_ring, .int (it_walker), .int (it_from), .ref xt_was, .int (it_steps), .int (it_faultAt), .int (it_mover)])), (qt_now, .inl (cy.1, 639, .inl (ft_now)))] := hD
  refine lv_if_ne (tgt := 18) hx hb dX11_isRoom_11 (by decide) (fun hc_11 => ?_) (fun hc_11 => ?_)
  · rw [if_neg hc_11] at hf
    refine lv_aload_n hx hb dX11_isRoom_18 rfl (lv_at hl 0 rfl) ?_
    refine lv_iload_n hx hb dX11_isRoom_19 rfl (lv_at hl 1 rfl) ?_
    obtain ⟨r20, hq_20, hf⟩ := bnd1_s hf
    refine kcalli (wc := [(qt, .inr (11, [.ref qt_now, .ref xt_past, .int (it_saved), .ref xt_text, .int (it_length), .ref xt_doors, .int (it_doorMany), .ref xt_label, .int (it_drawn), .ref xt_far, .ref xt_ring, .int (it_walker), .int (it_from), .ref xt_was, .int (it_steps), .int (it_faultAt), .int (it_mover)])), (qt_now, .inl (cy.1, 639, .inl (ft_now)))]) (wr := []) (w1 := [(qt, .inr (11, [.ref qt_now, .ref xt_past, .int (it_saved), .ref xt_text, .int (it_length), .ref xt_doors, .int (it_doorMany), .ref xt_label, .int (it_drawn), .ref xt_far, .ref xt_ring, .int (it_walker), .int (it_from), .ref xt_was, .int (it_steps), .int (it_faultAt), .int (it_mover)])), (qt_now, .inl (cy.1, 639, .inl (ft_now)))]) hK hP hD hS hA hG [0, 1] [] rfl rfl rfl rfl rfl (fun hU hPc => va_runV (As := [.int va1]) (rest := []) ⟨hx, hb, hml, hown, hts⟩ (c_X11_isRoomAt l dC dI cy G H.size qt qt_now xt_past xt_text xt_doors xt_label xt_far xt_ring xt_was (it_saved) (it_length) (it_doorMany) (it_drawn) (it_walker) (it_from) (it_steps) (it_faultAt) (it_mover) (ft_now) (va1) r20 hq_20) (cwV 1 hts gX11_isRoom_X11_isRoomAt rfl rfl rfl hdX11_isRoomAt ⟨Nat.le_of_ble_eq_true rfl, Nat.le_of_ble_eq_true rfl⟩) ⟨kBlind, (va_recv hK hP (ci := 11) (q0 := 0) rfl rfl), fun U h1 h2 => ⟨rfl, hU U h1 h2⟩⟩ rfl rfl hl.1 rfl (lv_room (Nat.le_of_ble_eq_true rfl)) dX11_isRoom_20 ⟨Nat.zero_le _, Nat.zero_le _⟩) (r20) (fun _ _ h => h) (fun _ _ h => h) (fun H locs hP hD hS => ?_)
    have hP : va_P (dC, dI) vwCl [(qt, .inr (11, [.ref qt_now, .ref xt_past, .int (it_saved), .ref xt_text, .int (it_length), .ref xt_doors, .int (it_doorMany), .ref xt_label, .int (it_drawn), .ref xt_far, .ref xt_ring, .int (it_walker), .int (it_from), .ref xt_was, .int (it_steps), .int (it_faultAt), .int (it_mover)])), (qt_now, .inl (cy.1, 639, .inl (ft_now)))] H := hP
    have hD : va_D A [(qt, .inr (11, [.ref qt_now, .ref xt_past, .int (it_saved), .ref xt_text, .int (it_length), .ref xt_doors, .int (it_doorMany), .ref xt_label, .int (it_drawn), .ref xt_far, .ref xt_ring, .int (it_walker), .int (it_from), .ref xt_was, .int (it_steps), .int (it_faultAt), .int (it_mover)])), (qt_now, .inl (cy.1, 639, .inl (ft_now)))] := hD
    refine lv_if_eq (tgt := 30) hx hb dX11_isRoom_23 (by decide) (fun hc_23 => ?_) (fun hc_23 => ?_)
    · rw [if_pos hc_23] at hf
      refine lv_iconst (v := (0 : Int32)) hx hb dX11_isRoom_30 (by decide) ?_
      cases hf
      subst hQ
      exact kiret hx hb hr hlocks hK (hP.sub [0, 1] rfl) (hD.sub [0, 1] (by decide) rfl) hS rfl dX11_isRoom_31
    · rw [if_neg hc_23] at hf
      refine lv_iconst (v := (1 : Int32)) hx hb dX11_isRoom_26 (by decide) ?_
      refine lv_goto (tgt := 31) hx hb dX11_isRoom_27 (by decide) ?_
      cases hf
      subst hQ
      exact kiret hx hb hr hlocks hK (hP.sub [0, 1] rfl) (hD.sub [0, 1] (by decide) rfl) hS rfl dX11_isRoom_31
  · rw [if_pos hc_11] at hf
    refine lv_iconst (v := (-1 : Int32)) hx hb dX11_isRoom_14 (by decide) ?_
    refine lv_goto (tgt := 31) hx hb dX11_isRoom_15 (by decide) ?_
    cases hf
    subst hQ
    exact kiret hx hb hr hlocks hK (hP.sub [0, 1] rfl) (hD.sub [0, 1] (by decide) rfl) hS rfl dX11_isRoom_31
theorem hdX11_isRoom : yX11_isRoom.cls = RX11 ∧ yX11_isRoom.cls ≠ "java/lang/invoke/MethodHandle" ∧ yX11_isRoom.cls ≠ "java/lang/invoke/VarHandle" ∧ (parseMethodDescriptor yX11_isRoom.desc).map (fun d => d.parameters.length) = some 1 := by decide +kernel
noncomputable def b_X11_joins_2 (N : Nat) (ft_now : Nat → Int32) (va1 : Int32) (va2 : Int32) : Nat → Int32 → (Nat → Int32) → Option ((Nat → Int32))
  | 0, _, _ => none
  | n + 1, l3, cft_label =>
    if (t_X11_cells (ft_now)) ≤ l3 then
      some (cft_label)
    else
      if l3 < 0 ∨ 210 ≤ (l3).toNatClampNeg then none else
      if (cft_label (l3).toNatClampNeg) = va1 then
        if l3 < 0 ∨ 210 ≤ (l3).toNatClampNeg then none else
        b_X11_joins_2 N ft_now va1 va2 n ((l3 + (1 : Int32))) ((upd cft_label (l3).toNatClampNeg va2))
      else
        if l3 < 0 ∨ 210 ≤ (l3).toNatClampNeg then none else
        if l3 < 0 ∨ 210 ≤ (l3).toNatClampNeg then none else
        b_X11_joins_2 N ft_now va1 va2 n ((l3 + (1 : Int32))) ((upd cft_label (l3).toNatClampNeg (cft_label (l3).toNatClampNeg)))
noncomputable def f_X11_joins (N : Nat) (ft_now : Nat → Int32) (ft_label : Nat → Int32) (va1 : Int32) (va2 : Int32) : Option ((Nat → Int32)) :=
  b_X11_joins_2 N ft_now va1 va2 N ((0 : Int32)) (ft_label)
abbrev rm_X11_joins : Room := { frames := 2, cells := 0, slots := 0, locals := 40 }
set_option maxHeartbeats 4000000 in
set_option maxRecDepth 100000 in
theorem c_X11_joins (l : Launch) (dC : Nat → ClassId) (dI : Nat → Nat → Nat) (cy : gC) (G : gT) (sz : Nat) (qt : Nat) (qt_now : Nat) (qt_label : Nat) (xt_past : Nat) (xt_text : Nat) (xt_doors : Nat) (xt_far : Nat) (xt_ring : Nat) (xt_was : Nat) (it_saved : Int32) (it_length : Int32) (it_doorMany : Int32) (it_drawn : Int32) (it_walker : Int32) (it_from : Int32) (it_steps : Int32) (it_faultAt : Int32) (it_mover : Int32) (N : Nat) (ft_now : Nat → Int32) (ft_label : Nat → Int32) (va1 : Int32) (va2 : Int32) (out : (Nat → Int32)) (hf : f_X11_joins N ft_now ft_label va1 va2 = some out) : Met l yX11_joins wsX11_joins rm_X11_joins (va_Pc [.ref qt, .int va1, .int va2] (kP (dC, dI) cy G [(qt, .inr (11, [.ref qt_now, .ref xt_past, .int (it_saved), .ref xt_text, .int (it_length), .ref xt_doors, .int (it_doorMany), .ref qt_label, .int (it_drawn), .ref xt_far, .ref xt_ring, .int (it_walker), .int (it_from), .ref xt_was, .int (it_steps), .int (it_faultAt), .int (it_mover)])), (qt_now, .inl (cy.1, 639, .inl (ft_now))), (qt_label, .inl (cy.1, 210, .inl (ft_label)))] sz)) (va_Qv (fun (_ : Unit) => True) (fun _ => kQ (dC, dI) cy [(qt, .inr (11, [.ref qt_now, .ref xt_past, .int (it_saved), .ref xt_text, .int (it_length), .ref xt_doors, .int (it_doorMany), .ref qt_label, .int (it_drawn), .ref xt_far, .ref xt_ring, .int (it_walker), .int (it_from), .ref xt_was, .int (it_steps), .int (it_faultAt), .int (it_mover)])), (qt_now, .inl (cy.1, 639, .inl (ft_now))), (qt_label, .inl (cy.1, 210, .inl (out)))] (va_A [(qt, .inr (11, [.ref qt_now, .ref xt_past, .int (it_saved), .ref xt_text, .int (it_length), .ref xt_doors, .int (it_doorMany), .ref qt_label, .int (it_drawn), .ref xt_far, .ref xt_ring, .int (it_walker), .int (it_from), .ref xt_was, .int (it_steps), .int (it_faultAt), .int (it_mover)])), (qt_now, .inl (cy.1, 639, .inl (ft_now))), (qt_label, .inl (cy.1, 210, .inl (ft_label)))] sz)) (va_A [(qt, .inr (11, [.ref qt_now, .ref xt_past, .int (it_saved), .ref xt_text, .int (it_length), .ref xt_doors, .int (it_doorMany), .ref qt_label, .int (it_drawn), .ref xt_far, .ref xt_ring, .int (it_walker), .int (it_from), .ref xt_was, .int (it_steps), .int (it_faultAt), .int (it_mover)])), (qt_now, .inl (cy.1, 639, .inl (ft_now))), (qt_label, .inl (cy.1, 210, .inl (ft_label)))] sz)) 0 0 (va_A [(qt, .inr (11, [.ref qt_now, .ref xt_past, .int (it_saved), .ref xt_text, .int (it_length), .ref xt_doors, .int (it_doorMany), .ref qt_label, .int (it_drawn), .ref xt_far, .ref xt_ring, .int (it_walker), .int (it_from), .ref xt_was, .int (it_steps), .int (it_faultAt), .int (it_mover)])), (qt_now, .inl (cy.1, 639, .inl (ft_now))), (qt_label, .inl (cy.1, 210, .inl (ft_label)))] sz) := by
  refine Met.ofW (cc := cX11_joins) (maxL := 4) (ret := none) (by decide) rfl ?_
  intro p e s m args below meth c s₁ B hml hv
  obtain ⟨rfl, hsz, hP, hK, hD0, hG⟩ := hv
  have hx := B.exec
  have hb := B.bytes
  have hr := B.returns
  have hts := atoms_spec (ws := wsX11_joins) B.pre
  have hown : s.vm.findClass RX11 = some m.cls := findClass_of_methodNamed B.named
  have hlocks := B.notSynchronized
  subst hsz
  have hD := hD0.self (sz := s.heap.size)
  generalize hAe : va_A [(qt, .inr (11, [.ref qt_now, .ref xt_past, .int (it_saved), .ref xt_text, .int (it_length), .ref xt_doors, .int (it_doorMany), .ref qt_label, .int (it_drawn), .ref xt_far, .ref xt_ring, .int (it_walker), .int (it_from), .ref xt_was, .int (it_steps), .int (it_faultAt), .int (it_mover)])), (qt_now, .inl (cy.1, 639, .inl (ft_now))), (qt_label, .inl (cy.1, 210, .inl (ft_label)))] s.heap.size = A at hD hG ⊢
  have hA : ∀ q : Nat, s.heap.size ≤ q → A q := fun q h => by rw [← hAe]; exact Or.inr h
  have hS : va_S A s.heap s.heap [] := va_S.rf
  have hP : va_P (dC, dI) vwCl [(qt, .inr (11, [.ref qt_now, .ref xt_past, .int (it_saved), .ref xt_text, .int (it_length), .ref xt_doors, .int (it_doorMany), .ref qt_label, .int (it_drawn), .ref xt_far, .ref xt_ring, .int (it_walker), .int (it_from), .ref xt_was, .int (it_steps), .int (it_faultAt), .int (it_mover)])), (qt_now, .inl (cy.1, 639, .inl (ft_now))), (qt_label, .inl (cy.1, 210, .inl (ft_label)))] s.heap := hP
  have hl := lv_entry ([.ref qt, .int va1, .int va2]) (n := 4) (Nat.le_of_ble_eq_true rfl)
  rw [lg_entry_eq]
  generalize (lg_sl ([.ref qt, .int va1, .int va2]) ++ List.replicate (4 - (lg_sl ([.ref qt, .int va1, .int va2])).length) Slot.unset).toArray = ls at hl ⊢
  have hl : lv_has ls 4 [(0, .ref qt), (1, .int va1), (2, .int va2)] := hl
  refine kgen (fun Q hQ => ?_)
  have B2 : ∀ (n2 : Nat) (l3 : Int32) (cft_label : Nat → Int32) (H : Heap) (locs : List Loc), va_P (dC, dI) vwCl [(qt, .inr (11, [.ref qt_now, .ref xt_past, .int (it_saved), .ref xt_text, .int (it_length), .ref xt_doors, .int (it_doorMany), .ref qt_label, .int (it_drawn), .ref xt_far, .ref xt_ring, .int (it_walker), .int (it_from), .ref xt_was, .int (it_steps), .int (it_faultAt), .int (it_mover)])), (qt_now, .inl (cy.1, 639, .inl (ft_now))), (qt_label, .inl (cy.1, 210, .inl (cft_label)))] H → va_D A [(qt, .inr (11, [.ref qt_now, .ref xt_past, .int (it_saved), .ref xt_text, .int (it_length), .ref xt_doors, .int (it_doorMany), .ref qt_label, .int (it_drawn), .ref xt_far, .ref xt_ring, .int (it_walker), .int (it_from), .ref xt_was, .int (it_steps), .int (it_faultAt), .int (it_mover)])), (qt_now, .inl (cy.1, 639, .inl (ft_now))), (qt_label, .inl (cy.1, 210, .inl (cft_label)))] → va_S A s.heap H locs → ∀ (ls : Array Slot), lv_has ls 4 [(0, .ref qt), (1, .int va1), (2, .int va2), (3, .int l3)] → b_X11_joins_2 N ft_now va1 va2 n2 l3 cft_label = some out → W p l e (headSpec wsX11_joins rm_X11_joins).room s m ([.ref qt, .int va1, .int va2] : List Value).toArray below meth c H locs 0 0 Q (F0 m 2 ls []) := by
    intro n2
    induction n2 with
    | zero => intro l3 cft_label H locs hP hD hS ls hl hf; rw [b_X11_joins_2] at hf; cases hf
    | succ n2 ih2 =>
      intro l3 cft_label H locs hP hD hS ls hl hf
      rw [b_X11_joins_2] at hf
      refine lv_iload_n hx hb dX11_joins_2 rfl (lv_at hl 3 rfl) ?_
      refine lv_aload_n hx hb dX11_joins_3 rfl (lv_at hl 0 rfl) ?_
      refine kcalli (wc := [(qt, .inr (11, [.ref qt_now, .ref xt_past, .int (it_saved), .ref xt_text, .int (it_length), .ref xt_doors, .int (it_doorMany), .ref qt_label, .int (it_drawn), .ref xt_far, .ref xt_ring, .int (it_walker), .int (it_from), .ref xt_was, .int (it_steps), .int (it_faultAt), .int (it_mover)])), (qt_now, .inl (cy.1, 639, .inl (ft_now)))]) (wr := [(qt_label, .inl (cy.1, 210, .inl (cft_label)))]) (w1 := [(qt, .inr (11, [.ref qt_now, .ref xt_past, .int (it_saved), .ref xt_text, .int (it_length), .ref xt_doors, .int (it_doorMany), .ref qt_label, .int (it_drawn), .ref xt_far, .ref xt_ring, .int (it_walker), .int (it_from), .ref xt_was, .int (it_steps), .int (it_faultAt), .int (it_mover)])), (qt_now, .inl (cy.1, 639, .inl (ft_now)))]) hK hP hD hS hA hG [0, 1] [2] rfl rfl rfl rfl rfl (fun hU hPc => va_runV (As := []) (rest := [.int l3]) ⟨hx, hb, hml, hown, hts⟩ (c_X11_cells l dC dI cy G H.size qt qt_now xt_past xt_text xt_doors qt_label xt_far xt_ring xt_was (it_saved) (it_length) (it_doorMany) (it_drawn) (it_walker) (it_from) (it_steps) (it_faultAt) (it_mover) (ft_now) (t_X11_cells (ft_now)) (tot_X11_cells (ft_now))) (cwV 0 hts gX11_joins_X11_cells rfl rfl rfl hdX11_cells ⟨Nat.le_of_ble_eq_true rfl, Nat.le_of_ble_eq_true rfl⟩) ⟨kBlind, (va_recv hK hP (ci := 11) (q0 := 0) rfl rfl), fun U h1 h2 => ⟨rfl, hU U h1 h2⟩⟩ rfl rfl hl.1 rfl (lv_room (Nat.le_of_ble_eq_true rfl)) dX11_joins_4 ⟨Nat.zero_le _, Nat.zero_le _⟩) ((t_X11_cells (ft_now))) (fun _ _ h => h) (fun _ _ h => h) (fun H locs hP hD hS => ?_)
      have hP : va_P (dC, dI) vwCl [(qt_label, .inl (cy.1, 210, .inl (cft_label))), (qt, .inr (11, [.ref qt_now, .ref xt_past, .int (it_saved), .ref xt_text, .int (it_length), .ref xt_doors, .int (it_doorMany), .ref qt_label, .int (it_drawn), .ref xt_far, .ref xt_ring, .int (it_walker), .int (it_from), .ref xt_was, .int (it_steps), .int (it_faultAt), .int (it_mover)])), (qt_now, .inl (cy.1, 639, .inl (ft_now)))] H := hP
      have hD : va_D A [(qt_label, .inl (cy.1, 210, .inl (cft_label))), (qt, .inr (11, [.ref qt_now, .ref xt_past, .int (it_saved), .ref xt_text, .int (it_length), .ref xt_doors, .int (it_doorMany), .ref qt_label, .int (it_drawn), .ref xt_far, .ref xt_ring, .int (it_walker), .int (it_from), .ref xt_was, .int (it_steps), .int (it_faultAt), .int (it_mover)])), (qt_now, .inl (cy.1, 639, .inl (ft_now)))] := hD
      refine lv_icmp_ge (tgt := 42) hx hb dX11_joins_7 (by decide) (fun hc_7 => ?_) (fun hc_7 => ?_)
      · rw [if_pos hc_7] at hf
        cases hf
        subst hQ
        exact kvret hx hb hr hlocks hK (hP.sub [1, 2, 0] rfl) (hD.sub [1, 2, 0] (by decide) rfl) hS trivial dX11_joins_42
      · rw [if_neg hc_7] at hf
        refine lv_aload_n hx hb dX11_joins_10 rfl (lv_at hl 0 rfl) ?_
        refine va_get (D := (dC, dI)) (ci := 11) (C := RX11) (T := TX11) (N := 17) hx hb hts (fun _ h => (List.mem_cons_of_mem _ (List.mem_append_right _ h))) hown hK hP 1 rfl rfl 7 (by decide) (hts _ (List.mem_cons_of_mem _ (List.mem_append_left _ (List.mem_of_getElem? (i := 0) rfl)))) (fun _ h => h) rfl dX11_joins_11 ?_
        refine lv_iload_n hx hb dX11_joins_14 rfl (lv_at hl 3 rfl) ?_
        refine lv_aload_n hx hb dX11_joins_15 rfl (lv_at hl 0 rfl) ?_
        refine va_get (D := (dC, dI)) (ci := 11) (C := RX11) (T := TX11) (N := 17) hx hb hts (fun _ h => (List.mem_cons_of_mem _ (List.mem_append_right _ h))) hown hK hP 1 rfl rfl 7 (by decide) (hts _ (List.mem_cons_of_mem _ (List.mem_append_left _ (List.mem_of_getElem? (i := 0) rfl)))) (fun _ h => h) rfl dX11_joins_16 ?_
        refine lv_iload_n hx hb dX11_joins_19 rfl (lv_at hl 3 rfl) ?_
        obtain ⟨hk_20, hf⟩ := chk_s hf
        refine va_iald hx hb hK hP 0 0 rfl rfl hk_20 dX11_joins_20 ?_
        refine lv_iload_n hx hb dX11_joins_21 rfl (lv_at hl 1 rfl) ?_
        refine lv_icmp_ne (tgt := 29) hx hb dX11_joins_22 (by decide) (fun hc_22 => ?_) (fun hc_22 => ?_)
        · rw [if_neg hc_22] at hf
          refine lv_aload_n hx hb dX11_joins_29 rfl (lv_at hl 0 rfl) ?_
          refine va_get (D := (dC, dI)) (ci := 11) (C := RX11) (T := TX11) (N := 17) hx hb hts (fun _ h => (List.mem_cons_of_mem _ (List.mem_append_right _ h))) hown hK hP 1 rfl rfl 7 (by decide) (hts _ (List.mem_cons_of_mem _ (List.mem_append_left _ (List.mem_of_getElem? (i := 0) rfl)))) (fun _ h => h) rfl dX11_joins_30 ?_
          refine lv_iload_n hx hb dX11_joins_33 rfl (lv_at hl 3 rfl) ?_
          obtain ⟨hk_34, hf⟩ := chk_s hf
          refine va_iald hx hb hK hP 0 0 rfl rfl hk_34 dX11_joins_34 ?_
          obtain ⟨hk_35, hf⟩ := chk_s hf
          refine va_iast hx hb hK hP hD hS 0 0 rfl rfl hk_35 dX11_joins_35 (fun H locs hP hD hS => ?_)
          have hP : va_P (dC, dI) vwCl [(qt_label, .inl (cy.1, 210, .inl ((upd cft_label (l3).toNatClampNeg (cft_label (l3).toNatClampNeg))))), (qt, .inr (11, [.ref qt_now, .ref xt_past, .int (it_saved), .ref xt_text, .int (it_length), .ref xt_doors, .int (it_doorMany), .ref qt_label, .int (it_drawn), .ref xt_far, .ref xt_ring, .int (it_walker), .int (it_from), .ref xt_was, .int (it_steps), .int (it_faultAt), .int (it_mover)])), (qt_now, .inl (cy.1, 639, .inl (ft_now)))] H := hP
          have hD : va_D A [(qt_label, .inl (cy.1, 210, .inl ((upd cft_label (l3).toNatClampNeg (cft_label (l3).toNatClampNeg))))), (qt, .inr (11, [.ref qt_now, .ref xt_past, .int (it_saved), .ref xt_text, .int (it_length), .ref xt_doors, .int (it_doorMany), .ref qt_label, .int (it_drawn), .ref xt_far, .ref xt_ring, .int (it_walker), .int (it_from), .ref xt_was, .int (it_steps), .int (it_faultAt), .int (it_mover)])), (qt_now, .inl (cy.1, 639, .inl (ft_now)))] := hD
          refine lv_iinc (v := (l3 + (1 : Int32))) (lv' := [(3, .int (l3 + (1 : Int32))), (0, .ref qt), (1, .int va1), (2, .int va2)]) hx hb dX11_joins_36 hl (k := 3) rfl rfl (by decide) rfl (fun ls hl => ?_)
          refine lv_goto (tgt := 2) hx hb dX11_joins_39 (by decide) ?_
          exact ih2 ((l3 + (1 : Int32))) ((upd cft_label (l3).toNatClampNeg (cft_label (l3).toNatClampNeg))) _ _ (hP.sub [1, 2, 0] rfl) (hD.sub [1, 2, 0] (by decide) rfl) hS _ (lv_sub hl [1, 2, 3, 0] rfl) hf
        · rw [if_pos hc_22] at hf
          refine lv_iload_n hx hb dX11_joins_25 rfl (lv_at hl 2 rfl) ?_
          refine lv_goto (tgt := 35) hx hb dX11_joins_26 (by decide) ?_
          obtain ⟨hk_35, hf⟩ := chk_s hf
          refine va_iast hx hb hK hP hD hS 0 0 rfl rfl hk_35 dX11_joins_35 (fun H locs hP hD hS => ?_)
          have hP : va_P (dC, dI) vwCl [(qt_label, .inl (cy.1, 210, .inl ((upd cft_label (l3).toNatClampNeg va2)))), (qt, .inr (11, [.ref qt_now, .ref xt_past, .int (it_saved), .ref xt_text, .int (it_length), .ref xt_doors, .int (it_doorMany), .ref qt_label, .int (it_drawn), .ref xt_far, .ref xt_ring, .int (it_walker), .int (it_from), .ref xt_was, .int (it_steps), .int (it_faultAt), .int (it_mover)])), (qt_now, .inl (cy.1, 639, .inl (ft_now)))] H := hP
          have hD : va_D A [(qt_label, .inl (cy.1, 210, .inl ((upd cft_label (l3).toNatClampNeg va2)))), (qt, .inr (11, [.ref qt_now, .ref xt_past, .int (it_saved), .ref xt_text, .int (it_length), .ref xt_doors, .int (it_doorMany), .ref qt_label, .int (it_drawn), .ref xt_far, .ref xt_ring, .int (it_walker), .int (it_from), .ref xt_was, .int (it_steps), .int (it_faultAt), .int (it_mover)])), (qt_now, .inl (cy.1, 639, .inl (ft_now)))] := hD
          refine lv_iinc (v := (l3 + (1 : Int32))) (lv' := [(3, .int (l3 + (1 : Int32))), (0, .ref qt), (1, .int va1), (2, .int va2)]) hx hb dX11_joins_36 hl (k := 3) rfl rfl (by decide) rfl (fun ls hl => ?_)
          refine lv_goto (tgt := 2) hx hb dX11_joins_39 (by decide) ?_
          exact ih2 ((l3 + (1 : Int32))) ((upd cft_label (l3).toNatClampNeg va2)) _ _ (hP.sub [1, 2, 0] rfl) (hD.sub [1, 2, 0] (by decide) rfl) hS _ (lv_sub hl [1, 2, 3, 0] rfl) hf
  rw [f_X11_joins] at hf
  refine lv_iconst (v := (0 : Int32)) hx hb dX11_joins_0 (by decide) ?_
  refine lv_istore_n (lv' := [(3, .int (0 : Int32)), (0, .ref qt), (1, .int va1), (2, .int va2)]) hx hb dX11_joins_1 rfl hl (by decide) rfl (fun ls hl => ?_)
  exact B2 N ((0 : Int32)) (ft_label) _ _ (hP.sub [0, 1, 2] rfl) (hD.sub [0, 1, 2] (by decide) rfl) hS _ (lv_sub hl [1, 2, 3, 0] rfl) hf
theorem hdX11_joins : yX11_joins.cls = RX11 ∧ yX11_joins.cls ≠ "java/lang/invoke/MethodHandle" ∧ yX11_joins.cls ≠ "java/lang/invoke/VarHandle" ∧ (parseMethodDescriptor yX11_joins.desc).map (fun d => d.parameters.length) = some 2 := by decide +kernel
noncomputable def f_X11_joinsTwo (N : Nat) (ft_now : Nat → Int32) (ft_label : Nat → Int32) (va1 : Int32) (va2 : Int32) : Option ((Nat → Int32)) :=
  if va2 ≤ va1 then
    if va1 ≤ va2 then
      some (ft_label)
    else
      bnd1 (f_X11_joins N (ft_now) (ft_label) (va1) (va2)) fun o22_0 =>
      some (o22_0)
  else
    bnd1 (f_X11_joins N (ft_now) (ft_label) (va2) (va1)) fun o8_0 =>
    some (o8_0)
abbrev rm_X11_joinsTwo : Room := { frames := 3, cells := 0, slots := 0, locals := 63 }
set_option maxHeartbeats 4000000 in
set_option maxRecDepth 100000 in
theorem c_X11_joinsTwo (l : Launch) (dC : Nat → ClassId) (dI : Nat → Nat → Nat) (cy : gC) (G : gT) (sz : Nat) (qt : Nat) (qt_now : Nat) (qt_label : Nat) (xt_past : Nat) (xt_text : Nat) (xt_doors : Nat) (xt_far : Nat) (xt_ring : Nat) (xt_was : Nat) (it_saved : Int32) (it_length : Int32) (it_doorMany : Int32) (it_drawn : Int32) (it_walker : Int32) (it_from : Int32) (it_steps : Int32) (it_faultAt : Int32) (it_mover : Int32) (N : Nat) (ft_now : Nat → Int32) (ft_label : Nat → Int32) (va1 : Int32) (va2 : Int32) (out : (Nat → Int32)) (hf : f_X11_joinsTwo N ft_now ft_label va1 va2 = some out) : Met l yX11_joinsTwo wsX11_joinsTwo rm_X11_joinsTwo (va_Pc [.ref qt, .int va1, .int va2] (kP (dC, dI) cy G [(qt, .inr (11, [.ref qt_now, .ref xt_past, .int (it_saved), .ref xt_text, .int (it_length), .ref xt_doors, .int (it_doorMany), .ref qt_label, .int (it_drawn), .ref xt_far, .ref xt_ring, .int (it_walker), .int (it_from), .ref xt_was, .int (it_steps), .int (it_faultAt), .int (it_mover)])), (qt_now, .inl (cy.1, 639, .inl (ft_now))), (qt_label, .inl (cy.1, 210, .inl (ft_label)))] sz)) (va_Qv (fun (_ : Unit) => True) (fun _ => kQ (dC, dI) cy [(qt, .inr (11, [.ref qt_now, .ref xt_past, .int (it_saved), .ref xt_text, .int (it_length), .ref xt_doors, .int (it_doorMany), .ref qt_label, .int (it_drawn), .ref xt_far, .ref xt_ring, .int (it_walker), .int (it_from), .ref xt_was, .int (it_steps), .int (it_faultAt), .int (it_mover)])), (qt_now, .inl (cy.1, 639, .inl (ft_now))), (qt_label, .inl (cy.1, 210, .inl (out)))] (va_A [(qt, .inr (11, [.ref qt_now, .ref xt_past, .int (it_saved), .ref xt_text, .int (it_length), .ref xt_doors, .int (it_doorMany), .ref qt_label, .int (it_drawn), .ref xt_far, .ref xt_ring, .int (it_walker), .int (it_from), .ref xt_was, .int (it_steps), .int (it_faultAt), .int (it_mover)])), (qt_now, .inl (cy.1, 639, .inl (ft_now))), (qt_label, .inl (cy.1, 210, .inl (ft_label)))] sz)) (va_A [(qt, .inr (11, [.ref qt_now, .ref xt_past, .int (it_saved), .ref xt_text, .int (it_length), .ref xt_doors, .int (it_doorMany), .ref qt_label, .int (it_drawn), .ref xt_far, .ref xt_ring, .int (it_walker), .int (it_from), .ref xt_was, .int (it_steps), .int (it_faultAt), .int (it_mover)])), (qt_now, .inl (cy.1, 639, .inl (ft_now))), (qt_label, .inl (cy.1, 210, .inl (ft_label)))] sz)) 0 0 (va_A [(qt, .inr (11, [.ref qt_now, .ref xt_past, .int (it_saved), .ref xt_text, .int (it_length), .ref xt_doors, .int (it_doorMany), .ref qt_label, .int (it_drawn), .ref xt_far, .ref xt_ring, .int (it_walker), .int (it_from), .ref xt_was, .int (it_steps), .int (it_faultAt), .int (it_mover)])), (qt_now, .inl (cy.1, 639, .inl (ft_now))), (qt_label, .inl (cy.1, 210, .inl (ft_label)))] sz) := by
  refine Met.ofW (cc := cX11_joinsTwo) (maxL := 3) (ret := none) (by decide) rfl ?_
  intro p e s m args below meth c s₁ B hml hv
  obtain ⟨rfl, hsz, hP, hK, hD0, hG⟩ := hv
  have hx := B.exec
  have hb := B.bytes
  have hr := B.returns
  have hts := atoms_spec (ws := wsX11_joinsTwo) B.pre
  have hown : s.vm.findClass RX11 = some m.cls := findClass_of_methodNamed B.named
  have hlocks := B.notSynchronized
  subst hsz
  have hD := hD0.self (sz := s.heap.size)
  generalize hAe : va_A [(qt, .inr (11, [.ref qt_now, .ref xt_past, .int (it_saved), .ref xt_text, .int (it_length), .ref xt_doors, .int (it_doorMany), .ref qt_label, .int (it_drawn), .ref xt_far, .ref xt_ring, .int (it_walker), .int (it_from), .ref xt_was, .int (it_steps), .int (it_faultAt), .int (it_mover)])), (qt_now, .inl (cy.1, 639, .inl (ft_now))), (qt_label, .inl (cy.1, 210, .inl (ft_label)))] s.heap.size = A at hD hG ⊢
  have hA : ∀ q : Nat, s.heap.size ≤ q → A q := fun q h => by rw [← hAe]; exact Or.inr h
  have hS : va_S A s.heap s.heap [] := va_S.rf
  have hP : va_P (dC, dI) vwCl [(qt, .inr (11, [.ref qt_now, .ref xt_past, .int (it_saved), .ref xt_text, .int (it_length), .ref xt_doors, .int (it_doorMany), .ref qt_label, .int (it_drawn), .ref xt_far, .ref xt_ring, .int (it_walker), .int (it_from), .ref xt_was, .int (it_steps), .int (it_faultAt), .int (it_mover)])), (qt_now, .inl (cy.1, 639, .inl (ft_now))), (qt_label, .inl (cy.1, 210, .inl (ft_label)))] s.heap := hP
  have hl := lv_entry ([.ref qt, .int va1, .int va2]) (n := 3) (Nat.le_of_ble_eq_true rfl)
  rw [lg_entry_eq]
  generalize (lg_sl ([.ref qt, .int va1, .int va2]) ++ List.replicate (3 - (lg_sl ([.ref qt, .int va1, .int va2])).length) Slot.unset).toArray = ls at hl ⊢
  have hl : lv_has ls 3 [(0, .ref qt), (1, .int va1), (2, .int va2)] := hl
  refine kgen (fun Q hQ => ?_)
  rw [f_X11_joinsTwo] at hf
  refine lv_iload_n hx hb dX11_joinsTwo_0 rfl (lv_at hl 1 rfl) ?_
  refine lv_iload_n hx hb dX11_joinsTwo_1 rfl (lv_at hl 2 rfl) ?_
  refine lv_icmp_ge (tgt := 14) hx hb dX11_joinsTwo_2 (by decide) (fun hc_2 => ?_) (fun hc_2 => ?_)
  · rw [if_pos hc_2] at hf
    refine lv_iload_n hx hb dX11_joinsTwo_14 rfl (lv_at hl 2 rfl) ?_
    refine lv_iload_n hx hb dX11_joinsTwo_15 rfl (lv_at hl 1 rfl) ?_
    refine lv_icmp_ge (tgt := 25) hx hb dX11_joinsTwo_16 (by decide) (fun hc_16 => ?_) (fun hc_16 => ?_)
    · rw [if_pos hc_16] at hf
      cases hf
      subst hQ
      exact kvret hx hb hr hlocks hK (hP.sub [0, 1, 2] rfl) (hD.sub [0, 1, 2] (by decide) rfl) hS trivial dX11_joinsTwo_25
    · rw [if_neg hc_16] at hf
      refine lv_aload_n hx hb dX11_joinsTwo_19 rfl (lv_at hl 0 rfl) ?_
      refine lv_iload_n hx hb dX11_joinsTwo_20 rfl (lv_at hl 1 rfl) ?_
      refine lv_iload_n hx hb dX11_joinsTwo_21 rfl (lv_at hl 2 rfl) ?_
      obtain ⟨o22_0, hq_22, hf⟩ := bnd1_s hf
      refine kcallv (wc := [(qt, .inr (11, [.ref qt_now, .ref xt_past, .int (it_saved), .ref xt_text, .int (it_length), .ref xt_doors, .int (it_doorMany), .ref qt_label, .int (it_drawn), .ref xt_far, .ref xt_ring, .int (it_walker), .int (it_from), .ref xt_was, .int (it_steps), .int (it_faultAt), .int (it_mover)])), (qt_now, .inl (cy.1, 639, .inl (ft_now))), (qt_label, .inl (cy.1, 210, .inl (ft_label)))]) (wr := []) (w1 := [(qt, .inr (11, [.ref qt_now, .ref xt_past, .int (it_saved), .ref xt_text, .int (it_length), .ref xt_doors, .int (it_doorMany), .ref qt_label, .int (it_drawn), .ref xt_far, .ref xt_ring, .int (it_walker), .int (it_from), .ref xt_was, .int (it_steps), .int (it_faultAt), .int (it_mover)])), (qt_now, .inl (cy.1, 639, .inl (ft_now))), (qt_label, .inl (cy.1, 210, .inl (o22_0)))]) hK hP hD hS hA hG [0, 1, 2] [] rfl rfl rfl rfl rfl (fun hU hPc => va_runV (As := [.int va1, .int va2]) (rest := []) ⟨hx, hb, hml, hown, hts⟩ (c_X11_joins l dC dI cy G s.heap.size qt qt_now qt_label xt_past xt_text xt_doors xt_far xt_ring xt_was (it_saved) (it_length) (it_doorMany) (it_drawn) (it_walker) (it_from) (it_steps) (it_faultAt) (it_mover) N (ft_now) (ft_label) (va1) (va2) o22_0 hq_22) (cwV 2 hts gX11_joinsTwo_X11_joins rfl rfl rfl hdX11_joins ⟨Nat.le_of_ble_eq_true rfl, Nat.le_of_ble_eq_true rfl⟩) ⟨kBlind, (va_recv hK hP (ci := 11) (q0 := 0) rfl rfl), fun U h1 h2 => ⟨rfl, hU U h1 h2⟩⟩ rfl rfl hl.1 rfl (lv_room (Nat.le_of_ble_eq_true rfl)) dX11_joinsTwo_22 ⟨Nat.zero_le _, Nat.zero_le _⟩) (fun _ _ h => h) (fun H locs hP hD hS => ?_)
      have hP : va_P (dC, dI) vwCl [(qt, .inr (11, [.ref qt_now, .ref xt_past, .int (it_saved), .ref xt_text, .int (it_length), .ref xt_doors, .int (it_doorMany), .ref qt_label, .int (it_drawn), .ref xt_far, .ref xt_ring, .int (it_walker), .int (it_from), .ref xt_was, .int (it_steps), .int (it_faultAt), .int (it_mover)])), (qt_now, .inl (cy.1, 639, .inl (ft_now))), (qt_label, .inl (cy.1, 210, .inl (o22_0)))] H := hP
      have hD : va_D A [(qt, .inr (11, [.ref qt_now, .ref xt_past, .int (it_saved), .ref xt_text, .int (it_length), .ref xt_doors, .int (it_doorMany), .ref qt_label, .int (it_drawn), .ref xt_far, .ref xt_ring, .int (it_walker), .int (it_from), .ref xt_was, .int (it_steps), .int (it_faultAt), .int (it_mover)])), (qt_now, .inl (cy.1, 639, .inl (ft_now))), (qt_label, .inl (cy.1, 210, .inl (o22_0)))] := hD
      cases hf
      subst hQ
      exact kvret hx hb hr hlocks hK (hP.sub [0, 1, 2] rfl) (hD.sub [0, 1, 2] (by decide) rfl) hS trivial dX11_joinsTwo_25
  · rw [if_neg hc_2] at hf
    refine lv_aload_n hx hb dX11_joinsTwo_5 rfl (lv_at hl 0 rfl) ?_
    refine lv_iload_n hx hb dX11_joinsTwo_6 rfl (lv_at hl 2 rfl) ?_
    refine lv_iload_n hx hb dX11_joinsTwo_7 rfl (lv_at hl 1 rfl) ?_
    obtain ⟨o8_0, hq_8, hf⟩ := bnd1_s hf
    refine kcallv (wc := [(qt, .inr (11, [.ref qt_now, .ref xt_past, .int (it_saved), .ref xt_text, .int (it_length), .ref xt_doors, .int (it_doorMany), .ref qt_label, .int (it_drawn), .ref xt_far, .ref xt_ring, .int (it_walker), .int (it_from), .ref xt_was, .int (it_steps), .int (it_faultAt), .int (it_mover)])), (qt_now, .inl (cy.1, 639, .inl (ft_now))), (qt_label, .inl (cy.1, 210, .inl (ft_label)))]) (wr := []) (w1 := [(qt, .inr (11, [.ref qt_now, .ref xt_past, .int (it_saved), .ref xt_text, .int (it_length), .ref xt_doors, .int (it_doorMany), .ref qt_label, .int (it_drawn), .ref xt_far, .ref xt_ring, .int (it_walker), .int (it_from), .ref xt_was, .int (it_steps), .int (it_faultAt), .int (it_mover)])), (qt_now, .inl (cy.1, 639, .inl (ft_now))), (qt_label, .inl (cy.1, 210, .inl (o8_0)))]) hK hP hD hS hA hG [0, 1, 2] [] rfl rfl rfl rfl rfl (fun hU hPc => va_runV (As := [.int va2, .int va1]) (rest := []) ⟨hx, hb, hml, hown, hts⟩ (c_X11_joins l dC dI cy G s.heap.size qt qt_now qt_label xt_past xt_text xt_doors xt_far xt_ring xt_was (it_saved) (it_length) (it_doorMany) (it_drawn) (it_walker) (it_from) (it_steps) (it_faultAt) (it_mover) N (ft_now) (ft_label) (va2) (va1) o8_0 hq_8) (cwV 2 hts gX11_joinsTwo_X11_joins rfl rfl rfl hdX11_joins ⟨Nat.le_of_ble_eq_true rfl, Nat.le_of_ble_eq_true rfl⟩) ⟨kBlind, (va_recv hK hP (ci := 11) (q0 := 0) rfl rfl), fun U h1 h2 => ⟨rfl, hU U h1 h2⟩⟩ rfl rfl hl.1 rfl (lv_room (Nat.le_of_ble_eq_true rfl)) dX11_joinsTwo_8 ⟨Nat.zero_le _, Nat.zero_le _⟩) (fun _ _ h => h) (fun H locs hP hD hS => ?_)
    have hP : va_P (dC, dI) vwCl [(qt, .inr (11, [.ref qt_now, .ref xt_past, .int (it_saved), .ref xt_text, .int (it_length), .ref xt_doors, .int (it_doorMany), .ref qt_label, .int (it_drawn), .ref xt_far, .ref xt_ring, .int (it_walker), .int (it_from), .ref xt_was, .int (it_steps), .int (it_faultAt), .int (it_mover)])), (qt_now, .inl (cy.1, 639, .inl (ft_now))), (qt_label, .inl (cy.1, 210, .inl (o8_0)))] H := hP
    have hD : va_D A [(qt, .inr (11, [.ref qt_now, .ref xt_past, .int (it_saved), .ref xt_text, .int (it_length), .ref xt_doors, .int (it_doorMany), .ref qt_label, .int (it_drawn), .ref xt_far, .ref xt_ring, .int (it_walker), .int (it_from), .ref xt_was, .int (it_steps), .int (it_faultAt), .int (it_mover)])), (qt_now, .inl (cy.1, 639, .inl (ft_now))), (qt_label, .inl (cy.1, 210, .inl (o8_0)))] := hD
    refine lv_goto (tgt := 25) hx hb dX11_joinsTwo_11 (by decide) ?_
    cases hf
    subst hQ
    exact kvret hx hb hr hlocks hK (hP.sub [0, 1, 2] rfl) (hD.sub [0, 1, 2] (by decide) rfl) hS trivial dX11_joinsTwo_25
theorem hdX11_joinsTwo : yX11_joinsTwo.cls = RX11 ∧ yX11_joinsTwo.cls ≠ "java/lang/invoke/MethodHandle" ∧ yX11_joinsTwo.cls ≠ "java/lang/invoke/VarHandle" ∧ (parseMethodDescriptor yX11_joinsTwo.desc).map (fun d => d.parameters.length) = some 2 := by decide +kernel
noncomputable def b_X11_labels_35 (N : Nat) (ft_now : Nat → Int32) (k25 : Int32 → (Nat → Int32) → Option ((Nat → Int32))) : Nat → Int32 → Int32 → (Nat → Int32) → Option ((Nat → Int32))
  | 0, _, _, _ => none
  | n + 1, l1, l2, cft_label =>
    if (3 : Int32) ≤ l2 then
      k25 ((l1 + (1 : Int32))) (cft_label)
    else
      bnd1 (f_X11_isRoomAt (ft_now) (l1)) fun r42 =>
      if r42 = 0 then
        b_X11_labels_35 N ft_now k25 n (l1) ((l2 + (1 : Int32))) (cft_label)
      else
        bnd1 (f_X11_isOpen (ft_now) (l1) (l2)) fun r51 =>
        if r51 = 0 then
          b_X11_labels_35 N ft_now k25 n (l1) ((l2 + (1 : Int32))) (cft_label)
        else
          if l1 < 0 ∨ 210 ≤ (l1).toNatClampNeg then none else
          bnd1 (f_X11_beside (ft_now) (l1) (l2)) fun r71 =>
          if r71 < 0 ∨ 210 ≤ (r71).toNatClampNeg then none else
          bnd1 (f_X11_joinsTwo N (ft_now) (cft_label) ((cft_label (l1).toNatClampNeg)) ((cft_label (r71).toNatClampNeg))) fun o75_0 =>
          b_X11_labels_35 N ft_now k25 n (l1) ((l2 + (1 : Int32))) (o75_0)
noncomputable def b_X11_labels_25 (N : Nat) (ft_now : Nat → Int32) : Nat → Int32 → (Nat → Int32) → Option ((Nat → Int32))
  | 0, _, _ => none
  | n + 1, l1, cft_label =>
    if (t_X11_cells (ft_now)) ≤ l1 then
      some (cft_label)
    else
      b_X11_labels_35 N ft_now (b_X11_labels_25 N ft_now n) N (l1) ((1 : Int32)) (cft_label)
noncomputable def b_X11_labels_2 (N : Nat) (ft_now : Nat → Int32) : Nat → Int32 → (Nat → Int32) → Option ((Nat → Int32))
  | 0, _, _ => none
  | n + 1, l1, cft_label =>
    if (t_X11_cells (ft_now)) ≤ l1 then
      b_X11_labels_25 N ft_now N ((0 : Int32)) (cft_label)
    else
      if l1 < 0 ∨ 210 ≤ (l1).toNatClampNeg then none else
      b_X11_labels_2 N ft_now n ((l1 + (1 : Int32))) ((upd cft_label (l1).toNatClampNeg l1))
noncomputable def f_X11_labels (N : Nat) (ft_now : Nat → Int32) (ft_label : Nat → Int32) : Option ((Nat → Int32)) :=
  b_X11_labels_2 N ft_now N ((0 : Int32)) (ft_label)
abbrev rm_X11_labels : Room := { frames := 6, cells := 0, slots := 0, locals := 135 }
set_option maxHeartbeats 4000000 in
set_option maxRecDepth 100000 in
theorem c_X11_labels (l : Launch) (dC : Nat → ClassId) (dI : Nat → Nat → Nat) (cy : gC) (G : gT) (sz : Nat) (qt : Nat) (qt_now : Nat) (qt_label : Nat) (xt_past : Nat) (xt_text : Nat) (xt_doors : Nat) (xt_far : Nat) (xt_ring : Nat) (xt_was : Nat) (it_saved : Int32) (it_length : Int32) (it_doorMany : Int32) (it_drawn : Int32) (it_walker : Int32) (it_from : Int32) (it_steps : Int32) (it_faultAt : Int32) (it_mover : Int32) (N : Nat) (ft_now : Nat → Int32) (ft_label : Nat → Int32) (out : (Nat → Int32)) (hf : f_X11_labels N ft_now ft_label = some out) : Met l yX11_labels wsX11_labels rm_X11_labels (va_Pc [.ref qt] (kP (dC, dI) cy G [(qt, .inr (11, [.ref qt_now, .ref xt_past, .int (it_saved), .ref xt_text, .int (it_length), .ref xt_doors, .int (it_doorMany), .ref qt_label, .int (it_drawn), .ref xt_far, .ref xt_ring, .int (it_walker), .int (it_from), .ref xt_was, .int (it_steps), .int (it_faultAt), .int (it_mover)])), (qt_now, .inl (cy.1, 639, .inl (ft_now))), (qt_label, .inl (cy.1, 210, .inl (ft_label)))] sz)) (va_Qv (fun (_ : Unit) => True) (fun _ => kQ (dC, dI) cy [(qt, .inr (11, [.ref qt_now, .ref xt_past, .int (it_saved), .ref xt_text, .int (it_length), .ref xt_doors, .int (it_doorMany), .ref qt_label, .int (it_drawn), .ref xt_far, .ref xt_ring, .int (it_walker), .int (it_from), .ref xt_was, .int (it_steps), .int (it_faultAt), .int (it_mover)])), (qt_now, .inl (cy.1, 639, .inl (ft_now))), (qt_label, .inl (cy.1, 210, .inl (out)))] (va_A [(qt, .inr (11, [.ref qt_now, .ref xt_past, .int (it_saved), .ref xt_text, .int (it_length), .ref xt_doors, .int (it_doorMany), .ref qt_label, .int (it_drawn), .ref xt_far, .ref xt_ring, .int (it_walker), .int (it_from), .ref xt_was, .int (it_steps), .int (it_faultAt), .int (it_mover)])), (qt_now, .inl (cy.1, 639, .inl (ft_now))), (qt_label, .inl (cy.1, 210, .inl (ft_label)))] sz)) (va_A [(qt, .inr (11, [.ref qt_now, .ref xt_past, .int (it_saved), .ref xt_text, .int (it_length), .ref xt_doors, .int (it_doorMany), .ref qt_label, .int (it_drawn), .ref xt_far, .ref xt_ring, .int (it_walker), .int (it_from), .ref xt_was, .int (it_steps), .int (it_faultAt), .int (it_mover)])), (qt_now, .inl (cy.1, 639, .inl (ft_now))), (qt_label, .inl (cy.1, 210, .inl (ft_label)))] sz)) 0 0 (va_A [(qt, .inr (11, [.ref qt_now, .ref xt_past, .int (it_saved), .ref xt_text, .int (it_length), .ref xt_doors, .int (it_doorMany), .ref qt_label, .int (it_drawn), .ref xt_far, .ref xt_ring, .int (it_walker), .int (it_from), .ref xt_was, .int (it_steps), .int (it_faultAt), .int (it_mover)])), (qt_now, .inl (cy.1, 639, .inl (ft_now))), (qt_label, .inl (cy.1, 210, .inl (ft_label)))] sz) := by
  refine Met.ofW (cc := cX11_labels) (maxL := 3) (ret := none) (by decide) rfl ?_
  intro p e s m args below meth c s₁ B hml hv
  obtain ⟨rfl, hsz, hP, hK, hD0, hG⟩ := hv
  have hx := B.exec
  have hb := B.bytes
  have hr := B.returns
  have hts := atoms_spec (ws := wsX11_labels) B.pre
  have hown : s.vm.findClass RX11 = some m.cls := findClass_of_methodNamed B.named
  have hlocks := B.notSynchronized
  subst hsz
  have hD := hD0.self (sz := s.heap.size)
  generalize hAe : va_A [(qt, .inr (11, [.ref qt_now, .ref xt_past, .int (it_saved), .ref xt_text, .int (it_length), .ref xt_doors, .int (it_doorMany), .ref qt_label, .int (it_drawn), .ref xt_far, .ref xt_ring, .int (it_walker), .int (it_from), .ref xt_was, .int (it_steps), .int (it_faultAt), .int (it_mover)])), (qt_now, .inl (cy.1, 639, .inl (ft_now))), (qt_label, .inl (cy.1, 210, .inl (ft_label)))] s.heap.size = A at hD hG ⊢
  have hA : ∀ q : Nat, s.heap.size ≤ q → A q := fun q h => by rw [← hAe]; exact Or.inr h
  have hS : va_S A s.heap s.heap [] := va_S.rf
  have hP : va_P (dC, dI) vwCl [(qt, .inr (11, [.ref qt_now, .ref xt_past, .int (it_saved), .ref xt_text, .int (it_length), .ref xt_doors, .int (it_doorMany), .ref qt_label, .int (it_drawn), .ref xt_far, .ref xt_ring, .int (it_walker), .int (it_from), .ref xt_was, .int (it_steps), .int (it_faultAt), .int (it_mover)])), (qt_now, .inl (cy.1, 639, .inl (ft_now))), (qt_label, .inl (cy.1, 210, .inl (ft_label)))] s.heap := hP
  have hl := lv_entry ([.ref qt]) (n := 3) (Nat.le_of_ble_eq_true rfl)
  rw [lg_entry_eq]
  generalize (lg_sl ([.ref qt]) ++ List.replicate (3 - (lg_sl ([.ref qt])).length) Slot.unset).toArray = ls at hl ⊢
  have hl : lv_has ls 3 [(0, .ref qt)] := hl
  refine kgen (fun Q hQ => ?_)
  have B25 : ∀ (n25 : Nat) (l1 : Int32) (cft_label : Nat → Int32) (H : Heap) (locs : List Loc), va_P (dC, dI) vwCl [(qt, .inr (11, [.ref qt_now, .ref xt_past, .int (it_saved), .ref xt_text, .int (it_length), .ref xt_doors, .int (it_doorMany), .ref qt_label, .int (it_drawn), .ref xt_far, .ref xt_ring, .int (it_walker), .int (it_from), .ref xt_was, .int (it_steps), .int (it_faultAt), .int (it_mover)])), (qt_now, .inl (cy.1, 639, .inl (ft_now))), (qt_label, .inl (cy.1, 210, .inl (cft_label)))] H → va_D A [(qt, .inr (11, [.ref qt_now, .ref xt_past, .int (it_saved), .ref xt_text, .int (it_length), .ref xt_doors, .int (it_doorMany), .ref qt_label, .int (it_drawn), .ref xt_far, .ref xt_ring, .int (it_walker), .int (it_from), .ref xt_was, .int (it_steps), .int (it_faultAt), .int (it_mover)])), (qt_now, .inl (cy.1, 639, .inl (ft_now))), (qt_label, .inl (cy.1, 210, .inl (cft_label)))] → va_S A s.heap H locs → ∀ (ls : Array Slot), lv_has ls 3 [(0, .ref qt), (1, .int l1)] → b_X11_labels_25 N ft_now n25 l1 cft_label = some out → W p l e (headSpec wsX11_labels rm_X11_labels).room s m ([.ref qt] : List Value).toArray below meth c H locs 0 0 Q (F0 m 25 ls []) := by
    intro n25
    induction n25 with
    | zero => intro l1 cft_label H locs hP hD hS ls hl hf; rw [b_X11_labels_25] at hf; cases hf
    | succ n25 ih25 =>
      have B35 : ∀ (n35 : Nat) (l1 : Int32) (l2 : Int32) (cft_label : Nat → Int32) (H : Heap) (locs : List Loc), va_P (dC, dI) vwCl [(qt, .inr (11, [.ref qt_now, .ref xt_past, .int (it_saved), .ref xt_text, .int (it_length), .ref xt_doors, .int (it_doorMany), .ref qt_label, .int (it_drawn), .ref xt_far, .ref xt_ring, .int (it_walker), .int (it_from), .ref xt_was, .int (it_steps), .int (it_faultAt), .int (it_mover)])), (qt_now, .inl (cy.1, 639, .inl (ft_now))), (qt_label, .inl (cy.1, 210, .inl (cft_label)))] H → va_D A [(qt, .inr (11, [.ref qt_now, .ref xt_past, .int (it_saved), .ref xt_text, .int (it_length), .ref xt_doors, .int (it_doorMany), .ref qt_label, .int (it_drawn), .ref xt_far, .ref xt_ring, .int (it_walker), .int (it_from), .ref xt_was, .int (it_steps), .int (it_faultAt), .int (it_mover)])), (qt_now, .inl (cy.1, 639, .inl (ft_now))), (qt_label, .inl (cy.1, 210, .inl (cft_label)))] → va_S A s.heap H locs → ∀ (ls : Array Slot), lv_has ls 3 [(0, .ref qt), (1, .int l1), (2, .int l2)] → b_X11_labels_35 N ft_now (b_X11_labels_25 N ft_now n25) n35 l1 l2 cft_label = some out → W p l e (headSpec wsX11_labels rm_X11_labels).room s m ([.ref qt] : List Value).toArray below meth c H locs 0 0 Q (F0 m 35 ls []) := by
        intro n35
        induction n35 with
        | zero => intro l1 l2 cft_label H locs hP hD hS ls hl hf; rw [b_X11_labels_35] at hf; cases hf
        | succ n35 ih35 =>
          intro l1 l2 cft_label H locs hP hD hS ls hl hf
          rw [b_X11_labels_35] at hf
          refine lv_iload_n hx hb dX11_labels_35 rfl (lv_at hl 2 rfl) ?_
          refine lv_iconst (v := (3 : Int32)) hx hb dX11_labels_36 (by decide) ?_
          refine lv_icmp_ge (tgt := 84) hx hb dX11_labels_37 (by decide) (fun hc_37 => ?_) (fun hc_37 => ?_)
          · rw [if_pos hc_37] at hf
            refine lv_iinc (v := (l1 + (1 : Int32))) (lv' := [(1, .int (l1 + (1 : Int32))), (0, .ref qt), (2, .int l2)]) hx hb dX11_labels_84 hl (k := 1) rfl rfl (by decide) rfl (fun ls hl => ?_)
            refine lv_goto (tgt := 25) hx hb dX11_labels_87 (by decide) ?_
            exact ih25 ((l1 + (1 : Int32))) (cft_label) _ _ (hP.sub [0, 1, 2] rfl) (hD.sub [0, 1, 2] (by decide) rfl) hS _ (lv_sub hl [1, 0] rfl) hf
          · rw [if_neg hc_37] at hf
            refine lv_aload_n hx hb dX11_labels_40 rfl (lv_at hl 0 rfl) ?_
            refine lv_iload_n hx hb dX11_labels_41 rfl (lv_at hl 1 rfl) ?_
            obtain ⟨r42, hq_42, hf⟩ := bnd1_s hf
            refine kcalli (wc := [(qt, .inr (11, [.ref qt_now, .ref xt_past, .int (it_saved), .ref xt_text, .int (it_length), .ref xt_doors, .int (it_doorMany), .ref qt_label, .int (it_drawn), .ref xt_far, .ref xt_ring, .int (it_walker), .int (it_from), .ref xt_was, .int (it_steps), .int (it_faultAt), .int (it_mover)])), (qt_now, .inl (cy.1, 639, .inl (ft_now)))]) (wr := [(qt_label, .inl (cy.1, 210, .inl (cft_label)))]) (w1 := [(qt, .inr (11, [.ref qt_now, .ref xt_past, .int (it_saved), .ref xt_text, .int (it_length), .ref xt_doors, .int (it_doorMany), .ref qt_label, .int (it_drawn), .ref xt_far, .ref xt_ring, .int (it_walker), .int (it_from), .ref xt_was, .int (it_steps), .int (it_faultAt), .int (it_mover)])), (qt_now, .inl (cy.1, 639, .inl (ft_now)))]) hK hP hD hS hA hG [0, 1] [2] rfl rfl rfl rfl rfl (fun hU hPc => va_runV (As := [.int l1]) (rest := []) ⟨hx, hb, hml, hown, hts⟩ (c_X11_isRoomAt l dC dI cy G H.size qt qt_now xt_past xt_text xt_doors qt_label xt_far xt_ring xt_was (it_saved) (it_length) (it_doorMany) (it_drawn) (it_walker) (it_from) (it_steps) (it_faultAt) (it_mover) (ft_now) (l1) r42 hq_42) (cwV 1 hts gX11_labels_X11_isRoomAt rfl rfl rfl hdX11_isRoomAt ⟨Nat.le_of_ble_eq_true rfl, Nat.le_of_ble_eq_true rfl⟩) ⟨kBlind, (va_recv hK hP (ci := 11) (q0 := 0) rfl rfl), fun U h1 h2 => ⟨rfl, hU U h1 h2⟩⟩ rfl rfl hl.1 rfl (lv_room (Nat.le_of_ble_eq_true rfl)) dX11_labels_42 ⟨Nat.zero_le _, Nat.zero_le _⟩) (r42) (fun _ _ h => h) (fun _ _ h => h) (fun H locs hP hD hS => ?_)
            have hP : va_P (dC, dI) vwCl [(qt_label, .inl (cy.1, 210, .inl (cft_label))), (qt, .inr (11, [.ref qt_now, .ref xt_past, .int (it_saved), .ref xt_text, .int (it_length), .ref xt_doors, .int (it_doorMany), .ref qt_label, .int (it_drawn), .ref xt_far, .ref xt_ring, .int (it_walker), .int (it_from), .ref xt_was, .int (it_steps), .int (it_faultAt), .int (it_mover)])), (qt_now, .inl (cy.1, 639, .inl (ft_now)))] H := hP
            have hD : va_D A [(qt_label, .inl (cy.1, 210, .inl (cft_label))), (qt, .inr (11, [.ref qt_now, .ref xt_past, .int (it_saved), .ref xt_text, .int (it_length), .ref xt_doors, .int (it_doorMany), .ref qt_label, .int (it_drawn), .ref xt_far, .ref xt_ring, .int (it_walker), .int (it_from), .ref xt_was, .int (it_steps), .int (it_faultAt), .int (it_mover)])), (qt_now, .inl (cy.1, 639, .inl (ft_now)))] := hD
            refine lv_if_eq (tgt := 78) hx hb dX11_labels_45 (by decide) (fun hc_45 => ?_) (fun hc_45 => ?_)
            · rw [if_pos hc_45] at hf
              refine lv_iinc (v := (l2 + (1 : Int32))) (lv' := [(2, .int (l2 + (1 : Int32))), (0, .ref qt), (1, .int l1)]) hx hb dX11_labels_78 hl (k := 2) rfl rfl (by decide) rfl (fun ls hl => ?_)
              refine lv_goto (tgt := 35) hx hb dX11_labels_81 (by decide) ?_
              exact ih35 (l1) ((l2 + (1 : Int32))) (cft_label) _ _ (hP.sub [1, 2, 0] rfl) (hD.sub [1, 2, 0] (by decide) rfl) hS _ (lv_sub hl [1, 2, 0] rfl) hf
            · rw [if_neg hc_45] at hf
              refine lv_aload_n hx hb dX11_labels_48 rfl (lv_at hl 0 rfl) ?_
              refine lv_iload_n hx hb dX11_labels_49 rfl (lv_at hl 1 rfl) ?_
              refine lv_iload_n hx hb dX11_labels_50 rfl (lv_at hl 2 rfl) ?_
              obtain ⟨r51, hq_51, hf⟩ := bnd1_s hf
              refine kcalli (wc := [(qt, .inr (11, [.ref qt_now, .ref xt_past, .int (it_saved), .ref xt_text, .int (it_length), .ref xt_doors, .int (it_doorMany), .ref qt_label, .int (it_drawn), .ref xt_far, .ref xt_ring, .int (it_walker), .int (it_from), .ref xt_was, .int (it_steps), .int (it_faultAt), .int (it_mover)])), (qt_now, .inl (cy.1, 639, .inl (ft_now)))]) (wr := [(qt_label, .inl (cy.1, 210, .inl (cft_label)))]) (w1 := [(qt, .inr (11, [.ref qt_now, .ref xt_past, .int (it_saved), .ref xt_text, .int (it_length), .ref xt_doors, .int (it_doorMany), .ref qt_label, .int (it_drawn), .ref xt_far, .ref xt_ring, .int (it_walker), .int (it_from), .ref xt_was, .int (it_steps), .int (it_faultAt), .int (it_mover)])), (qt_now, .inl (cy.1, 639, .inl (ft_now)))]) hK hP hD hS hA hG [1, 2] [0] rfl rfl rfl rfl rfl (fun hU hPc => va_runV (As := [.int l1, .int l2]) (rest := []) ⟨hx, hb, hml, hown, hts⟩ (c_X11_isOpen l dC dI cy G H.size qt qt_now xt_past xt_text xt_doors qt_label xt_far xt_ring xt_was (it_saved) (it_length) (it_doorMany) (it_drawn) (it_walker) (it_from) (it_steps) (it_faultAt) (it_mover) (ft_now) (l1) (l2) r51 hq_51) (cwV 2 hts gX11_labels_X11_isOpen rfl rfl rfl hdX11_isOpen ⟨Nat.le_of_ble_eq_true rfl, Nat.le_of_ble_eq_true rfl⟩) ⟨kBlind, (va_recv hK hP (ci := 11) (q0 := 1) rfl rfl), fun U h1 h2 => ⟨rfl, hU U h1 h2⟩⟩ rfl rfl hl.1 rfl (lv_room (Nat.le_of_ble_eq_true rfl)) dX11_labels_51 ⟨Nat.zero_le _, Nat.zero_le _⟩) (r51) (fun _ _ h => h) (fun _ _ h => h) (fun H locs hP hD hS => ?_)
              have hP : va_P (dC, dI) vwCl [(qt_label, .inl (cy.1, 210, .inl (cft_label))), (qt, .inr (11, [.ref qt_now, .ref xt_past, .int (it_saved), .ref xt_text, .int (it_length), .ref xt_doors, .int (it_doorMany), .ref qt_label, .int (it_drawn), .ref xt_far, .ref xt_ring, .int (it_walker), .int (it_from), .ref xt_was, .int (it_steps), .int (it_faultAt), .int (it_mover)])), (qt_now, .inl (cy.1, 639, .inl (ft_now)))] H := hP
              have hD : va_D A [(qt_label, .inl (cy.1, 210, .inl (cft_label))), (qt, .inr (11, [.ref qt_now, .ref xt_past, .int (it_saved), .ref xt_text, .int (it_length), .ref xt_doors, .int (it_doorMany), .ref qt_label, .int (it_drawn), .ref xt_far, .ref xt_ring, .int (it_walker), .int (it_from), .ref xt_was, .int (it_steps), .int (it_faultAt), .int (it_mover)])), (qt_now, .inl (cy.1, 639, .inl (ft_now)))] := hD
              refine lv_if_eq (tgt := 78) hx hb dX11_labels_54 (by decide) (fun hc_54 => ?_) (fun hc_54 => ?_)
              · rw [if_pos hc_54] at hf
                refine lv_iinc (v := (l2 + (1 : Int32))) (lv' := [(2, .int (l2 + (1 : Int32))), (0, .ref qt), (1, .int l1)]) hx hb dX11_labels_78 hl (k := 2) rfl rfl (by decide) rfl (fun ls hl => ?_)
                refine lv_goto (tgt := 35) hx hb dX11_labels_81 (by decide) ?_
                exact ih35 (l1) ((l2 + (1 : Int32))) (cft_label) _ _ (hP.sub [1, 2, 0] rfl) (hD.sub [1, 2, 0] (by decide) rfl) hS _ (lv_sub hl [1, 2, 0] rfl) hf
              · rw [if_neg hc_54] at hf
                refine lv_aload_n hx hb dX11_labels_57 rfl (lv_at hl 0 rfl) ?_
                refine lv_aload_n hx hb dX11_labels_58 rfl (lv_at hl 0 rfl) ?_
                refine va_get (D := (dC, dI)) (ci := 11) (C := RX11) (T := TX11) (N := 17) hx hb hts (fun _ h => (List.mem_cons_of_mem _ (List.mem_append_right _ h))) hown hK hP 1 rfl rfl 7 (by decide) (hts _ (List.mem_cons_of_mem _ (List.mem_append_left _ (List.mem_append_left _ (List.mem_of_getElem? (i := 0) rfl))))) (fun _ h => h) rfl dX11_labels_59 ?_
                refine lv_iload_n hx hb dX11_labels_62 rfl (lv_at hl 1 rfl) ?_
                obtain ⟨hk_63, hf⟩ := chk_s hf
                refine va_iald hx hb hK hP 0 0 rfl rfl hk_63 dX11_labels_63 ?_
                refine lv_aload_n hx hb dX11_labels_64 rfl (lv_at hl 0 rfl) ?_
                refine va_get (D := (dC, dI)) (ci := 11) (C := RX11) (T := TX11) (N := 17) hx hb hts (fun _ h => (List.mem_cons_of_mem _ (List.mem_append_right _ h))) hown hK hP 1 rfl rfl 7 (by decide) (hts _ (List.mem_cons_of_mem _ (List.mem_append_left _ (List.mem_append_left _ (List.mem_of_getElem? (i := 0) rfl))))) (fun _ h => h) rfl dX11_labels_65 ?_
                refine lv_aload_n hx hb dX11_labels_68 rfl (lv_at hl 0 rfl) ?_
                refine lv_iload_n hx hb dX11_labels_69 rfl (lv_at hl 1 rfl) ?_
                refine lv_iload_n hx hb dX11_labels_70 rfl (lv_at hl 2 rfl) ?_
                obtain ⟨r71, hq_71, hf⟩ := bnd1_s hf
                refine kcalli (wc := [(qt, .inr (11, [.ref qt_now, .ref xt_past, .int (it_saved), .ref xt_text, .int (it_length), .ref xt_doors, .int (it_doorMany), .ref qt_label, .int (it_drawn), .ref xt_far, .ref xt_ring, .int (it_walker), .int (it_from), .ref xt_was, .int (it_steps), .int (it_faultAt), .int (it_mover)])), (qt_now, .inl (cy.1, 639, .inl (ft_now)))]) (wr := [(qt_label, .inl (cy.1, 210, .inl (cft_label)))]) (w1 := [(qt, .inr (11, [.ref qt_now, .ref xt_past, .int (it_saved), .ref xt_text, .int (it_length), .ref xt_doors, .int (it_doorMany), .ref qt_label, .int (it_drawn), .ref xt_far, .ref xt_ring, .int (it_walker), .int (it_from), .ref xt_was, .int (it_steps), .int (it_faultAt), .int (it_mover)])), (qt_now, .inl (cy.1, 639, .inl (ft_now)))]) hK hP hD hS hA hG [1, 2] [0] rfl rfl rfl rfl rfl (fun hU hPc => va_runV (As := [.int l1, .int l2]) (rest := [.ref qt_label, .int (cft_label (l1).toNatClampNeg), .ref qt]) ⟨hx, hb, hml, hown, hts⟩ (c_X11_beside l dC dI cy G H.size qt qt_now xt_past xt_text xt_doors qt_label xt_far xt_ring xt_was (it_saved) (it_length) (it_doorMany) (it_drawn) (it_walker) (it_from) (it_steps) (it_faultAt) (it_mover) (ft_now) (l1) (l2) r71 hq_71) (cwV 2 hts gX11_labels_X11_beside rfl rfl rfl hdX11_beside ⟨Nat.le_of_ble_eq_true rfl, Nat.le_of_ble_eq_true rfl⟩) ⟨kBlind, (va_recv hK hP (ci := 11) (q0 := 1) rfl rfl), fun U h1 h2 => ⟨rfl, hU U h1 h2⟩⟩ rfl rfl hl.1 rfl (lv_room (Nat.le_of_ble_eq_true rfl)) dX11_labels_71 ⟨Nat.zero_le _, Nat.zero_le _⟩) (r71) (fun _ _ h => h) (fun _ _ h => h) (fun H locs hP hD hS => ?_)
                have hP : va_P (dC, dI) vwCl [(qt_label, .inl (cy.1, 210, .inl (cft_label))), (qt, .inr (11, [.ref qt_now, .ref xt_past, .int (it_saved), .ref xt_text, .int (it_length), .ref xt_doors, .int (it_doorMany), .ref qt_label, .int (it_drawn), .ref xt_far, .ref xt_ring, .int (it_walker), .int (it_from), .ref xt_was, .int (it_steps), .int (it_faultAt), .int (it_mover)])), (qt_now, .inl (cy.1, 639, .inl (ft_now)))] H := hP
                have hD : va_D A [(qt_label, .inl (cy.1, 210, .inl (cft_label))), (qt, .inr (11, [.ref qt_now, .ref xt_past, .int (it_saved), .ref xt_text, .int (it_length), .ref xt_doors, .int (it_doorMany), .ref qt_label, .int (it_drawn), .ref xt_far, .ref xt_ring, .int (it_walker), .int (it_from), .ref xt_was, .int (it_steps), .int (it_faultAt), .int (it_mover)])), (qt_now, .inl (cy.1, 639, .inl (ft_now)))] := hD
                obtain ⟨hk_74, hf⟩ := chk_s hf
                refine va_iald hx hb hK hP 0 0 rfl rfl hk_74 dX11_labels_74 ?_
                obtain ⟨o75_0, hq_75, hf⟩ := bnd1_s hf
                refine kcallv (wc := [(qt, .inr (11, [.ref qt_now, .ref xt_past, .int (it_saved), .ref xt_text, .int (it_length), .ref xt_doors, .int (it_doorMany), .ref qt_label, .int (it_drawn), .ref xt_far, .ref xt_ring, .int (it_walker), .int (it_from), .ref xt_was, .int (it_steps), .int (it_faultAt), .int (it_mover)])), (qt_now, .inl (cy.1, 639, .inl (ft_now))), (qt_label, .inl (cy.1, 210, .inl (cft_label)))]) (wr := []) (w1 := [(qt, .inr (11, [.ref qt_now, .ref xt_past, .int (it_saved), .ref xt_text, .int (it_length), .ref xt_doors, .int (it_doorMany), .ref qt_label, .int (it_drawn), .ref xt_far, .ref xt_ring, .int (it_walker), .int (it_from), .ref xt_was, .int (it_steps), .int (it_faultAt), .int (it_mover)])), (qt_now, .inl (cy.1, 639, .inl (ft_now))), (qt_label, .inl (cy.1, 210, .inl (o75_0)))]) hK hP hD hS hA hG [1, 2, 0] [] rfl rfl rfl rfl rfl (fun hU hPc => va_runV (As := [.int (cft_label (l1).toNatClampNeg), .int (cft_label (r71).toNatClampNeg)]) (rest := []) ⟨hx, hb, hml, hown, hts⟩ (c_X11_joinsTwo l dC dI cy G H.size qt qt_now qt_label xt_past xt_text xt_doors xt_far xt_ring xt_was (it_saved) (it_length) (it_doorMany) (it_drawn) (it_walker) (it_from) (it_steps) (it_faultAt) (it_mover) N (ft_now) (cft_label) ((cft_label (l1).toNatClampNeg)) ((cft_label (r71).toNatClampNeg)) o75_0 hq_75) (cwV 2 hts gX11_labels_X11_joinsTwo rfl rfl rfl hdX11_joinsTwo ⟨Nat.le_of_ble_eq_true rfl, Nat.le_of_ble_eq_true rfl⟩) ⟨kBlind, (va_recv hK hP (ci := 11) (q0 := 1) rfl rfl), fun U h1 h2 => ⟨rfl, hU U h1 h2⟩⟩ rfl rfl hl.1 rfl (lv_room (Nat.le_of_ble_eq_true rfl)) dX11_labels_75 ⟨Nat.zero_le _, Nat.zero_le _⟩) (fun _ _ h => h) (fun H locs hP hD hS => ?_)
                have hP : va_P (dC, dI) vwCl [(qt, .inr (11, [.ref qt_now, .ref xt_past, .int (it_saved), .ref xt_text, .int (it_length), .ref xt_doors, .int (it_doorMany), .ref qt_label, .int (it_drawn), .ref xt_far, .ref xt_ring, .int (it_walker), .int (it_from), .ref xt_was, .int (it_steps), .int (it_faultAt), .int (it_mover)])), (qt_now, .inl (cy.1, 639, .inl (ft_now))), (qt_label, .inl (cy.1, 210, .inl (o75_0)))] H := hP
                have hD : va_D A [(qt, .inr (11, [.ref qt_now, .ref xt_past, .int (it_saved), .ref xt_text, .int (it_length), .ref xt_doors, .int (it_doorMany), .ref qt_label, .int (it_drawn), .ref xt_far, .ref xt_ring, .int (it_walker), .int (it_from), .ref xt_was, .int (it_steps), .int (it_faultAt), .int (it_mover)])), (qt_now, .inl (cy.1, 639, .inl (ft_now))), (qt_label, .inl (cy.1, 210, .inl (o75_0)))] := hD
                refine lv_iinc (v := (l2 + (1 : Int32))) (lv' := [(2, .int (l2 + (1 : Int32))), (0, .ref qt), (1, .int l1)]) hx hb dX11_labels_78 hl (k := 2) rfl rfl (by decide) rfl (fun ls hl => ?_)
                refine lv_goto (tgt := 35) hx hb dX11_labels_81 (by decide) ?_
                exact ih35 (l1) ((l2 + (1 : Int32))) (o75_0) _ _ (hP.sub [0, 1, 2] rfl) (hD.sub [0, 1, 2] (by decide) rfl) hS _ (lv_sub hl [1, 2, 0] rfl) hf
      intro l1 cft_label H locs hP hD hS ls hl hf
      rw [b_X11_labels_25] at hf
      refine lv_iload_n hx hb dX11_labels_25 rfl (lv_at hl 1 rfl) ?_
      refine lv_aload_n hx hb dX11_labels_26 rfl (lv_at hl 0 rfl) ?_
      refine kcalli (wc := [(qt, .inr (11, [.ref qt_now, .ref xt_past, .int (it_saved), .ref xt_text, .int (it_length), .ref xt_doors, .int (it_doorMany), .ref qt_label, .int (it_drawn), .ref xt_far, .ref xt_ring, .int (it_walker), .int (it_from), .ref xt_was, .int (it_steps), .int (it_faultAt), .int (it_mover)])), (qt_now, .inl (cy.1, 639, .inl (ft_now)))]) (wr := [(qt_label, .inl (cy.1, 210, .inl (cft_label)))]) (w1 := [(qt, .inr (11, [.ref qt_now, .ref xt_past, .int (it_saved), .ref xt_text, .int (it_length), .ref xt_doors, .int (it_doorMany), .ref qt_label, .int (it_drawn), .ref xt_far, .ref xt_ring, .int (it_walker), .int (it_from), .ref xt_was, .int (it_steps), .int (it_faultAt), .int (it_mover)])), (qt_now, .inl (cy.1, 639, .inl (ft_now)))]) hK hP hD hS hA hG [0, 1] [2] rfl rfl rfl rfl rfl (fun hU hPc => va_runV (As := []) (rest := [.int l1]) ⟨hx, hb, hml, hown, hts⟩ (c_X11_cells l dC dI cy G H.size qt qt_now xt_past xt_text xt_doors qt_label xt_far xt_ring xt_was (it_saved) (it_length) (it_doorMany) (it_drawn) (it_walker) (it_from) (it_steps) (it_faultAt) (it_mover) (ft_now) (t_X11_cells (ft_now)) (tot_X11_cells (ft_now))) (cwV 0 hts gX11_labels_X11_cells rfl rfl rfl hdX11_cells ⟨Nat.le_of_ble_eq_true rfl, Nat.le_of_ble_eq_true rfl⟩) ⟨kBlind, (va_recv hK hP (ci := 11) (q0 := 0) rfl rfl), fun U h1 h2 => ⟨rfl, hU U h1 h2⟩⟩ rfl rfl hl.1 rfl (lv_room (Nat.le_of_ble_eq_true rfl)) dX11_labels_27 ⟨Nat.zero_le _, Nat.zero_le _⟩) ((t_X11_cells (ft_now))) (fun _ _ h => h) (fun _ _ h => h) (fun H locs hP hD hS => ?_)
      have hP : va_P (dC, dI) vwCl [(qt_label, .inl (cy.1, 210, .inl (cft_label))), (qt, .inr (11, [.ref qt_now, .ref xt_past, .int (it_saved), .ref xt_text, .int (it_length), .ref xt_doors, .int (it_doorMany), .ref qt_label, .int (it_drawn), .ref xt_far, .ref xt_ring, .int (it_walker), .int (it_from), .ref xt_was, .int (it_steps), .int (it_faultAt), .int (it_mover)])), (qt_now, .inl (cy.1, 639, .inl (ft_now)))] H := hP
      have hD : va_D A [(qt_label, .inl (cy.1, 210, .inl (cft_label))), (qt, .inr (11, [.ref qt_now, .ref xt_past, .int (it_saved), .ref xt_text, .int (it_length), .ref xt_doors, .int (it_doorMany), .ref qt_label, .int (it_drawn), .ref xt_far, .ref xt_ring, .int (it_walker), .int (it_from), .ref xt_was, .int (it_steps), .int (it_faultAt), .int (it_mover)])), (qt_now, .inl (cy.1, 639, .inl (ft_now)))] := hD
      refine lv_icmp_ge (tgt := 90) hx hb dX11_labels_30 (by decide) (fun hc_30 => ?_) (fun hc_30 => ?_)
      · rw [if_pos hc_30] at hf
        cases hf
        subst hQ
        exact kvret hx hb hr hlocks hK (hP.sub [1, 2, 0] rfl) (hD.sub [1, 2, 0] (by decide) rfl) hS trivial dX11_labels_90
      · rw [if_neg hc_30] at hf
        refine lv_iconst (v := (1 : Int32)) hx hb dX11_labels_33 (by decide) ?_
        refine lv_istore_n (lv' := [(2, .int (1 : Int32)), (0, .ref qt), (1, .int l1)]) hx hb dX11_labels_34 rfl hl (by decide) rfl (fun ls hl => ?_)
        exact B35 N (l1) ((1 : Int32)) (cft_label) _ _ (hP.sub [1, 2, 0] rfl) (hD.sub [1, 2, 0] (by decide) rfl) hS _ (lv_sub hl [1, 2, 0] rfl) hf
  have B2 : ∀ (n2 : Nat) (l1 : Int32) (cft_label : Nat → Int32) (H : Heap) (locs : List Loc), va_P (dC, dI) vwCl [(qt, .inr (11, [.ref qt_now, .ref xt_past, .int (it_saved), .ref xt_text, .int (it_length), .ref xt_doors, .int (it_doorMany), .ref qt_label, .int (it_drawn), .ref xt_far, .ref xt_ring, .int (it_walker), .int (it_from), .ref xt_was, .int (it_steps), .int (it_faultAt), .int (it_mover)])), (qt_now, .inl (cy.1, 639, .inl (ft_now))), (qt_label, .inl (cy.1, 210, .inl (cft_label)))] H → va_D A [(qt, .inr (11, [.ref qt_now, .ref xt_past, .int (it_saved), .ref xt_text, .int (it_length), .ref xt_doors, .int (it_doorMany), .ref qt_label, .int (it_drawn), .ref xt_far, .ref xt_ring, .int (it_walker), .int (it_from), .ref xt_was, .int (it_steps), .int (it_faultAt), .int (it_mover)])), (qt_now, .inl (cy.1, 639, .inl (ft_now))), (qt_label, .inl (cy.1, 210, .inl (cft_label)))] → va_S A s.heap H locs → ∀ (ls : Array Slot), lv_has ls 3 [(0, .ref qt), (1, .int l1)] → b_X11_labels_2 N ft_now n2 l1 cft_label = some out → W p l e (headSpec wsX11_labels rm_X11_labels).room s m ([.ref qt] : List Value).toArray below meth c H locs 0 0 Q (F0 m 2 ls []) := by
    intro n2
    induction n2 with
    | zero => intro l1 cft_label H locs hP hD hS ls hl hf; rw [b_X11_labels_2] at hf; cases hf
    | succ n2 ih2 =>
      intro l1 cft_label H locs hP hD hS ls hl hf
      rw [b_X11_labels_2] at hf
      refine lv_iload_n hx hb dX11_labels_2 rfl (lv_at hl 1 rfl) ?_
      refine lv_aload_n hx hb dX11_labels_3 rfl (lv_at hl 0 rfl) ?_
      refine kcalli (wc := [(qt, .inr (11, [.ref qt_now, .ref xt_past, .int (it_saved), .ref xt_text, .int (it_length), .ref xt_doors, .int (it_doorMany), .ref qt_label, .int (it_drawn), .ref xt_far, .ref xt_ring, .int (it_walker), .int (it_from), .ref xt_was, .int (it_steps), .int (it_faultAt), .int (it_mover)])), (qt_now, .inl (cy.1, 639, .inl (ft_now)))]) (wr := [(qt_label, .inl (cy.1, 210, .inl (cft_label)))]) (w1 := [(qt, .inr (11, [.ref qt_now, .ref xt_past, .int (it_saved), .ref xt_text, .int (it_length), .ref xt_doors, .int (it_doorMany), .ref qt_label, .int (it_drawn), .ref xt_far, .ref xt_ring, .int (it_walker), .int (it_from), .ref xt_was, .int (it_steps), .int (it_faultAt), .int (it_mover)])), (qt_now, .inl (cy.1, 639, .inl (ft_now)))]) hK hP hD hS hA hG [0, 1] [2] rfl rfl rfl rfl rfl (fun hU hPc => va_runV (As := []) (rest := [.int l1]) ⟨hx, hb, hml, hown, hts⟩ (c_X11_cells l dC dI cy G H.size qt qt_now xt_past xt_text xt_doors qt_label xt_far xt_ring xt_was (it_saved) (it_length) (it_doorMany) (it_drawn) (it_walker) (it_from) (it_steps) (it_faultAt) (it_mover) (ft_now) (t_X11_cells (ft_now)) (tot_X11_cells (ft_now))) (cwV 0 hts gX11_labels_X11_cells rfl rfl rfl hdX11_cells ⟨Nat.le_of_ble_eq_true rfl, Nat.le_of_ble_eq_true rfl⟩) ⟨kBlind, (va_recv hK hP (ci := 11) (q0 := 0) rfl rfl), fun U h1 h2 => ⟨rfl, hU U h1 h2⟩⟩ rfl rfl hl.1 rfl (lv_room (Nat.le_of_ble_eq_true rfl)) dX11_labels_4 ⟨Nat.zero_le _, Nat.zero_le _⟩) ((t_X11_cells (ft_now))) (fun _ _ h => h) (fun _ _ h => h) (fun H locs hP hD hS => ?_)
      have hP : va_P (dC, dI) vwCl [(qt_label, .inl (cy.1, 210, .inl (cft_label))), (qt, .inr (11, [.ref qt_now, .ref xt_past, .int (it_saved), .ref xt_text, .int (it_length), .ref xt_doors, .int (it_doorMany), .ref qt_label, .int (it_drawn), .ref xt_far, .ref xt_ring, .int (it_walker), .int (it_from), .ref xt_was, .int (it_steps), .int (it_faultAt), .int (it_mover)])), (qt_now, .inl (cy.1, 639, .inl (ft_now)))] H := hP
      have hD : va_D A [(qt_label, .inl (cy.1, 210, .inl (cft_label))), (qt, .inr (11, [.ref qt_now, .ref xt_past, .int (it_saved), .ref xt_text, .int (it_length), .ref xt_doors, .int (it_doorMany), .ref qt_label, .int (it_drawn), .ref xt_far, .ref xt_ring, .int (it_walker), .int (it_from), .ref xt_was, .int (it_steps), .int (it_faultAt), .int (it_mover)])), (qt_now, .inl (cy.1, 639, .inl (ft_now)))] := hD
      refine lv_icmp_ge (tgt := 23) hx hb dX11_labels_7 (by decide) (fun hc_7 => ?_) (fun hc_7 => ?_)
      · rw [if_pos hc_7] at hf
        refine lv_iconst (v := (0 : Int32)) hx hb dX11_labels_23 (by decide) ?_
        refine lv_istore_n (lv' := [(1, .int (0 : Int32)), (0, .ref qt)]) hx hb dX11_labels_24 rfl hl (by decide) rfl (fun ls hl => ?_)
        exact B25 N ((0 : Int32)) (cft_label) _ _ (hP.sub [1, 2, 0] rfl) (hD.sub [1, 2, 0] (by decide) rfl) hS _ (lv_sub hl [1, 0] rfl) hf
      · rw [if_neg hc_7] at hf
        refine lv_aload_n hx hb dX11_labels_10 rfl (lv_at hl 0 rfl) ?_
        refine va_get (D := (dC, dI)) (ci := 11) (C := RX11) (T := TX11) (N := 17) hx hb hts (fun _ h => (List.mem_cons_of_mem _ (List.mem_append_right _ h))) hown hK hP 1 rfl rfl 7 (by decide) (hts _ (List.mem_cons_of_mem _ (List.mem_append_left _ (List.mem_append_left _ (List.mem_of_getElem? (i := 0) rfl))))) (fun _ h => h) rfl dX11_labels_11 ?_
        refine lv_iload_n hx hb dX11_labels_14 rfl (lv_at hl 1 rfl) ?_
        refine lv_iload_n hx hb dX11_labels_15 rfl (lv_at hl 1 rfl) ?_
        obtain ⟨hk_16, hf⟩ := chk_s hf
        refine va_iast hx hb hK hP hD hS 0 0 rfl rfl hk_16 dX11_labels_16 (fun H locs hP hD hS => ?_)
        have hP : va_P (dC, dI) vwCl [(qt_label, .inl (cy.1, 210, .inl ((upd cft_label (l1).toNatClampNeg l1)))), (qt, .inr (11, [.ref qt_now, .ref xt_past, .int (it_saved), .ref xt_text, .int (it_length), .ref xt_doors, .int (it_doorMany), .ref qt_label, .int (it_drawn), .ref xt_far, .ref xt_ring, .int (it_walker), .int (it_from), .ref xt_was, .int (it_steps), .int (it_faultAt), .int (it_mover)])), (qt_now, .inl (cy.1, 639, .inl (ft_now)))] H := hP
        have hD : va_D A [(qt_label, .inl (cy.1, 210, .inl ((upd cft_label (l1).toNatClampNeg l1)))), (qt, .inr (11, [.ref qt_now, .ref xt_past, .int (it_saved), .ref xt_text, .int (it_length), .ref xt_doors, .int (it_doorMany), .ref qt_label, .int (it_drawn), .ref xt_far, .ref xt_ring, .int (it_walker), .int (it_from), .ref xt_was, .int (it_steps), .int (it_faultAt), .int (it_mover)])), (qt_now, .inl (cy.1, 639, .inl (ft_now)))] := hD
        refine lv_iinc (v := (l1 + (1 : Int32))) (lv' := [(1, .int (l1 + (1 : Int32))), (0, .ref qt)]) hx hb dX11_labels_17 hl (k := 1) rfl rfl (by decide) rfl (fun ls hl => ?_)
        refine lv_goto (tgt := 2) hx hb dX11_labels_20 (by decide) ?_
        exact ih2 ((l1 + (1 : Int32))) ((upd cft_label (l1).toNatClampNeg l1)) _ _ (hP.sub [1, 2, 0] rfl) (hD.sub [1, 2, 0] (by decide) rfl) hS _ (lv_sub hl [1, 0] rfl) hf
  rw [f_X11_labels] at hf
  refine lv_iconst (v := (0 : Int32)) hx hb dX11_labels_0 (by decide) ?_
  refine lv_istore_n (lv' := [(1, .int (0 : Int32)), (0, .ref qt)]) hx hb dX11_labels_1 rfl hl (by decide) rfl (fun ls hl => ?_)
  exact B2 N ((0 : Int32)) (ft_label) _ _ (hP.sub [0, 1, 2] rfl) (hD.sub [0, 1, 2] (by decide) rfl) hS _ (lv_sub hl [1, 0] rfl) hf
theorem hdX11_labels : yX11_labels.cls = RX11 ∧ yX11_labels.cls ≠ "java/lang/invoke/MethodHandle" ∧ yX11_labels.cls ≠ "java/lang/invoke/VarHandle" ∧ (parseMethodDescriptor yX11_labels.desc).map (fun d => d.parameters.length) = some 0 := by decide +kernel

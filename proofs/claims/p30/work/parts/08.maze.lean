noncomputable def f_X6_take (it_size : Int32) (it_start : Int32) (it_goal : Int32) (ft_letters : Nat → Int32) (ft_open : Nat → Int32) (ft_signs : Nat → Int32) (ia1_size : Int32) (ia1_start : Int32) (ia1_goal : Int32) (fa1_letters : Nat → Int32) (fa1_open : Nat → Int32) (fa1_signs : Nat → Int32) : Option (Int32 × Int32 × Int32 × (Nat → Int32) × (Nat → Int32) × (Nat → Int32)) :=
  some (ia1_size, ia1_start, ia1_goal, (t_X4_take 6 6 (ft_letters) (fa1_letters)), (t_X4_take 210 210 (ft_open) (fa1_open)), (t_X4_take 210 210 (ft_signs) (fa1_signs)))
abbrev rm_X6_take : Room := { frames := 2, cells := 0, slots := 0, locals := 81 }
set_option maxHeartbeats 4000000 in
set_option maxRecDepth 100000 in
theorem c_X6_take (l : Launch) (dC : Nat → ClassId) (dI : Nat → Nat → Nat) (cy : gC) (G : gT) (sz : Nat) (qt : Nat) (qt_letters : Nat) (qt_letters_values : Nat) (qt_open : Nat) (qt_open_values : Nat) (qt_signs : Nat) (qt_signs_values : Nat) (qa1 : Nat) (qa1_letters : Nat) (qa1_letters_values : Nat) (qa1_open : Nat) (qa1_open_values : Nat) (qa1_signs : Nat) (qa1_signs_values : Nat) (it_size : Int32) (it_start : Int32) (it_goal : Int32) (ft_letters : Nat → Int32) (ft_open : Nat → Int32) (ft_signs : Nat → Int32) (ia1_size : Int32) (ia1_start : Int32) (ia1_goal : Int32) (fa1_letters : Nat → Int32) (fa1_open : Nat → Int32) (fa1_signs : Nat → Int32) (out : Int32 × Int32 × Int32 × (Nat → Int32) × (Nat → Int32) × (Nat → Int32)) (hf : f_X6_take it_size it_start it_goal ft_letters ft_open ft_signs ia1_size ia1_start ia1_goal fa1_letters fa1_open fa1_signs = some out) : Met l yX6_take wsX6_take rm_X6_take (va_Pc [.ref qt, .ref qa1] (kP (dC, dI) cy G [(qt, .inr (6, [.ref qt_letters, .ref qt_open, .ref qt_signs, .int (it_size), .int (it_start), .int (it_goal)])), (qt_letters, .inr (4, [.ref qt_letters_values])), (qt_letters_values, .inl (cy.1, 6, .inl (ft_letters))), (qt_open, .inr (4, [.ref qt_open_values])), (qt_open_values, .inl (cy.1, 210, .inl (ft_open))), (qt_signs, .inr (4, [.ref qt_signs_values])), (qt_signs_values, .inl (cy.1, 210, .inl (ft_signs))), (qa1, .inr (6, [.ref qa1_letters, .ref qa1_open, .ref qa1_signs, .int (ia1_size), .int (ia1_start), .int (ia1_goal)])), (qa1_letters, .inr (4, [.ref qa1_letters_values])), (qa1_letters_values, .inl (cy.1, 6, .inl (fa1_letters))), (qa1_open, .inr (4, [.ref qa1_open_values])), (qa1_open_values, .inl (cy.1, 210, .inl (fa1_open))), (qa1_signs, .inr (4, [.ref qa1_signs_values])), (qa1_signs_values, .inl (cy.1, 210, .inl (fa1_signs)))] sz)) (va_Qv (fun (_ : Unit) => True) (fun _ => kQ (dC, dI) cy [(qt, .inr (6, [.ref qt_letters, .ref qt_open, .ref qt_signs, .int (out.1), .int (out.2.1), .int (out.2.2.1)])), (qt_letters, .inr (4, [.ref qt_letters_values])), (qt_letters_values, .inl (cy.1, 6, .inl (out.2.2.2.1))), (qt_open, .inr (4, [.ref qt_open_values])), (qt_open_values, .inl (cy.1, 210, .inl (out.2.2.2.2.1))), (qt_signs, .inr (4, [.ref qt_signs_values])), (qt_signs_values, .inl (cy.1, 210, .inl (out.2.2.2.2.2))), (qa1, .inr (6, [.ref qa1_letters, .ref qa1_open, .ref qa1_signs, .int (ia1_size), .int (ia1_start), .int (ia1_goal)])), (qa1_letters, .inr (4, [.ref qa1_letters_values])), (qa1_letters_values, .inl (cy.1, 6, .inl (fa1_letters))), (qa1_open, .inr (4, [.ref qa1_open_values])), (qa1_open_values, .inl (cy.1, 210, .inl (fa1_open))), (qa1_signs, .inr (4, [.ref qa1_signs_values])), (qa1_signs_values, .inl (cy.1, 210, .inl (fa1_signs)))] (va_A [(qt, .inr (6, [.ref qt_letters, .ref qt_open, .ref qt_signs, .int (it_size), .int (it_start), .int (it_goal)])), (qt_letters, .inr (4, [.ref qt_letters_values])), (qt_letters_values, .inl (cy.1, 6, .inl (ft_letters))), (qt_open, .inr (4, [.ref qt_open_values])), (qt_open_values, .inl (cy.1, 210, .inl (ft_open))), (qt_signs, .inr (4, [.ref qt_signs_values])), (qt_signs_values, .inl (cy.1, 210, .inl (ft_signs))), (qa1, .inr (6, [.ref qa1_letters, .ref qa1_open, .ref qa1_signs, .int (ia1_size), .int (ia1_start), .int (ia1_goal)])), (qa1_letters, .inr (4, [.ref qa1_letters_values])), (qa1_letters_values, .inl (cy.1, 6, .inl (fa1_letters))), (qa1_open, .inr (4, [.ref qa1_open_values])), (qa1_open_values, .inl (cy.1, 210, .inl (fa1_open))), (qa1_signs, .inr (4, [.ref qa1_signs_values])), (qa1_signs_values, .inl (cy.1, 210, .inl (fa1_signs)))] sz)) (va_A [(qt, .inr (6, [.ref qt_letters, .ref qt_open, .ref qt_signs, .int (it_size), .int (it_start), .int (it_goal)])), (qt_letters, .inr (4, [.ref qt_letters_values])), (qt_letters_values, .inl (cy.1, 6, .inl (ft_letters))), (qt_open, .inr (4, [.ref qt_open_values])), (qt_open_values, .inl (cy.1, 210, .inl (ft_open))), (qt_signs, .inr (4, [.ref qt_signs_values])), (qt_signs_values, .inl (cy.1, 210, .inl (ft_signs))), (qa1, .inr (6, [.ref qa1_letters, .ref qa1_open, .ref qa1_signs, .int (ia1_size), .int (ia1_start), .int (ia1_goal)])), (qa1_letters, .inr (4, [.ref qa1_letters_values])), (qa1_letters_values, .inl (cy.1, 6, .inl (fa1_letters))), (qa1_open, .inr (4, [.ref qa1_open_values])), (qa1_open_values, .inl (cy.1, 210, .inl (fa1_open))), (qa1_signs, .inr (4, [.ref qa1_signs_values])), (qa1_signs_values, .inl (cy.1, 210, .inl (fa1_signs)))] sz)) 0 0 (va_A [(qt, .inr (6, [.ref qt_letters, .ref qt_open, .ref qt_signs, .int (it_size), .int (it_start), .int (it_goal)])), (qt_letters, .inr (4, [.ref qt_letters_values])), (qt_letters_values, .inl (cy.1, 6, .inl (ft_letters))), (qt_open, .inr (4, [.ref qt_open_values])), (qt_open_values, .inl (cy.1, 210, .inl (ft_open))), (qt_signs, .inr (4, [.ref qt_signs_values])), (qt_signs_values, .inl (cy.1, 210, .inl (ft_signs))), (qa1, .inr (6, [.ref qa1_letters, .ref qa1_open, .ref qa1_signs, .int (ia1_size), .int (ia1_start), .int (ia1_goal)])), (qa1_letters, .inr (4, [.ref qa1_letters_values])), (qa1_letters_values, .inl (cy.1, 6, .inl (fa1_letters))), (qa1_open, .inr (4, [.ref qa1_open_values])), (qa1_open_values, .inl (cy.1, 210, .inl (fa1_open))), (qa1_signs, .inr (4, [.ref qa1_signs_values])), (qa1_signs_values, .inl (cy.1, 210, .inl (fa1_signs)))] sz) := by
  refine Met.ofW (cc := cX6_take) (maxL := 2) (ret := none) (by decide) rfl ?_
  intro p e s m args below meth c s₁ B hml hv
  obtain ⟨rfl, hsz, hP, hK, hD0, hG⟩ := hv
  have hx := B.exec
  have hb := B.bytes
  have hr := B.returns
  have hts := atoms_spec (ws := wsX6_take) B.pre
  have hown : s.vm.findClass RX6 = some m.cls := findClass_of_methodNamed B.named
  have hlocks := B.notSynchronized
  subst hsz
  have hD := hD0.self (sz := s.heap.size)
  generalize hAe : va_A [(qt, .inr (6, [.ref qt_letters, .ref qt_open, .ref qt_signs, .int (it_size), .int (it_start), .int (it_goal)])), (qt_letters, .inr (4, [.ref qt_letters_values])), (qt_letters_values, .inl (cy.1, 6, .inl (ft_letters))), (qt_open, .inr (4, [.ref qt_open_values])), (qt_open_values, .inl (cy.1, 210, .inl (ft_open))), (qt_signs, .inr (4, [.ref qt_signs_values])), (qt_signs_values, .inl (cy.1, 210, .inl (ft_signs))), (qa1, .inr (6, [.ref qa1_letters, .ref qa1_open, .ref qa1_signs, .int (ia1_size), .int (ia1_start), .int (ia1_goal)])), (qa1_letters, .inr (4, [.ref qa1_letters_values])), (qa1_letters_values, .inl (cy.1, 6, .inl (fa1_letters))), (qa1_open, .inr (4, [.ref qa1_open_values])), (qa1_open_values, .inl (cy.1, 210, .inl (fa1_open))), (qa1_signs, .inr (4, [.ref qa1_signs_values])), (qa1_signs_values, .inl (cy.1, 210, .inl (fa1_signs)))] s.heap.size = A at hD hG ⊢
  have hA : ∀ q : Nat, s.heap.size ≤ q → A q := fun q h => by rw [← hAe]; exact Or.inr h
  have hS : va_S A s.heap s.heap [] := va_S.rf
  have hP : va_P (dC, dI) vwCl [(qt, .inr (6, [.ref qt_letters, .ref qt_open, .ref qt_signs, .int (it_size), .int (it_start), .int (it_goal)])), (qt_letters, .inr (4, [.ref qt_letters_values])), (qt_letters_values, .inl (cy.1, 6, .inl (ft_letters))), (qt_open, .inr (4, [.ref qt_open_values])), (qt_open_values, .inl (cy.1, 210, .inl (ft_open))), (qt_signs, .inr (4, [.ref qt_signs_values])), (qt_signs_values, .inl (cy.1, 210, .inl (ft_signs))), (qa1, .inr (6, [.ref qa1_letters, .ref qa1_open, .ref qa1_signs, .int (ia1_size), .int (ia1_start), .int (ia1_goal)])), (qa1_letters, .inr (4, [.ref qa1_letters_values])), (qa1_letters_values, .inl (cy.1, 6, .inl (fa1_letters))), (qa1_open, .inr (4, [.ref qa1_open_values])), (qa1_open_values, .inl (cy.1, 210, .inl (fa1_open))), (qa1_signs, .inr (4, [.ref qa1_signs_values])), (qa1_signs_values, .inl (cy.1, 210, .inl (fa1_signs)))] s.heap := hP
  have hl := lv_entry ([.ref qt, .ref qa1]) (n := 2) (Nat.le_of_ble_eq_true rfl)
  rw [lg_entry_eq]
  generalize (lg_sl ([.ref qt, .ref qa1]) ++ List.replicate (2 - (lg_sl ([.ref qt, .ref qa1])).length) Slot.unset).toArray = ls at hl ⊢
  have hl : lv_has ls 2 [(0, .ref qt), (1, .ref qa1)] := hl
  refine kgen (fun Q hQ => ?_)
  rw [f_X6_take] at hf
  refine lv_aload_n hx hb dX6_take_0 rfl (lv_at hl 0 rfl) ?_
  refine va_get (D := (dC, dI)) (ci := 6) (C := RX6) (T := TX6) (N := 6) hx hb hts (fun _ h => (List.mem_cons_of_mem _ (List.mem_append_left _ (List.mem_append_right _ h)))) hown hK hP 0 rfl rfl 0 (by decide) (hts _ (List.mem_cons_of_mem _ (List.mem_append_left _ (List.mem_append_left _ (List.mem_of_getElem? (i := 0) rfl))))) (fun _ h => h) rfl dX6_take_1 ?_
  refine lv_aload_n hx hb dX6_take_4 rfl (lv_at hl 1 rfl) ?_
  refine va_get (D := (dC, dI)) (ci := 6) (C := RX6) (T := TX6) (N := 6) hx hb hts (fun _ h => (List.mem_cons_of_mem _ (List.mem_append_left _ (List.mem_append_right _ h)))) hown hK hP 7 rfl rfl 0 (by decide) (hts _ (List.mem_cons_of_mem _ (List.mem_append_left _ (List.mem_append_left _ (List.mem_of_getElem? (i := 0) rfl))))) (fun _ h => h) rfl dX6_take_5 ?_
  refine kcallv (wc := [(qt_letters, .inr (4, [.ref qt_letters_values])), (qt_letters_values, .inl (cy.1, 6, .inl (ft_letters))), (qa1_letters, .inr (4, [.ref qa1_letters_values])), (qa1_letters_values, .inl (cy.1, 6, .inl (fa1_letters)))]) (wr := [(qt, .inr (6, [.ref qt_letters, .ref qt_open, .ref qt_signs, .int (it_size), .int (it_start), .int (it_goal)])), (qt_open, .inr (4, [.ref qt_open_values])), (qt_open_values, .inl (cy.1, 210, .inl (ft_open))), (qt_signs, .inr (4, [.ref qt_signs_values])), (qt_signs_values, .inl (cy.1, 210, .inl (ft_signs))), (qa1, .inr (6, [.ref qa1_letters, .ref qa1_open, .ref qa1_signs, .int (ia1_size), .int (ia1_start), .int (ia1_goal)])), (qa1_open, .inr (4, [.ref qa1_open_values])), (qa1_open_values, .inl (cy.1, 210, .inl (fa1_open))), (qa1_signs, .inr (4, [.ref qa1_signs_values])), (qa1_signs_values, .inl (cy.1, 210, .inl (fa1_signs)))]) (w1 := [(qt_letters, .inr (4, [.ref qt_letters_values])), (qt_letters_values, .inl (cy.1, 6, .inl ((t_X4_take 6 6 (ft_letters) (fa1_letters))))), (qa1_letters, .inr (4, [.ref qa1_letters_values])), (qa1_letters_values, .inl (cy.1, 6, .inl (fa1_letters)))]) hK hP hD hS hA hG [1, 2, 8, 9] [0, 3, 4, 5, 6, 7, 10, 11, 12, 13] rfl rfl rfl rfl rfl (fun hU hPc => va_runV (As := [.ref qa1_letters]) (rest := []) ⟨hx, hb, hml, hown, hts⟩ (c_X4_take l dC dI cy G s.heap.size qt_letters qt_letters_values qa1_letters qa1_letters_values 6 6 (ft_letters) (fa1_letters) (by decide) (by decide) (t_X4_take 6 6 (ft_letters) (fa1_letters)) (tot_X4_take 6 6 (ft_letters) (fa1_letters))) (cwV 1 hts gX6_take_X4_take rfl rfl rfl hdX4_take ⟨Nat.le_of_ble_eq_true rfl, Nat.le_of_ble_eq_true rfl⟩) ⟨kBlind, (va_recv hK hP (ci := 4) (q0 := 1) rfl rfl), fun U h1 h2 => ⟨rfl, hU U h1 h2⟩⟩ rfl rfl hl.1 rfl (lv_room (Nat.le_of_ble_eq_true rfl)) dX6_take_8 ⟨Nat.zero_le _, Nat.zero_le _⟩) (fun _ _ h => h) (fun H locs hP hD hS => ?_)
  have hP : va_P (dC, dI) vwCl [(qt, .inr (6, [.ref qt_letters, .ref qt_open, .ref qt_signs, .int (it_size), .int (it_start), .int (it_goal)])), (qt_open, .inr (4, [.ref qt_open_values])), (qt_open_values, .inl (cy.1, 210, .inl (ft_open))), (qt_signs, .inr (4, [.ref qt_signs_values])), (qt_signs_values, .inl (cy.1, 210, .inl (ft_signs))), (qa1, .inr (6, [.ref qa1_letters, .ref qa1_open, .ref qa1_signs, .int (ia1_size), .int (ia1_start), .int (ia1_goal)])), (qa1_open, .inr (4, [.ref qa1_open_values])), (qa1_open_values, .inl (cy.1, 210, .inl (fa1_open))), (qa1_signs, .inr (4, [.ref qa1_signs_values])), (qa1_signs_values, .inl (cy.1, 210, .inl (fa1_signs))), (qt_letters, .inr (4, [.ref qt_letters_values])), (qt_letters_values, .inl (cy.1, 6, .inl ((t_X4_take 6 6 (ft_letters) (fa1_letters))))), (qa1_letters, .inr (4, [.ref qa1_letters_values])), (qa1_letters_values, .inl (cy.1, 6, .inl (fa1_letters)))] H := hP
  have hD : va_D A [(qt, .inr (6, [.ref qt_letters, .ref qt_open, .ref qt_signs, .int (it_size), .int (it_start), .int (it_goal)])), (qt_open, .inr (4, [.ref qt_open_values])), (qt_open_values, .inl (cy.1, 210, .inl (ft_open))), (qt_signs, .inr (4, [.ref qt_signs_values])), (qt_signs_values, .inl (cy.1, 210, .inl (ft_signs))), (qa1, .inr (6, [.ref qa1_letters, .ref qa1_open, .ref qa1_signs, .int (ia1_size), .int (ia1_start), .int (ia1_goal)])), (qa1_open, .inr (4, [.ref qa1_open_values])), (qa1_open_values, .inl (cy.1, 210, .inl (fa1_open))), (qa1_signs, .inr (4, [.ref qa1_signs_values])), (qa1_signs_values, .inl (cy.1, 210, .inl (fa1_signs))), (qt_letters, .inr (4, [.ref qt_letters_values])), (qt_letters_values, .inl (cy.1, 6, .inl ((t_X4_take 6 6 (ft_letters) (fa1_letters))))), (qa1_letters, .inr (4, [.ref qa1_letters_values])), (qa1_letters_values, .inl (cy.1, 6, .inl (fa1_letters)))] := hD
  refine lv_aload_n hx hb dX6_take_11 rfl (lv_at hl 0 rfl) ?_
  refine va_get (D := (dC, dI)) (ci := 6) (C := RX6) (T := TX6) (N := 6) hx hb hts (fun _ h => (List.mem_cons_of_mem _ (List.mem_append_left _ (List.mem_append_right _ h)))) hown hK hP 0 rfl rfl 1 (by decide) (hts _ (List.mem_cons_of_mem _ (List.mem_append_left _ (List.mem_append_left _ (List.mem_of_getElem? (i := 1) rfl))))) (fun _ h => h) rfl dX6_take_12 ?_
  refine lv_aload_n hx hb dX6_take_15 rfl (lv_at hl 1 rfl) ?_
  refine va_get (D := (dC, dI)) (ci := 6) (C := RX6) (T := TX6) (N := 6) hx hb hts (fun _ h => (List.mem_cons_of_mem _ (List.mem_append_left _ (List.mem_append_right _ h)))) hown hK hP 5 rfl rfl 1 (by decide) (hts _ (List.mem_cons_of_mem _ (List.mem_append_left _ (List.mem_append_left _ (List.mem_of_getElem? (i := 1) rfl))))) (fun _ h => h) rfl dX6_take_16 ?_
  refine kcallv (wc := [(qt_open, .inr (4, [.ref qt_open_values])), (qt_open_values, .inl (cy.1, 210, .inl (ft_open))), (qa1_open, .inr (4, [.ref qa1_open_values])), (qa1_open_values, .inl (cy.1, 210, .inl (fa1_open)))]) (wr := [(qt, .inr (6, [.ref qt_letters, .ref qt_open, .ref qt_signs, .int (it_size), .int (it_start), .int (it_goal)])), (qt_signs, .inr (4, [.ref qt_signs_values])), (qt_signs_values, .inl (cy.1, 210, .inl (ft_signs))), (qa1, .inr (6, [.ref qa1_letters, .ref qa1_open, .ref qa1_signs, .int (ia1_size), .int (ia1_start), .int (ia1_goal)])), (qa1_signs, .inr (4, [.ref qa1_signs_values])), (qa1_signs_values, .inl (cy.1, 210, .inl (fa1_signs))), (qt_letters, .inr (4, [.ref qt_letters_values])), (qt_letters_values, .inl (cy.1, 6, .inl ((t_X4_take 6 6 (ft_letters) (fa1_letters))))), (qa1_letters, .inr (4, [.ref qa1_letters_values])), (qa1_letters_values, .inl (cy.1, 6, .inl (fa1_letters)))]) (w1 := [(qt_open, .inr (4, [.ref qt_open_values])), (qt_open_values, .inl (cy.1, 210, .inl ((t_X4_take 210 210 (ft_open) (fa1_open))))), (qa1_open, .inr (4, [.ref qa1_open_values])), (qa1_open_values, .inl (cy.1, 210, .inl (fa1_open)))]) hK hP hD hS hA hG [1, 2, 6, 7] [0, 3, 4, 5, 8, 9, 10, 11, 12, 13] rfl rfl rfl rfl rfl (fun hU hPc => va_runV (As := [.ref qa1_open]) (rest := []) ⟨hx, hb, hml, hown, hts⟩ (c_X4_take l dC dI cy G H.size qt_open qt_open_values qa1_open qa1_open_values 210 210 (ft_open) (fa1_open) (by decide) (by decide) (t_X4_take 210 210 (ft_open) (fa1_open)) (tot_X4_take 210 210 (ft_open) (fa1_open))) (cwV 1 hts gX6_take_X4_take rfl rfl rfl hdX4_take ⟨Nat.le_of_ble_eq_true rfl, Nat.le_of_ble_eq_true rfl⟩) ⟨kBlind, (va_recv hK hP (ci := 4) (q0 := 1) rfl rfl), fun U h1 h2 => ⟨rfl, hU U h1 h2⟩⟩ rfl rfl hl.1 rfl (lv_room (Nat.le_of_ble_eq_true rfl)) dX6_take_19 ⟨Nat.zero_le _, Nat.zero_le _⟩) (fun _ _ h => h) (fun H locs hP hD hS => ?_)
  have hP : va_P (dC, dI) vwCl [(qt, .inr (6, [.ref qt_letters, .ref qt_open, .ref qt_signs, .int (it_size), .int (it_start), .int (it_goal)])), (qt_signs, .inr (4, [.ref qt_signs_values])), (qt_signs_values, .inl (cy.1, 210, .inl (ft_signs))), (qa1, .inr (6, [.ref qa1_letters, .ref qa1_open, .ref qa1_signs, .int (ia1_size), .int (ia1_start), .int (ia1_goal)])), (qa1_signs, .inr (4, [.ref qa1_signs_values])), (qa1_signs_values, .inl (cy.1, 210, .inl (fa1_signs))), (qt_letters, .inr (4, [.ref qt_letters_values])), (qt_letters_values, .inl (cy.1, 6, .inl ((t_X4_take 6 6 (ft_letters) (fa1_letters))))), (qa1_letters, .inr (4, [.ref qa1_letters_values])), (qa1_letters_values, .inl (cy.1, 6, .inl (fa1_letters))), (qt_open, .inr (4, [.ref qt_open_values])), (qt_open_values, .inl (cy.1, 210, .inl ((t_X4_take 210 210 (ft_open) (fa1_open))))), (qa1_open, .inr (4, [.ref qa1_open_values])), (qa1_open_values, .inl (cy.1, 210, .inl (fa1_open)))] H := hP
  have hD : va_D A [(qt, .inr (6, [.ref qt_letters, .ref qt_open, .ref qt_signs, .int (it_size), .int (it_start), .int (it_goal)])), (qt_signs, .inr (4, [.ref qt_signs_values])), (qt_signs_values, .inl (cy.1, 210, .inl (ft_signs))), (qa1, .inr (6, [.ref qa1_letters, .ref qa1_open, .ref qa1_signs, .int (ia1_size), .int (ia1_start), .int (ia1_goal)])), (qa1_signs, .inr (4, [.ref qa1_signs_values])), (qa1_signs_values, .inl (cy.1, 210, .inl (fa1_signs))), (qt_letters, .inr (4, [.ref qt_letters_values])), (qt_letters_values, .inl (cy.1, 6, .inl ((t_X4_take 6 6 (ft_letters) (fa1_letters))))), (qa1_letters, .inr (4, [.ref qa1_letters_values])), (qa1_letters_values, .inl (cy.1, 6, .inl (fa1_letters))), (qt_open, .inr (4, [.ref qt_open_values])), (qt_open_values, .inl (cy.1, 210, .inl ((t_X4_take 210 210 (ft_open) (fa1_open))))), (qa1_open, .inr (4, [.ref qa1_open_values])), (qa1_open_values, .inl (cy.1, 210, .inl (fa1_open)))] := hD
  refine lv_aload_n hx hb dX6_take_22 rfl (lv_at hl 0 rfl) ?_
  refine va_get (D := (dC, dI)) (ci := 6) (C := RX6) (T := TX6) (N := 6) hx hb hts (fun _ h => (List.mem_cons_of_mem _ (List.mem_append_left _ (List.mem_append_right _ h)))) hown hK hP 0 rfl rfl 2 (by decide) (hts _ (List.mem_cons_of_mem _ (List.mem_append_left _ (List.mem_append_left _ (List.mem_of_getElem? (i := 2) rfl))))) (fun _ h => h) rfl dX6_take_23 ?_
  refine lv_aload_n hx hb dX6_take_26 rfl (lv_at hl 1 rfl) ?_
  refine va_get (D := (dC, dI)) (ci := 6) (C := RX6) (T := TX6) (N := 6) hx hb hts (fun _ h => (List.mem_cons_of_mem _ (List.mem_append_left _ (List.mem_append_right _ h)))) hown hK hP 3 rfl rfl 2 (by decide) (hts _ (List.mem_cons_of_mem _ (List.mem_append_left _ (List.mem_append_left _ (List.mem_of_getElem? (i := 2) rfl))))) (fun _ h => h) rfl dX6_take_27 ?_
  refine kcallv (wc := [(qt_signs, .inr (4, [.ref qt_signs_values])), (qt_signs_values, .inl (cy.1, 210, .inl (ft_signs))), (qa1_signs, .inr (4, [.ref qa1_signs_values])), (qa1_signs_values, .inl (cy.1, 210, .inl (fa1_signs)))]) (wr := [(qt, .inr (6, [.ref qt_letters, .ref qt_open, .ref qt_signs, .int (it_size), .int (it_start), .int (it_goal)])), (qa1, .inr (6, [.ref qa1_letters, .ref qa1_open, .ref qa1_signs, .int (ia1_size), .int (ia1_start), .int (ia1_goal)])), (qt_letters, .inr (4, [.ref qt_letters_values])), (qt_letters_values, .inl (cy.1, 6, .inl ((t_X4_take 6 6 (ft_letters) (fa1_letters))))), (qa1_letters, .inr (4, [.ref qa1_letters_values])), (qa1_letters_values, .inl (cy.1, 6, .inl (fa1_letters))), (qt_open, .inr (4, [.ref qt_open_values])), (qt_open_values, .inl (cy.1, 210, .inl ((t_X4_take 210 210 (ft_open) (fa1_open))))), (qa1_open, .inr (4, [.ref qa1_open_values])), (qa1_open_values, .inl (cy.1, 210, .inl (fa1_open)))]) (w1 := [(qt_signs, .inr (4, [.ref qt_signs_values])), (qt_signs_values, .inl (cy.1, 210, .inl ((t_X4_take 210 210 (ft_signs) (fa1_signs))))), (qa1_signs, .inr (4, [.ref qa1_signs_values])), (qa1_signs_values, .inl (cy.1, 210, .inl (fa1_signs)))]) hK hP hD hS hA hG [1, 2, 4, 5] [0, 3, 6, 7, 8, 9, 10, 11, 12, 13] rfl rfl rfl rfl rfl (fun hU hPc => va_runV (As := [.ref qa1_signs]) (rest := []) ⟨hx, hb, hml, hown, hts⟩ (c_X4_take l dC dI cy G H.size qt_signs qt_signs_values qa1_signs qa1_signs_values 210 210 (ft_signs) (fa1_signs) (by decide) (by decide) (t_X4_take 210 210 (ft_signs) (fa1_signs)) (tot_X4_take 210 210 (ft_signs) (fa1_signs))) (cwV 1 hts gX6_take_X4_take rfl rfl rfl hdX4_take ⟨Nat.le_of_ble_eq_true rfl, Nat.le_of_ble_eq_true rfl⟩) ⟨kBlind, (va_recv hK hP (ci := 4) (q0 := 1) rfl rfl), fun U h1 h2 => ⟨rfl, hU U h1 h2⟩⟩ rfl rfl hl.1 rfl (lv_room (Nat.le_of_ble_eq_true rfl)) dX6_take_30 ⟨Nat.zero_le _, Nat.zero_le _⟩) (fun _ _ h => h) (fun H locs hP hD hS => ?_)
  have hP : va_P (dC, dI) vwCl [(qt, .inr (6, [.ref qt_letters, .ref qt_open, .ref qt_signs, .int (it_size), .int (it_start), .int (it_goal)])), (qa1, .inr (6, [.ref qa1_letters, .ref qa1_open, .ref qa1_signs, .int (ia1_size), .int (ia1_start), .int (ia1_goal)])), (qt_letters, .inr (4, [.ref qt_letters_values])), (qt_letters_values, .inl (cy.1, 6, .inl ((t_X4_take 6 6 (ft_letters) (fa1_letters))))), (qa1_letters, .inr (4, [.ref qa1_letters_values])), (qa1_letters_values, .inl (cy.1, 6, .inl (fa1_letters))), (qt_open, .inr (4, [.ref qt_open_values])), (qt_open_values, .inl (cy.1, 210, .inl ((t_X4_take 210 210 (ft_open) (fa1_open))))), (qa1_open, .inr (4, [.ref qa1_open_values])), (qa1_open_values, .inl (cy.1, 210, .inl (fa1_open))), (qt_signs, .inr (4, [.ref qt_signs_values])), (qt_signs_values, .inl (cy.1, 210, .inl ((t_X4_take 210 210 (ft_signs) (fa1_signs))))), (qa1_signs, .inr (4, [.ref qa1_signs_values])), (qa1_signs_values, .inl (cy.1, 210, .inl (fa1_signs)))] H := hP
  have hD : va_D A [(qt, .inr (6, [.ref qt_letters, .ref qt_open, .ref qt_signs, .int (it_size), .int (it_start), .int (it_goal)])), (qa1, .inr (6, [.ref qa1_letters, .ref qa1_open, .ref qa1_signs, .int (ia1_size), .int (ia1_start), .int (ia1_goal)])), (qt_letters, .inr (4, [.ref qt_letters_values])), (qt_letters_values, .inl (cy.1, 6, .inl ((t_X4_take 6 6 (ft_letters) (fa1_letters))))), (qa1_letters, .inr (4, [.ref qa1_letters_values])), (qa1_letters_values, .inl (cy.1, 6, .inl (fa1_letters))), (qt_open, .inr (4, [.ref qt_open_values])), (qt_open_values, .inl (cy.1, 210, .inl ((t_X4_take 210 210 (ft_open) (fa1_open))))), (qa1_open, .inr (4, [.ref qa1_open_values])), (qa1_open_values, .inl (cy.1, 210, .inl (fa1_open))), (qt_signs, .inr (4, [.ref qt_signs_values])), (qt_signs_values, .inl (cy.1, 210, .inl ((t_X4_take 210 210 (ft_signs) (fa1_signs))))), (qa1_signs, .inr (4, [.ref qa1_signs_values])), (qa1_signs_values, .inl (cy.1, 210, .inl (fa1_signs)))] := hD
  refine lv_aload_n hx hb dX6_take_33 rfl (lv_at hl 0 rfl) ?_
  refine lv_aload_n hx hb dX6_take_34 rfl (lv_at hl 1 rfl) ?_
  refine va_get (D := (dC, dI)) (ci := 6) (C := RX6) (T := TX6) (N := 6) hx hb hts (fun _ h => (List.mem_cons_of_mem _ (List.mem_append_left _ (List.mem_append_right _ h)))) hown hK hP 1 rfl rfl 3 (by decide) (hts _ (List.mem_cons_of_mem _ (List.mem_append_left _ (List.mem_append_left _ (List.mem_of_getElem? (i := 3) rfl))))) (fun _ h => h) rfl dX6_take_35 ?_
  refine va_put (D := (dC, dI)) (ci := 6) (v := .int ia1_size) (ty := .int) (C := RX6) (T := TX6) (N := 6) hx hb hts (fun _ h => (List.mem_cons_of_mem _ (List.mem_append_left _ (List.mem_append_right _ h)))) tyX6 tyX6_ok nmX6 hown hK hP hD hS 0 rfl rfl 3 (by decide) (hts _ (List.mem_cons_of_mem _ (List.mem_append_left _ (List.mem_append_left _ (List.mem_of_getElem? (i := 3) rfl))))) (fun _ h => h) rfl (by decide +kernel) rfl rfl (Nat.le_of_ble_eq_true rfl) dX6_take_38 (fun H locs hP hD hS => ?_)
  have hP : va_P (dC, dI) vwCl [(qt, .inr (6, [.ref qt_letters, .ref qt_open, .ref qt_signs, .int (ia1_size), .int (it_start), .int (it_goal)])), (qa1, .inr (6, [.ref qa1_letters, .ref qa1_open, .ref qa1_signs, .int (ia1_size), .int (ia1_start), .int (ia1_goal)])), (qt_letters, .inr (4, [.ref qt_letters_values])), (qt_letters_values, .inl (cy.1, 6, .inl ((t_X4_take 6 6 (ft_letters) (fa1_letters))))), (qa1_letters, .inr (4, [.ref qa1_letters_values])), (qa1_letters_values, .inl (cy.1, 6, .inl (fa1_letters))), (qt_open, .inr (4, [.ref qt_open_values])), (qt_open_values, .inl (cy.1, 210, .inl ((t_X4_take 210 210 (ft_open) (fa1_open))))), (qa1_open, .inr (4, [.ref qa1_open_values])), (qa1_open_values, .inl (cy.1, 210, .inl (fa1_open))), (qt_signs, .inr (4, [.ref qt_signs_values])), (qt_signs_values, .inl (cy.1, 210, .inl ((t_X4_take 210 210 (ft_signs) (fa1_signs))))), (qa1_signs, .inr (4, [.ref qa1_signs_values])), (qa1_signs_values, .inl (cy.1, 210, .inl (fa1_signs)))] H := hP
  have hD : va_D A [(qt, .inr (6, [.ref qt_letters, .ref qt_open, .ref qt_signs, .int (ia1_size), .int (it_start), .int (it_goal)])), (qa1, .inr (6, [.ref qa1_letters, .ref qa1_open, .ref qa1_signs, .int (ia1_size), .int (ia1_start), .int (ia1_goal)])), (qt_letters, .inr (4, [.ref qt_letters_values])), (qt_letters_values, .inl (cy.1, 6, .inl ((t_X4_take 6 6 (ft_letters) (fa1_letters))))), (qa1_letters, .inr (4, [.ref qa1_letters_values])), (qa1_letters_values, .inl (cy.1, 6, .inl (fa1_letters))), (qt_open, .inr (4, [.ref qt_open_values])), (qt_open_values, .inl (cy.1, 210, .inl ((t_X4_take 210 210 (ft_open) (fa1_open))))), (qa1_open, .inr (4, [.ref qa1_open_values])), (qa1_open_values, .inl (cy.1, 210, .inl (fa1_open))), (qt_signs, .inr (4, [.ref qt_signs_values])), (qt_signs_values, .inl (cy.1, 210, .inl ((t_X4_take 210 210 (ft_signs) (fa1_signs))))), (qa1_signs, .inr (4, [.ref qa1_signs_values])), (qa1_signs_values, .inl (cy.1, 210, .inl (fa1_signs)))] := hD
  refine lv_aload_n hx hb dX6_take_41 rfl (lv_at hl 0 rfl) ?_
  refine lv_aload_n hx hb dX6_take_42 rfl (lv_at hl 1 rfl) ?_
  refine va_get (D := (dC, dI)) (ci := 6) (C := RX6) (T := TX6) (N := 6) hx hb hts (fun _ h => (List.mem_cons_of_mem _ (List.mem_append_left _ (List.mem_append_right _ h)))) hown hK hP 1 rfl rfl 4 (by decide) (hts _ (List.mem_cons_of_mem _ (List.mem_append_left _ (List.mem_append_left _ (List.mem_of_getElem? (i := 4) rfl))))) (fun _ h => h) rfl dX6_take_43 ?_
  refine va_put (D := (dC, dI)) (ci := 6) (v := .int ia1_start) (ty := .int) (C := RX6) (T := TX6) (N := 6) hx hb hts (fun _ h => (List.mem_cons_of_mem _ (List.mem_append_left _ (List.mem_append_right _ h)))) tyX6 tyX6_ok nmX6 hown hK hP hD hS 0 rfl rfl 4 (by decide) (hts _ (List.mem_cons_of_mem _ (List.mem_append_left _ (List.mem_append_left _ (List.mem_of_getElem? (i := 4) rfl))))) (fun _ h => h) rfl (by decide +kernel) rfl rfl (Nat.le_of_ble_eq_true rfl) dX6_take_46 (fun H locs hP hD hS => ?_)
  have hP : va_P (dC, dI) vwCl [(qt, .inr (6, [.ref qt_letters, .ref qt_open, .ref qt_signs, .int (ia1_size), .int (ia1_start), .int (it_goal)])), (qa1, .inr (6, [.ref qa1_letters, .ref qa1_open, .ref qa1_signs, .int (ia1_size), .int (ia1_start), .int (ia1_goal)])), (qt_letters, .inr (4, [.ref qt_letters_values])), (qt_letters_values, .inl (cy.1, 6, .inl ((t_X4_take 6 6 (ft_letters) (fa1_letters))))), (qa1_letters, .inr (4, [.ref qa1_letters_values])), (qa1_letters_values, .inl (cy.1, 6, .inl (fa1_letters))), (qt_open, .inr (4, [.ref qt_open_values])), (qt_open_values, .inl (cy.1, 210, .inl ((t_X4_take 210 210 (ft_open) (fa1_open))))), (qa1_open, .inr (4, [.ref qa1_open_values])), (qa1_open_values, .inl (cy.1, 210, .inl (fa1_open))), (qt_signs, .inr (4, [.ref qt_signs_values])), (qt_signs_values, .inl (cy.1, 210, .inl ((t_X4_take 210 210 (ft_signs) (fa1_signs))))), (qa1_signs, .inr (4, [.ref qa1_signs_values])), (qa1_signs_values, .inl (cy.1, 210, .inl (fa1_signs)))] H := hP
  have hD : va_D A [(qt, .inr (6, [.ref qt_letters, .ref qt_open, .ref qt_signs, .int (ia1_size), .int (ia1_start), .int (it_goal)])), (qa1, .inr (6, [.ref qa1_letters, .ref qa1_open, .ref qa1_signs, .int (ia1_size), .int (ia1_start), .int (ia1_goal)])), (qt_letters, .inr (4, [.ref qt_letters_values])), (qt_letters_values, .inl (cy.1, 6, .inl ((t_X4_take 6 6 (ft_letters) (fa1_letters))))), (qa1_letters, .inr (4, [.ref qa1_letters_values])), (qa1_letters_values, .inl (cy.1, 6, .inl (fa1_letters))), (qt_open, .inr (4, [.ref qt_open_values])), (qt_open_values, .inl (cy.1, 210, .inl ((t_X4_take 210 210 (ft_open) (fa1_open))))), (qa1_open, .inr (4, [.ref qa1_open_values])), (qa1_open_values, .inl (cy.1, 210, .inl (fa1_open))), (qt_signs, .inr (4, [.ref qt_signs_values])), (qt_signs_values, .inl (cy.1, 210, .inl ((t_X4_take 210 210 (ft_signs) (fa1_signs))))), (qa1_signs, .inr (4, [.ref qa1_signs_values])), (qa1_signs_values, .inl (cy.1, 210, .inl (fa1_signs)))] := hD
  refine lv_aload_n hx hb dX6_take_49 rfl (lv_at hl 0 rfl) ?_
  refine lv_aload_n hx hb dX6_take_50 rfl (lv_at hl 1 rfl) ?_
  refine va_get (D := (dC, dI)) (ci := 6) (C := RX6) (T := TX6) (N := 6) hx hb hts (fun _ h => (List.mem_cons_of_mem _ (List.mem_append_left _ (List.mem_append_right _ h)))) hown hK hP 1 rfl rfl 5 (by decide) (hts _ (List.mem_cons_of_mem _ (List.mem_append_left _ (List.mem_append_left _ (List.mem_of_getElem? (i := 5) rfl))))) (fun _ h => h) rfl dX6_take_51 ?_
  refine va_put (D := (dC, dI)) (ci := 6) (v := .int ia1_goal) (ty := .int) (C := RX6) (T := TX6) (N := 6) hx hb hts (fun _ h => (List.mem_cons_of_mem _ (List.mem_append_left _ (List.mem_append_right _ h)))) tyX6 tyX6_ok nmX6 hown hK hP hD hS 0 rfl rfl 5 (by decide) (hts _ (List.mem_cons_of_mem _ (List.mem_append_left _ (List.mem_append_left _ (List.mem_of_getElem? (i := 5) rfl))))) (fun _ h => h) rfl (by decide +kernel) rfl rfl (Nat.le_of_ble_eq_true rfl) dX6_take_54 (fun H locs hP hD hS => ?_)
  have hP : va_P (dC, dI) vwCl [(qt, .inr (6, [.ref qt_letters, .ref qt_open, .ref qt_signs, .int (ia1_size), .int (ia1_start), .int (ia1_goal)])), (qa1, .inr (6, [.ref qa1_letters, .ref qa1_open, .ref qa1_signs, .int (ia1_size), .int (ia1_start), .int (ia1_goal)])), (qt_letters, .inr (4, [.ref qt_letters_values])), (qt_letters_values, .inl (cy.1, 6, .inl ((t_X4_take 6 6 (ft_letters) (fa1_letters))))), (qa1_letters, .inr (4, [.ref qa1_letters_values])), (qa1_letters_values, .inl (cy.1, 6, .inl (fa1_letters))), (qt_open, .inr (4, [.ref qt_open_values])), (qt_open_values, .inl (cy.1, 210, .inl ((t_X4_take 210 210 (ft_open) (fa1_open))))), (qa1_open, .inr (4, [.ref qa1_open_values])), (qa1_open_values, .inl (cy.1, 210, .inl (fa1_open))), (qt_signs, .inr (4, [.ref qt_signs_values])), (qt_signs_values, .inl (cy.1, 210, .inl ((t_X4_take 210 210 (ft_signs) (fa1_signs))))), (qa1_signs, .inr (4, [.ref qa1_signs_values])), (qa1_signs_values, .inl (cy.1, 210, .inl (fa1_signs)))] H := hP
  have hD : va_D A [(qt, .inr (6, [.ref qt_letters, .ref qt_open, .ref qt_signs, .int (ia1_size), .int (ia1_start), .int (ia1_goal)])), (qa1, .inr (6, [.ref qa1_letters, .ref qa1_open, .ref qa1_signs, .int (ia1_size), .int (ia1_start), .int (ia1_goal)])), (qt_letters, .inr (4, [.ref qt_letters_values])), (qt_letters_values, .inl (cy.1, 6, .inl ((t_X4_take 6 6 (ft_letters) (fa1_letters))))), (qa1_letters, .inr (4, [.ref qa1_letters_values])), (qa1_letters_values, .inl (cy.1, 6, .inl (fa1_letters))), (qt_open, .inr (4, [.ref qt_open_values])), (qt_open_values, .inl (cy.1, 210, .inl ((t_X4_take 210 210 (ft_open) (fa1_open))))), (qa1_open, .inr (4, [.ref qa1_open_values])), (qa1_open_values, .inl (cy.1, 210, .inl (fa1_open))), (qt_signs, .inr (4, [.ref qt_signs_values])), (qt_signs_values, .inl (cy.1, 210, .inl ((t_X4_take 210 210 (ft_signs) (fa1_signs))))), (qa1_signs, .inr (4, [.ref qa1_signs_values])), (qa1_signs_values, .inl (cy.1, 210, .inl (fa1_signs)))] := hD
  cases hf
  subst hQ
  exact kvret hx hb hr hlocks hK (hP.sub [0, 2, 3, 6, 7, 10, 11, 1, 4, 5, 8, 9, 12, 13] rfl) (hD.sub [0, 2, 3, 6, 7, 10, 11, 1, 4, 5, 8, 9, 12, 13] (by decide) rfl) hS trivial dX6_take_57
theorem hdX6_take : yX6_take.cls = RX6 ∧ yX6_take.cls ≠ "java/lang/invoke/MethodHandle" ∧ yX6_take.cls ≠ "java/lang/invoke/VarHandle" ∧ (parseMethodDescriptor yX6_take.desc).map (fun d => d.parameters.length) = some 1 := by decide +kernel
noncomputable def t_X6_take_0 (it_size : Int32) (it_start : Int32) (it_goal : Int32) (ft_letters : Nat → Int32) (ft_open : Nat → Int32) (ft_signs : Nat → Int32) (ia1_size : Int32) (ia1_start : Int32) (ia1_goal : Int32) (fa1_letters : Nat → Int32) (fa1_open : Nat → Int32) (fa1_signs : Nat → Int32) : Int32 :=
  ia1_size
noncomputable def t_X6_take_1 (it_size : Int32) (it_start : Int32) (it_goal : Int32) (ft_letters : Nat → Int32) (ft_open : Nat → Int32) (ft_signs : Nat → Int32) (ia1_size : Int32) (ia1_start : Int32) (ia1_goal : Int32) (fa1_letters : Nat → Int32) (fa1_open : Nat → Int32) (fa1_signs : Nat → Int32) : Int32 :=
  ia1_start
noncomputable def t_X6_take_2 (it_size : Int32) (it_start : Int32) (it_goal : Int32) (ft_letters : Nat → Int32) (ft_open : Nat → Int32) (ft_signs : Nat → Int32) (ia1_size : Int32) (ia1_start : Int32) (ia1_goal : Int32) (fa1_letters : Nat → Int32) (fa1_open : Nat → Int32) (fa1_signs : Nat → Int32) : Int32 :=
  ia1_goal
noncomputable def t_X6_take_3 (it_size : Int32) (it_start : Int32) (it_goal : Int32) (ft_letters : Nat → Int32) (ft_open : Nat → Int32) (ft_signs : Nat → Int32) (ia1_size : Int32) (ia1_start : Int32) (ia1_goal : Int32) (fa1_letters : Nat → Int32) (fa1_open : Nat → Int32) (fa1_signs : Nat → Int32) : Nat → Int32 :=
  (t_X4_take 6 6 (ft_letters) (fa1_letters))
noncomputable def t_X6_take_4 (it_size : Int32) (it_start : Int32) (it_goal : Int32) (ft_letters : Nat → Int32) (ft_open : Nat → Int32) (ft_signs : Nat → Int32) (ia1_size : Int32) (ia1_start : Int32) (ia1_goal : Int32) (fa1_letters : Nat → Int32) (fa1_open : Nat → Int32) (fa1_signs : Nat → Int32) : Nat → Int32 :=
  (t_X4_take 210 210 (ft_open) (fa1_open))
noncomputable def t_X6_take_5 (it_size : Int32) (it_start : Int32) (it_goal : Int32) (ft_letters : Nat → Int32) (ft_open : Nat → Int32) (ft_signs : Nat → Int32) (ia1_size : Int32) (ia1_start : Int32) (ia1_goal : Int32) (fa1_letters : Nat → Int32) (fa1_open : Nat → Int32) (fa1_signs : Nat → Int32) : Nat → Int32 :=
  (t_X4_take 210 210 (ft_signs) (fa1_signs))
theorem tot_X6_take (it_size : Int32) (it_start : Int32) (it_goal : Int32) (ft_letters : Nat → Int32) (ft_open : Nat → Int32) (ft_signs : Nat → Int32) (ia1_size : Int32) (ia1_start : Int32) (ia1_goal : Int32) (fa1_letters : Nat → Int32) (fa1_open : Nat → Int32) (fa1_signs : Nat → Int32) : f_X6_take it_size it_start it_goal ft_letters ft_open ft_signs ia1_size ia1_start ia1_goal fa1_letters fa1_open fa1_signs = some (t_X6_take_0 it_size it_start it_goal ft_letters ft_open ft_signs ia1_size ia1_start ia1_goal fa1_letters fa1_open fa1_signs, t_X6_take_1 it_size it_start it_goal ft_letters ft_open ft_signs ia1_size ia1_start ia1_goal fa1_letters fa1_open fa1_signs, t_X6_take_2 it_size it_start it_goal ft_letters ft_open ft_signs ia1_size ia1_start ia1_goal fa1_letters fa1_open fa1_signs, t_X6_take_3 it_size it_start it_goal ft_letters ft_open ft_signs ia1_size ia1_start ia1_goal fa1_letters fa1_open fa1_signs, t_X6_take_4 it_size it_start it_goal ft_letters ft_open ft_signs ia1_size ia1_start ia1_goal fa1_letters fa1_open fa1_signs, t_X6_take_5 it_size it_start it_goal ft_letters ft_open ft_signs ia1_size ia1_start ia1_goal fa1_letters fa1_open fa1_signs) := by
  simp only [f_X6_take, t_X6_take_0, t_X6_take_1, t_X6_take_2, t_X6_take_3, t_X6_take_4, t_X6_take_5]
noncomputable def f_X1_beginAnew (N : Nat) (it_shape_width : Int32) (it_shape_cellCount : Int32) (it_shape_roomCount : Int32) (it_shape_doorCount : Int32) (it_shape_lowest : Int32) (ft_shape_owners : Nat → Int32) (it_state_size : Int32) (it_state_start : Int32) (it_state_goal : Int32) (ft_state_letters : Nat → Int32) (ft_state_open : Nat → Int32) (ft_state_signs : Nat → Int32) : Option (Int32 × Int32 × Int32 × Int32 × Int32 × (Nat → Int32) × Int32 × Int32 × (Nat → Int32) × (Nat → Int32)) :=
  bnd6 (f_X5_build N (it_shape_width) (it_shape_cellCount) (it_shape_roomCount) (it_shape_doorCount) (it_shape_lowest) (ft_shape_owners) (it_state_size) (ft_state_letters)) fun o8_0 o8_1 o8_2 o8_3 o8_4 o8_5 =>
  bnd1 (f_X4_fill N 210 (ft_state_open) ((0 : Int32))) fun o19_0 =>
  bnd1 (f_X4_fill N 210 (ft_state_signs) ((0 : Int32))) fun o30_0 =>
  some (o8_0, o8_1, o8_2, o8_3, o8_4, o8_5, (t_X5_baseCell (o8_0)), o8_4, o19_0, o30_0)
abbrev rm_X1_beginAnew : Room := { frames := 7, cells := 0, slots := 0, locals := 160 }
set_option maxHeartbeats 4000000 in
set_option maxRecDepth 100000 in
theorem c_X1_beginAnew (l : Launch) (dC : Nat → ClassId) (dI : Nat → Nat → Nat) (cy : gC) (G : gT) (sz : Nat) (qt : Nat) (qt_shape : Nat) (qt_shape_owners : Nat) (qt_shape_owners_values : Nat) (qt_state : Nat) (qt_state_letters : Nat) (qt_state_letters_values : Nat) (qt_state_open : Nat) (qt_state_open_values : Nat) (qt_state_signs : Nat) (qt_state_signs_values : Nat) (N : Nat) (it_shape_width : Int32) (it_shape_cellCount : Int32) (it_shape_roomCount : Int32) (it_shape_doorCount : Int32) (it_shape_lowest : Int32) (ft_shape_owners : Nat → Int32) (it_state_size : Int32) (it_state_start : Int32) (it_state_goal : Int32) (ft_state_letters : Nat → Int32) (ft_state_open : Nat → Int32) (ft_state_signs : Nat → Int32) (out : Int32 × Int32 × Int32 × Int32 × Int32 × (Nat → Int32) × Int32 × Int32 × (Nat → Int32) × (Nat → Int32)) (hf : f_X1_beginAnew N it_shape_width it_shape_cellCount it_shape_roomCount it_shape_doorCount it_shape_lowest ft_shape_owners it_state_size it_state_start it_state_goal ft_state_letters ft_state_open ft_state_signs = some out) : Met l yX1_beginAnew wsX1_beginAnew rm_X1_beginAnew (va_Pc [.ref qt] (kP (dC, dI) cy G [(qt, .inr (1, [.ref qt_shape, .ref qt_state])), (qt_shape, .inr (5, [.ref qt_shape_owners, .int (it_shape_width), .int (it_shape_cellCount), .int (it_shape_roomCount), .int (it_shape_doorCount), .int (it_shape_lowest)])), (qt_shape_owners, .inr (4, [.ref qt_shape_owners_values])), (qt_shape_owners_values, .inl (cy.1, 210, .inl (ft_shape_owners))), (qt_state, .inr (6, [.ref qt_state_letters, .ref qt_state_open, .ref qt_state_signs, .int (it_state_size), .int (it_state_start), .int (it_state_goal)])), (qt_state_letters, .inr (4, [.ref qt_state_letters_values])), (qt_state_letters_values, .inl (cy.1, 6, .inl (ft_state_letters))), (qt_state_open, .inr (4, [.ref qt_state_open_values])), (qt_state_open_values, .inl (cy.1, 210, .inl (ft_state_open))), (qt_state_signs, .inr (4, [.ref qt_state_signs_values])), (qt_state_signs_values, .inl (cy.1, 210, .inl (ft_state_signs)))] sz)) (va_Qv (fun (_ : Unit) => True) (fun _ => kQ (dC, dI) cy [(qt, .inr (1, [.ref qt_shape, .ref qt_state])), (qt_shape, .inr (5, [.ref qt_shape_owners, .int (out.1), .int (out.2.1), .int (out.2.2.1), .int (out.2.2.2.1), .int (out.2.2.2.2.1)])), (qt_shape_owners, .inr (4, [.ref qt_shape_owners_values])), (qt_shape_owners_values, .inl (cy.1, 210, .inl (out.2.2.2.2.2.1))), (qt_state, .inr (6, [.ref qt_state_letters, .ref qt_state_open, .ref qt_state_signs, .int (it_state_size), .int (out.2.2.2.2.2.2.1), .int (out.2.2.2.2.2.2.2.1)])), (qt_state_letters, .inr (4, [.ref qt_state_letters_values])), (qt_state_letters_values, .inl (cy.1, 6, .inl (ft_state_letters))), (qt_state_open, .inr (4, [.ref qt_state_open_values])), (qt_state_open_values, .inl (cy.1, 210, .inl (out.2.2.2.2.2.2.2.2.1))), (qt_state_signs, .inr (4, [.ref qt_state_signs_values])), (qt_state_signs_values, .inl (cy.1, 210, .inl (out.2.2.2.2.2.2.2.2.2)))] (va_A [(qt, .inr (1, [.ref qt_shape, .ref qt_state])), (qt_shape, .inr (5, [.ref qt_shape_owners, .int (it_shape_width), .int (it_shape_cellCount), .int (it_shape_roomCount), .int (it_shape_doorCount), .int (it_shape_lowest)])), (qt_shape_owners, .inr (4, [.ref qt_shape_owners_values])), (qt_shape_owners_values, .inl (cy.1, 210, .inl (ft_shape_owners))), (qt_state, .inr (6, [.ref qt_state_letters, .ref qt_state_open, .ref qt_state_signs, .int (it_state_size), .int (it_state_start), .int (it_state_goal)])), (qt_state_letters, .inr (4, [.ref qt_state_letters_values])), (qt_state_letters_values, .inl (cy.1, 6, .inl (ft_state_letters))), (qt_state_open, .inr (4, [.ref qt_state_open_values])), (qt_state_open_values, .inl (cy.1, 210, .inl (ft_state_open))), (qt_state_signs, .inr (4, [.ref qt_state_signs_values])), (qt_state_signs_values, .inl (cy.1, 210, .inl (ft_state_signs)))] sz)) (va_A [(qt, .inr (1, [.ref qt_shape, .ref qt_state])), (qt_shape, .inr (5, [.ref qt_shape_owners, .int (it_shape_width), .int (it_shape_cellCount), .int (it_shape_roomCount), .int (it_shape_doorCount), .int (it_shape_lowest)])), (qt_shape_owners, .inr (4, [.ref qt_shape_owners_values])), (qt_shape_owners_values, .inl (cy.1, 210, .inl (ft_shape_owners))), (qt_state, .inr (6, [.ref qt_state_letters, .ref qt_state_open, .ref qt_state_signs, .int (it_state_size), .int (it_state_start), .int (it_state_goal)])), (qt_state_letters, .inr (4, [.ref qt_state_letters_values])), (qt_state_letters_values, .inl (cy.1, 6, .inl (ft_state_letters))), (qt_state_open, .inr (4, [.ref qt_state_open_values])), (qt_state_open_values, .inl (cy.1, 210, .inl (ft_state_open))), (qt_state_signs, .inr (4, [.ref qt_state_signs_values])), (qt_state_signs_values, .inl (cy.1, 210, .inl (ft_state_signs)))] sz)) 0 0 (va_A [(qt, .inr (1, [.ref qt_shape, .ref qt_state])), (qt_shape, .inr (5, [.ref qt_shape_owners, .int (it_shape_width), .int (it_shape_cellCount), .int (it_shape_roomCount), .int (it_shape_doorCount), .int (it_shape_lowest)])), (qt_shape_owners, .inr (4, [.ref qt_shape_owners_values])), (qt_shape_owners_values, .inl (cy.1, 210, .inl (ft_shape_owners))), (qt_state, .inr (6, [.ref qt_state_letters, .ref qt_state_open, .ref qt_state_signs, .int (it_state_size), .int (it_state_start), .int (it_state_goal)])), (qt_state_letters, .inr (4, [.ref qt_state_letters_values])), (qt_state_letters_values, .inl (cy.1, 6, .inl (ft_state_letters))), (qt_state_open, .inr (4, [.ref qt_state_open_values])), (qt_state_open_values, .inl (cy.1, 210, .inl (ft_state_open))), (qt_state_signs, .inr (4, [.ref qt_state_signs_values])), (qt_state_signs_values, .inl (cy.1, 210, .inl (ft_state_signs)))] sz) := by
  refine Met.ofW (cc := cX1_beginAnew) (maxL := 1) (ret := none) (by decide) rfl ?_
  intro p e s m args below meth c s₁ B hml hv
  obtain ⟨rfl, hsz, hP, hK, hD0, hG⟩ := hv
  have hx := B.exec
  have hb := B.bytes
  have hr := B.returns
  have hts := atoms_spec (ws := wsX1_beginAnew) B.pre
  have hown : s.vm.findClass RX1 = some m.cls := findClass_of_methodNamed B.named
  have hlocks := B.notSynchronized
  subst hsz
  have hD := hD0.self (sz := s.heap.size)
  generalize hAe : va_A [(qt, .inr (1, [.ref qt_shape, .ref qt_state])), (qt_shape, .inr (5, [.ref qt_shape_owners, .int (it_shape_width), .int (it_shape_cellCount), .int (it_shape_roomCount), .int (it_shape_doorCount), .int (it_shape_lowest)])), (qt_shape_owners, .inr (4, [.ref qt_shape_owners_values])), (qt_shape_owners_values, .inl (cy.1, 210, .inl (ft_shape_owners))), (qt_state, .inr (6, [.ref qt_state_letters, .ref qt_state_open, .ref qt_state_signs, .int (it_state_size), .int (it_state_start), .int (it_state_goal)])), (qt_state_letters, .inr (4, [.ref qt_state_letters_values])), (qt_state_letters_values, .inl (cy.1, 6, .inl (ft_state_letters))), (qt_state_open, .inr (4, [.ref qt_state_open_values])), (qt_state_open_values, .inl (cy.1, 210, .inl (ft_state_open))), (qt_state_signs, .inr (4, [.ref qt_state_signs_values])), (qt_state_signs_values, .inl (cy.1, 210, .inl (ft_state_signs)))] s.heap.size = A at hD hG ⊢
  have hA : ∀ q : Nat, s.heap.size ≤ q → A q := fun q h => by rw [← hAe]; exact Or.inr h
  have hS : va_S A s.heap s.heap [] := va_S.rf
  have hP : va_P (dC, dI) vwCl [(qt, .inr (1, [.ref qt_shape, .ref qt_state])), (qt_shape, .inr (5, [.ref qt_shape_owners, .int (it_shape_width), .int (it_shape_cellCount), .int (it_shape_roomCount), .int (it_shape_doorCount), .int (it_shape_lowest)])), (qt_shape_owners, .inr (4, [.ref qt_shape_owners_values])), (qt_shape_owners_values, .inl (cy.1, 210, .inl (ft_shape_owners))), (qt_state, .inr (6, [.ref qt_state_letters, .ref qt_state_open, .ref qt_state_signs, .int (it_state_size), .int (it_state_start), .int (it_state_goal)])), (qt_state_letters, .inr (4, [.ref qt_state_letters_values])), (qt_state_letters_values, .inl (cy.1, 6, .inl (ft_state_letters))), (qt_state_open, .inr (4, [.ref qt_state_open_values])), (qt_state_open_values, .inl (cy.1, 210, .inl (ft_state_open))), (qt_state_signs, .inr (4, [.ref qt_state_signs_values])), (qt_state_signs_values, .inl (cy.1, 210, .inl (ft_state_signs)))] s.heap := hP
  have hl := lv_entry ([.ref qt]) (n := 1) (Nat.le_of_ble_eq_true rfl)
  rw [lg_entry_eq]
  generalize (lg_sl ([.ref qt]) ++ List.replicate (1 - (lg_sl ([.ref qt])).length) Slot.unset).toArray = ls at hl ⊢
  have hl : lv_has ls 1 [(0, .ref qt)] := hl
  refine kgen (fun Q hQ => ?_)
  rw [f_X1_beginAnew] at hf
  refine lv_aload_n hx hb dX1_beginAnew_0 rfl (lv_at hl 0 rfl) ?_
  refine va_get (D := (dC, dI)) (ci := 1) (C := RX1) (T := TX1) (N := 2) hx hb hts (fun _ h => (List.mem_cons_of_mem _ (List.mem_append_left _ (List.mem_append_left _ (List.mem_append_left _ (List.mem_append_right _ h)))))) hown hK hP 0 rfl rfl 0 (by decide) (hts _ (List.mem_cons_of_mem _ (List.mem_append_left _ (List.mem_append_left _ (List.mem_append_left _ (List.mem_append_left _ (List.mem_append_left _ (List.mem_of_getElem? (i := 0) rfl)))))))) (fun _ h => h) rfl dX1_beginAnew_1 ?_
  refine lv_aload_n hx hb dX1_beginAnew_4 rfl (lv_at hl 0 rfl) ?_
  refine va_get (D := (dC, dI)) (ci := 1) (C := RX1) (T := TX1) (N := 2) hx hb hts (fun _ h => (List.mem_cons_of_mem _ (List.mem_append_left _ (List.mem_append_left _ (List.mem_append_left _ (List.mem_append_right _ h)))))) hown hK hP 0 rfl rfl 1 (by decide) (hts _ (List.mem_cons_of_mem _ (List.mem_append_left _ (List.mem_append_left _ (List.mem_append_left _ (List.mem_append_left _ (List.mem_append_left _ (List.mem_of_getElem? (i := 1) rfl)))))))) (fun _ h => h) rfl dX1_beginAnew_5 ?_
  obtain ⟨o8_0, o8_1, o8_2, o8_3, o8_4, o8_5, hq_8, hf⟩ := bnd6_s hf
  refine kcallv (wc := [(qt_shape, .inr (5, [.ref qt_shape_owners, .int (it_shape_width), .int (it_shape_cellCount), .int (it_shape_roomCount), .int (it_shape_doorCount), .int (it_shape_lowest)])), (qt_shape_owners, .inr (4, [.ref qt_shape_owners_values])), (qt_shape_owners_values, .inl (cy.1, 210, .inl (ft_shape_owners))), (qt_state, .inr (6, [.ref qt_state_letters, .ref qt_state_open, .ref qt_state_signs, .int (it_state_size), .int (it_state_start), .int (it_state_goal)])), (qt_state_letters, .inr (4, [.ref qt_state_letters_values])), (qt_state_letters_values, .inl (cy.1, 6, .inl (ft_state_letters)))]) (wr := [(qt, .inr (1, [.ref qt_shape, .ref qt_state])), (qt_state_open, .inr (4, [.ref qt_state_open_values])), (qt_state_open_values, .inl (cy.1, 210, .inl (ft_state_open))), (qt_state_signs, .inr (4, [.ref qt_state_signs_values])), (qt_state_signs_values, .inl (cy.1, 210, .inl (ft_state_signs)))]) (w1 := [(qt_shape, .inr (5, [.ref qt_shape_owners, .int (o8_0), .int (o8_1), .int (o8_2), .int (o8_3), .int (o8_4)])), (qt_shape_owners, .inr (4, [.ref qt_shape_owners_values])), (qt_shape_owners_values, .inl (cy.1, 210, .inl (o8_5))), (qt_state, .inr (6, [.ref qt_state_letters, .ref qt_state_open, .ref qt_state_signs, .int (it_state_size), .int (it_state_start), .int (it_state_goal)])), (qt_state_letters, .inr (4, [.ref qt_state_letters_values])), (qt_state_letters_values, .inl (cy.1, 6, .inl (ft_state_letters)))]) hK hP hD hS hA hG [1, 2, 3, 4, 5, 6] [0, 7, 8, 9, 10] rfl rfl rfl rfl rfl (fun hU hPc => va_runV (As := [.ref qt_state]) (rest := []) ⟨hx, hb, hml, hown, hts⟩ (c_X5_build l dC dI cy G s.heap.size qt_shape qt_shape_owners qt_shape_owners_values qt_state qt_state_letters qt_state_letters_values qt_state_open qt_state_signs (it_state_start) (it_state_goal) N (it_shape_width) (it_shape_cellCount) (it_shape_roomCount) (it_shape_doorCount) (it_shape_lowest) (ft_shape_owners) (it_state_size) (ft_state_letters) (o8_0, o8_1, o8_2, o8_3, o8_4, o8_5) hq_8) (cwV 1 hts gX1_beginAnew_X5_build rfl rfl rfl hdX5_build ⟨Nat.le_of_ble_eq_true rfl, Nat.le_of_ble_eq_true rfl⟩) ⟨kBlind, (va_recv hK hP (ci := 5) (q0 := 1) rfl rfl), fun U h1 h2 => ⟨rfl, hU U h1 h2⟩⟩ rfl rfl hl.1 rfl (lv_room (Nat.le_of_ble_eq_true rfl)) dX1_beginAnew_8 ⟨Nat.zero_le _, Nat.zero_le _⟩) (fun _ _ h => h) (fun H locs hP hD hS => ?_)
  have hP : va_P (dC, dI) vwCl [(qt, .inr (1, [.ref qt_shape, .ref qt_state])), (qt_state_open, .inr (4, [.ref qt_state_open_values])), (qt_state_open_values, .inl (cy.1, 210, .inl (ft_state_open))), (qt_state_signs, .inr (4, [.ref qt_state_signs_values])), (qt_state_signs_values, .inl (cy.1, 210, .inl (ft_state_signs))), (qt_shape, .inr (5, [.ref qt_shape_owners, .int (o8_0), .int (o8_1), .int (o8_2), .int (o8_3), .int (o8_4)])), (qt_shape_owners, .inr (4, [.ref qt_shape_owners_values])), (qt_shape_owners_values, .inl (cy.1, 210, .inl (o8_5))), (qt_state, .inr (6, [.ref qt_state_letters, .ref qt_state_open, .ref qt_state_signs, .int (it_state_size), .int (it_state_start), .int (it_state_goal)])), (qt_state_letters, .inr (4, [.ref qt_state_letters_values])), (qt_state_letters_values, .inl (cy.1, 6, .inl (ft_state_letters)))] H := hP
  have hD : va_D A [(qt, .inr (1, [.ref qt_shape, .ref qt_state])), (qt_state_open, .inr (4, [.ref qt_state_open_values])), (qt_state_open_values, .inl (cy.1, 210, .inl (ft_state_open))), (qt_state_signs, .inr (4, [.ref qt_state_signs_values])), (qt_state_signs_values, .inl (cy.1, 210, .inl (ft_state_signs))), (qt_shape, .inr (5, [.ref qt_shape_owners, .int (o8_0), .int (o8_1), .int (o8_2), .int (o8_3), .int (o8_4)])), (qt_shape_owners, .inr (4, [.ref qt_shape_owners_values])), (qt_shape_owners_values, .inl (cy.1, 210, .inl (o8_5))), (qt_state, .inr (6, [.ref qt_state_letters, .ref qt_state_open, .ref qt_state_signs, .int (it_state_size), .int (it_state_start), .int (it_state_goal)])), (qt_state_letters, .inr (4, [.ref qt_state_letters_values])), (qt_state_letters_values, .inl (cy.1, 6, .inl (ft_state_letters)))] := hD
  refine lv_aload_n hx hb dX1_beginAnew_11 rfl (lv_at hl 0 rfl) ?_
  refine va_get (D := (dC, dI)) (ci := 1) (C := RX1) (T := TX1) (N := 2) hx hb hts (fun _ h => (List.mem_cons_of_mem _ (List.mem_append_left _ (List.mem_append_left _ (List.mem_append_left _ (List.mem_append_right _ h)))))) hown hK hP 0 rfl rfl 1 (by decide) (hts _ (List.mem_cons_of_mem _ (List.mem_append_left _ (List.mem_append_left _ (List.mem_append_left _ (List.mem_append_left _ (List.mem_append_left _ (List.mem_of_getElem? (i := 1) rfl)))))))) (fun _ h => h) rfl dX1_beginAnew_12 ?_
  refine va_get (D := (dC, dI)) (ci := 6) (C := RX6) (T := TX6) (N := 6) hx hb hts (fun _ h => (List.mem_cons_of_mem _ (List.mem_append_left _ (List.mem_append_left _ (List.mem_append_right _ h))))) hown hK hP 8 rfl rfl 1 (by decide) (hts _ (List.mem_cons_of_mem _ (List.mem_append_left _ (List.mem_append_left _ (List.mem_append_left _ (List.mem_append_left _ (List.mem_append_left _ (List.mem_of_getElem? (i := 2) rfl)))))))) (fun _ h => h) rfl dX1_beginAnew_15 ?_
  refine lv_iconst (v := (0 : Int32)) hx hb dX1_beginAnew_18 (by decide) ?_
  obtain ⟨o19_0, hq_19, hf⟩ := bnd1_s hf
  refine kcallv (wc := [(qt_state_open, .inr (4, [.ref qt_state_open_values])), (qt_state_open_values, .inl (cy.1, 210, .inl (ft_state_open)))]) (wr := [(qt, .inr (1, [.ref qt_shape, .ref qt_state])), (qt_state_signs, .inr (4, [.ref qt_state_signs_values])), (qt_state_signs_values, .inl (cy.1, 210, .inl (ft_state_signs))), (qt_shape, .inr (5, [.ref qt_shape_owners, .int (o8_0), .int (o8_1), .int (o8_2), .int (o8_3), .int (o8_4)])), (qt_shape_owners, .inr (4, [.ref qt_shape_owners_values])), (qt_shape_owners_values, .inl (cy.1, 210, .inl (o8_5))), (qt_state, .inr (6, [.ref qt_state_letters, .ref qt_state_open, .ref qt_state_signs, .int (it_state_size), .int (it_state_start), .int (it_state_goal)])), (qt_state_letters, .inr (4, [.ref qt_state_letters_values])), (qt_state_letters_values, .inl (cy.1, 6, .inl (ft_state_letters)))]) (w1 := [(qt_state_open, .inr (4, [.ref qt_state_open_values])), (qt_state_open_values, .inl (cy.1, 210, .inl (o19_0)))]) hK hP hD hS hA hG [1, 2] [0, 3, 4, 5, 6, 7, 8, 9, 10] rfl rfl rfl rfl rfl (fun hU hPc => va_runV (As := [.int (0 : Int32)]) (rest := []) ⟨hx, hb, hml, hown, hts⟩ (c_X4_fill l dC dI cy G H.size qt_state_open qt_state_open_values N 210 (ft_state_open) ((0 : Int32)) (by decide) o19_0 hq_19) (cwV 1 hts gX1_beginAnew_X4_fill rfl rfl rfl hdX4_fill ⟨Nat.le_of_ble_eq_true rfl, Nat.le_of_ble_eq_true rfl⟩) ⟨kBlind, (va_recv hK hP (ci := 4) (q0 := 1) rfl rfl), fun U h1 h2 => ⟨rfl, hU U h1 h2⟩⟩ rfl rfl hl.1 rfl (lv_room (Nat.le_of_ble_eq_true rfl)) dX1_beginAnew_19 ⟨Nat.zero_le _, Nat.zero_le _⟩) (fun _ _ h => h) (fun H locs hP hD hS => ?_)
  have hP : va_P (dC, dI) vwCl [(qt, .inr (1, [.ref qt_shape, .ref qt_state])), (qt_state_signs, .inr (4, [.ref qt_state_signs_values])), (qt_state_signs_values, .inl (cy.1, 210, .inl (ft_state_signs))), (qt_shape, .inr (5, [.ref qt_shape_owners, .int (o8_0), .int (o8_1), .int (o8_2), .int (o8_3), .int (o8_4)])), (qt_shape_owners, .inr (4, [.ref qt_shape_owners_values])), (qt_shape_owners_values, .inl (cy.1, 210, .inl (o8_5))), (qt_state, .inr (6, [.ref qt_state_letters, .ref qt_state_open, .ref qt_state_signs, .int (it_state_size), .int (it_state_start), .int (it_state_goal)])), (qt_state_letters, .inr (4, [.ref qt_state_letters_values])), (qt_state_letters_values, .inl (cy.1, 6, .inl (ft_state_letters))), (qt_state_open, .inr (4, [.ref qt_state_open_values])), (qt_state_open_values, .inl (cy.1, 210, .inl (o19_0)))] H := hP
  have hD : va_D A [(qt, .inr (1, [.ref qt_shape, .ref qt_state])), (qt_state_signs, .inr (4, [.ref qt_state_signs_values])), (qt_state_signs_values, .inl (cy.1, 210, .inl (ft_state_signs))), (qt_shape, .inr (5, [.ref qt_shape_owners, .int (o8_0), .int (o8_1), .int (o8_2), .int (o8_3), .int (o8_4)])), (qt_shape_owners, .inr (4, [.ref qt_shape_owners_values])), (qt_shape_owners_values, .inl (cy.1, 210, .inl (o8_5))), (qt_state, .inr (6, [.ref qt_state_letters, .ref qt_state_open, .ref qt_state_signs, .int (it_state_size), .int (it_state_start), .int (it_state_goal)])), (qt_state_letters, .inr (4, [.ref qt_state_letters_values])), (qt_state_letters_values, .inl (cy.1, 6, .inl (ft_state_letters))), (qt_state_open, .inr (4, [.ref qt_state_open_values])), (qt_state_open_values, .inl (cy.1, 210, .inl (o19_0)))] := hD
  refine lv_aload_n hx hb dX1_beginAnew_22 rfl (lv_at hl 0 rfl) ?_
  refine va_get (D := (dC, dI)) (ci := 1) (C := RX1) (T := TX1) (N := 2) hx hb hts (fun _ h => (List.mem_cons_of_mem _ (List.mem_append_left _ (List.mem_append_left _ (List.mem_append_left _ (List.mem_append_right _ h)))))) hown hK hP 0 rfl rfl 1 (by decide) (hts _ (List.mem_cons_of_mem _ (List.mem_append_left _ (List.mem_append_left _ (List.mem_append_left _ (List.mem_append_left _ (List.mem_append_left _ (List.mem_of_getElem? (i := 1) rfl)))))))) (fun _ h => h) rfl dX1_beginAnew_23 ?_
  refine va_get (D := (dC, dI)) (ci := 6) (C := RX6) (T := TX6) (N := 6) hx hb hts (fun _ h => (List.mem_cons_of_mem _ (List.mem_append_left _ (List.mem_append_left _ (List.mem_append_right _ h))))) hown hK hP 6 rfl rfl 2 (by decide) (hts _ (List.mem_cons_of_mem _ (List.mem_append_left _ (List.mem_append_left _ (List.mem_append_left _ (List.mem_append_left _ (List.mem_append_left _ (List.mem_of_getElem? (i := 3) rfl)))))))) (fun _ h => h) rfl dX1_beginAnew_26 ?_
  refine lv_iconst (v := (0 : Int32)) hx hb dX1_beginAnew_29 (by decide) ?_
  obtain ⟨o30_0, hq_30, hf⟩ := bnd1_s hf
  refine kcallv (wc := [(qt_state_signs, .inr (4, [.ref qt_state_signs_values])), (qt_state_signs_values, .inl (cy.1, 210, .inl (ft_state_signs)))]) (wr := [(qt, .inr (1, [.ref qt_shape, .ref qt_state])), (qt_shape, .inr (5, [.ref qt_shape_owners, .int (o8_0), .int (o8_1), .int (o8_2), .int (o8_3), .int (o8_4)])), (qt_shape_owners, .inr (4, [.ref qt_shape_owners_values])), (qt_shape_owners_values, .inl (cy.1, 210, .inl (o8_5))), (qt_state, .inr (6, [.ref qt_state_letters, .ref qt_state_open, .ref qt_state_signs, .int (it_state_size), .int (it_state_start), .int (it_state_goal)])), (qt_state_letters, .inr (4, [.ref qt_state_letters_values])), (qt_state_letters_values, .inl (cy.1, 6, .inl (ft_state_letters))), (qt_state_open, .inr (4, [.ref qt_state_open_values])), (qt_state_open_values, .inl (cy.1, 210, .inl (o19_0)))]) (w1 := [(qt_state_signs, .inr (4, [.ref qt_state_signs_values])), (qt_state_signs_values, .inl (cy.1, 210, .inl (o30_0)))]) hK hP hD hS hA hG [1, 2] [0, 3, 4, 5, 6, 7, 8, 9, 10] rfl rfl rfl rfl rfl (fun hU hPc => va_runV (As := [.int (0 : Int32)]) (rest := []) ⟨hx, hb, hml, hown, hts⟩ (c_X4_fill l dC dI cy G H.size qt_state_signs qt_state_signs_values N 210 (ft_state_signs) ((0 : Int32)) (by decide) o30_0 hq_30) (cwV 1 hts gX1_beginAnew_X4_fill rfl rfl rfl hdX4_fill ⟨Nat.le_of_ble_eq_true rfl, Nat.le_of_ble_eq_true rfl⟩) ⟨kBlind, (va_recv hK hP (ci := 4) (q0 := 1) rfl rfl), fun U h1 h2 => ⟨rfl, hU U h1 h2⟩⟩ rfl rfl hl.1 rfl (lv_room (Nat.le_of_ble_eq_true rfl)) dX1_beginAnew_30 ⟨Nat.zero_le _, Nat.zero_le _⟩) (fun _ _ h => h) (fun H locs hP hD hS => ?_)
  have hP : va_P (dC, dI) vwCl [(qt, .inr (1, [.ref qt_shape, .ref qt_state])), (qt_shape, .inr (5, [.ref qt_shape_owners, .int (o8_0), .int (o8_1), .int (o8_2), .int (o8_3), .int (o8_4)])), (qt_shape_owners, .inr (4, [.ref qt_shape_owners_values])), (qt_shape_owners_values, .inl (cy.1, 210, .inl (o8_5))), (qt_state, .inr (6, [.ref qt_state_letters, .ref qt_state_open, .ref qt_state_signs, .int (it_state_size), .int (it_state_start), .int (it_state_goal)])), (qt_state_letters, .inr (4, [.ref qt_state_letters_values])), (qt_state_letters_values, .inl (cy.1, 6, .inl (ft_state_letters))), (qt_state_open, .inr (4, [.ref qt_state_open_values])), (qt_state_open_values, .inl (cy.1, 210, .inl (o19_0))), (qt_state_signs, .inr (4, [.ref qt_state_signs_values])), (qt_state_signs_values, .inl (cy.1, 210, .inl (o30_0)))] H := hP
  have hD : va_D A [(qt, .inr (1, [.ref qt_shape, .ref qt_state])), (qt_shape, .inr (5, [.ref qt_shape_owners, .int (o8_0), .int (o8_1), .int (o8_2), .int (o8_3), .int (o8_4)])), (qt_shape_owners, .inr (4, [.ref qt_shape_owners_values])), (qt_shape_owners_values, .inl (cy.1, 210, .inl (o8_5))), (qt_state, .inr (6, [.ref qt_state_letters, .ref qt_state_open, .ref qt_state_signs, .int (it_state_size), .int (it_state_start), .int (it_state_goal)])), (qt_state_letters, .inr (4, [.ref qt_state_letters_values])), (qt_state_letters_values, .inl (cy.1, 6, .inl (ft_state_letters))), (qt_state_open, .inr (4, [.ref qt_state_open_values])), (qt_state_open_values, .inl (cy.1, 210, .inl (o19_0))), (qt_state_signs, .inr (4, [.ref qt_state_signs_values])), (qt_state_signs_values, .inl (cy.1, 210, .inl (o30_0)))] := hD
  refine lv_aload_n hx hb dX1_beginAnew_33 rfl (lv_at hl 0 rfl) ?_
  refine va_get (D := (dC, dI)) (ci := 1) (C := RX1) (T := TX1) (N := 2) hx hb hts (fun _ h => (List.mem_cons_of_mem _ (List.mem_append_left _ (List.mem_append_left _ (List.mem_append_left _ (List.mem_append_right _ h)))))) hown hK hP 0 rfl rfl 1 (by decide) (hts _ (List.mem_cons_of_mem _ (List.mem_append_left _ (List.mem_append_left _ (List.mem_append_left _ (List.mem_append_left _ (List.mem_append_left _ (List.mem_of_getElem? (i := 1) rfl)))))))) (fun _ h => h) rfl dX1_beginAnew_34 ?_
  refine lv_aload_n hx hb dX1_beginAnew_37 rfl (lv_at hl 0 rfl) ?_
  refine va_get (D := (dC, dI)) (ci := 1) (C := RX1) (T := TX1) (N := 2) hx hb hts (fun _ h => (List.mem_cons_of_mem _ (List.mem_append_left _ (List.mem_append_left _ (List.mem_append_left _ (List.mem_append_right _ h)))))) hown hK hP 0 rfl rfl 0 (by decide) (hts _ (List.mem_cons_of_mem _ (List.mem_append_left _ (List.mem_append_left _ (List.mem_append_left _ (List.mem_append_left _ (List.mem_append_left _ (List.mem_of_getElem? (i := 0) rfl)))))))) (fun _ h => h) rfl dX1_beginAnew_38 ?_
  refine kcalli (wc := [(qt_shape, .inr (5, [.ref qt_shape_owners, .int (o8_0), .int (o8_1), .int (o8_2), .int (o8_3), .int (o8_4)]))]) (wr := [(qt, .inr (1, [.ref qt_shape, .ref qt_state])), (qt_shape_owners, .inr (4, [.ref qt_shape_owners_values])), (qt_shape_owners_values, .inl (cy.1, 210, .inl (o8_5))), (qt_state, .inr (6, [.ref qt_state_letters, .ref qt_state_open, .ref qt_state_signs, .int (it_state_size), .int (it_state_start), .int (it_state_goal)])), (qt_state_letters, .inr (4, [.ref qt_state_letters_values])), (qt_state_letters_values, .inl (cy.1, 6, .inl (ft_state_letters))), (qt_state_open, .inr (4, [.ref qt_state_open_values])), (qt_state_open_values, .inl (cy.1, 210, .inl (o19_0))), (qt_state_signs, .inr (4, [.ref qt_state_signs_values])), (qt_state_signs_values, .inl (cy.1, 210, .inl (o30_0)))]) (w1 := [(qt_shape, .inr (5, [.ref qt_shape_owners, .int (o8_0), .int (o8_1), .int (o8_2), .int (o8_3), .int (o8_4)]))]) hK hP hD hS hA hG [1] [0, 2, 3, 4, 5, 6, 7, 8, 9, 10] rfl rfl rfl rfl rfl (fun hU hPc => va_runV (As := []) (rest := [.ref qt_state]) ⟨hx, hb, hml, hown, hts⟩ (c_X5_baseCell l dC dI cy G H.size qt_shape qt_shape_owners (o8_1) (o8_2) (o8_3) (o8_4) (o8_0) (t_X5_baseCell (o8_0)) (tot_X5_baseCell (o8_0))) (cwV 0 hts gX1_beginAnew_X5_baseCell rfl rfl rfl hdX5_baseCell ⟨Nat.le_of_ble_eq_true rfl, Nat.le_of_ble_eq_true rfl⟩) ⟨kBlind, (va_recv hK hP (ci := 5) (q0 := 1) rfl rfl), fun U h1 h2 => ⟨rfl, hU U h1 h2⟩⟩ rfl rfl hl.1 rfl (lv_room (Nat.le_of_ble_eq_true rfl)) dX1_beginAnew_41 ⟨Nat.zero_le _, Nat.zero_le _⟩) ((t_X5_baseCell (o8_0))) (fun _ _ h => h) (fun _ _ h => h) (fun H locs hP hD hS => ?_)
  have hP : va_P (dC, dI) vwCl [(qt, .inr (1, [.ref qt_shape, .ref qt_state])), (qt_shape_owners, .inr (4, [.ref qt_shape_owners_values])), (qt_shape_owners_values, .inl (cy.1, 210, .inl (o8_5))), (qt_state, .inr (6, [.ref qt_state_letters, .ref qt_state_open, .ref qt_state_signs, .int (it_state_size), .int (it_state_start), .int (it_state_goal)])), (qt_state_letters, .inr (4, [.ref qt_state_letters_values])), (qt_state_letters_values, .inl (cy.1, 6, .inl (ft_state_letters))), (qt_state_open, .inr (4, [.ref qt_state_open_values])), (qt_state_open_values, .inl (cy.1, 210, .inl (o19_0))), (qt_state_signs, .inr (4, [.ref qt_state_signs_values])), (qt_state_signs_values, .inl (cy.1, 210, .inl (o30_0))), (qt_shape, .inr (5, [.ref qt_shape_owners, .int (o8_0), .int (o8_1), .int (o8_2), .int (o8_3), .int (o8_4)]))] H := hP
  have hD : va_D A [(qt, .inr (1, [.ref qt_shape, .ref qt_state])), (qt_shape_owners, .inr (4, [.ref qt_shape_owners_values])), (qt_shape_owners_values, .inl (cy.1, 210, .inl (o8_5))), (qt_state, .inr (6, [.ref qt_state_letters, .ref qt_state_open, .ref qt_state_signs, .int (it_state_size), .int (it_state_start), .int (it_state_goal)])), (qt_state_letters, .inr (4, [.ref qt_state_letters_values])), (qt_state_letters_values, .inl (cy.1, 6, .inl (ft_state_letters))), (qt_state_open, .inr (4, [.ref qt_state_open_values])), (qt_state_open_values, .inl (cy.1, 210, .inl (o19_0))), (qt_state_signs, .inr (4, [.ref qt_state_signs_values])), (qt_state_signs_values, .inl (cy.1, 210, .inl (o30_0))), (qt_shape, .inr (5, [.ref qt_shape_owners, .int (o8_0), .int (o8_1), .int (o8_2), .int (o8_3), .int (o8_4)]))] := hD
  refine va_put (D := (dC, dI)) (ci := 6) (v := .int (t_X5_baseCell (o8_0))) (ty := .int) (C := RX6) (T := TX6) (N := 6) hx hb hts (fun _ h => (List.mem_cons_of_mem _ (List.mem_append_left _ (List.mem_append_left _ (List.mem_append_right _ h))))) tyX6 tyX6_ok nmX6 hown hK hP hD hS 3 rfl rfl 4 (by decide) (hts _ (List.mem_cons_of_mem _ (List.mem_append_left _ (List.mem_append_left _ (List.mem_append_left _ (List.mem_append_left _ (List.mem_append_left _ (List.mem_of_getElem? (i := 4) rfl)))))))) (fun _ h => h) rfl (by decide +kernel) rfl rfl (Nat.le_of_ble_eq_true rfl) dX1_beginAnew_44 (fun H locs hP hD hS => ?_)
  have hP : va_P (dC, dI) vwCl [(qt, .inr (1, [.ref qt_shape, .ref qt_state])), (qt_shape_owners, .inr (4, [.ref qt_shape_owners_values])), (qt_shape_owners_values, .inl (cy.1, 210, .inl (o8_5))), (qt_state, .inr (6, [.ref qt_state_letters, .ref qt_state_open, .ref qt_state_signs, .int (it_state_size), .int ((t_X5_baseCell (o8_0))), .int (it_state_goal)])), (qt_state_letters, .inr (4, [.ref qt_state_letters_values])), (qt_state_letters_values, .inl (cy.1, 6, .inl (ft_state_letters))), (qt_state_open, .inr (4, [.ref qt_state_open_values])), (qt_state_open_values, .inl (cy.1, 210, .inl (o19_0))), (qt_state_signs, .inr (4, [.ref qt_state_signs_values])), (qt_state_signs_values, .inl (cy.1, 210, .inl (o30_0))), (qt_shape, .inr (5, [.ref qt_shape_owners, .int (o8_0), .int (o8_1), .int (o8_2), .int (o8_3), .int (o8_4)]))] H := hP
  have hD : va_D A [(qt, .inr (1, [.ref qt_shape, .ref qt_state])), (qt_shape_owners, .inr (4, [.ref qt_shape_owners_values])), (qt_shape_owners_values, .inl (cy.1, 210, .inl (o8_5))), (qt_state, .inr (6, [.ref qt_state_letters, .ref qt_state_open, .ref qt_state_signs, .int (it_state_size), .int ((t_X5_baseCell (o8_0))), .int (it_state_goal)])), (qt_state_letters, .inr (4, [.ref qt_state_letters_values])), (qt_state_letters_values, .inl (cy.1, 6, .inl (ft_state_letters))), (qt_state_open, .inr (4, [.ref qt_state_open_values])), (qt_state_open_values, .inl (cy.1, 210, .inl (o19_0))), (qt_state_signs, .inr (4, [.ref qt_state_signs_values])), (qt_state_signs_values, .inl (cy.1, 210, .inl (o30_0))), (qt_shape, .inr (5, [.ref qt_shape_owners, .int (o8_0), .int (o8_1), .int (o8_2), .int (o8_3), .int (o8_4)]))] := hD
  refine lv_aload_n hx hb dX1_beginAnew_47 rfl (lv_at hl 0 rfl) ?_
  refine va_get (D := (dC, dI)) (ci := 1) (C := RX1) (T := TX1) (N := 2) hx hb hts (fun _ h => (List.mem_cons_of_mem _ (List.mem_append_left _ (List.mem_append_left _ (List.mem_append_left _ (List.mem_append_right _ h)))))) hown hK hP 0 rfl rfl 1 (by decide) (hts _ (List.mem_cons_of_mem _ (List.mem_append_left _ (List.mem_append_left _ (List.mem_append_left _ (List.mem_append_left _ (List.mem_append_left _ (List.mem_of_getElem? (i := 1) rfl)))))))) (fun _ h => h) rfl dX1_beginAnew_48 ?_
  refine lv_aload_n hx hb dX1_beginAnew_51 rfl (lv_at hl 0 rfl) ?_
  refine va_get (D := (dC, dI)) (ci := 1) (C := RX1) (T := TX1) (N := 2) hx hb hts (fun _ h => (List.mem_cons_of_mem _ (List.mem_append_left _ (List.mem_append_left _ (List.mem_append_left _ (List.mem_append_right _ h)))))) hown hK hP 0 rfl rfl 0 (by decide) (hts _ (List.mem_cons_of_mem _ (List.mem_append_left _ (List.mem_append_left _ (List.mem_append_left _ (List.mem_append_left _ (List.mem_append_left _ (List.mem_of_getElem? (i := 0) rfl)))))))) (fun _ h => h) rfl dX1_beginAnew_52 ?_
  refine va_get (D := (dC, dI)) (ci := 5) (C := RX5) (T := TX5) (N := 6) hx hb hts (fun _ h => (List.mem_cons_of_mem _ (List.mem_append_left _ (List.mem_append_right _ h)))) hown hK hP 10 rfl rfl 5 (by decide) (hts _ (List.mem_cons_of_mem _ (List.mem_append_left _ (List.mem_append_left _ (List.mem_append_left _ (List.mem_append_left _ (List.mem_append_left _ (List.mem_of_getElem? (i := 5) rfl)))))))) (fun _ h => h) rfl dX1_beginAnew_55 ?_
  refine va_put (D := (dC, dI)) (ci := 6) (v := .int o8_4) (ty := .int) (C := RX6) (T := TX6) (N := 6) hx hb hts (fun _ h => (List.mem_cons_of_mem _ (List.mem_append_left _ (List.mem_append_left _ (List.mem_append_right _ h))))) tyX6 tyX6_ok nmX6 hown hK hP hD hS 3 rfl rfl 5 (by decide) (hts _ (List.mem_cons_of_mem _ (List.mem_append_left _ (List.mem_append_left _ (List.mem_append_left _ (List.mem_append_left _ (List.mem_append_left _ (List.mem_of_getElem? (i := 6) rfl)))))))) (fun _ h => h) rfl (by decide +kernel) rfl rfl (Nat.le_of_ble_eq_true rfl) dX1_beginAnew_58 (fun H locs hP hD hS => ?_)
  have hP : va_P (dC, dI) vwCl [(qt, .inr (1, [.ref qt_shape, .ref qt_state])), (qt_shape_owners, .inr (4, [.ref qt_shape_owners_values])), (qt_shape_owners_values, .inl (cy.1, 210, .inl (o8_5))), (qt_state, .inr (6, [.ref qt_state_letters, .ref qt_state_open, .ref qt_state_signs, .int (it_state_size), .int ((t_X5_baseCell (o8_0))), .int (o8_4)])), (qt_state_letters, .inr (4, [.ref qt_state_letters_values])), (qt_state_letters_values, .inl (cy.1, 6, .inl (ft_state_letters))), (qt_state_open, .inr (4, [.ref qt_state_open_values])), (qt_state_open_values, .inl (cy.1, 210, .inl (o19_0))), (qt_state_signs, .inr (4, [.ref qt_state_signs_values])), (qt_state_signs_values, .inl (cy.1, 210, .inl (o30_0))), (qt_shape, .inr (5, [.ref qt_shape_owners, .int (o8_0), .int (o8_1), .int (o8_2), .int (o8_3), .int (o8_4)]))] H := hP
  have hD : va_D A [(qt, .inr (1, [.ref qt_shape, .ref qt_state])), (qt_shape_owners, .inr (4, [.ref qt_shape_owners_values])), (qt_shape_owners_values, .inl (cy.1, 210, .inl (o8_5))), (qt_state, .inr (6, [.ref qt_state_letters, .ref qt_state_open, .ref qt_state_signs, .int (it_state_size), .int ((t_X5_baseCell (o8_0))), .int (o8_4)])), (qt_state_letters, .inr (4, [.ref qt_state_letters_values])), (qt_state_letters_values, .inl (cy.1, 6, .inl (ft_state_letters))), (qt_state_open, .inr (4, [.ref qt_state_open_values])), (qt_state_open_values, .inl (cy.1, 210, .inl (o19_0))), (qt_state_signs, .inr (4, [.ref qt_state_signs_values])), (qt_state_signs_values, .inl (cy.1, 210, .inl (o30_0))), (qt_shape, .inr (5, [.ref qt_shape_owners, .int (o8_0), .int (o8_1), .int (o8_2), .int (o8_3), .int (o8_4)]))] := hD
  cases hf
  subst hQ
  exact kvret hx hb hr hlocks hK (hP.sub [0, 10, 1, 2, 3, 4, 5, 6, 7, 8, 9] rfl) (hD.sub [0, 10, 1, 2, 3, 4, 5, 6, 7, 8, 9] (by decide) rfl) hS trivial dX1_beginAnew_61
theorem hdX1_beginAnew : yX1_beginAnew.cls = RX1 ∧ yX1_beginAnew.cls ≠ "java/lang/invoke/MethodHandle" ∧ yX1_beginAnew.cls ≠ "java/lang/invoke/VarHandle" ∧ (parseMethodDescriptor yX1_beginAnew.desc).map (fun d => d.parameters.length) = some 0 := by decide +kernel
noncomputable def f_X1_isOpen (ft_state_open : Nat → Int32) (va1 : Int32) (va2 : Int32) : Option (Int32) :=
  if (((t_X4_at 210 (ft_state_open) (va1)) >>> (va2 &&& 31)) &&& (1 : Int32)) = (1 : Int32) then
    some ((1 : Int32))
  else
    some ((0 : Int32))
abbrev rm_X1_isOpen : Room := { frames := 1, cells := 0, slots := 0, locals := 21 }
set_option maxHeartbeats 4000000 in
set_option maxRecDepth 100000 in
theorem c_X1_isOpen (l : Launch) (dC : Nat → ClassId) (dI : Nat → Nat → Nat) (cy : gC) (G : gT) (sz : Nat) (qt : Nat) (qt_state : Nat) (qt_state_open : Nat) (qt_state_open_values : Nat) (xt_shape : Nat) (xt_state_letters : Nat) (xt_state_signs : Nat) (it_state_size : Int32) (it_state_start : Int32) (it_state_goal : Int32) (ft_state_open : Nat → Int32) (va1 : Int32) (va2 : Int32) (out : Int32) (hf : f_X1_isOpen ft_state_open va1 va2 = some out) : Met l yX1_isOpen wsX1_isOpen rm_X1_isOpen (va_Pc [.ref qt, .int va1, .int va2] (kP (dC, dI) cy G [(qt, .inr (1, [.ref xt_shape, .ref qt_state])), (qt_state, .inr (6, [.ref xt_state_letters, .ref qt_state_open, .ref xt_state_signs, .int (it_state_size), .int (it_state_start), .int (it_state_goal)])), (qt_state_open, .inr (4, [.ref qt_state_open_values])), (qt_state_open_values, .inl (cy.1, 210, .inl (ft_state_open)))] sz)) (va_Qi (fun r (_ : Unit) => r = out) (fun _ => kQ (dC, dI) cy [(qt, .inr (1, [.ref xt_shape, .ref qt_state])), (qt_state, .inr (6, [.ref xt_state_letters, .ref qt_state_open, .ref xt_state_signs, .int (it_state_size), .int (it_state_start), .int (it_state_goal)])), (qt_state_open, .inr (4, [.ref qt_state_open_values])), (qt_state_open_values, .inl (cy.1, 210, .inl (ft_state_open)))] (va_A [(qt, .inr (1, [.ref xt_shape, .ref qt_state])), (qt_state, .inr (6, [.ref xt_state_letters, .ref qt_state_open, .ref xt_state_signs, .int (it_state_size), .int (it_state_start), .int (it_state_goal)])), (qt_state_open, .inr (4, [.ref qt_state_open_values])), (qt_state_open_values, .inl (cy.1, 210, .inl (ft_state_open)))] sz)) (va_A [(qt, .inr (1, [.ref xt_shape, .ref qt_state])), (qt_state, .inr (6, [.ref xt_state_letters, .ref qt_state_open, .ref xt_state_signs, .int (it_state_size), .int (it_state_start), .int (it_state_goal)])), (qt_state_open, .inr (4, [.ref qt_state_open_values])), (qt_state_open_values, .inl (cy.1, 210, .inl (ft_state_open)))] sz)) 0 0 (va_A [(qt, .inr (1, [.ref xt_shape, .ref qt_state])), (qt_state, .inr (6, [.ref xt_state_letters, .ref qt_state_open, .ref xt_state_signs, .int (it_state_size), .int (it_state_start), .int (it_state_goal)])), (qt_state_open, .inr (4, [.ref qt_state_open_values])), (qt_state_open_values, .inl (cy.1, 210, .inl (ft_state_open)))] sz) := by
  refine Met.ofW (cc := cX1_isOpen) (maxL := 3) (ret := (some .boolean)) (by decide) rfl ?_
  intro p e s m args below meth c s₁ B hml hv
  obtain ⟨rfl, hsz, hP, hK, hD0, hG⟩ := hv
  have hx := B.exec
  have hb := B.bytes
  have hr := B.returns
  have hts := atoms_spec (ws := wsX1_isOpen) B.pre
  have hown : s.vm.findClass RX1 = some m.cls := findClass_of_methodNamed B.named
  have hlocks := B.notSynchronized
  subst hsz
  have hD := hD0.self (sz := s.heap.size)
  generalize hAe : va_A [(qt, .inr (1, [.ref xt_shape, .ref qt_state])), (qt_state, .inr (6, [.ref xt_state_letters, .ref qt_state_open, .ref xt_state_signs, .int (it_state_size), .int (it_state_start), .int (it_state_goal)])), (qt_state_open, .inr (4, [.ref qt_state_open_values])), (qt_state_open_values, .inl (cy.1, 210, .inl (ft_state_open)))] s.heap.size = A at hD hG ⊢
  have hA : ∀ q : Nat, s.heap.size ≤ q → A q := fun q h => by rw [← hAe]; exact Or.inr h
  have hS : va_S A s.heap s.heap [] := va_S.rf
  have hP : va_P (dC, dI) vwCl [(qt, .inr (1, [.ref xt_shape, .ref qt_state])), (qt_state, .inr (6, [.ref xt_state_letters, .ref qt_state_open, .ref xt_state_signs, .int (it_state_size), .int (it_state_start), .int (it_state_goal)])), (qt_state_open, .inr (4, [.ref qt_state_open_values])), (qt_state_open_values, .inl (cy.1, 210, .inl (ft_state_open)))] s.heap := hP
  have hl := lv_entry ([.ref qt, .int va1, .int va2]) (n := 3) (Nat.le_of_ble_eq_true rfl)
  rw [lg_entry_eq]
  generalize (lg_sl ([.ref qt, .int va1, .int va2]) ++ List.replicate (3 - (lg_sl ([.ref qt, .int va1, .int va2])).length) Slot.unset).toArray = ls at hl ⊢
  have hl : lv_has ls 3 [(0, .ref qt), (1, .int va1), (2, .int va2)] := hl
  refine kgen (fun Q hQ => ?_)
  rw [f_X1_isOpen] at hf
  refine lv_aload_n hx hb dX1_isOpen_0 rfl (lv_at hl 0 rfl) ?_
  refine va_get (D := (dC, dI)) (ci := 1) (C := RX1) (T := TX1) (N := 2) hx hb hts (fun _ h => (List.mem_cons_of_mem _ (List.mem_append_left _ (List.mem_append_left _ (List.mem_append_right _ h))))) hown hK hP 0 rfl rfl 1 (by decide) (hts _ (List.mem_cons_of_mem _ (List.mem_append_left _ (List.mem_append_left _ (List.mem_append_left _ (List.mem_of_getElem? (i := 0) rfl)))))) (fun _ h => h) rfl dX1_isOpen_1 ?_
  refine va_get (D := (dC, dI)) (ci := 6) (C := RX6) (T := TX6) (N := 6) hx hb hts (fun _ h => (List.mem_cons_of_mem _ (List.mem_append_left _ (List.mem_append_right _ h)))) hown hK hP 1 rfl rfl 1 (by decide) (hts _ (List.mem_cons_of_mem _ (List.mem_append_left _ (List.mem_append_left _ (List.mem_append_left _ (List.mem_of_getElem? (i := 1) rfl)))))) (fun _ h => h) rfl dX1_isOpen_4 ?_
  refine lv_iload_n hx hb dX1_isOpen_7 rfl (lv_at hl 1 rfl) ?_
  refine kcalli (wc := [(qt_state_open, .inr (4, [.ref qt_state_open_values])), (qt_state_open_values, .inl (cy.1, 210, .inl (ft_state_open)))]) (wr := [(qt, .inr (1, [.ref xt_shape, .ref qt_state])), (qt_state, .inr (6, [.ref xt_state_letters, .ref qt_state_open, .ref xt_state_signs, .int (it_state_size), .int (it_state_start), .int (it_state_goal)]))]) (w1 := [(qt_state_open, .inr (4, [.ref qt_state_open_values])), (qt_state_open_values, .inl (cy.1, 210, .inl (ft_state_open)))]) hK hP hD hS hA hG [2, 3] [0, 1] rfl rfl rfl rfl rfl (fun hU hPc => va_runV (As := [.int va1]) (rest := []) ⟨hx, hb, hml, hown, hts⟩ (c_X4_at l dC dI cy G s.heap.size qt_state_open qt_state_open_values 210 (ft_state_open) (va1) (by decide) (t_X4_at 210 (ft_state_open) (va1)) (tot_X4_at 210 (ft_state_open) (va1))) (cwV 1 hts gX1_isOpen_X4_at rfl rfl rfl hdX4_at ⟨Nat.le_of_ble_eq_true rfl, Nat.le_of_ble_eq_true rfl⟩) ⟨kBlind, (va_recv hK hP (ci := 4) (q0 := 2) rfl rfl), fun U h1 h2 => ⟨rfl, hU U h1 h2⟩⟩ rfl rfl hl.1 rfl (lv_room (Nat.le_of_ble_eq_true rfl)) dX1_isOpen_8 ⟨Nat.zero_le _, Nat.zero_le _⟩) ((t_X4_at 210 (ft_state_open) (va1))) (fun _ _ h => h) (fun _ _ h => h) (fun H locs hP hD hS => ?_)
  have hP : va_P (dC, dI) vwCl [(qt, .inr (1, [.ref xt_shape, .ref qt_state])), (qt_state, .inr (6, [.ref xt_state_letters, .ref qt_state_open, .ref xt_state_signs, .int (it_state_size), .int (it_state_start), .int (it_state_goal)])), (qt_state_open, .inr (4, [.ref qt_state_open_values])), (qt_state_open_values, .inl (cy.1, 210, .inl (ft_state_open)))] H := hP
  have hD : va_D A [(qt, .inr (1, [.ref xt_shape, .ref qt_state])), (qt_state, .inr (6, [.ref xt_state_letters, .ref qt_state_open, .ref xt_state_signs, .int (it_state_size), .int (it_state_start), .int (it_state_goal)])), (qt_state_open, .inr (4, [.ref qt_state_open_values])), (qt_state_open_values, .inl (cy.1, 210, .inl (ft_state_open)))] := hD
  refine lv_iload_n hx hb dX1_isOpen_11 rfl (lv_at hl 2 rfl) ?_
  refine lv_ishr hx hb dX1_isOpen_12 ?_
  refine lv_iconst (v := (1 : Int32)) hx hb dX1_isOpen_13 (by decide) ?_
  refine lv_iand hx hb dX1_isOpen_14 ?_
  refine lv_iconst (v := (1 : Int32)) hx hb dX1_isOpen_15 (by decide) ?_
  refine lv_icmp_ne (tgt := 23) hx hb dX1_isOpen_16 (by decide) (fun hc_16 => ?_) (fun hc_16 => ?_)
  · rw [if_neg hc_16] at hf
    refine lv_iconst (v := (0 : Int32)) hx hb dX1_isOpen_23 (by decide) ?_
    cases hf
    subst hQ
    exact kzret hx hb hr hlocks rfl hK (hP.sub [0, 1, 2, 3] rfl) (hD.sub [0, 1, 2, 3] (by decide) rfl) hS rfl dX1_isOpen_24
  · rw [if_pos hc_16] at hf
    refine lv_iconst (v := (1 : Int32)) hx hb dX1_isOpen_19 (by decide) ?_
    refine lv_goto (tgt := 24) hx hb dX1_isOpen_20 (by decide) ?_
    cases hf
    subst hQ
    exact kzret hx hb hr hlocks rfl hK (hP.sub [0, 1, 2, 3] rfl) (hD.sub [0, 1, 2, 3] (by decide) rfl) hS rfl dX1_isOpen_24
theorem hdX1_isOpen : yX1_isOpen.cls = RX1 ∧ yX1_isOpen.cls ≠ "java/lang/invoke/MethodHandle" ∧ yX1_isOpen.cls ≠ "java/lang/invoke/VarHandle" ∧ (parseMethodDescriptor yX1_isOpen.desc).map (fun d => d.parameters.length) = some 2 := by decide +kernel
noncomputable def t_X1_isOpen (ft_state_open : Nat → Int32) (va1 : Int32) (va2 : Int32) : Int32 :=
  if (((t_X4_at 210 (ft_state_open) (va1)) >>> (va2 &&& 31)) &&& (1 : Int32)) = (1 : Int32) then
    (1 : Int32)
  else
    (0 : Int32)
theorem tot_X1_isOpen (ft_state_open : Nat → Int32) (va1 : Int32) (va2 : Int32) : f_X1_isOpen ft_state_open va1 va2 = some (t_X1_isOpen ft_state_open va1 va2) := by
  by_cases hc_16 : (((t_X4_at 210 (ft_state_open) (va1)) >>> (va2 &&& 31)) &&& (1 : Int32)) = (1 : Int32)
  · simp only [f_X1_isOpen, t_X1_isOpen, if_pos hc_16]
  · simp only [f_X1_isOpen, t_X1_isOpen, if_neg hc_16]
theorem bl_X1_isOpen (ft_state_open : Nat → Int32) (va1 : Int32) (va2 : Int32) : t_X1_isOpen ft_state_open va1 va2 = 0 ∨ t_X1_isOpen ft_state_open va1 va2 = 1 := by
  unfold t_X1_isOpen
  repeat' (first | exact Or.inl rfl | exact Or.inr rfl | fail | split)
noncomputable def f_X1_openDoors (ft_state_open : Nat → Int32) (va1 : Int32) : Option (Int32) :=
  some ((t_J6_bitCount_0f7a4 ((t_X4_at 210 (ft_state_open) (va1)))))
abbrev rm_X1_openDoors : Room := { frames := 1, cells := 0, slots := 0, locals := 21 }
set_option maxHeartbeats 4000000 in
set_option maxRecDepth 100000 in
theorem c_X1_openDoors (l : Launch) (dC : Nat → ClassId) (dI : Nat → Nat → Nat) (cy : gC) (G : gT) (sz : Nat) (qt : Nat) (qt_state : Nat) (qt_state_open : Nat) (qt_state_open_values : Nat) (xt_shape : Nat) (xt_state_letters : Nat) (xt_state_signs : Nat) (it_state_size : Int32) (it_state_start : Int32) (it_state_goal : Int32) (ft_state_open : Nat → Int32) (va1 : Int32) (out : Int32) (hf : f_X1_openDoors ft_state_open va1 = some out) : Met l yX1_openDoors wsX1_openDoors rm_X1_openDoors (va_Pc [.ref qt, .int va1] (kP (dC, dI) cy G [(qt, .inr (1, [.ref xt_shape, .ref qt_state])), (qt_state, .inr (6, [.ref xt_state_letters, .ref qt_state_open, .ref xt_state_signs, .int (it_state_size), .int (it_state_start), .int (it_state_goal)])), (qt_state_open, .inr (4, [.ref qt_state_open_values])), (qt_state_open_values, .inl (cy.1, 210, .inl (ft_state_open)))] sz)) (va_Qi (fun r (_ : Unit) => r = out) (fun _ => kQ (dC, dI) cy [(qt, .inr (1, [.ref xt_shape, .ref qt_state])), (qt_state, .inr (6, [.ref xt_state_letters, .ref qt_state_open, .ref xt_state_signs, .int (it_state_size), .int (it_state_start), .int (it_state_goal)])), (qt_state_open, .inr (4, [.ref qt_state_open_values])), (qt_state_open_values, .inl (cy.1, 210, .inl (ft_state_open)))] (va_A [(qt, .inr (1, [.ref xt_shape, .ref qt_state])), (qt_state, .inr (6, [.ref xt_state_letters, .ref qt_state_open, .ref xt_state_signs, .int (it_state_size), .int (it_state_start), .int (it_state_goal)])), (qt_state_open, .inr (4, [.ref qt_state_open_values])), (qt_state_open_values, .inl (cy.1, 210, .inl (ft_state_open)))] sz)) (va_A [(qt, .inr (1, [.ref xt_shape, .ref qt_state])), (qt_state, .inr (6, [.ref xt_state_letters, .ref qt_state_open, .ref xt_state_signs, .int (it_state_size), .int (it_state_start), .int (it_state_goal)])), (qt_state_open, .inr (4, [.ref qt_state_open_values])), (qt_state_open_values, .inl (cy.1, 210, .inl (ft_state_open)))] sz)) 0 0 (va_A [(qt, .inr (1, [.ref xt_shape, .ref qt_state])), (qt_state, .inr (6, [.ref xt_state_letters, .ref qt_state_open, .ref xt_state_signs, .int (it_state_size), .int (it_state_start), .int (it_state_goal)])), (qt_state_open, .inr (4, [.ref qt_state_open_values])), (qt_state_open_values, .inl (cy.1, 210, .inl (ft_state_open)))] sz) := by
  refine Met.ofW (cc := cX1_openDoors) (maxL := 2) (ret := (some .int)) (by decide) rfl ?_
  intro p e s m args below meth c s₁ B hml hv
  obtain ⟨rfl, hsz, hP, hK, hD0, hG⟩ := hv
  have hx := B.exec
  have hb := B.bytes
  have hr := B.returns
  have hts := atoms_spec (ws := wsX1_openDoors) B.pre
  have hown : s.vm.findClass RX1 = some m.cls := findClass_of_methodNamed B.named
  have hlocks := B.notSynchronized
  subst hsz
  have hD := hD0.self (sz := s.heap.size)
  generalize hAe : va_A [(qt, .inr (1, [.ref xt_shape, .ref qt_state])), (qt_state, .inr (6, [.ref xt_state_letters, .ref qt_state_open, .ref xt_state_signs, .int (it_state_size), .int (it_state_start), .int (it_state_goal)])), (qt_state_open, .inr (4, [.ref qt_state_open_values])), (qt_state_open_values, .inl (cy.1, 210, .inl (ft_state_open)))] s.heap.size = A at hD hG ⊢
  have hA : ∀ q : Nat, s.heap.size ≤ q → A q := fun q h => by rw [← hAe]; exact Or.inr h
  have hS : va_S A s.heap s.heap [] := va_S.rf
  have hP : va_P (dC, dI) vwCl [(qt, .inr (1, [.ref xt_shape, .ref qt_state])), (qt_state, .inr (6, [.ref xt_state_letters, .ref qt_state_open, .ref xt_state_signs, .int (it_state_size), .int (it_state_start), .int (it_state_goal)])), (qt_state_open, .inr (4, [.ref qt_state_open_values])), (qt_state_open_values, .inl (cy.1, 210, .inl (ft_state_open)))] s.heap := hP
  have hl := lv_entry ([.ref qt, .int va1]) (n := 2) (Nat.le_of_ble_eq_true rfl)
  rw [lg_entry_eq]
  generalize (lg_sl ([.ref qt, .int va1]) ++ List.replicate (2 - (lg_sl ([.ref qt, .int va1])).length) Slot.unset).toArray = ls at hl ⊢
  have hl : lv_has ls 2 [(0, .ref qt), (1, .int va1)] := hl
  refine kgen (fun Q hQ => ?_)
  rw [f_X1_openDoors] at hf
  refine lv_aload_n hx hb dX1_openDoors_0 rfl (lv_at hl 0 rfl) ?_
  refine va_get (D := (dC, dI)) (ci := 1) (C := RX1) (T := TX1) (N := 2) hx hb hts (fun _ h => (List.mem_cons_of_mem _ (List.mem_append_left _ (List.mem_append_left _ (List.mem_append_right _ h))))) hown hK hP 0 rfl rfl 1 (by decide) (hts _ (List.mem_cons_of_mem _ (List.mem_append_left _ (List.mem_append_left _ (List.mem_append_left _ (List.mem_of_getElem? (i := 0) rfl)))))) (fun _ h => h) rfl dX1_openDoors_1 ?_
  refine va_get (D := (dC, dI)) (ci := 6) (C := RX6) (T := TX6) (N := 6) hx hb hts (fun _ h => (List.mem_cons_of_mem _ (List.mem_append_left _ (List.mem_append_right _ h)))) hown hK hP 1 rfl rfl 1 (by decide) (hts _ (List.mem_cons_of_mem _ (List.mem_append_left _ (List.mem_append_left _ (List.mem_append_left _ (List.mem_of_getElem? (i := 1) rfl)))))) (fun _ h => h) rfl dX1_openDoors_4 ?_
  refine lv_iload_n hx hb dX1_openDoors_7 rfl (lv_at hl 1 rfl) ?_
  refine kcalli (wc := [(qt_state_open, .inr (4, [.ref qt_state_open_values])), (qt_state_open_values, .inl (cy.1, 210, .inl (ft_state_open)))]) (wr := [(qt, .inr (1, [.ref xt_shape, .ref qt_state])), (qt_state, .inr (6, [.ref xt_state_letters, .ref qt_state_open, .ref xt_state_signs, .int (it_state_size), .int (it_state_start), .int (it_state_goal)]))]) (w1 := [(qt_state_open, .inr (4, [.ref qt_state_open_values])), (qt_state_open_values, .inl (cy.1, 210, .inl (ft_state_open)))]) hK hP hD hS hA hG [2, 3] [0, 1] rfl rfl rfl rfl rfl (fun hU hPc => va_runV (As := [.int va1]) (rest := []) ⟨hx, hb, hml, hown, hts⟩ (c_X4_at l dC dI cy G s.heap.size qt_state_open qt_state_open_values 210 (ft_state_open) (va1) (by decide) (t_X4_at 210 (ft_state_open) (va1)) (tot_X4_at 210 (ft_state_open) (va1))) (cwV 1 hts gX1_openDoors_X4_at rfl rfl rfl hdX4_at ⟨Nat.le_of_ble_eq_true rfl, Nat.le_of_ble_eq_true rfl⟩) ⟨kBlind, (va_recv hK hP (ci := 4) (q0 := 2) rfl rfl), fun U h1 h2 => ⟨rfl, hU U h1 h2⟩⟩ rfl rfl hl.1 rfl (lv_room (Nat.le_of_ble_eq_true rfl)) dX1_openDoors_8 ⟨Nat.zero_le _, Nat.zero_le _⟩) ((t_X4_at 210 (ft_state_open) (va1))) (fun _ _ h => h) (fun _ _ h => h) (fun H locs hP hD hS => ?_)
  have hP : va_P (dC, dI) vwCl [(qt, .inr (1, [.ref xt_shape, .ref qt_state])), (qt_state, .inr (6, [.ref xt_state_letters, .ref qt_state_open, .ref xt_state_signs, .int (it_state_size), .int (it_state_start), .int (it_state_goal)])), (qt_state_open, .inr (4, [.ref qt_state_open_values])), (qt_state_open_values, .inl (cy.1, 210, .inl (ft_state_open)))] H := hP
  have hD : va_D A [(qt, .inr (1, [.ref xt_shape, .ref qt_state])), (qt_state, .inr (6, [.ref xt_state_letters, .ref qt_state_open, .ref xt_state_signs, .int (it_state_size), .int (it_state_start), .int (it_state_goal)])), (qt_state_open, .inr (4, [.ref qt_state_open_values])), (qt_state_open_values, .inl (cy.1, 210, .inl (ft_state_open)))] := hD
  refine kcalli (wc := []) (wr := [(qt, .inr (1, [.ref xt_shape, .ref qt_state])), (qt_state, .inr (6, [.ref xt_state_letters, .ref qt_state_open, .ref xt_state_signs, .int (it_state_size), .int (it_state_start), .int (it_state_goal)])), (qt_state_open, .inr (4, [.ref qt_state_open_values])), (qt_state_open_values, .inl (cy.1, 210, .inl (ft_state_open)))]) (w1 := []) hK hP hD hS hA hG [] [0, 1, 2, 3] rfl rfl rfl rfl rfl (fun hU hPc => va_runS (As := [.int (t_X4_at 210 (ft_state_open) (va1))]) (rest := []) ⟨hx, hb, hml, hown, hts⟩ (c_J6_bitCount_0f7a4 l dC dI cy G H.size ((t_X4_at 210 (ft_state_open) (va1))) (t_J6_bitCount_0f7a4 ((t_X4_at 210 (ft_state_open) (va1)))) (tot_J6_bitCount_0f7a4 ((t_X4_at 210 (ft_state_open) (va1))))) (va_cwS 1 hts gX1_openDoors_J6_bitCount_0f7a4 rfl rfl rfl hdJ6_bitCount_0f7a4.2 ⟨Nat.le_of_ble_eq_true rfl, Nat.le_of_ble_eq_true rfl⟩) ⟨kBlind, fun U h1 h2 => ⟨rfl, hU U h1 h2⟩⟩ rfl rfl hl.1 rfl (lv_room (Nat.le_of_ble_eq_true rfl)) dX1_openDoors_11 ⟨Nat.zero_le _, Nat.zero_le _⟩) ((t_J6_bitCount_0f7a4 ((t_X4_at 210 (ft_state_open) (va1))))) (fun _ _ h => h) (fun _ _ h => h) (fun H locs hP hD hS => ?_)
  have hP : va_P (dC, dI) vwCl [(qt, .inr (1, [.ref xt_shape, .ref qt_state])), (qt_state, .inr (6, [.ref xt_state_letters, .ref qt_state_open, .ref xt_state_signs, .int (it_state_size), .int (it_state_start), .int (it_state_goal)])), (qt_state_open, .inr (4, [.ref qt_state_open_values])), (qt_state_open_values, .inl (cy.1, 210, .inl (ft_state_open)))] H := hP
  have hD : va_D A [(qt, .inr (1, [.ref xt_shape, .ref qt_state])), (qt_state, .inr (6, [.ref xt_state_letters, .ref qt_state_open, .ref xt_state_signs, .int (it_state_size), .int (it_state_start), .int (it_state_goal)])), (qt_state_open, .inr (4, [.ref qt_state_open_values])), (qt_state_open_values, .inl (cy.1, 210, .inl (ft_state_open)))] := hD
  cases hf
  subst hQ
  exact kiret hx hb hr hlocks hK (hP.sub [0, 1, 2, 3] rfl) (hD.sub [0, 1, 2, 3] (by decide) rfl) hS rfl dX1_openDoors_14
theorem hdX1_openDoors : yX1_openDoors.cls = RX1 ∧ yX1_openDoors.cls ≠ "java/lang/invoke/MethodHandle" ∧ yX1_openDoors.cls ≠ "java/lang/invoke/VarHandle" ∧ (parseMethodDescriptor yX1_openDoors.desc).map (fun d => d.parameters.length) = some 1 := by decide +kernel
noncomputable def t_X1_openDoors (ft_state_open : Nat → Int32) (va1 : Int32) : Int32 :=
  (t_J6_bitCount_0f7a4 ((t_X4_at 210 (ft_state_open) (va1))))
theorem tot_X1_openDoors (ft_state_open : Nat → Int32) (va1 : Int32) : f_X1_openDoors ft_state_open va1 = some (t_X1_openDoors ft_state_open va1) := by
  simp only [f_X1_openDoors, t_X1_openDoors]
noncomputable def f_X1_isFork (ft_state_open : Nat → Int32) (va1 : Int32) : Option (Int32) :=
  if (t_X1_openDoors (ft_state_open) (va1)) < (3 : Int32) then
    some ((0 : Int32))
  else
    some ((1 : Int32))
abbrev rm_X1_isFork : Room := { frames := 2, cells := 0, slots := 0, locals := 42 }
set_option maxHeartbeats 4000000 in
set_option maxRecDepth 100000 in
theorem c_X1_isFork (l : Launch) (dC : Nat → ClassId) (dI : Nat → Nat → Nat) (cy : gC) (G : gT) (sz : Nat) (qt : Nat) (qt_state : Nat) (qt_state_open : Nat) (qt_state_open_values : Nat) (xt_shape : Nat) (xt_state_letters : Nat) (xt_state_signs : Nat) (it_state_size : Int32) (it_state_start : Int32) (it_state_goal : Int32) (ft_state_open : Nat → Int32) (va1 : Int32) (out : Int32) (hf : f_X1_isFork ft_state_open va1 = some out) : Met l yX1_isFork wsX1_isFork rm_X1_isFork (va_Pc [.ref qt, .int va1] (kP (dC, dI) cy G [(qt, .inr (1, [.ref xt_shape, .ref qt_state])), (qt_state, .inr (6, [.ref xt_state_letters, .ref qt_state_open, .ref xt_state_signs, .int (it_state_size), .int (it_state_start), .int (it_state_goal)])), (qt_state_open, .inr (4, [.ref qt_state_open_values])), (qt_state_open_values, .inl (cy.1, 210, .inl (ft_state_open)))] sz)) (va_Qi (fun r (_ : Unit) => r = out) (fun _ => kQ (dC, dI) cy [(qt, .inr (1, [.ref xt_shape, .ref qt_state])), (qt_state, .inr (6, [.ref xt_state_letters, .ref qt_state_open, .ref xt_state_signs, .int (it_state_size), .int (it_state_start), .int (it_state_goal)])), (qt_state_open, .inr (4, [.ref qt_state_open_values])), (qt_state_open_values, .inl (cy.1, 210, .inl (ft_state_open)))] (va_A [(qt, .inr (1, [.ref xt_shape, .ref qt_state])), (qt_state, .inr (6, [.ref xt_state_letters, .ref qt_state_open, .ref xt_state_signs, .int (it_state_size), .int (it_state_start), .int (it_state_goal)])), (qt_state_open, .inr (4, [.ref qt_state_open_values])), (qt_state_open_values, .inl (cy.1, 210, .inl (ft_state_open)))] sz)) (va_A [(qt, .inr (1, [.ref xt_shape, .ref qt_state])), (qt_state, .inr (6, [.ref xt_state_letters, .ref qt_state_open, .ref xt_state_signs, .int (it_state_size), .int (it_state_start), .int (it_state_goal)])), (qt_state_open, .inr (4, [.ref qt_state_open_values])), (qt_state_open_values, .inl (cy.1, 210, .inl (ft_state_open)))] sz)) 0 0 (va_A [(qt, .inr (1, [.ref xt_shape, .ref qt_state])), (qt_state, .inr (6, [.ref xt_state_letters, .ref qt_state_open, .ref xt_state_signs, .int (it_state_size), .int (it_state_start), .int (it_state_goal)])), (qt_state_open, .inr (4, [.ref qt_state_open_values])), (qt_state_open_values, .inl (cy.1, 210, .inl (ft_state_open)))] sz) := by
  refine Met.ofW (cc := cX1_isFork) (maxL := 2) (ret := (some .boolean)) (by decide) rfl ?_
  intro p e s m args below meth c s₁ B hml hv
  obtain ⟨rfl, hsz, hP, hK, hD0, hG⟩ := hv
  have hx := B.exec
  have hb := B.bytes
  have hr := B.returns
  have hts := atoms_spec (ws := wsX1_isFork) B.pre
  have hown : s.vm.findClass RX1 = some m.cls := findClass_of_methodNamed B.named
  have hlocks := B.notSynchronized
  subst hsz
  have hD := hD0.self (sz := s.heap.size)
  generalize hAe : va_A [(qt, .inr (1, [.ref xt_shape, .ref qt_state])), (qt_state, .inr (6, [.ref xt_state_letters, .ref qt_state_open, .ref xt_state_signs, .int (it_state_size), .int (it_state_start), .int (it_state_goal)])), (qt_state_open, .inr (4, [.ref qt_state_open_values])), (qt_state_open_values, .inl (cy.1, 210, .inl (ft_state_open)))] s.heap.size = A at hD hG ⊢
  have hA : ∀ q : Nat, s.heap.size ≤ q → A q := fun q h => by rw [← hAe]; exact Or.inr h
  have hS : va_S A s.heap s.heap [] := va_S.rf
  have hP : va_P (dC, dI) vwCl [(qt, .inr (1, [.ref xt_shape, .ref qt_state])), (qt_state, .inr (6, [.ref xt_state_letters, .ref qt_state_open, .ref xt_state_signs, .int (it_state_size), .int (it_state_start), .int (it_state_goal)])), (qt_state_open, .inr (4, [.ref qt_state_open_values])), (qt_state_open_values, .inl (cy.1, 210, .inl (ft_state_open)))] s.heap := hP
  have hl := lv_entry ([.ref qt, .int va1]) (n := 2) (Nat.le_of_ble_eq_true rfl)
  rw [lg_entry_eq]
  generalize (lg_sl ([.ref qt, .int va1]) ++ List.replicate (2 - (lg_sl ([.ref qt, .int va1])).length) Slot.unset).toArray = ls at hl ⊢
  have hl : lv_has ls 2 [(0, .ref qt), (1, .int va1)] := hl
  refine kgen (fun Q hQ => ?_)
  rw [f_X1_isFork] at hf
  refine lv_aload_n hx hb dX1_isFork_0 rfl (lv_at hl 0 rfl) ?_
  refine lv_iload_n hx hb dX1_isFork_1 rfl (lv_at hl 1 rfl) ?_
  refine kcalli (wc := [(qt, .inr (1, [.ref xt_shape, .ref qt_state])), (qt_state, .inr (6, [.ref xt_state_letters, .ref qt_state_open, .ref xt_state_signs, .int (it_state_size), .int (it_state_start), .int (it_state_goal)])), (qt_state_open, .inr (4, [.ref qt_state_open_values])), (qt_state_open_values, .inl (cy.1, 210, .inl (ft_state_open)))]) (wr := []) (w1 := [(qt, .inr (1, [.ref xt_shape, .ref qt_state])), (qt_state, .inr (6, [.ref xt_state_letters, .ref qt_state_open, .ref xt_state_signs, .int (it_state_size), .int (it_state_start), .int (it_state_goal)])), (qt_state_open, .inr (4, [.ref qt_state_open_values])), (qt_state_open_values, .inl (cy.1, 210, .inl (ft_state_open)))]) hK hP hD hS hA hG [0, 1, 2, 3] [] rfl rfl rfl rfl rfl (fun hU hPc => va_runV (As := [.int va1]) (rest := []) ⟨hx, hb, hml, hown, hts⟩ (c_X1_openDoors l dC dI cy G s.heap.size qt qt_state qt_state_open qt_state_open_values xt_shape xt_state_letters xt_state_signs (it_state_size) (it_state_start) (it_state_goal) (ft_state_open) (va1) (t_X1_openDoors (ft_state_open) (va1)) (tot_X1_openDoors (ft_state_open) (va1))) (cwV 1 hts gX1_isFork_X1_openDoors rfl rfl rfl hdX1_openDoors ⟨Nat.le_of_ble_eq_true rfl, Nat.le_of_ble_eq_true rfl⟩) ⟨kBlind, (va_recv hK hP (ci := 1) (q0 := 0) rfl rfl), fun U h1 h2 => ⟨rfl, hU U h1 h2⟩⟩ rfl rfl hl.1 rfl (lv_room (Nat.le_of_ble_eq_true rfl)) dX1_isFork_2 ⟨Nat.zero_le _, Nat.zero_le _⟩) ((t_X1_openDoors (ft_state_open) (va1))) (fun _ _ h => h) (fun _ _ h => h) (fun H locs hP hD hS => ?_)
  have hP : va_P (dC, dI) vwCl [(qt, .inr (1, [.ref xt_shape, .ref qt_state])), (qt_state, .inr (6, [.ref xt_state_letters, .ref qt_state_open, .ref xt_state_signs, .int (it_state_size), .int (it_state_start), .int (it_state_goal)])), (qt_state_open, .inr (4, [.ref qt_state_open_values])), (qt_state_open_values, .inl (cy.1, 210, .inl (ft_state_open)))] H := hP
  have hD : va_D A [(qt, .inr (1, [.ref xt_shape, .ref qt_state])), (qt_state, .inr (6, [.ref xt_state_letters, .ref qt_state_open, .ref xt_state_signs, .int (it_state_size), .int (it_state_start), .int (it_state_goal)])), (qt_state_open, .inr (4, [.ref qt_state_open_values])), (qt_state_open_values, .inl (cy.1, 210, .inl (ft_state_open)))] := hD
  refine lv_iconst (v := (3 : Int32)) hx hb dX1_isFork_5 (by decide) ?_
  refine lv_icmp_lt (tgt := 13) hx hb dX1_isFork_6 (by decide) (fun hc_6 => ?_) (fun hc_6 => ?_)
  · rw [if_pos hc_6] at hf
    refine lv_iconst (v := (0 : Int32)) hx hb dX1_isFork_13 (by decide) ?_
    cases hf
    subst hQ
    exact kzret hx hb hr hlocks rfl hK (hP.sub [0, 1, 2, 3] rfl) (hD.sub [0, 1, 2, 3] (by decide) rfl) hS rfl dX1_isFork_14
  · rw [if_neg hc_6] at hf
    refine lv_iconst (v := (1 : Int32)) hx hb dX1_isFork_9 (by decide) ?_
    refine lv_goto (tgt := 14) hx hb dX1_isFork_10 (by decide) ?_
    cases hf
    subst hQ
    exact kzret hx hb hr hlocks rfl hK (hP.sub [0, 1, 2, 3] rfl) (hD.sub [0, 1, 2, 3] (by decide) rfl) hS rfl dX1_isFork_14
theorem hdX1_isFork : yX1_isFork.cls = RX1 ∧ yX1_isFork.cls ≠ "java/lang/invoke/MethodHandle" ∧ yX1_isFork.cls ≠ "java/lang/invoke/VarHandle" ∧ (parseMethodDescriptor yX1_isFork.desc).map (fun d => d.parameters.length) = some 1 := by decide +kernel
noncomputable def t_X1_isFork (ft_state_open : Nat → Int32) (va1 : Int32) : Int32 :=
  if (t_X1_openDoors (ft_state_open) (va1)) < (3 : Int32) then
    (0 : Int32)
  else
    (1 : Int32)
theorem tot_X1_isFork (ft_state_open : Nat → Int32) (va1 : Int32) : f_X1_isFork ft_state_open va1 = some (t_X1_isFork ft_state_open va1) := by
  by_cases hc_6 : (t_X1_openDoors (ft_state_open) (va1)) < (3 : Int32)
  · simp only [f_X1_isFork, t_X1_isFork, if_pos hc_6]
  · simp only [f_X1_isFork, t_X1_isFork, if_neg hc_6]
theorem bl_X1_isFork (ft_state_open : Nat → Int32) (va1 : Int32) : t_X1_isFork ft_state_open va1 = 0 ∨ t_X1_isFork ft_state_open va1 = 1 := by
  unfold t_X1_isFork
  repeat' (first | exact Or.inl rfl | exact Or.inr rfl | fail | split)
noncomputable def f_X1_setSide (ft_state_open : Nat → Int32) (va1 : Int32) (va2 : Int32) (va3 : Int32) : Option ((Nat → Int32)) :=
  if va3 = 0 then
    some ((t_X4_put 210 (ft_state_open) (va1) (((t_X4_at 210 (ft_state_open) (va1)) &&& (((1 : Int32) <<< (va2 &&& 31)) ^^^ (-1 : Int32))))))
  else
    some ((t_X4_put 210 (ft_state_open) (va1) (((t_X4_at 210 (ft_state_open) (va1)) ||| ((1 : Int32) <<< (va2 &&& 31))))))
abbrev rm_X1_setSide : Room := { frames := 1, cells := 0, slots := 0, locals := 22 }
set_option maxHeartbeats 4000000 in
set_option maxRecDepth 100000 in
theorem c_X1_setSide (l : Launch) (dC : Nat → ClassId) (dI : Nat → Nat → Nat) (cy : gC) (G : gT) (sz : Nat) (qt : Nat) (qt_state : Nat) (qt_state_open : Nat) (qt_state_open_values : Nat) (xt_shape : Nat) (xt_state_letters : Nat) (xt_state_signs : Nat) (it_state_size : Int32) (it_state_start : Int32) (it_state_goal : Int32) (ft_state_open : Nat → Int32) (va1 : Int32) (va2 : Int32) (va3 : Int32) (out : (Nat → Int32)) (hf : f_X1_setSide ft_state_open va1 va2 va3 = some out) : Met l yX1_setSide wsX1_setSide rm_X1_setSide (va_Pc [.ref qt, .int va1, .int va2, .int va3] (kP (dC, dI) cy G [(qt, .inr (1, [.ref xt_shape, .ref qt_state])), (qt_state, .inr (6, [.ref xt_state_letters, .ref qt_state_open, .ref xt_state_signs, .int (it_state_size), .int (it_state_start), .int (it_state_goal)])), (qt_state_open, .inr (4, [.ref qt_state_open_values])), (qt_state_open_values, .inl (cy.1, 210, .inl (ft_state_open)))] sz)) (va_Qv (fun (_ : Unit) => True) (fun _ => kQ (dC, dI) cy [(qt, .inr (1, [.ref xt_shape, .ref qt_state])), (qt_state, .inr (6, [.ref xt_state_letters, .ref qt_state_open, .ref xt_state_signs, .int (it_state_size), .int (it_state_start), .int (it_state_goal)])), (qt_state_open, .inr (4, [.ref qt_state_open_values])), (qt_state_open_values, .inl (cy.1, 210, .inl (out)))] (va_A [(qt, .inr (1, [.ref xt_shape, .ref qt_state])), (qt_state, .inr (6, [.ref xt_state_letters, .ref qt_state_open, .ref xt_state_signs, .int (it_state_size), .int (it_state_start), .int (it_state_goal)])), (qt_state_open, .inr (4, [.ref qt_state_open_values])), (qt_state_open_values, .inl (cy.1, 210, .inl (ft_state_open)))] sz)) (va_A [(qt, .inr (1, [.ref xt_shape, .ref qt_state])), (qt_state, .inr (6, [.ref xt_state_letters, .ref qt_state_open, .ref xt_state_signs, .int (it_state_size), .int (it_state_start), .int (it_state_goal)])), (qt_state_open, .inr (4, [.ref qt_state_open_values])), (qt_state_open_values, .inl (cy.1, 210, .inl (ft_state_open)))] sz)) 0 0 (va_A [(qt, .inr (1, [.ref xt_shape, .ref qt_state])), (qt_state, .inr (6, [.ref xt_state_letters, .ref qt_state_open, .ref xt_state_signs, .int (it_state_size), .int (it_state_start), .int (it_state_goal)])), (qt_state_open, .inr (4, [.ref qt_state_open_values])), (qt_state_open_values, .inl (cy.1, 210, .inl (ft_state_open)))] sz) := by
  refine Met.ofW (cc := cX1_setSide) (maxL := 6) (ret := none) (by decide) rfl ?_
  intro p e s m args below meth c s₁ B hml hv
  obtain ⟨rfl, hsz, hP, hK, hD0, hG⟩ := hv
  have hx := B.exec
  have hb := B.bytes
  have hr := B.returns
  have hts := atoms_spec (ws := wsX1_setSide) B.pre
  have hown : s.vm.findClass RX1 = some m.cls := findClass_of_methodNamed B.named
  have hlocks := B.notSynchronized
  subst hsz
  have hD := hD0.self (sz := s.heap.size)
  generalize hAe : va_A [(qt, .inr (1, [.ref xt_shape, .ref qt_state])), (qt_state, .inr (6, [.ref xt_state_letters, .ref qt_state_open, .ref xt_state_signs, .int (it_state_size), .int (it_state_start), .int (it_state_goal)])), (qt_state_open, .inr (4, [.ref qt_state_open_values])), (qt_state_open_values, .inl (cy.1, 210, .inl (ft_state_open)))] s.heap.size = A at hD hG ⊢
  have hA : ∀ q : Nat, s.heap.size ≤ q → A q := fun q h => by rw [← hAe]; exact Or.inr h
  have hS : va_S A s.heap s.heap [] := va_S.rf
  have hP : va_P (dC, dI) vwCl [(qt, .inr (1, [.ref xt_shape, .ref qt_state])), (qt_state, .inr (6, [.ref xt_state_letters, .ref qt_state_open, .ref xt_state_signs, .int (it_state_size), .int (it_state_start), .int (it_state_goal)])), (qt_state_open, .inr (4, [.ref qt_state_open_values])), (qt_state_open_values, .inl (cy.1, 210, .inl (ft_state_open)))] s.heap := hP
  have hl := lv_entry ([.ref qt, .int va1, .int va2, .int va3]) (n := 6) (Nat.le_of_ble_eq_true rfl)
  rw [lg_entry_eq]
  generalize (lg_sl ([.ref qt, .int va1, .int va2, .int va3]) ++ List.replicate (6 - (lg_sl ([.ref qt, .int va1, .int va2, .int va3])).length) Slot.unset).toArray = ls at hl ⊢
  have hl : lv_has ls 6 [(0, .ref qt), (1, .int va1), (2, .int va2), (3, .int va3)] := hl
  refine kgen (fun Q hQ => ?_)
  rw [f_X1_setSide] at hf
  refine lv_iconst (v := (1 : Int32)) hx hb dX1_setSide_0 (by decide) ?_
  refine lv_iload_n hx hb dX1_setSide_1 rfl (lv_at hl 2 rfl) ?_
  refine lv_ishl hx hb dX1_setSide_2 ?_
  refine lv_istore (lv' := [(4, .int ((1 : Int32) <<< (va2 &&& 31))), (0, .ref qt), (1, .int va1), (2, .int va2), (3, .int va3)]) hx hb dX1_setSide_3 hl (by decide) rfl (fun ls hl => ?_)
  refine lv_aload_n hx hb dX1_setSide_5 rfl (lv_at hl 1 rfl) ?_
  refine va_get (D := (dC, dI)) (ci := 1) (C := RX1) (T := TX1) (N := 2) hx hb hts (fun _ h => (List.mem_cons_of_mem _ (List.mem_append_left _ (List.mem_append_left _ (List.mem_append_right _ h))))) hown hK hP 0 rfl rfl 1 (by decide) (hts _ (List.mem_cons_of_mem _ (List.mem_append_left _ (List.mem_append_left _ (List.mem_append_left _ (List.mem_of_getElem? (i := 0) rfl)))))) (fun _ h => h) rfl dX1_setSide_6 ?_
  refine va_get (D := (dC, dI)) (ci := 6) (C := RX6) (T := TX6) (N := 6) hx hb hts (fun _ h => (List.mem_cons_of_mem _ (List.mem_append_left _ (List.mem_append_right _ h)))) hown hK hP 1 rfl rfl 1 (by decide) (hts _ (List.mem_cons_of_mem _ (List.mem_append_left _ (List.mem_append_left _ (List.mem_append_left _ (List.mem_of_getElem? (i := 1) rfl)))))) (fun _ h => h) rfl dX1_setSide_9 ?_
  refine lv_iload_n hx hb dX1_setSide_12 rfl (lv_at hl 2 rfl) ?_
  refine kcalli (wc := [(qt_state_open, .inr (4, [.ref qt_state_open_values])), (qt_state_open_values, .inl (cy.1, 210, .inl (ft_state_open)))]) (wr := [(qt, .inr (1, [.ref xt_shape, .ref qt_state])), (qt_state, .inr (6, [.ref xt_state_letters, .ref qt_state_open, .ref xt_state_signs, .int (it_state_size), .int (it_state_start), .int (it_state_goal)]))]) (w1 := [(qt_state_open, .inr (4, [.ref qt_state_open_values])), (qt_state_open_values, .inl (cy.1, 210, .inl (ft_state_open)))]) hK hP hD hS hA hG [2, 3] [0, 1] rfl rfl rfl rfl rfl (fun hU hPc => va_runV (As := [.int va1]) (rest := []) ⟨hx, hb, hml, hown, hts⟩ (c_X4_at l dC dI cy G s.heap.size qt_state_open qt_state_open_values 210 (ft_state_open) (va1) (by decide) (t_X4_at 210 (ft_state_open) (va1)) (tot_X4_at 210 (ft_state_open) (va1))) (cwV 1 hts gX1_setSide_X4_at rfl rfl rfl hdX4_at ⟨Nat.le_of_ble_eq_true rfl, Nat.le_of_ble_eq_true rfl⟩) ⟨kBlind, (va_recv hK hP (ci := 4) (q0 := 2) rfl rfl), fun U h1 h2 => ⟨rfl, hU U h1 h2⟩⟩ rfl rfl hl.1 rfl (lv_room (Nat.le_of_ble_eq_true rfl)) dX1_setSide_13 ⟨Nat.zero_le _, Nat.zero_le _⟩) ((t_X4_at 210 (ft_state_open) (va1))) (fun _ _ h => h) (fun _ _ h => h) (fun H locs hP hD hS => ?_)
  have hP : va_P (dC, dI) vwCl [(qt, .inr (1, [.ref xt_shape, .ref qt_state])), (qt_state, .inr (6, [.ref xt_state_letters, .ref qt_state_open, .ref xt_state_signs, .int (it_state_size), .int (it_state_start), .int (it_state_goal)])), (qt_state_open, .inr (4, [.ref qt_state_open_values])), (qt_state_open_values, .inl (cy.1, 210, .inl (ft_state_open)))] H := hP
  have hD : va_D A [(qt, .inr (1, [.ref xt_shape, .ref qt_state])), (qt_state, .inr (6, [.ref xt_state_letters, .ref qt_state_open, .ref xt_state_signs, .int (it_state_size), .int (it_state_start), .int (it_state_goal)])), (qt_state_open, .inr (4, [.ref qt_state_open_values])), (qt_state_open_values, .inl (cy.1, 210, .inl (ft_state_open)))] := hD
  refine lv_istore (lv' := [(5, .int (t_X4_at 210 (ft_state_open) (va1))), (4, .int ((1 : Int32) <<< (va2 &&& 31))), (0, .ref qt), (1, .int va1), (2, .int va2), (3, .int va3)]) hx hb dX1_setSide_16 hl (by decide) rfl (fun ls hl => ?_)
  refine lv_aload_n hx hb dX1_setSide_18 rfl (lv_at hl 2 rfl) ?_
  refine va_get (D := (dC, dI)) (ci := 1) (C := RX1) (T := TX1) (N := 2) hx hb hts (fun _ h => (List.mem_cons_of_mem _ (List.mem_append_left _ (List.mem_append_left _ (List.mem_append_right _ h))))) hown hK hP 0 rfl rfl 1 (by decide) (hts _ (List.mem_cons_of_mem _ (List.mem_append_left _ (List.mem_append_left _ (List.mem_append_left _ (List.mem_of_getElem? (i := 0) rfl)))))) (fun _ h => h) rfl dX1_setSide_19 ?_
  refine va_get (D := (dC, dI)) (ci := 6) (C := RX6) (T := TX6) (N := 6) hx hb hts (fun _ h => (List.mem_cons_of_mem _ (List.mem_append_left _ (List.mem_append_right _ h)))) hown hK hP 1 rfl rfl 1 (by decide) (hts _ (List.mem_cons_of_mem _ (List.mem_append_left _ (List.mem_append_left _ (List.mem_append_left _ (List.mem_of_getElem? (i := 1) rfl)))))) (fun _ h => h) rfl dX1_setSide_22 ?_
  refine lv_iload_n hx hb dX1_setSide_25 rfl (lv_at hl 3 rfl) ?_
  refine lv_iload_n hx hb dX1_setSide_26 rfl (lv_at hl 5 rfl) ?_
  refine lv_if_eq (tgt := 38) hx hb dX1_setSide_27 (by decide) (fun hc_27 => ?_) (fun hc_27 => ?_)
  · rw [if_pos hc_27] at hf
    refine lv_iload hx hb dX1_setSide_38 (lv_at hl 0 rfl) ?_
    refine lv_iload hx hb dX1_setSide_40 (lv_at hl 1 rfl) ?_
    refine lv_iconst (v := (-1 : Int32)) hx hb dX1_setSide_42 (by decide) ?_
    refine lv_ixor hx hb dX1_setSide_43 ?_
    refine lv_iand hx hb dX1_setSide_44 ?_
    refine kcallv (wc := [(qt_state_open, .inr (4, [.ref qt_state_open_values])), (qt_state_open_values, .inl (cy.1, 210, .inl (ft_state_open)))]) (wr := [(qt, .inr (1, [.ref xt_shape, .ref qt_state])), (qt_state, .inr (6, [.ref xt_state_letters, .ref qt_state_open, .ref xt_state_signs, .int (it_state_size), .int (it_state_start), .int (it_state_goal)]))]) (w1 := [(qt_state_open, .inr (4, [.ref qt_state_open_values])), (qt_state_open_values, .inl (cy.1, 210, .inl ((t_X4_put 210 (ft_state_open) (va1) (((t_X4_at 210 (ft_state_open) (va1)) &&& (((1 : Int32) <<< (va2 &&& 31)) ^^^ (-1 : Int32))))))))]) hK hP hD hS hA hG [2, 3] [0, 1] rfl rfl rfl rfl rfl (fun hU hPc => va_runV (As := [.int va1, .int ((t_X4_at 210 (ft_state_open) (va1)) &&& (((1 : Int32) <<< (va2 &&& 31)) ^^^ (-1 : Int32)))]) (rest := []) ⟨hx, hb, hml, hown, hts⟩ (c_X4_put l dC dI cy G H.size qt_state_open qt_state_open_values 210 (ft_state_open) (va1) (((t_X4_at 210 (ft_state_open) (va1)) &&& (((1 : Int32) <<< (va2 &&& 31)) ^^^ (-1 : Int32)))) (by decide) (t_X4_put 210 (ft_state_open) (va1) (((t_X4_at 210 (ft_state_open) (va1)) &&& (((1 : Int32) <<< (va2 &&& 31)) ^^^ (-1 : Int32))))) (tot_X4_put 210 (ft_state_open) (va1) (((t_X4_at 210 (ft_state_open) (va1)) &&& (((1 : Int32) <<< (va2 &&& 31)) ^^^ (-1 : Int32)))))) (cwV 2 hts gX1_setSide_X4_put rfl rfl rfl hdX4_put ⟨Nat.le_of_ble_eq_true rfl, Nat.le_of_ble_eq_true rfl⟩) ⟨kBlind, (va_recv hK hP (ci := 4) (q0 := 2) rfl rfl), fun U h1 h2 => ⟨rfl, hU U h1 h2⟩⟩ rfl rfl hl.1 rfl (lv_room (Nat.le_of_ble_eq_true rfl)) dX1_setSide_45 ⟨Nat.zero_le _, Nat.zero_le _⟩) (fun _ _ h => h) (fun H locs hP hD hS => ?_)
    have hP : va_P (dC, dI) vwCl [(qt, .inr (1, [.ref xt_shape, .ref qt_state])), (qt_state, .inr (6, [.ref xt_state_letters, .ref qt_state_open, .ref xt_state_signs, .int (it_state_size), .int (it_state_start), .int (it_state_goal)])), (qt_state_open, .inr (4, [.ref qt_state_open_values])), (qt_state_open_values, .inl (cy.1, 210, .inl ((t_X4_put 210 (ft_state_open) (va1) (((t_X4_at 210 (ft_state_open) (va1)) &&& (((1 : Int32) <<< (va2 &&& 31)) ^^^ (-1 : Int32))))))))] H := hP
    have hD : va_D A [(qt, .inr (1, [.ref xt_shape, .ref qt_state])), (qt_state, .inr (6, [.ref xt_state_letters, .ref qt_state_open, .ref xt_state_signs, .int (it_state_size), .int (it_state_start), .int (it_state_goal)])), (qt_state_open, .inr (4, [.ref qt_state_open_values])), (qt_state_open_values, .inl (cy.1, 210, .inl ((t_X4_put 210 (ft_state_open) (va1) (((t_X4_at 210 (ft_state_open) (va1)) &&& (((1 : Int32) <<< (va2 &&& 31)) ^^^ (-1 : Int32))))))))] := hD
    cases hf
    subst hQ
    exact kvret hx hb hr hlocks hK (hP.sub [0, 1, 2, 3] rfl) (hD.sub [0, 1, 2, 3] (by decide) rfl) hS trivial dX1_setSide_48
  · rw [if_neg hc_27] at hf
    refine lv_iload hx hb dX1_setSide_30 (lv_at hl 0 rfl) ?_
    refine lv_iload hx hb dX1_setSide_32 (lv_at hl 1 rfl) ?_
    refine lv_ior hx hb dX1_setSide_34 ?_
    refine lv_goto (tgt := 45) hx hb dX1_setSide_35 (by decide) ?_
    refine kcallv (wc := [(qt_state_open, .inr (4, [.ref qt_state_open_values])), (qt_state_open_values, .inl (cy.1, 210, .inl (ft_state_open)))]) (wr := [(qt, .inr (1, [.ref xt_shape, .ref qt_state])), (qt_state, .inr (6, [.ref xt_state_letters, .ref qt_state_open, .ref xt_state_signs, .int (it_state_size), .int (it_state_start), .int (it_state_goal)]))]) (w1 := [(qt_state_open, .inr (4, [.ref qt_state_open_values])), (qt_state_open_values, .inl (cy.1, 210, .inl ((t_X4_put 210 (ft_state_open) (va1) (((t_X4_at 210 (ft_state_open) (va1)) ||| ((1 : Int32) <<< (va2 &&& 31))))))))]) hK hP hD hS hA hG [2, 3] [0, 1] rfl rfl rfl rfl rfl (fun hU hPc => va_runV (As := [.int va1, .int ((t_X4_at 210 (ft_state_open) (va1)) ||| ((1 : Int32) <<< (va2 &&& 31)))]) (rest := []) ⟨hx, hb, hml, hown, hts⟩ (c_X4_put l dC dI cy G H.size qt_state_open qt_state_open_values 210 (ft_state_open) (va1) (((t_X4_at 210 (ft_state_open) (va1)) ||| ((1 : Int32) <<< (va2 &&& 31)))) (by decide) (t_X4_put 210 (ft_state_open) (va1) (((t_X4_at 210 (ft_state_open) (va1)) ||| ((1 : Int32) <<< (va2 &&& 31))))) (tot_X4_put 210 (ft_state_open) (va1) (((t_X4_at 210 (ft_state_open) (va1)) ||| ((1 : Int32) <<< (va2 &&& 31)))))) (cwV 2 hts gX1_setSide_X4_put rfl rfl rfl hdX4_put ⟨Nat.le_of_ble_eq_true rfl, Nat.le_of_ble_eq_true rfl⟩) ⟨kBlind, (va_recv hK hP (ci := 4) (q0 := 2) rfl rfl), fun U h1 h2 => ⟨rfl, hU U h1 h2⟩⟩ rfl rfl hl.1 rfl (lv_room (Nat.le_of_ble_eq_true rfl)) dX1_setSide_45 ⟨Nat.zero_le _, Nat.zero_le _⟩) (fun _ _ h => h) (fun H locs hP hD hS => ?_)
    have hP : va_P (dC, dI) vwCl [(qt, .inr (1, [.ref xt_shape, .ref qt_state])), (qt_state, .inr (6, [.ref xt_state_letters, .ref qt_state_open, .ref xt_state_signs, .int (it_state_size), .int (it_state_start), .int (it_state_goal)])), (qt_state_open, .inr (4, [.ref qt_state_open_values])), (qt_state_open_values, .inl (cy.1, 210, .inl ((t_X4_put 210 (ft_state_open) (va1) (((t_X4_at 210 (ft_state_open) (va1)) ||| ((1 : Int32) <<< (va2 &&& 31))))))))] H := hP
    have hD : va_D A [(qt, .inr (1, [.ref xt_shape, .ref qt_state])), (qt_state, .inr (6, [.ref xt_state_letters, .ref qt_state_open, .ref xt_state_signs, .int (it_state_size), .int (it_state_start), .int (it_state_goal)])), (qt_state_open, .inr (4, [.ref qt_state_open_values])), (qt_state_open_values, .inl (cy.1, 210, .inl ((t_X4_put 210 (ft_state_open) (va1) (((t_X4_at 210 (ft_state_open) (va1)) ||| ((1 : Int32) <<< (va2 &&& 31))))))))] := hD
    cases hf
    subst hQ
    exact kvret hx hb hr hlocks hK (hP.sub [0, 1, 2, 3] rfl) (hD.sub [0, 1, 2, 3] (by decide) rfl) hS trivial dX1_setSide_48
theorem hdX1_setSide : yX1_setSide.cls = RX1 ∧ yX1_setSide.cls ≠ "java/lang/invoke/MethodHandle" ∧ yX1_setSide.cls ≠ "java/lang/invoke/VarHandle" ∧ (parseMethodDescriptor yX1_setSide.desc).map (fun d => d.parameters.length) = some 3 := by decide +kernel
noncomputable def t_X1_setSide (ft_state_open : Nat → Int32) (va1 : Int32) (va2 : Int32) (va3 : Int32) : Nat → Int32 :=
  if va3 = 0 then
    (t_X4_put 210 (ft_state_open) (va1) (((t_X4_at 210 (ft_state_open) (va1)) &&& (((1 : Int32) <<< (va2 &&& 31)) ^^^ (-1 : Int32)))))
  else
    (t_X4_put 210 (ft_state_open) (va1) (((t_X4_at 210 (ft_state_open) (va1)) ||| ((1 : Int32) <<< (va2 &&& 31)))))
theorem tot_X1_setSide (ft_state_open : Nat → Int32) (va1 : Int32) (va2 : Int32) (va3 : Int32) : f_X1_setSide ft_state_open va1 va2 va3 = some (t_X1_setSide ft_state_open va1 va2 va3) := by
  by_cases hc_27 : va3 = 0
  · simp only [f_X1_setSide, t_X1_setSide, if_pos hc_27]
  · simp only [f_X1_setSide, t_X1_setSide, if_neg hc_27]
noncomputable def f_X10_opposite (va1 : Int32) : Option (Int32) :=
  some (((va1 + (2 : Int32)) - (va1 + (2 : Int32)) / (4 : Int32) * (4 : Int32)))
abbrev rm_X10_opposite : Room := { frames := 0, cells := 0, slots := 0, locals := 0 }
set_option maxHeartbeats 4000000 in
set_option maxRecDepth 100000 in
theorem c_X10_opposite (l : Launch) (dC : Nat → ClassId) (dI : Nat → Nat → Nat) (cy : gC) (G : gT) (sz : Nat) (va1 : Int32) (out : Int32) (hf : f_X10_opposite va1 = some out) : Met l yX10_opposite wsX10_opposite rm_X10_opposite (va_Pc [.int va1] (kP (dC, dI) cy G [] sz)) (va_Qi (fun r (_ : Unit) => r = out) (fun _ => kQ (dC, dI) cy [] (va_A [] sz)) (va_A [] sz)) 0 0 (va_A [] sz) := by
  refine Met.ofW (cc := cX10_opposite) (maxL := 1) (ret := (some .int)) (by decide) rfl ?_
  intro p e s m args below meth c s₁ B hml hv
  obtain ⟨rfl, hsz, hP, hK, hD0, hG⟩ := hv
  have hx := B.exec
  have hb := B.bytes
  have hr := B.returns
  have hts := atoms_spec (ws := wsX10_opposite) B.pre
  have hown : s.vm.findClass RX10 = some m.cls := findClass_of_methodNamed B.named
  have hlocks := B.notSynchronized
  subst hsz
  have hD := hD0.self (sz := s.heap.size)
  generalize hAe : va_A [] s.heap.size = A at hD hG ⊢
  have hA : ∀ q : Nat, s.heap.size ≤ q → A q := fun q h => by rw [← hAe]; exact Or.inr h
  have hS : va_S A s.heap s.heap [] := va_S.rf
  have hP : va_P (dC, dI) vwCl [] s.heap := hP
  have hl := lv_entry ([.int va1]) (n := 1) (Nat.le_of_ble_eq_true rfl)
  rw [lg_entry_eq]
  generalize (lg_sl ([.int va1]) ++ List.replicate (1 - (lg_sl ([.int va1])).length) Slot.unset).toArray = ls at hl ⊢
  have hl : lv_has ls 1 [(0, .int va1)] := hl
  refine kgen (fun Q hQ => ?_)
  rw [f_X10_opposite] at hf
  refine lv_iload_n hx hb dX10_opposite_0 rfl (lv_at hl 0 rfl) ?_
  refine lv_iconst (v := (2 : Int32)) hx hb dX10_opposite_1 (by decide) ?_
  refine lv_iadd hx hb dX10_opposite_2 ?_
  refine lv_iconst (v := (4 : Int32)) hx hb dX10_opposite_3 (by decide) ?_
  refine lv_irem hx hb dX10_opposite_4 (by decide) ?_
  cases hf
  subst hQ
  exact kiret hx hb hr hlocks hK (hP.sub [] rfl) (hD.sub [] (by decide) rfl) hS rfl dX10_opposite_5
theorem hdX10_opposite : yX10_opposite.cls = RX10 ∧ yX10_opposite.cls ≠ "java/lang/invoke/MethodHandle" ∧ yX10_opposite.cls ≠ "java/lang/invoke/VarHandle" ∧ (parseMethodDescriptor yX10_opposite.desc).map (fun d => d.parameters.length) = some 1 := by decide +kernel
noncomputable def t_X10_opposite (va1 : Int32) : Int32 :=
  ((va1 + (2 : Int32)) - (va1 + (2 : Int32)) / (4 : Int32) * (4 : Int32))
theorem tot_X10_opposite (va1 : Int32) : f_X10_opposite va1 = some (t_X10_opposite va1) := by
  simp only [f_X10_opposite, t_X10_opposite]
noncomputable def f_X1_setDoor (it_shape_width : Int32) (ft_state_open : Nat → Int32) (va1 : Int32) (va2 : Int32) (va3 : Int32) : Option ((Nat → Int32)) :=
  some ((t_X1_setSide ((t_X1_setSide (ft_state_open) (va1) (va2) (va3))) ((va1 + (t_X5_stride (it_shape_width) (va2)))) ((t_X10_opposite (va2))) (va3)))
abbrev rm_X1_setDoor : Room := { frames := 2, cells := 0, slots := 0, locals := 47 }
set_option maxHeartbeats 4000000 in
set_option maxRecDepth 100000 in
theorem c_X1_setDoor (l : Launch) (dC : Nat → ClassId) (dI : Nat → Nat → Nat) (cy : gC) (G : gT) (sz : Nat) (qt : Nat) (qt_shape : Nat) (qt_state : Nat) (qt_state_open : Nat) (qt_state_open_values : Nat) (xt_shape_owners : Nat) (xt_state_letters : Nat) (xt_state_signs : Nat) (it_shape_cellCount : Int32) (it_shape_roomCount : Int32) (it_shape_doorCount : Int32) (it_shape_lowest : Int32) (it_state_size : Int32) (it_state_start : Int32) (it_state_goal : Int32) (it_shape_width : Int32) (ft_state_open : Nat → Int32) (va1 : Int32) (va2 : Int32) (va3 : Int32) (out : (Nat → Int32)) (hf : f_X1_setDoor it_shape_width ft_state_open va1 va2 va3 = some out) : Met l yX1_setDoor wsX1_setDoor rm_X1_setDoor (va_Pc [.ref qt, .int va1, .int va2, .int va3] (kP (dC, dI) cy G [(qt, .inr (1, [.ref qt_shape, .ref qt_state])), (qt_shape, .inr (5, [.ref xt_shape_owners, .int (it_shape_width), .int (it_shape_cellCount), .int (it_shape_roomCount), .int (it_shape_doorCount), .int (it_shape_lowest)])), (qt_state, .inr (6, [.ref xt_state_letters, .ref qt_state_open, .ref xt_state_signs, .int (it_state_size), .int (it_state_start), .int (it_state_goal)])), (qt_state_open, .inr (4, [.ref qt_state_open_values])), (qt_state_open_values, .inl (cy.1, 210, .inl (ft_state_open)))] sz)) (va_Qv (fun (_ : Unit) => True) (fun _ => kQ (dC, dI) cy [(qt, .inr (1, [.ref qt_shape, .ref qt_state])), (qt_shape, .inr (5, [.ref xt_shape_owners, .int (it_shape_width), .int (it_shape_cellCount), .int (it_shape_roomCount), .int (it_shape_doorCount), .int (it_shape_lowest)])), (qt_state, .inr (6, [.ref xt_state_letters, .ref qt_state_open, .ref xt_state_signs, .int (it_state_size), .int (it_state_start), .int (it_state_goal)])), (qt_state_open, .inr (4, [.ref qt_state_open_values])), (qt_state_open_values, .inl (cy.1, 210, .inl (out)))] (va_A [(qt, .inr (1, [.ref qt_shape, .ref qt_state])), (qt_shape, .inr (5, [.ref xt_shape_owners, .int (it_shape_width), .int (it_shape_cellCount), .int (it_shape_roomCount), .int (it_shape_doorCount), .int (it_shape_lowest)])), (qt_state, .inr (6, [.ref xt_state_letters, .ref qt_state_open, .ref xt_state_signs, .int (it_state_size), .int (it_state_start), .int (it_state_goal)])), (qt_state_open, .inr (4, [.ref qt_state_open_values])), (qt_state_open_values, .inl (cy.1, 210, .inl (ft_state_open)))] sz)) (va_A [(qt, .inr (1, [.ref qt_shape, .ref qt_state])), (qt_shape, .inr (5, [.ref xt_shape_owners, .int (it_shape_width), .int (it_shape_cellCount), .int (it_shape_roomCount), .int (it_shape_doorCount), .int (it_shape_lowest)])), (qt_state, .inr (6, [.ref xt_state_letters, .ref qt_state_open, .ref xt_state_signs, .int (it_state_size), .int (it_state_start), .int (it_state_goal)])), (qt_state_open, .inr (4, [.ref qt_state_open_values])), (qt_state_open_values, .inl (cy.1, 210, .inl (ft_state_open)))] sz)) 0 0 (va_A [(qt, .inr (1, [.ref qt_shape, .ref qt_state])), (qt_shape, .inr (5, [.ref xt_shape_owners, .int (it_shape_width), .int (it_shape_cellCount), .int (it_shape_roomCount), .int (it_shape_doorCount), .int (it_shape_lowest)])), (qt_state, .inr (6, [.ref xt_state_letters, .ref qt_state_open, .ref xt_state_signs, .int (it_state_size), .int (it_state_start), .int (it_state_goal)])), (qt_state_open, .inr (4, [.ref qt_state_open_values])), (qt_state_open_values, .inl (cy.1, 210, .inl (ft_state_open)))] sz) := by
  refine Met.ofW (cc := cX1_setDoor) (maxL := 4) (ret := none) (by decide) rfl ?_
  intro p e s m args below meth c s₁ B hml hv
  obtain ⟨rfl, hsz, hP, hK, hD0, hG⟩ := hv
  have hx := B.exec
  have hb := B.bytes
  have hr := B.returns
  have hts := atoms_spec (ws := wsX1_setDoor) B.pre
  have hown : s.vm.findClass RX1 = some m.cls := findClass_of_methodNamed B.named
  have hlocks := B.notSynchronized
  subst hsz
  have hD := hD0.self (sz := s.heap.size)
  generalize hAe : va_A [(qt, .inr (1, [.ref qt_shape, .ref qt_state])), (qt_shape, .inr (5, [.ref xt_shape_owners, .int (it_shape_width), .int (it_shape_cellCount), .int (it_shape_roomCount), .int (it_shape_doorCount), .int (it_shape_lowest)])), (qt_state, .inr (6, [.ref xt_state_letters, .ref qt_state_open, .ref xt_state_signs, .int (it_state_size), .int (it_state_start), .int (it_state_goal)])), (qt_state_open, .inr (4, [.ref qt_state_open_values])), (qt_state_open_values, .inl (cy.1, 210, .inl (ft_state_open)))] s.heap.size = A at hD hG ⊢
  have hA : ∀ q : Nat, s.heap.size ≤ q → A q := fun q h => by rw [← hAe]; exact Or.inr h
  have hS : va_S A s.heap s.heap [] := va_S.rf
  have hP : va_P (dC, dI) vwCl [(qt, .inr (1, [.ref qt_shape, .ref qt_state])), (qt_shape, .inr (5, [.ref xt_shape_owners, .int (it_shape_width), .int (it_shape_cellCount), .int (it_shape_roomCount), .int (it_shape_doorCount), .int (it_shape_lowest)])), (qt_state, .inr (6, [.ref xt_state_letters, .ref qt_state_open, .ref xt_state_signs, .int (it_state_size), .int (it_state_start), .int (it_state_goal)])), (qt_state_open, .inr (4, [.ref qt_state_open_values])), (qt_state_open_values, .inl (cy.1, 210, .inl (ft_state_open)))] s.heap := hP
  have hl := lv_entry ([.ref qt, .int va1, .int va2, .int va3]) (n := 4) (Nat.le_of_ble_eq_true rfl)
  rw [lg_entry_eq]
  generalize (lg_sl ([.ref qt, .int va1, .int va2, .int va3]) ++ List.replicate (4 - (lg_sl ([.ref qt, .int va1, .int va2, .int va3])).length) Slot.unset).toArray = ls at hl ⊢
  have hl : lv_has ls 4 [(0, .ref qt), (1, .int va1), (2, .int va2), (3, .int va3)] := hl
  refine kgen (fun Q hQ => ?_)
  rw [f_X1_setDoor] at hf
  refine lv_aload_n hx hb dX1_setDoor_0 rfl (lv_at hl 0 rfl) ?_
  refine lv_iload_n hx hb dX1_setDoor_1 rfl (lv_at hl 1 rfl) ?_
  refine lv_iload_n hx hb dX1_setDoor_2 rfl (lv_at hl 2 rfl) ?_
  refine lv_iload_n hx hb dX1_setDoor_3 rfl (lv_at hl 3 rfl) ?_
  refine kcallv (wc := [(qt, .inr (1, [.ref qt_shape, .ref qt_state])), (qt_state, .inr (6, [.ref xt_state_letters, .ref qt_state_open, .ref xt_state_signs, .int (it_state_size), .int (it_state_start), .int (it_state_goal)])), (qt_state_open, .inr (4, [.ref qt_state_open_values])), (qt_state_open_values, .inl (cy.1, 210, .inl (ft_state_open)))]) (wr := [(qt_shape, .inr (5, [.ref xt_shape_owners, .int (it_shape_width), .int (it_shape_cellCount), .int (it_shape_roomCount), .int (it_shape_doorCount), .int (it_shape_lowest)]))]) (w1 := [(qt, .inr (1, [.ref qt_shape, .ref qt_state])), (qt_state, .inr (6, [.ref xt_state_letters, .ref qt_state_open, .ref xt_state_signs, .int (it_state_size), .int (it_state_start), .int (it_state_goal)])), (qt_state_open, .inr (4, [.ref qt_state_open_values])), (qt_state_open_values, .inl (cy.1, 210, .inl ((t_X1_setSide (ft_state_open) (va1) (va2) (va3)))))]) hK hP hD hS hA hG [0, 2, 3, 4] [1] rfl rfl rfl rfl rfl (fun hU hPc => va_runV (As := [.int va1, .int va2, .int va3]) (rest := []) ⟨hx, hb, hml, hown, hts⟩ (c_X1_setSide l dC dI cy G s.heap.size qt qt_state qt_state_open qt_state_open_values qt_shape xt_state_letters xt_state_signs (it_state_size) (it_state_start) (it_state_goal) (ft_state_open) (va1) (va2) (va3) (t_X1_setSide (ft_state_open) (va1) (va2) (va3)) (tot_X1_setSide (ft_state_open) (va1) (va2) (va3))) (cwV 3 hts gX1_setDoor_X1_setSide rfl rfl rfl hdX1_setSide ⟨Nat.le_of_ble_eq_true rfl, Nat.le_of_ble_eq_true rfl⟩) ⟨kBlind, (va_recv hK hP (ci := 1) (q0 := 0) rfl rfl), fun U h1 h2 => ⟨rfl, hU U h1 h2⟩⟩ rfl rfl hl.1 rfl (lv_room (Nat.le_of_ble_eq_true rfl)) dX1_setDoor_4 ⟨Nat.zero_le _, Nat.zero_le _⟩) (fun _ _ h => h) (fun H locs hP hD hS => ?_)
  have hP : va_P (dC, dI) vwCl [(qt_shape, .inr (5, [.ref xt_shape_owners, .int (it_shape_width), .int (it_shape_cellCount), .int (it_shape_roomCount), .int (it_shape_doorCount), .int (it_shape_lowest)])), (qt, .inr (1, [.ref qt_shape, .ref qt_state])), (qt_state, .inr (6, [.ref xt_state_letters, .ref qt_state_open, .ref xt_state_signs, .int (it_state_size), .int (it_state_start), .int (it_state_goal)])), (qt_state_open, .inr (4, [.ref qt_state_open_values])), (qt_state_open_values, .inl (cy.1, 210, .inl ((t_X1_setSide (ft_state_open) (va1) (va2) (va3)))))] H := hP
  have hD : va_D A [(qt_shape, .inr (5, [.ref xt_shape_owners, .int (it_shape_width), .int (it_shape_cellCount), .int (it_shape_roomCount), .int (it_shape_doorCount), .int (it_shape_lowest)])), (qt, .inr (1, [.ref qt_shape, .ref qt_state])), (qt_state, .inr (6, [.ref xt_state_letters, .ref qt_state_open, .ref xt_state_signs, .int (it_state_size), .int (it_state_start), .int (it_state_goal)])), (qt_state_open, .inr (4, [.ref qt_state_open_values])), (qt_state_open_values, .inl (cy.1, 210, .inl ((t_X1_setSide (ft_state_open) (va1) (va2) (va3)))))] := hD
  refine lv_aload_n hx hb dX1_setDoor_7 rfl (lv_at hl 0 rfl) ?_
  refine lv_iload_n hx hb dX1_setDoor_8 rfl (lv_at hl 1 rfl) ?_
  refine lv_aload_n hx hb dX1_setDoor_9 rfl (lv_at hl 0 rfl) ?_
  refine va_get (D := (dC, dI)) (ci := 1) (C := RX1) (T := TX1) (N := 2) hx hb hts (fun _ h => (List.mem_cons_of_mem _ (List.mem_append_left _ (List.mem_append_left _ (List.mem_append_left _ (List.mem_append_right _ h)))))) hown hK hP 1 rfl rfl 0 (by decide) (hts _ (List.mem_cons_of_mem _ (List.mem_append_left _ (List.mem_append_left _ (List.mem_append_left _ (List.mem_append_left _ (List.mem_append_left _ (List.mem_of_getElem? (i := 0) rfl)))))))) (fun _ h => h) rfl dX1_setDoor_10 ?_
  refine lv_iload_n hx hb dX1_setDoor_13 rfl (lv_at hl 2 rfl) ?_
  refine kcalli (wc := [(qt_shape, .inr (5, [.ref xt_shape_owners, .int (it_shape_width), .int (it_shape_cellCount), .int (it_shape_roomCount), .int (it_shape_doorCount), .int (it_shape_lowest)]))]) (wr := [(qt, .inr (1, [.ref qt_shape, .ref qt_state])), (qt_state, .inr (6, [.ref xt_state_letters, .ref qt_state_open, .ref xt_state_signs, .int (it_state_size), .int (it_state_start), .int (it_state_goal)])), (qt_state_open, .inr (4, [.ref qt_state_open_values])), (qt_state_open_values, .inl (cy.1, 210, .inl ((t_X1_setSide (ft_state_open) (va1) (va2) (va3)))))]) (w1 := [(qt_shape, .inr (5, [.ref xt_shape_owners, .int (it_shape_width), .int (it_shape_cellCount), .int (it_shape_roomCount), .int (it_shape_doorCount), .int (it_shape_lowest)]))]) hK hP hD hS hA hG [0] [1, 2, 3, 4] rfl rfl rfl rfl rfl (fun hU hPc => va_runV (As := [.int va2]) (rest := [.int va1, .ref qt]) ⟨hx, hb, hml, hown, hts⟩ (c_X5_stride l dC dI cy G H.size qt_shape xt_shape_owners (it_shape_cellCount) (it_shape_roomCount) (it_shape_doorCount) (it_shape_lowest) (it_shape_width) (va2) (t_X5_stride (it_shape_width) (va2)) (tot_X5_stride (it_shape_width) (va2))) (cwV 1 hts gX1_setDoor_X5_stride rfl rfl rfl hdX5_stride ⟨Nat.le_of_ble_eq_true rfl, Nat.le_of_ble_eq_true rfl⟩) ⟨kBlind, (va_recv hK hP (ci := 5) (q0 := 0) rfl rfl), fun U h1 h2 => ⟨rfl, hU U h1 h2⟩⟩ rfl rfl hl.1 rfl (lv_room (Nat.le_of_ble_eq_true rfl)) dX1_setDoor_14 ⟨Nat.zero_le _, Nat.zero_le _⟩) ((t_X5_stride (it_shape_width) (va2))) (fun _ _ h => h) (fun _ _ h => h) (fun H locs hP hD hS => ?_)
  have hP : va_P (dC, dI) vwCl [(qt, .inr (1, [.ref qt_shape, .ref qt_state])), (qt_state, .inr (6, [.ref xt_state_letters, .ref qt_state_open, .ref xt_state_signs, .int (it_state_size), .int (it_state_start), .int (it_state_goal)])), (qt_state_open, .inr (4, [.ref qt_state_open_values])), (qt_state_open_values, .inl (cy.1, 210, .inl ((t_X1_setSide (ft_state_open) (va1) (va2) (va3))))), (qt_shape, .inr (5, [.ref xt_shape_owners, .int (it_shape_width), .int (it_shape_cellCount), .int (it_shape_roomCount), .int (it_shape_doorCount), .int (it_shape_lowest)]))] H := hP
  have hD : va_D A [(qt, .inr (1, [.ref qt_shape, .ref qt_state])), (qt_state, .inr (6, [.ref xt_state_letters, .ref qt_state_open, .ref xt_state_signs, .int (it_state_size), .int (it_state_start), .int (it_state_goal)])), (qt_state_open, .inr (4, [.ref qt_state_open_values])), (qt_state_open_values, .inl (cy.1, 210, .inl ((t_X1_setSide (ft_state_open) (va1) (va2) (va3))))), (qt_shape, .inr (5, [.ref xt_shape_owners, .int (it_shape_width), .int (it_shape_cellCount), .int (it_shape_roomCount), .int (it_shape_doorCount), .int (it_shape_lowest)]))] := hD
  refine lv_iadd hx hb dX1_setDoor_17 ?_
  refine lv_iload_n hx hb dX1_setDoor_18 rfl (lv_at hl 2 rfl) ?_
  refine kcalli (wc := []) (wr := [(qt, .inr (1, [.ref qt_shape, .ref qt_state])), (qt_state, .inr (6, [.ref xt_state_letters, .ref qt_state_open, .ref xt_state_signs, .int (it_state_size), .int (it_state_start), .int (it_state_goal)])), (qt_state_open, .inr (4, [.ref qt_state_open_values])), (qt_state_open_values, .inl (cy.1, 210, .inl ((t_X1_setSide (ft_state_open) (va1) (va2) (va3))))), (qt_shape, .inr (5, [.ref xt_shape_owners, .int (it_shape_width), .int (it_shape_cellCount), .int (it_shape_roomCount), .int (it_shape_doorCount), .int (it_shape_lowest)]))]) (w1 := []) hK hP hD hS hA hG [] [0, 1, 2, 3, 4] rfl rfl rfl rfl rfl (fun hU hPc => va_runSN (host := RX10) (As := [.int va2]) (rest := [.int (va1 + (t_X5_stride (it_shape_width) (va2))), .ref qt]) ⟨hx, hb, hml, hown, hts⟩ (c_X10_opposite l dC dI cy G H.size (va2) (t_X10_opposite (va2)) (tot_X10_opposite (va2))) ⟨va_cnB 1 hts gX1_setDoor_X10_opposite_n75 rfl rfl rfl hG.2.2.2.2.2.2.2.2.1 (hts _ (List.mem_cons_of_mem _ (List.mem_append_left _ (List.mem_append_left _ (List.mem_append_left _ (List.mem_append_left _ (List.mem_append_right _ (List.mem_of_getElem? (i := 1) rfl)))))))) hdX10_opposite.2 ⟨Nat.le_of_ble_eq_true rfl, Nat.le_of_ble_eq_true rfl⟩, hts _ (List.mem_cons_of_mem _ (List.mem_append_left _ (List.mem_append_left _ (List.mem_append_left _ (List.mem_append_left _ (List.mem_append_right _ (List.mem_of_getElem? (i := 0) rfl))))))), trivial⟩ ⟨kBlind, fun U h1 h2 => ⟨rfl, hU U h1 h2⟩⟩ rfl rfl hl.1 rfl (lv_room (Nat.le_of_ble_eq_true rfl)) dX1_setDoor_19 ⟨Nat.zero_le _, Nat.zero_le _⟩) ((t_X10_opposite (va2))) (fun _ _ h => h) (fun _ _ h => h) (fun H locs hP hD hS => ?_)
  have hP : va_P (dC, dI) vwCl [(qt, .inr (1, [.ref qt_shape, .ref qt_state])), (qt_state, .inr (6, [.ref xt_state_letters, .ref qt_state_open, .ref xt_state_signs, .int (it_state_size), .int (it_state_start), .int (it_state_goal)])), (qt_state_open, .inr (4, [.ref qt_state_open_values])), (qt_state_open_values, .inl (cy.1, 210, .inl ((t_X1_setSide (ft_state_open) (va1) (va2) (va3))))), (qt_shape, .inr (5, [.ref xt_shape_owners, .int (it_shape_width), .int (it_shape_cellCount), .int (it_shape_roomCount), .int (it_shape_doorCount), .int (it_shape_lowest)]))] H := hP
  have hD : va_D A [(qt, .inr (1, [.ref qt_shape, .ref qt_state])), (qt_state, .inr (6, [.ref xt_state_letters, .ref qt_state_open, .ref xt_state_signs, .int (it_state_size), .int (it_state_start), .int (it_state_goal)])), (qt_state_open, .inr (4, [.ref qt_state_open_values])), (qt_state_open_values, .inl (cy.1, 210, .inl ((t_X1_setSide (ft_state_open) (va1) (va2) (va3))))), (qt_shape, .inr (5, [.ref xt_shape_owners, .int (it_shape_width), .int (it_shape_cellCount), .int (it_shape_roomCount), .int (it_shape_doorCount), .int (it_shape_lowest)]))] := hD
  refine lv_iload_n hx hb dX1_setDoor_22 rfl (lv_at hl 3 rfl) ?_
  refine kcallv (wc := [(qt, .inr (1, [.ref qt_shape, .ref qt_state])), (qt_state, .inr (6, [.ref xt_state_letters, .ref qt_state_open, .ref xt_state_signs, .int (it_state_size), .int (it_state_start), .int (it_state_goal)])), (qt_state_open, .inr (4, [.ref qt_state_open_values])), (qt_state_open_values, .inl (cy.1, 210, .inl ((t_X1_setSide (ft_state_open) (va1) (va2) (va3)))))]) (wr := [(qt_shape, .inr (5, [.ref xt_shape_owners, .int (it_shape_width), .int (it_shape_cellCount), .int (it_shape_roomCount), .int (it_shape_doorCount), .int (it_shape_lowest)]))]) (w1 := [(qt, .inr (1, [.ref qt_shape, .ref qt_state])), (qt_state, .inr (6, [.ref xt_state_letters, .ref qt_state_open, .ref xt_state_signs, .int (it_state_size), .int (it_state_start), .int (it_state_goal)])), (qt_state_open, .inr (4, [.ref qt_state_open_values])), (qt_state_open_values, .inl (cy.1, 210, .inl ((t_X1_setSide ((t_X1_setSide (ft_state_open) (va1) (va2) (va3))) ((va1 + (t_X5_stride (it_shape_width) (va2)))) ((t_X10_opposite (va2))) (va3)))))]) hK hP hD hS hA hG [0, 1, 2, 3] [4] rfl rfl rfl rfl rfl (fun hU hPc => va_runV (As := [.int (va1 + (t_X5_stride (it_shape_width) (va2))), .int (t_X10_opposite (va2)), .int va3]) (rest := []) ⟨hx, hb, hml, hown, hts⟩ (c_X1_setSide l dC dI cy G H.size qt qt_state qt_state_open qt_state_open_values qt_shape xt_state_letters xt_state_signs (it_state_size) (it_state_start) (it_state_goal) ((t_X1_setSide (ft_state_open) (va1) (va2) (va3))) ((va1 + (t_X5_stride (it_shape_width) (va2)))) ((t_X10_opposite (va2))) (va3) (t_X1_setSide ((t_X1_setSide (ft_state_open) (va1) (va2) (va3))) ((va1 + (t_X5_stride (it_shape_width) (va2)))) ((t_X10_opposite (va2))) (va3)) (tot_X1_setSide ((t_X1_setSide (ft_state_open) (va1) (va2) (va3))) ((va1 + (t_X5_stride (it_shape_width) (va2)))) ((t_X10_opposite (va2))) (va3))) (cwV 3 hts gX1_setDoor_X1_setSide rfl rfl rfl hdX1_setSide ⟨Nat.le_of_ble_eq_true rfl, Nat.le_of_ble_eq_true rfl⟩) ⟨kBlind, (va_recv hK hP (ci := 1) (q0 := 0) rfl rfl), fun U h1 h2 => ⟨rfl, hU U h1 h2⟩⟩ rfl rfl hl.1 rfl (lv_room (Nat.le_of_ble_eq_true rfl)) dX1_setDoor_23 ⟨Nat.zero_le _, Nat.zero_le _⟩) (fun _ _ h => h) (fun H locs hP hD hS => ?_)
  have hP : va_P (dC, dI) vwCl [(qt_shape, .inr (5, [.ref xt_shape_owners, .int (it_shape_width), .int (it_shape_cellCount), .int (it_shape_roomCount), .int (it_shape_doorCount), .int (it_shape_lowest)])), (qt, .inr (1, [.ref qt_shape, .ref qt_state])), (qt_state, .inr (6, [.ref xt_state_letters, .ref qt_state_open, .ref xt_state_signs, .int (it_state_size), .int (it_state_start), .int (it_state_goal)])), (qt_state_open, .inr (4, [.ref qt_state_open_values])), (qt_state_open_values, .inl (cy.1, 210, .inl ((t_X1_setSide ((t_X1_setSide (ft_state_open) (va1) (va2) (va3))) ((va1 + (t_X5_stride (it_shape_width) (va2)))) ((t_X10_opposite (va2))) (va3)))))] H := hP
  have hD : va_D A [(qt_shape, .inr (5, [.ref xt_shape_owners, .int (it_shape_width), .int (it_shape_cellCount), .int (it_shape_roomCount), .int (it_shape_doorCount), .int (it_shape_lowest)])), (qt, .inr (1, [.ref qt_shape, .ref qt_state])), (qt_state, .inr (6, [.ref xt_state_letters, .ref qt_state_open, .ref xt_state_signs, .int (it_state_size), .int (it_state_start), .int (it_state_goal)])), (qt_state_open, .inr (4, [.ref qt_state_open_values])), (qt_state_open_values, .inl (cy.1, 210, .inl ((t_X1_setSide ((t_X1_setSide (ft_state_open) (va1) (va2) (va3))) ((va1 + (t_X5_stride (it_shape_width) (va2)))) ((t_X10_opposite (va2))) (va3)))))] := hD
  cases hf
  subst hQ
  exact kvret hx hb hr hlocks hK (hP.sub [1, 0, 2, 3, 4] rfl) (hD.sub [1, 0, 2, 3, 4] (by decide) rfl) hS trivial dX1_setDoor_26
theorem hdX1_setDoor : yX1_setDoor.cls = RX1 ∧ yX1_setDoor.cls ≠ "java/lang/invoke/MethodHandle" ∧ yX1_setDoor.cls ≠ "java/lang/invoke/VarHandle" ∧ (parseMethodDescriptor yX1_setDoor.desc).map (fun d => d.parameters.length) = some 3 := by decide +kernel
noncomputable def t_X1_setDoor (it_shape_width : Int32) (ft_state_open : Nat → Int32) (va1 : Int32) (va2 : Int32) (va3 : Int32) : Nat → Int32 :=
  (t_X1_setSide ((t_X1_setSide (ft_state_open) (va1) (va2) (va3))) ((va1 + (t_X5_stride (it_shape_width) (va2)))) ((t_X10_opposite (va2))) (va3))
theorem tot_X1_setDoor (it_shape_width : Int32) (ft_state_open : Nat → Int32) (va1 : Int32) (va2 : Int32) (va3 : Int32) : f_X1_setDoor it_shape_width ft_state_open va1 va2 va3 = some (t_X1_setDoor it_shape_width ft_state_open va1 va2 va3) := by
  simp only [f_X1_setDoor, t_X1_setDoor]
noncomputable def b_X1_openCount_4 (N : Nat) (ft_state_open : Nat → Int32) : Nat → Int32 → Int32 → Option (Int32)
  | 0, _, _ => none
  | n + 1, l1, l2 =>
    if (210 : Int32) ≤ l2 then
      some ((l1 / (2 : Int32)))
    else
      b_X1_openCount_4 N ft_state_open n ((l1 + (t_X1_openDoors (ft_state_open) (l2)))) ((l2 + (1 : Int32)))
noncomputable def f_X1_openCount (N : Nat) (ft_state_open : Nat → Int32) : Option (Int32) :=
  b_X1_openCount_4 N ft_state_open N ((0 : Int32)) ((0 : Int32))
abbrev rm_X1_openCount : Room := { frames := 2, cells := 0, slots := 0, locals := 42 }
set_option maxHeartbeats 4000000 in
set_option maxRecDepth 100000 in
theorem c_X1_openCount (l : Launch) (dC : Nat → ClassId) (dI : Nat → Nat → Nat) (cy : gC) (G : gT) (sz : Nat) (qt : Nat) (qt_state : Nat) (qt_state_open : Nat) (qt_state_open_values : Nat) (xt_shape : Nat) (xt_state_letters : Nat) (xt_state_signs : Nat) (it_state_size : Int32) (it_state_start : Int32) (it_state_goal : Int32) (N : Nat) (ft_state_open : Nat → Int32) (out : Int32) (hf : f_X1_openCount N ft_state_open = some out) : Met l yX1_openCount wsX1_openCount rm_X1_openCount (va_Pc [.ref qt] (kP (dC, dI) cy G [(qt, .inr (1, [.ref xt_shape, .ref qt_state])), (qt_state, .inr (6, [.ref xt_state_letters, .ref qt_state_open, .ref xt_state_signs, .int (it_state_size), .int (it_state_start), .int (it_state_goal)])), (qt_state_open, .inr (4, [.ref qt_state_open_values])), (qt_state_open_values, .inl (cy.1, 210, .inl (ft_state_open)))] sz)) (va_Qi (fun r (_ : Unit) => r = out) (fun _ => kQ (dC, dI) cy [(qt, .inr (1, [.ref xt_shape, .ref qt_state])), (qt_state, .inr (6, [.ref xt_state_letters, .ref qt_state_open, .ref xt_state_signs, .int (it_state_size), .int (it_state_start), .int (it_state_goal)])), (qt_state_open, .inr (4, [.ref qt_state_open_values])), (qt_state_open_values, .inl (cy.1, 210, .inl (ft_state_open)))] (va_A [(qt, .inr (1, [.ref xt_shape, .ref qt_state])), (qt_state, .inr (6, [.ref xt_state_letters, .ref qt_state_open, .ref xt_state_signs, .int (it_state_size), .int (it_state_start), .int (it_state_goal)])), (qt_state_open, .inr (4, [.ref qt_state_open_values])), (qt_state_open_values, .inl (cy.1, 210, .inl (ft_state_open)))] sz)) (va_A [(qt, .inr (1, [.ref xt_shape, .ref qt_state])), (qt_state, .inr (6, [.ref xt_state_letters, .ref qt_state_open, .ref xt_state_signs, .int (it_state_size), .int (it_state_start), .int (it_state_goal)])), (qt_state_open, .inr (4, [.ref qt_state_open_values])), (qt_state_open_values, .inl (cy.1, 210, .inl (ft_state_open)))] sz)) 0 0 (va_A [(qt, .inr (1, [.ref xt_shape, .ref qt_state])), (qt_state, .inr (6, [.ref xt_state_letters, .ref qt_state_open, .ref xt_state_signs, .int (it_state_size), .int (it_state_start), .int (it_state_goal)])), (qt_state_open, .inr (4, [.ref qt_state_open_values])), (qt_state_open_values, .inl (cy.1, 210, .inl (ft_state_open)))] sz) := by
  refine Met.ofW (cc := cX1_openCount) (maxL := 3) (ret := (some .int)) (by decide) rfl ?_
  intro p e s m args below meth c s₁ B hml hv
  obtain ⟨rfl, hsz, hP, hK, hD0, hG⟩ := hv
  have hx := B.exec
  have hb := B.bytes
  have hr := B.returns
  have hts := atoms_spec (ws := wsX1_openCount) B.pre
  have hown : s.vm.findClass RX1 = some m.cls := findClass_of_methodNamed B.named
  have hlocks := B.notSynchronized
  subst hsz
  have hD := hD0.self (sz := s.heap.size)
  generalize hAe : va_A [(qt, .inr (1, [.ref xt_shape, .ref qt_state])), (qt_state, .inr (6, [.ref xt_state_letters, .ref qt_state_open, .ref xt_state_signs, .int (it_state_size), .int (it_state_start), .int (it_state_goal)])), (qt_state_open, .inr (4, [.ref qt_state_open_values])), (qt_state_open_values, .inl (cy.1, 210, .inl (ft_state_open)))] s.heap.size = A at hD hG ⊢
  have hA : ∀ q : Nat, s.heap.size ≤ q → A q := fun q h => by rw [← hAe]; exact Or.inr h
  have hS : va_S A s.heap s.heap [] := va_S.rf
  have hP : va_P (dC, dI) vwCl [(qt, .inr (1, [.ref xt_shape, .ref qt_state])), (qt_state, .inr (6, [.ref xt_state_letters, .ref qt_state_open, .ref xt_state_signs, .int (it_state_size), .int (it_state_start), .int (it_state_goal)])), (qt_state_open, .inr (4, [.ref qt_state_open_values])), (qt_state_open_values, .inl (cy.1, 210, .inl (ft_state_open)))] s.heap := hP
  have hl := lv_entry ([.ref qt]) (n := 3) (Nat.le_of_ble_eq_true rfl)
  rw [lg_entry_eq]
  generalize (lg_sl ([.ref qt]) ++ List.replicate (3 - (lg_sl ([.ref qt])).length) Slot.unset).toArray = ls at hl ⊢
  have hl : lv_has ls 3 [(0, .ref qt)] := hl
  refine kgen (fun Q hQ => ?_)
  have B4 : ∀ (n4 : Nat) (l1 : Int32) (l2 : Int32) (H : Heap) (locs : List Loc), va_P (dC, dI) vwCl [(qt, .inr (1, [.ref xt_shape, .ref qt_state])), (qt_state, .inr (6, [.ref xt_state_letters, .ref qt_state_open, .ref xt_state_signs, .int (it_state_size), .int (it_state_start), .int (it_state_goal)])), (qt_state_open, .inr (4, [.ref qt_state_open_values])), (qt_state_open_values, .inl (cy.1, 210, .inl (ft_state_open)))] H → va_D A [(qt, .inr (1, [.ref xt_shape, .ref qt_state])), (qt_state, .inr (6, [.ref xt_state_letters, .ref qt_state_open, .ref xt_state_signs, .int (it_state_size), .int (it_state_start), .int (it_state_goal)])), (qt_state_open, .inr (4, [.ref qt_state_open_values])), (qt_state_open_values, .inl (cy.1, 210, .inl (ft_state_open)))] → va_S A s.heap H locs → ∀ (ls : Array Slot), lv_has ls 3 [(0, .ref qt), (1, .int l1), (2, .int l2)] → b_X1_openCount_4 N ft_state_open n4 l1 l2 = some out → W p l e (headSpec wsX1_openCount rm_X1_openCount).room s m ([.ref qt] : List Value).toArray below meth c H locs 0 0 Q (F0 m 4 ls []) := by
    intro n4
    induction n4 with
    | zero => intro l1 l2 H locs hP hD hS ls hl hf; rw [b_X1_openCount_4] at hf; cases hf
    | succ n4 ih4 =>
      intro l1 l2 H locs hP hD hS ls hl hf
      rw [b_X1_openCount_4] at hf
      refine lv_iload_n hx hb dX1_openCount_4 rfl (lv_at hl 2 rfl) ?_
      refine lv_sipush (v := (210 : Int32)) hx hb dX1_openCount_5 (by decide) ?_
      refine lv_icmp_ge (tgt := 25) hx hb dX1_openCount_8 (by decide) (fun hc_8 => ?_) (fun hc_8 => ?_)
      · rw [if_pos hc_8] at hf
        refine lv_iload_n hx hb dX1_openCount_25 rfl (lv_at hl 1 rfl) ?_
        refine lv_iconst (v := (2 : Int32)) hx hb dX1_openCount_26 (by decide) ?_
        refine lv_idiv hx hb dX1_openCount_27 (by decide) ?_
        cases hf
        subst hQ
        exact kiret hx hb hr hlocks hK (hP.sub [0, 1, 2, 3] rfl) (hD.sub [0, 1, 2, 3] (by decide) rfl) hS rfl dX1_openCount_28
      · rw [if_neg hc_8] at hf
        refine lv_iload_n hx hb dX1_openCount_11 rfl (lv_at hl 1 rfl) ?_
        refine lv_aload_n hx hb dX1_openCount_12 rfl (lv_at hl 0 rfl) ?_
        refine lv_iload_n hx hb dX1_openCount_13 rfl (lv_at hl 2 rfl) ?_
        refine kcalli (wc := [(qt, .inr (1, [.ref xt_shape, .ref qt_state])), (qt_state, .inr (6, [.ref xt_state_letters, .ref qt_state_open, .ref xt_state_signs, .int (it_state_size), .int (it_state_start), .int (it_state_goal)])), (qt_state_open, .inr (4, [.ref qt_state_open_values])), (qt_state_open_values, .inl (cy.1, 210, .inl (ft_state_open)))]) (wr := []) (w1 := [(qt, .inr (1, [.ref xt_shape, .ref qt_state])), (qt_state, .inr (6, [.ref xt_state_letters, .ref qt_state_open, .ref xt_state_signs, .int (it_state_size), .int (it_state_start), .int (it_state_goal)])), (qt_state_open, .inr (4, [.ref qt_state_open_values])), (qt_state_open_values, .inl (cy.1, 210, .inl (ft_state_open)))]) hK hP hD hS hA hG [0, 1, 2, 3] [] rfl rfl rfl rfl rfl (fun hU hPc => va_runV (As := [.int l2]) (rest := [.int l1]) ⟨hx, hb, hml, hown, hts⟩ (c_X1_openDoors l dC dI cy G H.size qt qt_state qt_state_open qt_state_open_values xt_shape xt_state_letters xt_state_signs (it_state_size) (it_state_start) (it_state_goal) (ft_state_open) (l2) (t_X1_openDoors (ft_state_open) (l2)) (tot_X1_openDoors (ft_state_open) (l2))) (cwV 1 hts gX1_openCount_X1_openDoors rfl rfl rfl hdX1_openDoors ⟨Nat.le_of_ble_eq_true rfl, Nat.le_of_ble_eq_true rfl⟩) ⟨kBlind, (va_recv hK hP (ci := 1) (q0 := 0) rfl rfl), fun U h1 h2 => ⟨rfl, hU U h1 h2⟩⟩ rfl rfl hl.1 rfl (lv_room (Nat.le_of_ble_eq_true rfl)) dX1_openCount_14 ⟨Nat.zero_le _, Nat.zero_le _⟩) ((t_X1_openDoors (ft_state_open) (l2))) (fun _ _ h => h) (fun _ _ h => h) (fun H locs hP hD hS => ?_)
        have hP : va_P (dC, dI) vwCl [(qt, .inr (1, [.ref xt_shape, .ref qt_state])), (qt_state, .inr (6, [.ref xt_state_letters, .ref qt_state_open, .ref xt_state_signs, .int (it_state_size), .int (it_state_start), .int (it_state_goal)])), (qt_state_open, .inr (4, [.ref qt_state_open_values])), (qt_state_open_values, .inl (cy.1, 210, .inl (ft_state_open)))] H := hP
        have hD : va_D A [(qt, .inr (1, [.ref xt_shape, .ref qt_state])), (qt_state, .inr (6, [.ref xt_state_letters, .ref qt_state_open, .ref xt_state_signs, .int (it_state_size), .int (it_state_start), .int (it_state_goal)])), (qt_state_open, .inr (4, [.ref qt_state_open_values])), (qt_state_open_values, .inl (cy.1, 210, .inl (ft_state_open)))] := hD
        refine lv_iadd hx hb dX1_openCount_17 ?_
        refine lv_istore_n (lv' := [(1, .int (l1 + (t_X1_openDoors (ft_state_open) (l2)))), (0, .ref qt), (2, .int l2)]) hx hb dX1_openCount_18 rfl hl (by decide) rfl (fun ls hl => ?_)
        refine lv_iinc (v := (l2 + (1 : Int32))) (lv' := [(2, .int (l2 + (1 : Int32))), (1, .int (l1 + (t_X1_openDoors (ft_state_open) (l2)))), (0, .ref qt)]) hx hb dX1_openCount_19 hl (k := 2) rfl rfl (by decide) rfl (fun ls hl => ?_)
        refine lv_goto (tgt := 4) hx hb dX1_openCount_22 (by decide) ?_
        exact ih4 ((l1 + (t_X1_openDoors (ft_state_open) (l2)))) ((l2 + (1 : Int32))) _ _ (hP.sub [0, 1, 2, 3] rfl) (hD.sub [0, 1, 2, 3] (by decide) rfl) hS _ (lv_sub hl [2, 1, 0] rfl) hf
  rw [f_X1_openCount] at hf
  refine lv_iconst (v := (0 : Int32)) hx hb dX1_openCount_0 (by decide) ?_
  refine lv_istore_n (lv' := [(1, .int (0 : Int32)), (0, .ref qt)]) hx hb dX1_openCount_1 rfl hl (by decide) rfl (fun ls hl => ?_)
  refine lv_iconst (v := (0 : Int32)) hx hb dX1_openCount_2 (by decide) ?_
  refine lv_istore_n (lv' := [(2, .int (0 : Int32)), (1, .int (0 : Int32)), (0, .ref qt)]) hx hb dX1_openCount_3 rfl hl (by decide) rfl (fun ls hl => ?_)
  exact B4 N ((0 : Int32)) ((0 : Int32)) _ _ (hP.sub [0, 1, 2, 3] rfl) (hD.sub [0, 1, 2, 3] (by decide) rfl) hS _ (lv_sub hl [2, 1, 0] rfl) hf
theorem hdX1_openCount : yX1_openCount.cls = RX1 ∧ yX1_openCount.cls ≠ "java/lang/invoke/MethodHandle" ∧ yX1_openCount.cls ≠ "java/lang/invoke/VarHandle" ∧ (parseMethodDescriptor yX1_openCount.desc).map (fun d => d.parameters.length) = some 0 := by decide +kernel
noncomputable def b_X1_doorsBetween_17 (N : Nat) (it_shape_width : Int32) (ft_shape_owners : Nat → Int32) (ft_state_open : Nat → Int32) (va1 : Int32) (va2 : Int32) (va3 : Int32) (k6 : Int32 → Int32 → Option (Int32)) : Nat → Int32 → Int32 → Int32 → Option (Int32)
  | 0, _, _, _ => none
  | n + 1, l4, l5, l6 =>
    if (2 : Int32) < l6 then
      k6 (l4) ((l5 + (1 : Int32)))
    else
      if (t_X4_at 210 (ft_shape_owners) (l5)) = va1 then
        if (t_X4_at 210 (ft_shape_owners) ((t_X5_beside (it_shape_width) (ft_shape_owners) (l5) (l6)))) = va2 then
          if va3 = 0 then
            b_X1_doorsBetween_17 N it_shape_width ft_shape_owners ft_state_open va1 va2 va3 k6 n ((l4 + (1 : Int32))) (l5) ((l6 + (1 : Int32)))
          else
            if (t_X1_isOpen (ft_state_open) (l5) (l6)) = 0 then
              b_X1_doorsBetween_17 N it_shape_width ft_shape_owners ft_state_open va1 va2 va3 k6 n (l4) (l5) ((l6 + (1 : Int32)))
            else
              b_X1_doorsBetween_17 N it_shape_width ft_shape_owners ft_state_open va1 va2 va3 k6 n ((l4 + (1 : Int32))) (l5) ((l6 + (1 : Int32)))
        else
          b_X1_doorsBetween_17 N it_shape_width ft_shape_owners ft_state_open va1 va2 va3 k6 n (l4) (l5) ((l6 + (1 : Int32)))
      else
        b_X1_doorsBetween_17 N it_shape_width ft_shape_owners ft_state_open va1 va2 va3 k6 n (l4) (l5) ((l6 + (1 : Int32)))
noncomputable def b_X1_doorsBetween_6 (N : Nat) (it_shape_width : Int32) (ft_shape_owners : Nat → Int32) (ft_state_open : Nat → Int32) (va1 : Int32) (va2 : Int32) (va3 : Int32) : Nat → Int32 → Int32 → Option (Int32)
  | 0, _, _ => none
  | n + 1, l4, l5 =>
    if (210 : Int32) ≤ l5 then
      some (l4)
    else
      b_X1_doorsBetween_17 N it_shape_width ft_shape_owners ft_state_open va1 va2 va3 (b_X1_doorsBetween_6 N it_shape_width ft_shape_owners ft_state_open va1 va2 va3 n) N (l4) (l5) ((1 : Int32))
noncomputable def f_X1_doorsBetween (N : Nat) (it_shape_width : Int32) (ft_shape_owners : Nat → Int32) (ft_state_open : Nat → Int32) (va1 : Int32) (va2 : Int32) (va3 : Int32) : Option (Int32) :=
  b_X1_doorsBetween_6 N it_shape_width ft_shape_owners ft_state_open va1 va2 va3 N ((0 : Int32)) ((0 : Int32))
abbrev rm_X1_doorsBetween : Room := { frames := 3, cells := 0, slots := 0, locals := 66 }
set_option maxHeartbeats 4000000 in
set_option maxRecDepth 100000 in
theorem c_X1_doorsBetween (l : Launch) (dC : Nat → ClassId) (dI : Nat → Nat → Nat) (cy : gC) (G : gT) (sz : Nat) (qt : Nat) (qt_shape : Nat) (qt_shape_owners : Nat) (qt_shape_owners_values : Nat) (qt_state : Nat) (qt_state_open : Nat) (qt_state_open_values : Nat) (xt_state_letters : Nat) (xt_state_signs : Nat) (it_shape_cellCount : Int32) (it_shape_roomCount : Int32) (it_shape_doorCount : Int32) (it_shape_lowest : Int32) (it_state_size : Int32) (it_state_start : Int32) (it_state_goal : Int32) (N : Nat) (it_shape_width : Int32) (ft_shape_owners : Nat → Int32) (ft_state_open : Nat → Int32) (va1 : Int32) (va2 : Int32) (va3 : Int32) (out : Int32) (hf : f_X1_doorsBetween N it_shape_width ft_shape_owners ft_state_open va1 va2 va3 = some out) : Met l yX1_doorsBetween wsX1_doorsBetween rm_X1_doorsBetween (va_Pc [.ref qt, .int va1, .int va2, .int va3] (kP (dC, dI) cy G [(qt, .inr (1, [.ref qt_shape, .ref qt_state])), (qt_shape, .inr (5, [.ref qt_shape_owners, .int (it_shape_width), .int (it_shape_cellCount), .int (it_shape_roomCount), .int (it_shape_doorCount), .int (it_shape_lowest)])), (qt_shape_owners, .inr (4, [.ref qt_shape_owners_values])), (qt_shape_owners_values, .inl (cy.1, 210, .inl (ft_shape_owners))), (qt_state, .inr (6, [.ref xt_state_letters, .ref qt_state_open, .ref xt_state_signs, .int (it_state_size), .int (it_state_start), .int (it_state_goal)])), (qt_state_open, .inr (4, [.ref qt_state_open_values])), (qt_state_open_values, .inl (cy.1, 210, .inl (ft_state_open)))] sz)) (va_Qi (fun r (_ : Unit) => r = out) (fun _ => kQ (dC, dI) cy [(qt, .inr (1, [.ref qt_shape, .ref qt_state])), (qt_shape, .inr (5, [.ref qt_shape_owners, .int (it_shape_width), .int (it_shape_cellCount), .int (it_shape_roomCount), .int (it_shape_doorCount), .int (it_shape_lowest)])), (qt_shape_owners, .inr (4, [.ref qt_shape_owners_values])), (qt_shape_owners_values, .inl (cy.1, 210, .inl (ft_shape_owners))), (qt_state, .inr (6, [.ref xt_state_letters, .ref qt_state_open, .ref xt_state_signs, .int (it_state_size), .int (it_state_start), .int (it_state_goal)])), (qt_state_open, .inr (4, [.ref qt_state_open_values])), (qt_state_open_values, .inl (cy.1, 210, .inl (ft_state_open)))] (va_A [(qt, .inr (1, [.ref qt_shape, .ref qt_state])), (qt_shape, .inr (5, [.ref qt_shape_owners, .int (it_shape_width), .int (it_shape_cellCount), .int (it_shape_roomCount), .int (it_shape_doorCount), .int (it_shape_lowest)])), (qt_shape_owners, .inr (4, [.ref qt_shape_owners_values])), (qt_shape_owners_values, .inl (cy.1, 210, .inl (ft_shape_owners))), (qt_state, .inr (6, [.ref xt_state_letters, .ref qt_state_open, .ref xt_state_signs, .int (it_state_size), .int (it_state_start), .int (it_state_goal)])), (qt_state_open, .inr (4, [.ref qt_state_open_values])), (qt_state_open_values, .inl (cy.1, 210, .inl (ft_state_open)))] sz)) (va_A [(qt, .inr (1, [.ref qt_shape, .ref qt_state])), (qt_shape, .inr (5, [.ref qt_shape_owners, .int (it_shape_width), .int (it_shape_cellCount), .int (it_shape_roomCount), .int (it_shape_doorCount), .int (it_shape_lowest)])), (qt_shape_owners, .inr (4, [.ref qt_shape_owners_values])), (qt_shape_owners_values, .inl (cy.1, 210, .inl (ft_shape_owners))), (qt_state, .inr (6, [.ref xt_state_letters, .ref qt_state_open, .ref xt_state_signs, .int (it_state_size), .int (it_state_start), .int (it_state_goal)])), (qt_state_open, .inr (4, [.ref qt_state_open_values])), (qt_state_open_values, .inl (cy.1, 210, .inl (ft_state_open)))] sz)) 0 0 (va_A [(qt, .inr (1, [.ref qt_shape, .ref qt_state])), (qt_shape, .inr (5, [.ref qt_shape_owners, .int (it_shape_width), .int (it_shape_cellCount), .int (it_shape_roomCount), .int (it_shape_doorCount), .int (it_shape_lowest)])), (qt_shape_owners, .inr (4, [.ref qt_shape_owners_values])), (qt_shape_owners_values, .inl (cy.1, 210, .inl (ft_shape_owners))), (qt_state, .inr (6, [.ref xt_state_letters, .ref qt_state_open, .ref xt_state_signs, .int (it_state_size), .int (it_state_start), .int (it_state_goal)])), (qt_state_open, .inr (4, [.ref qt_state_open_values])), (qt_state_open_values, .inl (cy.1, 210, .inl (ft_state_open)))] sz) := by
  refine Met.ofW (cc := cX1_doorsBetween) (maxL := 7) (ret := (some .int)) (by decide) rfl ?_
  intro p e s m args below meth c s₁ B hml hv
  obtain ⟨rfl, hsz, hP, hK, hD0, hG⟩ := hv
  have hx := B.exec
  have hb := B.bytes
  have hr := B.returns
  have hts := atoms_spec (ws := wsX1_doorsBetween) B.pre
  have hown : s.vm.findClass RX1 = some m.cls := findClass_of_methodNamed B.named
  have hlocks := B.notSynchronized
  subst hsz
  have hD := hD0.self (sz := s.heap.size)
  generalize hAe : va_A [(qt, .inr (1, [.ref qt_shape, .ref qt_state])), (qt_shape, .inr (5, [.ref qt_shape_owners, .int (it_shape_width), .int (it_shape_cellCount), .int (it_shape_roomCount), .int (it_shape_doorCount), .int (it_shape_lowest)])), (qt_shape_owners, .inr (4, [.ref qt_shape_owners_values])), (qt_shape_owners_values, .inl (cy.1, 210, .inl (ft_shape_owners))), (qt_state, .inr (6, [.ref xt_state_letters, .ref qt_state_open, .ref xt_state_signs, .int (it_state_size), .int (it_state_start), .int (it_state_goal)])), (qt_state_open, .inr (4, [.ref qt_state_open_values])), (qt_state_open_values, .inl (cy.1, 210, .inl (ft_state_open)))] s.heap.size = A at hD hG ⊢
  have hA : ∀ q : Nat, s.heap.size ≤ q → A q := fun q h => by rw [← hAe]; exact Or.inr h
  have hS : va_S A s.heap s.heap [] := va_S.rf
  have hP : va_P (dC, dI) vwCl [(qt, .inr (1, [.ref qt_shape, .ref qt_state])), (qt_shape, .inr (5, [.ref qt_shape_owners, .int (it_shape_width), .int (it_shape_cellCount), .int (it_shape_roomCount), .int (it_shape_doorCount), .int (it_shape_lowest)])), (qt_shape_owners, .inr (4, [.ref qt_shape_owners_values])), (qt_shape_owners_values, .inl (cy.1, 210, .inl (ft_shape_owners))), (qt_state, .inr (6, [.ref xt_state_letters, .ref qt_state_open, .ref xt_state_signs, .int (it_state_size), .int (it_state_start), .int (it_state_goal)])), (qt_state_open, .inr (4, [.ref qt_state_open_values])), (qt_state_open_values, .inl (cy.1, 210, .inl (ft_state_open)))] s.heap := hP
  have hl := lv_entry ([.ref qt, .int va1, .int va2, .int va3]) (n := 7) (Nat.le_of_ble_eq_true rfl)
  rw [lg_entry_eq]
  generalize (lg_sl ([.ref qt, .int va1, .int va2, .int va3]) ++ List.replicate (7 - (lg_sl ([.ref qt, .int va1, .int va2, .int va3])).length) Slot.unset).toArray = ls at hl ⊢
  have hl : lv_has ls 7 [(0, .ref qt), (1, .int va1), (2, .int va2), (3, .int va3)] := hl
  refine kgen (fun Q hQ => ?_)
  have B6 : ∀ (n6 : Nat) (l4 : Int32) (l5 : Int32) (H : Heap) (locs : List Loc), va_P (dC, dI) vwCl [(qt, .inr (1, [.ref qt_shape, .ref qt_state])), (qt_shape, .inr (5, [.ref qt_shape_owners, .int (it_shape_width), .int (it_shape_cellCount), .int (it_shape_roomCount), .int (it_shape_doorCount), .int (it_shape_lowest)])), (qt_shape_owners, .inr (4, [.ref qt_shape_owners_values])), (qt_shape_owners_values, .inl (cy.1, 210, .inl (ft_shape_owners))), (qt_state, .inr (6, [.ref xt_state_letters, .ref qt_state_open, .ref xt_state_signs, .int (it_state_size), .int (it_state_start), .int (it_state_goal)])), (qt_state_open, .inr (4, [.ref qt_state_open_values])), (qt_state_open_values, .inl (cy.1, 210, .inl (ft_state_open)))] H → va_D A [(qt, .inr (1, [.ref qt_shape, .ref qt_state])), (qt_shape, .inr (5, [.ref qt_shape_owners, .int (it_shape_width), .int (it_shape_cellCount), .int (it_shape_roomCount), .int (it_shape_doorCount), .int (it_shape_lowest)])), (qt_shape_owners, .inr (4, [.ref qt_shape_owners_values])), (qt_shape_owners_values, .inl (cy.1, 210, .inl (ft_shape_owners))), (qt_state, .inr (6, [.ref xt_state_letters, .ref qt_state_open, .ref xt_state_signs, .int (it_state_size), .int (it_state_start), .int (it_state_goal)])), (qt_state_open, .inr (4, [.ref qt_state_open_values])), (qt_state_open_values, .inl (cy.1, 210, .inl (ft_state_open)))] → va_S A s.heap H locs → ∀ (ls : Array Slot), lv_has ls 7 [(0, .ref qt), (1, .int va1), (2, .int va2), (3, .int va3), (4, .int l4), (5, .int l5)] → b_X1_doorsBetween_6 N it_shape_width ft_shape_owners ft_state_open va1 va2 va3 n6 l4 l5 = some out → W p l e (headSpec wsX1_doorsBetween rm_X1_doorsBetween).room s m ([.ref qt, .int va1, .int va2, .int va3] : List Value).toArray below meth c H locs 0 0 Q (F0 m 6 ls []) := by
    intro n6
    induction n6 with
    | zero => intro l4 l5 H locs hP hD hS ls hl hf; rw [b_X1_doorsBetween_6] at hf; cases hf
    | succ n6 ih6 =>
      have B17 : ∀ (n17 : Nat) (l4 : Int32) (l5 : Int32) (l6 : Int32) (H : Heap) (locs : List Loc), va_P (dC, dI) vwCl [(qt, .inr (1, [.ref qt_shape, .ref qt_state])), (qt_shape, .inr (5, [.ref qt_shape_owners, .int (it_shape_width), .int (it_shape_cellCount), .int (it_shape_roomCount), .int (it_shape_doorCount), .int (it_shape_lowest)])), (qt_shape_owners, .inr (4, [.ref qt_shape_owners_values])), (qt_shape_owners_values, .inl (cy.1, 210, .inl (ft_shape_owners))), (qt_state, .inr (6, [.ref xt_state_letters, .ref qt_state_open, .ref xt_state_signs, .int (it_state_size), .int (it_state_start), .int (it_state_goal)])), (qt_state_open, .inr (4, [.ref qt_state_open_values])), (qt_state_open_values, .inl (cy.1, 210, .inl (ft_state_open)))] H → va_D A [(qt, .inr (1, [.ref qt_shape, .ref qt_state])), (qt_shape, .inr (5, [.ref qt_shape_owners, .int (it_shape_width), .int (it_shape_cellCount), .int (it_shape_roomCount), .int (it_shape_doorCount), .int (it_shape_lowest)])), (qt_shape_owners, .inr (4, [.ref qt_shape_owners_values])), (qt_shape_owners_values, .inl (cy.1, 210, .inl (ft_shape_owners))), (qt_state, .inr (6, [.ref xt_state_letters, .ref qt_state_open, .ref xt_state_signs, .int (it_state_size), .int (it_state_start), .int (it_state_goal)])), (qt_state_open, .inr (4, [.ref qt_state_open_values])), (qt_state_open_values, .inl (cy.1, 210, .inl (ft_state_open)))] → va_S A s.heap H locs → ∀ (ls : Array Slot), lv_has ls 7 [(0, .ref qt), (1, .int va1), (2, .int va2), (3, .int va3), (4, .int l4), (5, .int l5), (6, .int l6)] → b_X1_doorsBetween_17 N it_shape_width ft_shape_owners ft_state_open va1 va2 va3 (b_X1_doorsBetween_6 N it_shape_width ft_shape_owners ft_state_open va1 va2 va3 n6) n17 l4 l5 l6 = some out → W p l e (headSpec wsX1_doorsBetween rm_X1_doorsBetween).room s m ([.ref qt, .int va1, .int va2, .int va3] : List Value).toArray below meth c H locs 0 0 Q (F0 m 17 ls []) := by
        intro n17
        induction n17 with
        | zero => intro l4 l5 l6 H locs hP hD hS ls hl hf; rw [b_X1_doorsBetween_17] at hf; cases hf
        | succ n17 ih17 =>
          intro l4 l5 l6 H locs hP hD hS ls hl hf
          rw [b_X1_doorsBetween_17] at hf
          refine lv_iload hx hb dX1_doorsBetween_17 (lv_at hl 6 rfl) ?_
          refine lv_iconst (v := (2 : Int32)) hx hb dX1_doorsBetween_19 (by decide) ?_
          refine lv_icmp_gt (tgt := 88) hx hb dX1_doorsBetween_20 (by decide) (fun hc_20 => ?_) (fun hc_20 => ?_)
          · rw [if_pos hc_20] at hf
            refine lv_iinc (v := (l5 + (1 : Int32))) (lv' := [(5, .int (l5 + (1 : Int32))), (0, .ref qt), (1, .int va1), (2, .int va2), (3, .int va3), (4, .int l4), (6, .int l6)]) hx hb dX1_doorsBetween_88 hl (k := 5) rfl rfl (by decide) rfl (fun ls hl => ?_)
            refine lv_goto (tgt := 6) hx hb dX1_doorsBetween_91 (by decide) ?_
            exact ih6 (l4) ((l5 + (1 : Int32))) _ _ (hP.sub [0, 1, 2, 3, 4, 5, 6] rfl) (hD.sub [0, 1, 2, 3, 4, 5, 6] (by decide) rfl) hS _ (lv_sub hl [1, 2, 3, 4, 5, 0] rfl) hf
          · rw [if_neg hc_20] at hf
            refine lv_aload_n hx hb dX1_doorsBetween_23 rfl (lv_at hl 0 rfl) ?_
            refine va_get (D := (dC, dI)) (ci := 1) (C := RX1) (T := TX1) (N := 2) hx hb hts (fun _ h => (List.mem_cons_of_mem _ (List.mem_append_left _ (List.mem_append_left _ (List.mem_append_left _ (List.mem_append_right _ h)))))) hown hK hP 0 rfl rfl 0 (by decide) (hts _ (List.mem_cons_of_mem _ (List.mem_append_left _ (List.mem_append_left _ (List.mem_append_left _ (List.mem_append_left _ (List.mem_append_left _ (List.mem_of_getElem? (i := 0) rfl)))))))) (fun _ h => h) rfl dX1_doorsBetween_24 ?_
            refine va_get (D := (dC, dI)) (ci := 5) (C := RX5) (T := TX5) (N := 6) hx hb hts (fun _ h => (List.mem_cons_of_mem _ (List.mem_append_left _ (List.mem_append_left _ (List.mem_append_right _ h))))) hown hK hP 1 rfl rfl 0 (by decide) (hts _ (List.mem_cons_of_mem _ (List.mem_append_left _ (List.mem_append_left _ (List.mem_append_left _ (List.mem_append_left _ (List.mem_append_left _ (List.mem_of_getElem? (i := 1) rfl)))))))) (fun _ h => h) rfl dX1_doorsBetween_27 ?_
            refine lv_iload hx hb dX1_doorsBetween_30 (lv_at hl 5 rfl) ?_
            refine kcalli (wc := [(qt_shape_owners, .inr (4, [.ref qt_shape_owners_values])), (qt_shape_owners_values, .inl (cy.1, 210, .inl (ft_shape_owners)))]) (wr := [(qt, .inr (1, [.ref qt_shape, .ref qt_state])), (qt_shape, .inr (5, [.ref qt_shape_owners, .int (it_shape_width), .int (it_shape_cellCount), .int (it_shape_roomCount), .int (it_shape_doorCount), .int (it_shape_lowest)])), (qt_state, .inr (6, [.ref xt_state_letters, .ref qt_state_open, .ref xt_state_signs, .int (it_state_size), .int (it_state_start), .int (it_state_goal)])), (qt_state_open, .inr (4, [.ref qt_state_open_values])), (qt_state_open_values, .inl (cy.1, 210, .inl (ft_state_open)))]) (w1 := [(qt_shape_owners, .inr (4, [.ref qt_shape_owners_values])), (qt_shape_owners_values, .inl (cy.1, 210, .inl (ft_shape_owners)))]) hK hP hD hS hA hG [2, 3] [0, 1, 4, 5, 6] rfl rfl rfl rfl rfl (fun hU hPc => va_runV (As := [.int l5]) (rest := []) ⟨hx, hb, hml, hown, hts⟩ (c_X4_at l dC dI cy G H.size qt_shape_owners qt_shape_owners_values 210 (ft_shape_owners) (l5) (by decide) (t_X4_at 210 (ft_shape_owners) (l5)) (tot_X4_at 210 (ft_shape_owners) (l5))) (cwV 1 hts gX1_doorsBetween_X4_at rfl rfl rfl hdX4_at ⟨Nat.le_of_ble_eq_true rfl, Nat.le_of_ble_eq_true rfl⟩) ⟨kBlind, (va_recv hK hP (ci := 4) (q0 := 2) rfl rfl), fun U h1 h2 => ⟨rfl, hU U h1 h2⟩⟩ rfl rfl hl.1 rfl (lv_room (Nat.le_of_ble_eq_true rfl)) dX1_doorsBetween_32 ⟨Nat.zero_le _, Nat.zero_le _⟩) ((t_X4_at 210 (ft_shape_owners) (l5))) (fun _ _ h => h) (fun _ _ h => h) (fun H locs hP hD hS => ?_)
            have hP : va_P (dC, dI) vwCl [(qt, .inr (1, [.ref qt_shape, .ref qt_state])), (qt_shape, .inr (5, [.ref qt_shape_owners, .int (it_shape_width), .int (it_shape_cellCount), .int (it_shape_roomCount), .int (it_shape_doorCount), .int (it_shape_lowest)])), (qt_state, .inr (6, [.ref xt_state_letters, .ref qt_state_open, .ref xt_state_signs, .int (it_state_size), .int (it_state_start), .int (it_state_goal)])), (qt_state_open, .inr (4, [.ref qt_state_open_values])), (qt_state_open_values, .inl (cy.1, 210, .inl (ft_state_open))), (qt_shape_owners, .inr (4, [.ref qt_shape_owners_values])), (qt_shape_owners_values, .inl (cy.1, 210, .inl (ft_shape_owners)))] H := hP
            have hD : va_D A [(qt, .inr (1, [.ref qt_shape, .ref qt_state])), (qt_shape, .inr (5, [.ref qt_shape_owners, .int (it_shape_width), .int (it_shape_cellCount), .int (it_shape_roomCount), .int (it_shape_doorCount), .int (it_shape_lowest)])), (qt_state, .inr (6, [.ref xt_state_letters, .ref qt_state_open, .ref xt_state_signs, .int (it_state_size), .int (it_state_start), .int (it_state_goal)])), (qt_state_open, .inr (4, [.ref qt_state_open_values])), (qt_state_open_values, .inl (cy.1, 210, .inl (ft_state_open))), (qt_shape_owners, .inr (4, [.ref qt_shape_owners_values])), (qt_shape_owners_values, .inl (cy.1, 210, .inl (ft_shape_owners)))] := hD
            refine lv_iload_n hx hb dX1_doorsBetween_35 rfl (lv_at hl 1 rfl) ?_
            refine lv_icmp_ne (tgt := 82) hx hb dX1_doorsBetween_36 (by decide) (fun hc_36 => ?_) (fun hc_36 => ?_)
            · rw [if_neg hc_36] at hf
              refine lv_iinc (v := (l6 + (1 : Int32))) (lv' := [(6, .int (l6 + (1 : Int32))), (0, .ref qt), (1, .int va1), (2, .int va2), (3, .int va3), (4, .int l4), (5, .int l5)]) hx hb dX1_doorsBetween_82 hl (k := 6) rfl rfl (by decide) rfl (fun ls hl => ?_)
              refine lv_goto (tgt := 17) hx hb dX1_doorsBetween_85 (by decide) ?_
              exact ih17 (l4) (l5) ((l6 + (1 : Int32))) _ _ (hP.sub [0, 1, 5, 6, 2, 3, 4] rfl) (hD.sub [0, 1, 5, 6, 2, 3, 4] (by decide) rfl) hS _ (lv_sub hl [1, 2, 3, 4, 5, 6, 0] rfl) hf
            · rw [if_pos hc_36] at hf
              refine lv_aload_n hx hb dX1_doorsBetween_39 rfl (lv_at hl 0 rfl) ?_
              refine va_get (D := (dC, dI)) (ci := 1) (C := RX1) (T := TX1) (N := 2) hx hb hts (fun _ h => (List.mem_cons_of_mem _ (List.mem_append_left _ (List.mem_append_left _ (List.mem_append_left _ (List.mem_append_right _ h)))))) hown hK hP 0 rfl rfl 0 (by decide) (hts _ (List.mem_cons_of_mem _ (List.mem_append_left _ (List.mem_append_left _ (List.mem_append_left _ (List.mem_append_left _ (List.mem_append_left _ (List.mem_of_getElem? (i := 0) rfl)))))))) (fun _ h => h) rfl dX1_doorsBetween_40 ?_
              refine va_get (D := (dC, dI)) (ci := 5) (C := RX5) (T := TX5) (N := 6) hx hb hts (fun _ h => (List.mem_cons_of_mem _ (List.mem_append_left _ (List.mem_append_left _ (List.mem_append_right _ h))))) hown hK hP 1 rfl rfl 0 (by decide) (hts _ (List.mem_cons_of_mem _ (List.mem_append_left _ (List.mem_append_left _ (List.mem_append_left _ (List.mem_append_left _ (List.mem_append_left _ (List.mem_of_getElem? (i := 1) rfl)))))))) (fun _ h => h) rfl dX1_doorsBetween_43 ?_
              refine lv_aload_n hx hb dX1_doorsBetween_46 rfl (lv_at hl 0 rfl) ?_
              refine va_get (D := (dC, dI)) (ci := 1) (C := RX1) (T := TX1) (N := 2) hx hb hts (fun _ h => (List.mem_cons_of_mem _ (List.mem_append_left _ (List.mem_append_left _ (List.mem_append_left _ (List.mem_append_right _ h)))))) hown hK hP 0 rfl rfl 0 (by decide) (hts _ (List.mem_cons_of_mem _ (List.mem_append_left _ (List.mem_append_left _ (List.mem_append_left _ (List.mem_append_left _ (List.mem_append_left _ (List.mem_of_getElem? (i := 0) rfl)))))))) (fun _ h => h) rfl dX1_doorsBetween_47 ?_
              refine lv_iload hx hb dX1_doorsBetween_50 (lv_at hl 5 rfl) ?_
              refine lv_iload hx hb dX1_doorsBetween_52 (lv_at hl 6 rfl) ?_
              refine kcalli (wc := [(qt_shape, .inr (5, [.ref qt_shape_owners, .int (it_shape_width), .int (it_shape_cellCount), .int (it_shape_roomCount), .int (it_shape_doorCount), .int (it_shape_lowest)])), (qt_shape_owners, .inr (4, [.ref qt_shape_owners_values])), (qt_shape_owners_values, .inl (cy.1, 210, .inl (ft_shape_owners)))]) (wr := [(qt, .inr (1, [.ref qt_shape, .ref qt_state])), (qt_state, .inr (6, [.ref xt_state_letters, .ref qt_state_open, .ref xt_state_signs, .int (it_state_size), .int (it_state_start), .int (it_state_goal)])), (qt_state_open, .inr (4, [.ref qt_state_open_values])), (qt_state_open_values, .inl (cy.1, 210, .inl (ft_state_open)))]) (w1 := [(qt_shape, .inr (5, [.ref qt_shape_owners, .int (it_shape_width), .int (it_shape_cellCount), .int (it_shape_roomCount), .int (it_shape_doorCount), .int (it_shape_lowest)])), (qt_shape_owners, .inr (4, [.ref qt_shape_owners_values])), (qt_shape_owners_values, .inl (cy.1, 210, .inl (ft_shape_owners)))]) hK hP hD hS hA hG [1, 5, 6] [0, 2, 3, 4] rfl rfl rfl rfl rfl (fun hU hPc => va_runV (As := [.int l5, .int l6]) (rest := [.ref qt_shape_owners]) ⟨hx, hb, hml, hown, hts⟩ (c_X5_beside l dC dI cy G H.size qt_shape qt_shape_owners qt_shape_owners_values (it_shape_cellCount) (it_shape_roomCount) (it_shape_doorCount) (it_shape_lowest) (it_shape_width) (ft_shape_owners) (l5) (l6) (t_X5_beside (it_shape_width) (ft_shape_owners) (l5) (l6)) (tot_X5_beside (it_shape_width) (ft_shape_owners) (l5) (l6))) (cwV 2 hts gX1_doorsBetween_X5_beside rfl rfl rfl hdX5_beside ⟨Nat.le_of_ble_eq_true rfl, Nat.le_of_ble_eq_true rfl⟩) ⟨kBlind, (va_recv hK hP (ci := 5) (q0 := 1) rfl rfl), fun U h1 h2 => ⟨rfl, hU U h1 h2⟩⟩ rfl rfl hl.1 rfl (lv_room (Nat.le_of_ble_eq_true rfl)) dX1_doorsBetween_54 ⟨Nat.zero_le _, Nat.zero_le _⟩) ((t_X5_beside (it_shape_width) (ft_shape_owners) (l5) (l6))) (fun _ _ h => h) (fun _ _ h => h) (fun H locs hP hD hS => ?_)
              have hP : va_P (dC, dI) vwCl [(qt, .inr (1, [.ref qt_shape, .ref qt_state])), (qt_state, .inr (6, [.ref xt_state_letters, .ref qt_state_open, .ref xt_state_signs, .int (it_state_size), .int (it_state_start), .int (it_state_goal)])), (qt_state_open, .inr (4, [.ref qt_state_open_values])), (qt_state_open_values, .inl (cy.1, 210, .inl (ft_state_open))), (qt_shape, .inr (5, [.ref qt_shape_owners, .int (it_shape_width), .int (it_shape_cellCount), .int (it_shape_roomCount), .int (it_shape_doorCount), .int (it_shape_lowest)])), (qt_shape_owners, .inr (4, [.ref qt_shape_owners_values])), (qt_shape_owners_values, .inl (cy.1, 210, .inl (ft_shape_owners)))] H := hP
              have hD : va_D A [(qt, .inr (1, [.ref qt_shape, .ref qt_state])), (qt_state, .inr (6, [.ref xt_state_letters, .ref qt_state_open, .ref xt_state_signs, .int (it_state_size), .int (it_state_start), .int (it_state_goal)])), (qt_state_open, .inr (4, [.ref qt_state_open_values])), (qt_state_open_values, .inl (cy.1, 210, .inl (ft_state_open))), (qt_shape, .inr (5, [.ref qt_shape_owners, .int (it_shape_width), .int (it_shape_cellCount), .int (it_shape_roomCount), .int (it_shape_doorCount), .int (it_shape_lowest)])), (qt_shape_owners, .inr (4, [.ref qt_shape_owners_values])), (qt_shape_owners_values, .inl (cy.1, 210, .inl (ft_shape_owners)))] := hD
              refine kcalli (wc := [(qt_shape_owners, .inr (4, [.ref qt_shape_owners_values])), (qt_shape_owners_values, .inl (cy.1, 210, .inl (ft_shape_owners)))]) (wr := [(qt, .inr (1, [.ref qt_shape, .ref qt_state])), (qt_state, .inr (6, [.ref xt_state_letters, .ref qt_state_open, .ref xt_state_signs, .int (it_state_size), .int (it_state_start), .int (it_state_goal)])), (qt_state_open, .inr (4, [.ref qt_state_open_values])), (qt_state_open_values, .inl (cy.1, 210, .inl (ft_state_open))), (qt_shape, .inr (5, [.ref qt_shape_owners, .int (it_shape_width), .int (it_shape_cellCount), .int (it_shape_roomCount), .int (it_shape_doorCount), .int (it_shape_lowest)]))]) (w1 := [(qt_shape_owners, .inr (4, [.ref qt_shape_owners_values])), (qt_shape_owners_values, .inl (cy.1, 210, .inl (ft_shape_owners)))]) hK hP hD hS hA hG [5, 6] [0, 1, 2, 3, 4] rfl rfl rfl rfl rfl (fun hU hPc => va_runV (As := [.int (t_X5_beside (it_shape_width) (ft_shape_owners) (l5) (l6))]) (rest := []) ⟨hx, hb, hml, hown, hts⟩ (c_X4_at l dC dI cy G H.size qt_shape_owners qt_shape_owners_values 210 (ft_shape_owners) ((t_X5_beside (it_shape_width) (ft_shape_owners) (l5) (l6))) (by decide) (t_X4_at 210 (ft_shape_owners) ((t_X5_beside (it_shape_width) (ft_shape_owners) (l5) (l6)))) (tot_X4_at 210 (ft_shape_owners) ((t_X5_beside (it_shape_width) (ft_shape_owners) (l5) (l6))))) (cwV 1 hts gX1_doorsBetween_X4_at rfl rfl rfl hdX4_at ⟨Nat.le_of_ble_eq_true rfl, Nat.le_of_ble_eq_true rfl⟩) ⟨kBlind, (va_recv hK hP (ci := 4) (q0 := 5) rfl rfl), fun U h1 h2 => ⟨rfl, hU U h1 h2⟩⟩ rfl rfl hl.1 rfl (lv_room (Nat.le_of_ble_eq_true rfl)) dX1_doorsBetween_57 ⟨Nat.zero_le _, Nat.zero_le _⟩) ((t_X4_at 210 (ft_shape_owners) ((t_X5_beside (it_shape_width) (ft_shape_owners) (l5) (l6))))) (fun _ _ h => h) (fun _ _ h => h) (fun H locs hP hD hS => ?_)
              have hP : va_P (dC, dI) vwCl [(qt, .inr (1, [.ref qt_shape, .ref qt_state])), (qt_state, .inr (6, [.ref xt_state_letters, .ref qt_state_open, .ref xt_state_signs, .int (it_state_size), .int (it_state_start), .int (it_state_goal)])), (qt_state_open, .inr (4, [.ref qt_state_open_values])), (qt_state_open_values, .inl (cy.1, 210, .inl (ft_state_open))), (qt_shape, .inr (5, [.ref qt_shape_owners, .int (it_shape_width), .int (it_shape_cellCount), .int (it_shape_roomCount), .int (it_shape_doorCount), .int (it_shape_lowest)])), (qt_shape_owners, .inr (4, [.ref qt_shape_owners_values])), (qt_shape_owners_values, .inl (cy.1, 210, .inl (ft_shape_owners)))] H := hP
              have hD : va_D A [(qt, .inr (1, [.ref qt_shape, .ref qt_state])), (qt_state, .inr (6, [.ref xt_state_letters, .ref qt_state_open, .ref xt_state_signs, .int (it_state_size), .int (it_state_start), .int (it_state_goal)])), (qt_state_open, .inr (4, [.ref qt_state_open_values])), (qt_state_open_values, .inl (cy.1, 210, .inl (ft_state_open))), (qt_shape, .inr (5, [.ref qt_shape_owners, .int (it_shape_width), .int (it_shape_cellCount), .int (it_shape_roomCount), .int (it_shape_doorCount), .int (it_shape_lowest)])), (qt_shape_owners, .inr (4, [.ref qt_shape_owners_values])), (qt_shape_owners_values, .inl (cy.1, 210, .inl (ft_shape_owners)))] := hD
              refine lv_iload_n hx hb dX1_doorsBetween_60 rfl (lv_at hl 2 rfl) ?_
              refine lv_icmp_ne (tgt := 82) hx hb dX1_doorsBetween_61 (by decide) (fun hc_61 => ?_) (fun hc_61 => ?_)
              · rw [if_neg hc_61] at hf
                refine lv_iinc (v := (l6 + (1 : Int32))) (lv' := [(6, .int (l6 + (1 : Int32))), (0, .ref qt), (1, .int va1), (2, .int va2), (3, .int va3), (4, .int l4), (5, .int l5)]) hx hb dX1_doorsBetween_82 hl (k := 6) rfl rfl (by decide) rfl (fun ls hl => ?_)
                refine lv_goto (tgt := 17) hx hb dX1_doorsBetween_85 (by decide) ?_
                exact ih17 (l4) (l5) ((l6 + (1 : Int32))) _ _ (hP.sub [0, 4, 5, 6, 1, 2, 3] rfl) (hD.sub [0, 4, 5, 6, 1, 2, 3] (by decide) rfl) hS _ (lv_sub hl [1, 2, 3, 4, 5, 6, 0] rfl) hf
              · rw [if_pos hc_61] at hf
                refine lv_iload_n hx hb dX1_doorsBetween_64 rfl (lv_at hl 3 rfl) ?_
                refine lv_if_eq (tgt := 79) hx hb dX1_doorsBetween_65 (by decide) (fun hc_65 => ?_) (fun hc_65 => ?_)
                · rw [if_pos hc_65] at hf
                  refine lv_iinc (v := (l4 + (1 : Int32))) (lv' := [(4, .int (l4 + (1 : Int32))), (0, .ref qt), (1, .int va1), (2, .int va2), (3, .int va3), (5, .int l5), (6, .int l6)]) hx hb dX1_doorsBetween_79 hl (k := 4) rfl rfl (by decide) rfl (fun ls hl => ?_)
                  refine lv_iinc (v := (l6 + (1 : Int32))) (lv' := [(6, .int (l6 + (1 : Int32))), (4, .int (l4 + (1 : Int32))), (0, .ref qt), (1, .int va1), (2, .int va2), (3, .int va3), (5, .int l5)]) hx hb dX1_doorsBetween_82 hl (k := 6) rfl rfl (by decide) rfl (fun ls hl => ?_)
                  refine lv_goto (tgt := 17) hx hb dX1_doorsBetween_85 (by decide) ?_
                  exact ih17 ((l4 + (1 : Int32))) (l5) ((l6 + (1 : Int32))) _ _ (hP.sub [0, 4, 5, 6, 1, 2, 3] rfl) (hD.sub [0, 4, 5, 6, 1, 2, 3] (by decide) rfl) hS _ (lv_sub hl [2, 3, 4, 5, 1, 6, 0] rfl) hf
                · rw [if_neg hc_65] at hf
                  refine lv_aload_n hx hb dX1_doorsBetween_68 rfl (lv_at hl 0 rfl) ?_
                  refine lv_iload hx hb dX1_doorsBetween_69 (lv_at hl 5 rfl) ?_
                  refine lv_iload hx hb dX1_doorsBetween_71 (lv_at hl 6 rfl) ?_
                  refine kcalli (wc := [(qt, .inr (1, [.ref qt_shape, .ref qt_state])), (qt_state, .inr (6, [.ref xt_state_letters, .ref qt_state_open, .ref xt_state_signs, .int (it_state_size), .int (it_state_start), .int (it_state_goal)])), (qt_state_open, .inr (4, [.ref qt_state_open_values])), (qt_state_open_values, .inl (cy.1, 210, .inl (ft_state_open)))]) (wr := [(qt_shape, .inr (5, [.ref qt_shape_owners, .int (it_shape_width), .int (it_shape_cellCount), .int (it_shape_roomCount), .int (it_shape_doorCount), .int (it_shape_lowest)])), (qt_shape_owners, .inr (4, [.ref qt_shape_owners_values])), (qt_shape_owners_values, .inl (cy.1, 210, .inl (ft_shape_owners)))]) (w1 := [(qt, .inr (1, [.ref qt_shape, .ref qt_state])), (qt_state, .inr (6, [.ref xt_state_letters, .ref qt_state_open, .ref xt_state_signs, .int (it_state_size), .int (it_state_start), .int (it_state_goal)])), (qt_state_open, .inr (4, [.ref qt_state_open_values])), (qt_state_open_values, .inl (cy.1, 210, .inl (ft_state_open)))]) hK hP hD hS hA hG [0, 1, 2, 3] [4, 5, 6] rfl rfl rfl rfl rfl (fun hU hPc => va_runV (As := [.int l5, .int l6]) (rest := []) ⟨hx, hb, hml, hown, hts⟩ (c_X1_isOpen l dC dI cy G H.size qt qt_state qt_state_open qt_state_open_values qt_shape xt_state_letters xt_state_signs (it_state_size) (it_state_start) (it_state_goal) (ft_state_open) (l5) (l6) (t_X1_isOpen (ft_state_open) (l5) (l6)) (tot_X1_isOpen (ft_state_open) (l5) (l6))) (cwV 2 hts gX1_doorsBetween_X1_isOpen rfl rfl rfl hdX1_isOpen ⟨Nat.le_of_ble_eq_true rfl, Nat.le_of_ble_eq_true rfl⟩) ⟨kBlind, (va_recv hK hP (ci := 1) (q0 := 0) rfl rfl), fun U h1 h2 => ⟨rfl, hU U h1 h2⟩⟩ rfl rfl hl.1 rfl (lv_room (Nat.le_of_ble_eq_true rfl)) dX1_doorsBetween_73 ⟨Nat.zero_le _, Nat.zero_le _⟩) ((t_X1_isOpen (ft_state_open) (l5) (l6))) (fun _ _ h => h) (fun _ _ h => h) (fun H locs hP hD hS => ?_)
                  have hP : va_P (dC, dI) vwCl [(qt_shape, .inr (5, [.ref qt_shape_owners, .int (it_shape_width), .int (it_shape_cellCount), .int (it_shape_roomCount), .int (it_shape_doorCount), .int (it_shape_lowest)])), (qt_shape_owners, .inr (4, [.ref qt_shape_owners_values])), (qt_shape_owners_values, .inl (cy.1, 210, .inl (ft_shape_owners))), (qt, .inr (1, [.ref qt_shape, .ref qt_state])), (qt_state, .inr (6, [.ref xt_state_letters, .ref qt_state_open, .ref xt_state_signs, .int (it_state_size), .int (it_state_start), .int (it_state_goal)])), (qt_state_open, .inr (4, [.ref qt_state_open_values])), (qt_state_open_values, .inl (cy.1, 210, .inl (ft_state_open)))] H := hP
                  have hD : va_D A [(qt_shape, .inr (5, [.ref qt_shape_owners, .int (it_shape_width), .int (it_shape_cellCount), .int (it_shape_roomCount), .int (it_shape_doorCount), .int (it_shape_lowest)])), (qt_shape_owners, .inr (4, [.ref qt_shape_owners_values])), (qt_shape_owners_values, .inl (cy.1, 210, .inl (ft_shape_owners))), (qt, .inr (1, [.ref qt_shape, .ref qt_state])), (qt_state, .inr (6, [.ref xt_state_letters, .ref qt_state_open, .ref xt_state_signs, .int (it_state_size), .int (it_state_start), .int (it_state_goal)])), (qt_state_open, .inr (4, [.ref qt_state_open_values])), (qt_state_open_values, .inl (cy.1, 210, .inl (ft_state_open)))] := hD
                  refine lv_if_eq (tgt := 82) hx hb dX1_doorsBetween_76 (by decide) (fun hc_76 => ?_) (fun hc_76 => ?_)
                  · rw [if_pos hc_76] at hf
                    refine lv_iinc (v := (l6 + (1 : Int32))) (lv' := [(6, .int (l6 + (1 : Int32))), (0, .ref qt), (1, .int va1), (2, .int va2), (3, .int va3), (4, .int l4), (5, .int l5)]) hx hb dX1_doorsBetween_82 hl (k := 6) rfl rfl (by decide) rfl (fun ls hl => ?_)
                    refine lv_goto (tgt := 17) hx hb dX1_doorsBetween_85 (by decide) ?_
                    exact ih17 (l4) (l5) ((l6 + (1 : Int32))) _ _ (hP.sub [3, 0, 1, 2, 4, 5, 6] rfl) (hD.sub [3, 0, 1, 2, 4, 5, 6] (by decide) rfl) hS _ (lv_sub hl [1, 2, 3, 4, 5, 6, 0] rfl) hf
                  · rw [if_neg hc_76] at hf
                    refine lv_iinc (v := (l4 + (1 : Int32))) (lv' := [(4, .int (l4 + (1 : Int32))), (0, .ref qt), (1, .int va1), (2, .int va2), (3, .int va3), (5, .int l5), (6, .int l6)]) hx hb dX1_doorsBetween_79 hl (k := 4) rfl rfl (by decide) rfl (fun ls hl => ?_)
                    refine lv_iinc (v := (l6 + (1 : Int32))) (lv' := [(6, .int (l6 + (1 : Int32))), (4, .int (l4 + (1 : Int32))), (0, .ref qt), (1, .int va1), (2, .int va2), (3, .int va3), (5, .int l5)]) hx hb dX1_doorsBetween_82 hl (k := 6) rfl rfl (by decide) rfl (fun ls hl => ?_)
                    refine lv_goto (tgt := 17) hx hb dX1_doorsBetween_85 (by decide) ?_
                    exact ih17 ((l4 + (1 : Int32))) (l5) ((l6 + (1 : Int32))) _ _ (hP.sub [3, 0, 1, 2, 4, 5, 6] rfl) (hD.sub [3, 0, 1, 2, 4, 5, 6] (by decide) rfl) hS _ (lv_sub hl [2, 3, 4, 5, 1, 6, 0] rfl) hf
      intro l4 l5 H locs hP hD hS ls hl hf
      rw [b_X1_doorsBetween_6] at hf
      refine lv_iload hx hb dX1_doorsBetween_6 (lv_at hl 5 rfl) ?_
      refine lv_sipush (v := (210 : Int32)) hx hb dX1_doorsBetween_8 (by decide) ?_
      refine lv_icmp_ge (tgt := 94) hx hb dX1_doorsBetween_11 (by decide) (fun hc_11 => ?_) (fun hc_11 => ?_)
      · rw [if_pos hc_11] at hf
        refine lv_iload hx hb dX1_doorsBetween_94 (lv_at hl 4 rfl) ?_
        cases hf
        subst hQ
        exact kiret hx hb hr hlocks hK (hP.sub [0, 1, 2, 3, 4, 5, 6] rfl) (hD.sub [0, 1, 2, 3, 4, 5, 6] (by decide) rfl) hS rfl dX1_doorsBetween_96
      · rw [if_neg hc_11] at hf
        refine lv_iconst (v := (1 : Int32)) hx hb dX1_doorsBetween_14 (by decide) ?_
        refine lv_istore (lv' := [(6, .int (1 : Int32)), (0, .ref qt), (1, .int va1), (2, .int va2), (3, .int va3), (4, .int l4), (5, .int l5)]) hx hb dX1_doorsBetween_15 hl (by decide) rfl (fun ls hl => ?_)
        exact B17 N (l4) (l5) ((1 : Int32)) _ _ (hP.sub [0, 1, 2, 3, 4, 5, 6] rfl) (hD.sub [0, 1, 2, 3, 4, 5, 6] (by decide) rfl) hS _ (lv_sub hl [1, 2, 3, 4, 5, 6, 0] rfl) hf
  rw [f_X1_doorsBetween] at hf
  refine lv_iconst (v := (0 : Int32)) hx hb dX1_doorsBetween_0 (by decide) ?_
  refine lv_istore (lv' := [(4, .int (0 : Int32)), (0, .ref qt), (1, .int va1), (2, .int va2), (3, .int va3)]) hx hb dX1_doorsBetween_1 hl (by decide) rfl (fun ls hl => ?_)
  refine lv_iconst (v := (0 : Int32)) hx hb dX1_doorsBetween_3 (by decide) ?_
  refine lv_istore (lv' := [(5, .int (0 : Int32)), (4, .int (0 : Int32)), (0, .ref qt), (1, .int va1), (2, .int va2), (3, .int va3)]) hx hb dX1_doorsBetween_4 hl (by decide) rfl (fun ls hl => ?_)
  exact B6 N ((0 : Int32)) ((0 : Int32)) _ _ (hP.sub [0, 1, 2, 3, 4, 5, 6] rfl) (hD.sub [0, 1, 2, 3, 4, 5, 6] (by decide) rfl) hS _ (lv_sub hl [2, 3, 4, 5, 1, 0] rfl) hf
theorem hdX1_doorsBetween : yX1_doorsBetween.cls = RX1 ∧ yX1_doorsBetween.cls ≠ "java/lang/invoke/MethodHandle" ∧ yX1_doorsBetween.cls ≠ "java/lang/invoke/VarHandle" ∧ (parseMethodDescriptor yX1_doorsBetween.desc).map (fun d => d.parameters.length) = some 3 := by decide +kernel
noncomputable def b_X1_roomsWithDoors_5 (N : Nat) (ft_state_open : Nat → Int32) (va1 : Int32) (va2 : Int32) : Nat → Int32 → Int32 → Option (Int32)
  | 0, _, _ => none
  | n + 1, l3, l4 =>
    if (210 : Int32) ≤ l4 then
      some (l3)
    else
      if (t_X1_openDoors (ft_state_open) (l4)) < va1 then
        b_X1_roomsWithDoors_5 N ft_state_open va1 va2 n (l3) ((l4 + (1 : Int32)))
      else
        if va2 < (t_X1_openDoors (ft_state_open) (l4)) then
          b_X1_roomsWithDoors_5 N ft_state_open va1 va2 n (l3) ((l4 + (1 : Int32)))
        else
          b_X1_roomsWithDoors_5 N ft_state_open va1 va2 n ((l3 + (1 : Int32))) ((l4 + (1 : Int32)))
noncomputable def f_X1_roomsWithDoors (N : Nat) (ft_state_open : Nat → Int32) (va1 : Int32) (va2 : Int32) : Option (Int32) :=
  b_X1_roomsWithDoors_5 N ft_state_open va1 va2 N ((0 : Int32)) ((0 : Int32))
abbrev rm_X1_roomsWithDoors : Room := { frames := 2, cells := 0, slots := 0, locals := 42 }
set_option maxHeartbeats 4000000 in
set_option maxRecDepth 100000 in
theorem c_X1_roomsWithDoors (l : Launch) (dC : Nat → ClassId) (dI : Nat → Nat → Nat) (cy : gC) (G : gT) (sz : Nat) (qt : Nat) (qt_state : Nat) (qt_state_open : Nat) (qt_state_open_values : Nat) (xt_shape : Nat) (xt_state_letters : Nat) (xt_state_signs : Nat) (it_state_size : Int32) (it_state_start : Int32) (it_state_goal : Int32) (N : Nat) (ft_state_open : Nat → Int32) (va1 : Int32) (va2 : Int32) (out : Int32) (hf : f_X1_roomsWithDoors N ft_state_open va1 va2 = some out) : Met l yX1_roomsWithDoors wsX1_roomsWithDoors rm_X1_roomsWithDoors (va_Pc [.ref qt, .int va1, .int va2] (kP (dC, dI) cy G [(qt, .inr (1, [.ref xt_shape, .ref qt_state])), (qt_state, .inr (6, [.ref xt_state_letters, .ref qt_state_open, .ref xt_state_signs, .int (it_state_size), .int (it_state_start), .int (it_state_goal)])), (qt_state_open, .inr (4, [.ref qt_state_open_values])), (qt_state_open_values, .inl (cy.1, 210, .inl (ft_state_open)))] sz)) (va_Qi (fun r (_ : Unit) => r = out) (fun _ => kQ (dC, dI) cy [(qt, .inr (1, [.ref xt_shape, .ref qt_state])), (qt_state, .inr (6, [.ref xt_state_letters, .ref qt_state_open, .ref xt_state_signs, .int (it_state_size), .int (it_state_start), .int (it_state_goal)])), (qt_state_open, .inr (4, [.ref qt_state_open_values])), (qt_state_open_values, .inl (cy.1, 210, .inl (ft_state_open)))] (va_A [(qt, .inr (1, [.ref xt_shape, .ref qt_state])), (qt_state, .inr (6, [.ref xt_state_letters, .ref qt_state_open, .ref xt_state_signs, .int (it_state_size), .int (it_state_start), .int (it_state_goal)])), (qt_state_open, .inr (4, [.ref qt_state_open_values])), (qt_state_open_values, .inl (cy.1, 210, .inl (ft_state_open)))] sz)) (va_A [(qt, .inr (1, [.ref xt_shape, .ref qt_state])), (qt_state, .inr (6, [.ref xt_state_letters, .ref qt_state_open, .ref xt_state_signs, .int (it_state_size), .int (it_state_start), .int (it_state_goal)])), (qt_state_open, .inr (4, [.ref qt_state_open_values])), (qt_state_open_values, .inl (cy.1, 210, .inl (ft_state_open)))] sz)) 0 0 (va_A [(qt, .inr (1, [.ref xt_shape, .ref qt_state])), (qt_state, .inr (6, [.ref xt_state_letters, .ref qt_state_open, .ref xt_state_signs, .int (it_state_size), .int (it_state_start), .int (it_state_goal)])), (qt_state_open, .inr (4, [.ref qt_state_open_values])), (qt_state_open_values, .inl (cy.1, 210, .inl (ft_state_open)))] sz) := by
  refine Met.ofW (cc := cX1_roomsWithDoors) (maxL := 6) (ret := (some .int)) (by decide) rfl ?_
  intro p e s m args below meth c s₁ B hml hv
  obtain ⟨rfl, hsz, hP, hK, hD0, hG⟩ := hv
  have hx := B.exec
  have hb := B.bytes
  have hr := B.returns
  have hts := atoms_spec (ws := wsX1_roomsWithDoors) B.pre
  have hown : s.vm.findClass RX1 = some m.cls := findClass_of_methodNamed B.named
  have hlocks := B.notSynchronized
  subst hsz
  have hD := hD0.self (sz := s.heap.size)
  generalize hAe : va_A [(qt, .inr (1, [.ref xt_shape, .ref qt_state])), (qt_state, .inr (6, [.ref xt_state_letters, .ref qt_state_open, .ref xt_state_signs, .int (it_state_size), .int (it_state_start), .int (it_state_goal)])), (qt_state_open, .inr (4, [.ref qt_state_open_values])), (qt_state_open_values, .inl (cy.1, 210, .inl (ft_state_open)))] s.heap.size = A at hD hG ⊢
  have hA : ∀ q : Nat, s.heap.size ≤ q → A q := fun q h => by rw [← hAe]; exact Or.inr h
  have hS : va_S A s.heap s.heap [] := va_S.rf
  have hP : va_P (dC, dI) vwCl [(qt, .inr (1, [.ref xt_shape, .ref qt_state])), (qt_state, .inr (6, [.ref xt_state_letters, .ref qt_state_open, .ref xt_state_signs, .int (it_state_size), .int (it_state_start), .int (it_state_goal)])), (qt_state_open, .inr (4, [.ref qt_state_open_values])), (qt_state_open_values, .inl (cy.1, 210, .inl (ft_state_open)))] s.heap := hP
  have hl := lv_entry ([.ref qt, .int va1, .int va2]) (n := 6) (Nat.le_of_ble_eq_true rfl)
  rw [lg_entry_eq]
  generalize (lg_sl ([.ref qt, .int va1, .int va2]) ++ List.replicate (6 - (lg_sl ([.ref qt, .int va1, .int va2])).length) Slot.unset).toArray = ls at hl ⊢
  have hl : lv_has ls 6 [(0, .ref qt), (1, .int va1), (2, .int va2)] := hl
  refine kgen (fun Q hQ => ?_)
  have B5 : ∀ (n5 : Nat) (l3 : Int32) (l4 : Int32) (H : Heap) (locs : List Loc), va_P (dC, dI) vwCl [(qt, .inr (1, [.ref xt_shape, .ref qt_state])), (qt_state, .inr (6, [.ref xt_state_letters, .ref qt_state_open, .ref xt_state_signs, .int (it_state_size), .int (it_state_start), .int (it_state_goal)])), (qt_state_open, .inr (4, [.ref qt_state_open_values])), (qt_state_open_values, .inl (cy.1, 210, .inl (ft_state_open)))] H → va_D A [(qt, .inr (1, [.ref xt_shape, .ref qt_state])), (qt_state, .inr (6, [.ref xt_state_letters, .ref qt_state_open, .ref xt_state_signs, .int (it_state_size), .int (it_state_start), .int (it_state_goal)])), (qt_state_open, .inr (4, [.ref qt_state_open_values])), (qt_state_open_values, .inl (cy.1, 210, .inl (ft_state_open)))] → va_S A s.heap H locs → ∀ (ls : Array Slot), lv_has ls 6 [(0, .ref qt), (1, .int va1), (2, .int va2), (3, .int l3), (4, .int l4)] → b_X1_roomsWithDoors_5 N ft_state_open va1 va2 n5 l3 l4 = some out → W p l e (headSpec wsX1_roomsWithDoors rm_X1_roomsWithDoors).room s m ([.ref qt, .int va1, .int va2] : List Value).toArray below meth c H locs 0 0 Q (F0 m 5 ls []) := by
    intro n5
    induction n5 with
    | zero => intro l3 l4 H locs hP hD hS ls hl hf; rw [b_X1_roomsWithDoors_5] at hf; cases hf
    | succ n5 ih5 =>
      intro l3 l4 H locs hP hD hS ls hl hf
      rw [b_X1_roomsWithDoors_5] at hf
      refine lv_iload hx hb dX1_roomsWithDoors_5 (lv_at hl 4 rfl) ?_
      refine lv_sipush (v := (210 : Int32)) hx hb dX1_roomsWithDoors_7 (by decide) ?_
      refine lv_icmp_ge (tgt := 42) hx hb dX1_roomsWithDoors_10 (by decide) (fun hc_10 => ?_) (fun hc_10 => ?_)
      · rw [if_pos hc_10] at hf
        refine lv_iload_n hx hb dX1_roomsWithDoors_42 rfl (lv_at hl 3 rfl) ?_
        cases hf
        subst hQ
        exact kiret hx hb hr hlocks hK (hP.sub [0, 1, 2, 3] rfl) (hD.sub [0, 1, 2, 3] (by decide) rfl) hS rfl dX1_roomsWithDoors_43
      · rw [if_neg hc_10] at hf
        refine lv_aload_n hx hb dX1_roomsWithDoors_13 rfl (lv_at hl 0 rfl) ?_
        refine lv_iload hx hb dX1_roomsWithDoors_14 (lv_at hl 4 rfl) ?_
        refine kcalli (wc := [(qt, .inr (1, [.ref xt_shape, .ref qt_state])), (qt_state, .inr (6, [.ref xt_state_letters, .ref qt_state_open, .ref xt_state_signs, .int (it_state_size), .int (it_state_start), .int (it_state_goal)])), (qt_state_open, .inr (4, [.ref qt_state_open_values])), (qt_state_open_values, .inl (cy.1, 210, .inl (ft_state_open)))]) (wr := []) (w1 := [(qt, .inr (1, [.ref xt_shape, .ref qt_state])), (qt_state, .inr (6, [.ref xt_state_letters, .ref qt_state_open, .ref xt_state_signs, .int (it_state_size), .int (it_state_start), .int (it_state_goal)])), (qt_state_open, .inr (4, [.ref qt_state_open_values])), (qt_state_open_values, .inl (cy.1, 210, .inl (ft_state_open)))]) hK hP hD hS hA hG [0, 1, 2, 3] [] rfl rfl rfl rfl rfl (fun hU hPc => va_runV (As := [.int l4]) (rest := []) ⟨hx, hb, hml, hown, hts⟩ (c_X1_openDoors l dC dI cy G H.size qt qt_state qt_state_open qt_state_open_values xt_shape xt_state_letters xt_state_signs (it_state_size) (it_state_start) (it_state_goal) (ft_state_open) (l4) (t_X1_openDoors (ft_state_open) (l4)) (tot_X1_openDoors (ft_state_open) (l4))) (cwV 1 hts gX1_roomsWithDoors_X1_openDoors rfl rfl rfl hdX1_openDoors ⟨Nat.le_of_ble_eq_true rfl, Nat.le_of_ble_eq_true rfl⟩) ⟨kBlind, (va_recv hK hP (ci := 1) (q0 := 0) rfl rfl), fun U h1 h2 => ⟨rfl, hU U h1 h2⟩⟩ rfl rfl hl.1 rfl (lv_room (Nat.le_of_ble_eq_true rfl)) dX1_roomsWithDoors_16 ⟨Nat.zero_le _, Nat.zero_le _⟩) ((t_X1_openDoors (ft_state_open) (l4))) (fun _ _ h => h) (fun _ _ h => h) (fun H locs hP hD hS => ?_)
        have hP : va_P (dC, dI) vwCl [(qt, .inr (1, [.ref xt_shape, .ref qt_state])), (qt_state, .inr (6, [.ref xt_state_letters, .ref qt_state_open, .ref xt_state_signs, .int (it_state_size), .int (it_state_start), .int (it_state_goal)])), (qt_state_open, .inr (4, [.ref qt_state_open_values])), (qt_state_open_values, .inl (cy.1, 210, .inl (ft_state_open)))] H := hP
        have hD : va_D A [(qt, .inr (1, [.ref xt_shape, .ref qt_state])), (qt_state, .inr (6, [.ref xt_state_letters, .ref qt_state_open, .ref xt_state_signs, .int (it_state_size), .int (it_state_start), .int (it_state_goal)])), (qt_state_open, .inr (4, [.ref qt_state_open_values])), (qt_state_open_values, .inl (cy.1, 210, .inl (ft_state_open)))] := hD
        refine lv_istore (lv' := [(5, .int (t_X1_openDoors (ft_state_open) (l4))), (0, .ref qt), (1, .int va1), (2, .int va2), (3, .int l3), (4, .int l4)]) hx hb dX1_roomsWithDoors_19 hl (by decide) rfl (fun ls hl => ?_)
        refine lv_iload hx hb dX1_roomsWithDoors_21 (lv_at hl 0 rfl) ?_
        refine lv_iload_n hx hb dX1_roomsWithDoors_23 rfl (lv_at hl 2 rfl) ?_
        refine lv_icmp_lt (tgt := 36) hx hb dX1_roomsWithDoors_24 (by decide) (fun hc_24 => ?_) (fun hc_24 => ?_)
        · rw [if_pos hc_24] at hf
          refine lv_iinc (v := (l4 + (1 : Int32))) (lv' := [(4, .int (l4 + (1 : Int32))), (5, .int (t_X1_openDoors (ft_state_open) (l4))), (0, .ref qt), (1, .int va1), (2, .int va2), (3, .int l3)]) hx hb dX1_roomsWithDoors_36 hl (k := 5) rfl rfl (by decide) rfl (fun ls hl => ?_)
          refine lv_goto (tgt := 5) hx hb dX1_roomsWithDoors_39 (by decide) ?_
          exact ih5 (l3) ((l4 + (1 : Int32))) _ _ (hP.sub [0, 1, 2, 3] rfl) (hD.sub [0, 1, 2, 3] (by decide) rfl) hS _ (lv_sub hl [2, 3, 4, 5, 0] rfl) hf
        · rw [if_neg hc_24] at hf
          refine lv_iload hx hb dX1_roomsWithDoors_27 (lv_at hl 0 rfl) ?_
          refine lv_iload_n hx hb dX1_roomsWithDoors_29 rfl (lv_at hl 3 rfl) ?_
          refine lv_icmp_gt (tgt := 36) hx hb dX1_roomsWithDoors_30 (by decide) (fun hc_30 => ?_) (fun hc_30 => ?_)
          · rw [if_pos hc_30] at hf
            refine lv_iinc (v := (l4 + (1 : Int32))) (lv' := [(4, .int (l4 + (1 : Int32))), (5, .int (t_X1_openDoors (ft_state_open) (l4))), (0, .ref qt), (1, .int va1), (2, .int va2), (3, .int l3)]) hx hb dX1_roomsWithDoors_36 hl (k := 5) rfl rfl (by decide) rfl (fun ls hl => ?_)
            refine lv_goto (tgt := 5) hx hb dX1_roomsWithDoors_39 (by decide) ?_
            exact ih5 (l3) ((l4 + (1 : Int32))) _ _ (hP.sub [0, 1, 2, 3] rfl) (hD.sub [0, 1, 2, 3] (by decide) rfl) hS _ (lv_sub hl [2, 3, 4, 5, 0] rfl) hf
          · rw [if_neg hc_30] at hf
            refine lv_iinc (v := (l3 + (1 : Int32))) (lv' := [(3, .int (l3 + (1 : Int32))), (5, .int (t_X1_openDoors (ft_state_open) (l4))), (0, .ref qt), (1, .int va1), (2, .int va2), (4, .int l4)]) hx hb dX1_roomsWithDoors_33 hl (k := 4) rfl rfl (by decide) rfl (fun ls hl => ?_)
            refine lv_iinc (v := (l4 + (1 : Int32))) (lv' := [(4, .int (l4 + (1 : Int32))), (3, .int (l3 + (1 : Int32))), (5, .int (t_X1_openDoors (ft_state_open) (l4))), (0, .ref qt), (1, .int va1), (2, .int va2)]) hx hb dX1_roomsWithDoors_36 hl (k := 5) rfl rfl (by decide) rfl (fun ls hl => ?_)
            refine lv_goto (tgt := 5) hx hb dX1_roomsWithDoors_39 (by decide) ?_
            exact ih5 ((l3 + (1 : Int32))) ((l4 + (1 : Int32))) _ _ (hP.sub [0, 1, 2, 3] rfl) (hD.sub [0, 1, 2, 3] (by decide) rfl) hS _ (lv_sub hl [3, 4, 5, 1, 0] rfl) hf
  rw [f_X1_roomsWithDoors] at hf
  refine lv_iconst (v := (0 : Int32)) hx hb dX1_roomsWithDoors_0 (by decide) ?_
  refine lv_istore_n (lv' := [(3, .int (0 : Int32)), (0, .ref qt), (1, .int va1), (2, .int va2)]) hx hb dX1_roomsWithDoors_1 rfl hl (by decide) rfl (fun ls hl => ?_)
  refine lv_iconst (v := (0 : Int32)) hx hb dX1_roomsWithDoors_2 (by decide) ?_
  refine lv_istore (lv' := [(4, .int (0 : Int32)), (3, .int (0 : Int32)), (0, .ref qt), (1, .int va1), (2, .int va2)]) hx hb dX1_roomsWithDoors_3 hl (by decide) rfl (fun ls hl => ?_)
  exact B5 N ((0 : Int32)) ((0 : Int32)) _ _ (hP.sub [0, 1, 2, 3] rfl) (hD.sub [0, 1, 2, 3] (by decide) rfl) hS _ (lv_sub hl [2, 3, 4, 1, 0] rfl) hf
theorem hdX1_roomsWithDoors : yX1_roomsWithDoors.cls = RX1 ∧ yX1_roomsWithDoors.cls ≠ "java/lang/invoke/MethodHandle" ∧ yX1_roomsWithDoors.cls ≠ "java/lang/invoke/VarHandle" ∧ (parseMethodDescriptor yX1_roomsWithDoors.desc).map (fun d => d.parameters.length) = some 2 := by decide +kernel
noncomputable def f_X1_hasSign (ft_state_signs : Nat → Int32) (va1 : Int32) : Option (Int32) :=
  if (t_X4_at 210 (ft_state_signs) (va1)) = 0 then
    some ((0 : Int32))
  else
    some ((1 : Int32))
abbrev rm_X1_hasSign : Room := { frames := 1, cells := 0, slots := 0, locals := 21 }
set_option maxHeartbeats 4000000 in
set_option maxRecDepth 100000 in
theorem c_X1_hasSign (l : Launch) (dC : Nat → ClassId) (dI : Nat → Nat → Nat) (cy : gC) (G : gT) (sz : Nat) (qt : Nat) (qt_state : Nat) (qt_state_signs : Nat) (qt_state_signs_values : Nat) (xt_shape : Nat) (xt_state_letters : Nat) (xt_state_open : Nat) (it_state_size : Int32) (it_state_start : Int32) (it_state_goal : Int32) (ft_state_signs : Nat → Int32) (va1 : Int32) (out : Int32) (hf : f_X1_hasSign ft_state_signs va1 = some out) : Met l yX1_hasSign wsX1_hasSign rm_X1_hasSign (va_Pc [.ref qt, .int va1] (kP (dC, dI) cy G [(qt, .inr (1, [.ref xt_shape, .ref qt_state])), (qt_state, .inr (6, [.ref xt_state_letters, .ref xt_state_open, .ref qt_state_signs, .int (it_state_size), .int (it_state_start), .int (it_state_goal)])), (qt_state_signs, .inr (4, [.ref qt_state_signs_values])), (qt_state_signs_values, .inl (cy.1, 210, .inl (ft_state_signs)))] sz)) (va_Qi (fun r (_ : Unit) => r = out) (fun _ => kQ (dC, dI) cy [(qt, .inr (1, [.ref xt_shape, .ref qt_state])), (qt_state, .inr (6, [.ref xt_state_letters, .ref xt_state_open, .ref qt_state_signs, .int (it_state_size), .int (it_state_start), .int (it_state_goal)])), (qt_state_signs, .inr (4, [.ref qt_state_signs_values])), (qt_state_signs_values, .inl (cy.1, 210, .inl (ft_state_signs)))] (va_A [(qt, .inr (1, [.ref xt_shape, .ref qt_state])), (qt_state, .inr (6, [.ref xt_state_letters, .ref xt_state_open, .ref qt_state_signs, .int (it_state_size), .int (it_state_start), .int (it_state_goal)])), (qt_state_signs, .inr (4, [.ref qt_state_signs_values])), (qt_state_signs_values, .inl (cy.1, 210, .inl (ft_state_signs)))] sz)) (va_A [(qt, .inr (1, [.ref xt_shape, .ref qt_state])), (qt_state, .inr (6, [.ref xt_state_letters, .ref xt_state_open, .ref qt_state_signs, .int (it_state_size), .int (it_state_start), .int (it_state_goal)])), (qt_state_signs, .inr (4, [.ref qt_state_signs_values])), (qt_state_signs_values, .inl (cy.1, 210, .inl (ft_state_signs)))] sz)) 0 0 (va_A [(qt, .inr (1, [.ref xt_shape, .ref qt_state])), (qt_state, .inr (6, [.ref xt_state_letters, .ref xt_state_open, .ref qt_state_signs, .int (it_state_size), .int (it_state_start), .int (it_state_goal)])), (qt_state_signs, .inr (4, [.ref qt_state_signs_values])), (qt_state_signs_values, .inl (cy.1, 210, .inl (ft_state_signs)))] sz) := by
  refine Met.ofW (cc := cX1_hasSign) (maxL := 2) (ret := (some .boolean)) (by decide) rfl ?_
  intro p e s m args below meth c s₁ B hml hv
  obtain ⟨rfl, hsz, hP, hK, hD0, hG⟩ := hv
  have hx := B.exec
  have hb := B.bytes
  have hr := B.returns
  have hts := atoms_spec (ws := wsX1_hasSign) B.pre
  have hown : s.vm.findClass RX1 = some m.cls := findClass_of_methodNamed B.named
  have hlocks := B.notSynchronized
  subst hsz
  have hD := hD0.self (sz := s.heap.size)
  generalize hAe : va_A [(qt, .inr (1, [.ref xt_shape, .ref qt_state])), (qt_state, .inr (6, [.ref xt_state_letters, .ref xt_state_open, .ref qt_state_signs, .int (it_state_size), .int (it_state_start), .int (it_state_goal)])), (qt_state_signs, .inr (4, [.ref qt_state_signs_values])), (qt_state_signs_values, .inl (cy.1, 210, .inl (ft_state_signs)))] s.heap.size = A at hD hG ⊢
  have hA : ∀ q : Nat, s.heap.size ≤ q → A q := fun q h => by rw [← hAe]; exact Or.inr h
  have hS : va_S A s.heap s.heap [] := va_S.rf
  have hP : va_P (dC, dI) vwCl [(qt, .inr (1, [.ref xt_shape, .ref qt_state])), (qt_state, .inr (6, [.ref xt_state_letters, .ref xt_state_open, .ref qt_state_signs, .int (it_state_size), .int (it_state_start), .int (it_state_goal)])), (qt_state_signs, .inr (4, [.ref qt_state_signs_values])), (qt_state_signs_values, .inl (cy.1, 210, .inl (ft_state_signs)))] s.heap := hP
  have hl := lv_entry ([.ref qt, .int va1]) (n := 2) (Nat.le_of_ble_eq_true rfl)
  rw [lg_entry_eq]
  generalize (lg_sl ([.ref qt, .int va1]) ++ List.replicate (2 - (lg_sl ([.ref qt, .int va1])).length) Slot.unset).toArray = ls at hl ⊢
  have hl : lv_has ls 2 [(0, .ref qt), (1, .int va1)] := hl
  refine kgen (fun Q hQ => ?_)
  rw [f_X1_hasSign] at hf
  refine lv_aload_n hx hb dX1_hasSign_0 rfl (lv_at hl 0 rfl) ?_
  refine va_get (D := (dC, dI)) (ci := 1) (C := RX1) (T := TX1) (N := 2) hx hb hts (fun _ h => (List.mem_cons_of_mem _ (List.mem_append_left _ (List.mem_append_left _ (List.mem_append_right _ h))))) hown hK hP 0 rfl rfl 1 (by decide) (hts _ (List.mem_cons_of_mem _ (List.mem_append_left _ (List.mem_append_left _ (List.mem_append_left _ (List.mem_of_getElem? (i := 0) rfl)))))) (fun _ h => h) rfl dX1_hasSign_1 ?_
  refine va_get (D := (dC, dI)) (ci := 6) (C := RX6) (T := TX6) (N := 6) hx hb hts (fun _ h => (List.mem_cons_of_mem _ (List.mem_append_left _ (List.mem_append_right _ h)))) hown hK hP 1 rfl rfl 2 (by decide) (hts _ (List.mem_cons_of_mem _ (List.mem_append_left _ (List.mem_append_left _ (List.mem_append_left _ (List.mem_of_getElem? (i := 1) rfl)))))) (fun _ h => h) rfl dX1_hasSign_4 ?_
  refine lv_iload_n hx hb dX1_hasSign_7 rfl (lv_at hl 1 rfl) ?_
  refine kcalli (wc := [(qt_state_signs, .inr (4, [.ref qt_state_signs_values])), (qt_state_signs_values, .inl (cy.1, 210, .inl (ft_state_signs)))]) (wr := [(qt, .inr (1, [.ref xt_shape, .ref qt_state])), (qt_state, .inr (6, [.ref xt_state_letters, .ref xt_state_open, .ref qt_state_signs, .int (it_state_size), .int (it_state_start), .int (it_state_goal)]))]) (w1 := [(qt_state_signs, .inr (4, [.ref qt_state_signs_values])), (qt_state_signs_values, .inl (cy.1, 210, .inl (ft_state_signs)))]) hK hP hD hS hA hG [2, 3] [0, 1] rfl rfl rfl rfl rfl (fun hU hPc => va_runV (As := [.int va1]) (rest := []) ⟨hx, hb, hml, hown, hts⟩ (c_X4_at l dC dI cy G s.heap.size qt_state_signs qt_state_signs_values 210 (ft_state_signs) (va1) (by decide) (t_X4_at 210 (ft_state_signs) (va1)) (tot_X4_at 210 (ft_state_signs) (va1))) (cwV 1 hts gX1_hasSign_X4_at rfl rfl rfl hdX4_at ⟨Nat.le_of_ble_eq_true rfl, Nat.le_of_ble_eq_true rfl⟩) ⟨kBlind, (va_recv hK hP (ci := 4) (q0 := 2) rfl rfl), fun U h1 h2 => ⟨rfl, hU U h1 h2⟩⟩ rfl rfl hl.1 rfl (lv_room (Nat.le_of_ble_eq_true rfl)) dX1_hasSign_8 ⟨Nat.zero_le _, Nat.zero_le _⟩) ((t_X4_at 210 (ft_state_signs) (va1))) (fun _ _ h => h) (fun _ _ h => h) (fun H locs hP hD hS => ?_)
  have hP : va_P (dC, dI) vwCl [(qt, .inr (1, [.ref xt_shape, .ref qt_state])), (qt_state, .inr (6, [.ref xt_state_letters, .ref xt_state_open, .ref qt_state_signs, .int (it_state_size), .int (it_state_start), .int (it_state_goal)])), (qt_state_signs, .inr (4, [.ref qt_state_signs_values])), (qt_state_signs_values, .inl (cy.1, 210, .inl (ft_state_signs)))] H := hP
  have hD : va_D A [(qt, .inr (1, [.ref xt_shape, .ref qt_state])), (qt_state, .inr (6, [.ref xt_state_letters, .ref xt_state_open, .ref qt_state_signs, .int (it_state_size), .int (it_state_start), .int (it_state_goal)])), (qt_state_signs, .inr (4, [.ref qt_state_signs_values])), (qt_state_signs_values, .inl (cy.1, 210, .inl (ft_state_signs)))] := hD
  refine lv_if_eq (tgt := 18) hx hb dX1_hasSign_11 (by decide) (fun hc_11 => ?_) (fun hc_11 => ?_)
  · rw [if_pos hc_11] at hf
    refine lv_iconst (v := (0 : Int32)) hx hb dX1_hasSign_18 (by decide) ?_
    cases hf
    subst hQ
    exact kzret hx hb hr hlocks rfl hK (hP.sub [0, 1, 2, 3] rfl) (hD.sub [0, 1, 2, 3] (by decide) rfl) hS rfl dX1_hasSign_19
  · rw [if_neg hc_11] at hf
    refine lv_iconst (v := (1 : Int32)) hx hb dX1_hasSign_14 (by decide) ?_
    refine lv_goto (tgt := 19) hx hb dX1_hasSign_15 (by decide) ?_
    cases hf
    subst hQ
    exact kzret hx hb hr hlocks rfl hK (hP.sub [0, 1, 2, 3] rfl) (hD.sub [0, 1, 2, 3] (by decide) rfl) hS rfl dX1_hasSign_19
theorem hdX1_hasSign : yX1_hasSign.cls = RX1 ∧ yX1_hasSign.cls ≠ "java/lang/invoke/MethodHandle" ∧ yX1_hasSign.cls ≠ "java/lang/invoke/VarHandle" ∧ (parseMethodDescriptor yX1_hasSign.desc).map (fun d => d.parameters.length) = some 1 := by decide +kernel
noncomputable def t_X1_hasSign (ft_state_signs : Nat → Int32) (va1 : Int32) : Int32 :=
  if (t_X4_at 210 (ft_state_signs) (va1)) = 0 then
    (0 : Int32)
  else
    (1 : Int32)
theorem tot_X1_hasSign (ft_state_signs : Nat → Int32) (va1 : Int32) : f_X1_hasSign ft_state_signs va1 = some (t_X1_hasSign ft_state_signs va1) := by
  by_cases hc_11 : (t_X4_at 210 (ft_state_signs) (va1)) = 0
  · simp only [f_X1_hasSign, t_X1_hasSign, if_pos hc_11]
  · simp only [f_X1_hasSign, t_X1_hasSign, if_neg hc_11]
theorem bl_X1_hasSign (ft_state_signs : Nat → Int32) (va1 : Int32) : t_X1_hasSign ft_state_signs va1 = 0 ∨ t_X1_hasSign ft_state_signs va1 = 1 := by
  unfold t_X1_hasSign
  repeat' (first | exact Or.inl rfl | exact Or.inr rfl | fail | split)
noncomputable def f_X1_signCounts (ft_state_open : Nat → Int32) (ft_state_signs : Nat → Int32) (va1 : Int32) : Option (Int32) :=
  if (t_X1_hasSign (ft_state_signs) (va1)) = 0 then
    some ((0 : Int32))
  else
    if (t_X1_isFork (ft_state_open) (va1)) = 0 then
      some ((0 : Int32))
    else
      some ((1 : Int32))
abbrev rm_X1_signCounts : Room := { frames := 3, cells := 0, slots := 0, locals := 63 }
set_option maxHeartbeats 4000000 in
set_option maxRecDepth 100000 in
theorem c_X1_signCounts (l : Launch) (dC : Nat → ClassId) (dI : Nat → Nat → Nat) (cy : gC) (G : gT) (sz : Nat) (qt : Nat) (qt_state : Nat) (qt_state_open : Nat) (qt_state_open_values : Nat) (qt_state_signs : Nat) (qt_state_signs_values : Nat) (xt_shape : Nat) (xt_state_letters : Nat) (it_state_size : Int32) (it_state_start : Int32) (it_state_goal : Int32) (ft_state_open : Nat → Int32) (ft_state_signs : Nat → Int32) (va1 : Int32) (out : Int32) (hf : f_X1_signCounts ft_state_open ft_state_signs va1 = some out) : Met l yX1_signCounts wsX1_signCounts rm_X1_signCounts (va_Pc [.ref qt, .int va1] (kP (dC, dI) cy G [(qt, .inr (1, [.ref xt_shape, .ref qt_state])), (qt_state, .inr (6, [.ref xt_state_letters, .ref qt_state_open, .ref qt_state_signs, .int (it_state_size), .int (it_state_start), .int (it_state_goal)])), (qt_state_open, .inr (4, [.ref qt_state_open_values])), (qt_state_open_values, .inl (cy.1, 210, .inl (ft_state_open))), (qt_state_signs, .inr (4, [.ref qt_state_signs_values])), (qt_state_signs_values, .inl (cy.1, 210, .inl (ft_state_signs)))] sz)) (va_Qi (fun r (_ : Unit) => r = out) (fun _ => kQ (dC, dI) cy [(qt, .inr (1, [.ref xt_shape, .ref qt_state])), (qt_state, .inr (6, [.ref xt_state_letters, .ref qt_state_open, .ref qt_state_signs, .int (it_state_size), .int (it_state_start), .int (it_state_goal)])), (qt_state_open, .inr (4, [.ref qt_state_open_values])), (qt_state_open_values, .inl (cy.1, 210, .inl (ft_state_open))), (qt_state_signs, .inr (4, [.ref qt_state_signs_values])), (qt_state_signs_values, .inl (cy.1, 210, .inl (ft_state_signs)))] (va_A [(qt, .inr (1, [.ref xt_shape, .ref qt_state])), (qt_state, .inr (6, [.ref xt_state_letters, .ref qt_state_open, .ref qt_state_signs, .int (it_state_size), .int (it_state_start), .int (it_state_goal)])), (qt_state_open, .inr (4, [.ref qt_state_open_values])), (qt_state_open_values, .inl (cy.1, 210, .inl (ft_state_open))), (qt_state_signs, .inr (4, [.ref qt_state_signs_values])), (qt_state_signs_values, .inl (cy.1, 210, .inl (ft_state_signs)))] sz)) (va_A [(qt, .inr (1, [.ref xt_shape, .ref qt_state])), (qt_state, .inr (6, [.ref xt_state_letters, .ref qt_state_open, .ref qt_state_signs, .int (it_state_size), .int (it_state_start), .int (it_state_goal)])), (qt_state_open, .inr (4, [.ref qt_state_open_values])), (qt_state_open_values, .inl (cy.1, 210, .inl (ft_state_open))), (qt_state_signs, .inr (4, [.ref qt_state_signs_values])), (qt_state_signs_values, .inl (cy.1, 210, .inl (ft_state_signs)))] sz)) 0 0 (va_A [(qt, .inr (1, [.ref xt_shape, .ref qt_state])), (qt_state, .inr (6, [.ref xt_state_letters, .ref qt_state_open, .ref qt_state_signs, .int (it_state_size), .int (it_state_start), .int (it_state_goal)])), (qt_state_open, .inr (4, [.ref qt_state_open_values])), (qt_state_open_values, .inl (cy.1, 210, .inl (ft_state_open))), (qt_state_signs, .inr (4, [.ref qt_state_signs_values])), (qt_state_signs_values, .inl (cy.1, 210, .inl (ft_state_signs)))] sz) := by
  refine Met.ofW (cc := cX1_signCounts) (maxL := 2) (ret := (some .boolean)) (by decide) rfl ?_
  intro p e s m args below meth c s₁ B hml hv
  obtain ⟨rfl, hsz, hP, hK, hD0, hG⟩ := hv
  have hx := B.exec
  have hb := B.bytes
  have hr := B.returns
  have hts := atoms_spec (ws := wsX1_signCounts) B.pre
  have hown : s.vm.findClass RX1 = some m.cls := findClass_of_methodNamed B.named
  have hlocks := B.notSynchronized
  subst hsz
  have hD := hD0.self (sz := s.heap.size)
  generalize hAe : va_A [(qt, .inr (1, [.ref xt_shape, .ref qt_state])), (qt_state, .inr (6, [.ref xt_state_letters, .ref qt_state_open, .ref qt_state_signs, .int (it_state_size), .int (it_state_start), .int (it_state_goal)])), (qt_state_open, .inr (4, [.ref qt_state_open_values])), (qt_state_open_values, .inl (cy.1, 210, .inl (ft_state_open))), (qt_state_signs, .inr (4, [.ref qt_state_signs_values])), (qt_state_signs_values, .inl (cy.1, 210, .inl (ft_state_signs)))] s.heap.size = A at hD hG ⊢
  have hA : ∀ q : Nat, s.heap.size ≤ q → A q := fun q h => by rw [← hAe]; exact Or.inr h
  have hS : va_S A s.heap s.heap [] := va_S.rf
  have hP : va_P (dC, dI) vwCl [(qt, .inr (1, [.ref xt_shape, .ref qt_state])), (qt_state, .inr (6, [.ref xt_state_letters, .ref qt_state_open, .ref qt_state_signs, .int (it_state_size), .int (it_state_start), .int (it_state_goal)])), (qt_state_open, .inr (4, [.ref qt_state_open_values])), (qt_state_open_values, .inl (cy.1, 210, .inl (ft_state_open))), (qt_state_signs, .inr (4, [.ref qt_state_signs_values])), (qt_state_signs_values, .inl (cy.1, 210, .inl (ft_state_signs)))] s.heap := hP
  have hl := lv_entry ([.ref qt, .int va1]) (n := 2) (Nat.le_of_ble_eq_true rfl)
  rw [lg_entry_eq]
  generalize (lg_sl ([.ref qt, .int va1]) ++ List.replicate (2 - (lg_sl ([.ref qt, .int va1])).length) Slot.unset).toArray = ls at hl ⊢
  have hl : lv_has ls 2 [(0, .ref qt), (1, .int va1)] := hl
  refine kgen (fun Q hQ => ?_)
  rw [f_X1_signCounts] at hf
  refine lv_aload_n hx hb dX1_signCounts_0 rfl (lv_at hl 0 rfl) ?_
  refine lv_iload_n hx hb dX1_signCounts_1 rfl (lv_at hl 1 rfl) ?_
  refine kcalli (wc := [(qt, .inr (1, [.ref xt_shape, .ref qt_state])), (qt_state, .inr (6, [.ref xt_state_letters, .ref qt_state_open, .ref qt_state_signs, .int (it_state_size), .int (it_state_start), .int (it_state_goal)])), (qt_state_signs, .inr (4, [.ref qt_state_signs_values])), (qt_state_signs_values, .inl (cy.1, 210, .inl (ft_state_signs)))]) (wr := [(qt_state_open, .inr (4, [.ref qt_state_open_values])), (qt_state_open_values, .inl (cy.1, 210, .inl (ft_state_open)))]) (w1 := [(qt, .inr (1, [.ref xt_shape, .ref qt_state])), (qt_state, .inr (6, [.ref xt_state_letters, .ref qt_state_open, .ref qt_state_signs, .int (it_state_size), .int (it_state_start), .int (it_state_goal)])), (qt_state_signs, .inr (4, [.ref qt_state_signs_values])), (qt_state_signs_values, .inl (cy.1, 210, .inl (ft_state_signs)))]) hK hP hD hS hA hG [0, 1, 4, 5] [2, 3] rfl rfl rfl rfl rfl (fun hU hPc => va_runV (As := [.int va1]) (rest := []) ⟨hx, hb, hml, hown, hts⟩ (c_X1_hasSign l dC dI cy G s.heap.size qt qt_state qt_state_signs qt_state_signs_values xt_shape xt_state_letters qt_state_open (it_state_size) (it_state_start) (it_state_goal) (ft_state_signs) (va1) (t_X1_hasSign (ft_state_signs) (va1)) (tot_X1_hasSign (ft_state_signs) (va1))) (cwV 1 hts gX1_signCounts_X1_hasSign rfl rfl rfl hdX1_hasSign ⟨Nat.le_of_ble_eq_true rfl, Nat.le_of_ble_eq_true rfl⟩) ⟨kBlind, (va_recv hK hP (ci := 1) (q0 := 0) rfl rfl), fun U h1 h2 => ⟨rfl, hU U h1 h2⟩⟩ rfl rfl hl.1 rfl (lv_room (Nat.le_of_ble_eq_true rfl)) dX1_signCounts_2 ⟨Nat.zero_le _, Nat.zero_le _⟩) ((t_X1_hasSign (ft_state_signs) (va1))) (fun _ _ h => h) (fun _ _ h => h) (fun H locs hP hD hS => ?_)
  have hP : va_P (dC, dI) vwCl [(qt_state_open, .inr (4, [.ref qt_state_open_values])), (qt_state_open_values, .inl (cy.1, 210, .inl (ft_state_open))), (qt, .inr (1, [.ref xt_shape, .ref qt_state])), (qt_state, .inr (6, [.ref xt_state_letters, .ref qt_state_open, .ref qt_state_signs, .int (it_state_size), .int (it_state_start), .int (it_state_goal)])), (qt_state_signs, .inr (4, [.ref qt_state_signs_values])), (qt_state_signs_values, .inl (cy.1, 210, .inl (ft_state_signs)))] H := hP
  have hD : va_D A [(qt_state_open, .inr (4, [.ref qt_state_open_values])), (qt_state_open_values, .inl (cy.1, 210, .inl (ft_state_open))), (qt, .inr (1, [.ref xt_shape, .ref qt_state])), (qt_state, .inr (6, [.ref xt_state_letters, .ref qt_state_open, .ref qt_state_signs, .int (it_state_size), .int (it_state_start), .int (it_state_goal)])), (qt_state_signs, .inr (4, [.ref qt_state_signs_values])), (qt_state_signs_values, .inl (cy.1, 210, .inl (ft_state_signs)))] := hD
  refine lv_if_eq (tgt := 20) hx hb dX1_signCounts_5 (by decide) (fun hc_5 => ?_) (fun hc_5 => ?_)
  · rw [if_pos hc_5] at hf
    refine lv_iconst (v := (0 : Int32)) hx hb dX1_signCounts_20 (by decide) ?_
    cases hf
    subst hQ
    exact kzret hx hb hr hlocks rfl hK (hP.sub [2, 3, 0, 1, 4, 5] rfl) (hD.sub [2, 3, 0, 1, 4, 5] (by decide) rfl) hS rfl dX1_signCounts_21
  · rw [if_neg hc_5] at hf
    refine lv_aload_n hx hb dX1_signCounts_8 rfl (lv_at hl 0 rfl) ?_
    refine lv_iload_n hx hb dX1_signCounts_9 rfl (lv_at hl 1 rfl) ?_
    refine kcalli (wc := [(qt, .inr (1, [.ref xt_shape, .ref qt_state])), (qt_state, .inr (6, [.ref xt_state_letters, .ref qt_state_open, .ref qt_state_signs, .int (it_state_size), .int (it_state_start), .int (it_state_goal)])), (qt_state_open, .inr (4, [.ref qt_state_open_values])), (qt_state_open_values, .inl (cy.1, 210, .inl (ft_state_open)))]) (wr := [(qt_state_signs, .inr (4, [.ref qt_state_signs_values])), (qt_state_signs_values, .inl (cy.1, 210, .inl (ft_state_signs)))]) (w1 := [(qt, .inr (1, [.ref xt_shape, .ref qt_state])), (qt_state, .inr (6, [.ref xt_state_letters, .ref qt_state_open, .ref qt_state_signs, .int (it_state_size), .int (it_state_start), .int (it_state_goal)])), (qt_state_open, .inr (4, [.ref qt_state_open_values])), (qt_state_open_values, .inl (cy.1, 210, .inl (ft_state_open)))]) hK hP hD hS hA hG [2, 3, 0, 1] [4, 5] rfl rfl rfl rfl rfl (fun hU hPc => va_runV (As := [.int va1]) (rest := []) ⟨hx, hb, hml, hown, hts⟩ (c_X1_isFork l dC dI cy G H.size qt qt_state qt_state_open qt_state_open_values xt_shape xt_state_letters qt_state_signs (it_state_size) (it_state_start) (it_state_goal) (ft_state_open) (va1) (t_X1_isFork (ft_state_open) (va1)) (tot_X1_isFork (ft_state_open) (va1))) (cwV 1 hts gX1_signCounts_X1_isFork rfl rfl rfl hdX1_isFork ⟨Nat.le_of_ble_eq_true rfl, Nat.le_of_ble_eq_true rfl⟩) ⟨kBlind, (va_recv hK hP (ci := 1) (q0 := 2) rfl rfl), fun U h1 h2 => ⟨rfl, hU U h1 h2⟩⟩ rfl rfl hl.1 rfl (lv_room (Nat.le_of_ble_eq_true rfl)) dX1_signCounts_10 ⟨Nat.zero_le _, Nat.zero_le _⟩) ((t_X1_isFork (ft_state_open) (va1))) (fun _ _ h => h) (fun _ _ h => h) (fun H locs hP hD hS => ?_)
    have hP : va_P (dC, dI) vwCl [(qt_state_signs, .inr (4, [.ref qt_state_signs_values])), (qt_state_signs_values, .inl (cy.1, 210, .inl (ft_state_signs))), (qt, .inr (1, [.ref xt_shape, .ref qt_state])), (qt_state, .inr (6, [.ref xt_state_letters, .ref qt_state_open, .ref qt_state_signs, .int (it_state_size), .int (it_state_start), .int (it_state_goal)])), (qt_state_open, .inr (4, [.ref qt_state_open_values])), (qt_state_open_values, .inl (cy.1, 210, .inl (ft_state_open)))] H := hP
    have hD : va_D A [(qt_state_signs, .inr (4, [.ref qt_state_signs_values])), (qt_state_signs_values, .inl (cy.1, 210, .inl (ft_state_signs))), (qt, .inr (1, [.ref xt_shape, .ref qt_state])), (qt_state, .inr (6, [.ref xt_state_letters, .ref qt_state_open, .ref qt_state_signs, .int (it_state_size), .int (it_state_start), .int (it_state_goal)])), (qt_state_open, .inr (4, [.ref qt_state_open_values])), (qt_state_open_values, .inl (cy.1, 210, .inl (ft_state_open)))] := hD
    refine lv_if_eq (tgt := 20) hx hb dX1_signCounts_13 (by decide) (fun hc_13 => ?_) (fun hc_13 => ?_)
    · rw [if_pos hc_13] at hf
      refine lv_iconst (v := (0 : Int32)) hx hb dX1_signCounts_20 (by decide) ?_
      cases hf
      subst hQ
      exact kzret hx hb hr hlocks rfl hK (hP.sub [2, 3, 4, 5, 0, 1] rfl) (hD.sub [2, 3, 4, 5, 0, 1] (by decide) rfl) hS rfl dX1_signCounts_21
    · rw [if_neg hc_13] at hf
      refine lv_iconst (v := (1 : Int32)) hx hb dX1_signCounts_16 (by decide) ?_
      refine lv_goto (tgt := 21) hx hb dX1_signCounts_17 (by decide) ?_
      cases hf
      subst hQ
      exact kzret hx hb hr hlocks rfl hK (hP.sub [2, 3, 4, 5, 0, 1] rfl) (hD.sub [2, 3, 4, 5, 0, 1] (by decide) rfl) hS rfl dX1_signCounts_21
theorem hdX1_signCounts : yX1_signCounts.cls = RX1 ∧ yX1_signCounts.cls ≠ "java/lang/invoke/MethodHandle" ∧ yX1_signCounts.cls ≠ "java/lang/invoke/VarHandle" ∧ (parseMethodDescriptor yX1_signCounts.desc).map (fun d => d.parameters.length) = some 1 := by decide +kernel
noncomputable def t_X1_signCounts (ft_state_open : Nat → Int32) (ft_state_signs : Nat → Int32) (va1 : Int32) : Int32 :=
  if (t_X1_hasSign (ft_state_signs) (va1)) = 0 then
    (0 : Int32)
  else
    if (t_X1_isFork (ft_state_open) (va1)) = 0 then
      (0 : Int32)
    else
      (1 : Int32)
theorem tot_X1_signCounts (ft_state_open : Nat → Int32) (ft_state_signs : Nat → Int32) (va1 : Int32) : f_X1_signCounts ft_state_open ft_state_signs va1 = some (t_X1_signCounts ft_state_open ft_state_signs va1) := by
  by_cases hc_5 : (t_X1_hasSign (ft_state_signs) (va1)) = 0
  · simp only [f_X1_signCounts, t_X1_signCounts, if_pos hc_5]
  · by_cases hc_13 : (t_X1_isFork (ft_state_open) (va1)) = 0
    · simp only [f_X1_signCounts, t_X1_signCounts, if_neg hc_5, if_pos hc_13]
    · simp only [f_X1_signCounts, t_X1_signCounts, if_neg hc_5, if_neg hc_13]
theorem bl_X1_signCounts (ft_state_open : Nat → Int32) (ft_state_signs : Nat → Int32) (va1 : Int32) : t_X1_signCounts ft_state_open ft_state_signs va1 = 0 ∨ t_X1_signCounts ft_state_open ft_state_signs va1 = 1 := by
  unfold t_X1_signCounts
  repeat' (first | exact Or.inl rfl | exact Or.inr rfl | exact bl_X1_hasSign _ _ | exact bl_X1_isFork _ _ | split)
noncomputable def f_X1_signKind (ft_state_signs : Nat → Int32) (va1 : Int32) : Option (Int32) :=
  some ((((t_X4_at 210 (ft_state_signs) (va1)) - (1 : Int32)) >>> ((2 : Int32) &&& 31)))
abbrev rm_X1_signKind : Room := { frames := 1, cells := 0, slots := 0, locals := 21 }
set_option maxHeartbeats 4000000 in
set_option maxRecDepth 100000 in
theorem c_X1_signKind (l : Launch) (dC : Nat → ClassId) (dI : Nat → Nat → Nat) (cy : gC) (G : gT) (sz : Nat) (qt : Nat) (qt_state : Nat) (qt_state_signs : Nat) (qt_state_signs_values : Nat) (xt_shape : Nat) (xt_state_letters : Nat) (xt_state_open : Nat) (it_state_size : Int32) (it_state_start : Int32) (it_state_goal : Int32) (ft_state_signs : Nat → Int32) (va1 : Int32) (out : Int32) (hf : f_X1_signKind ft_state_signs va1 = some out) : Met l yX1_signKind wsX1_signKind rm_X1_signKind (va_Pc [.ref qt, .int va1] (kP (dC, dI) cy G [(qt, .inr (1, [.ref xt_shape, .ref qt_state])), (qt_state, .inr (6, [.ref xt_state_letters, .ref xt_state_open, .ref qt_state_signs, .int (it_state_size), .int (it_state_start), .int (it_state_goal)])), (qt_state_signs, .inr (4, [.ref qt_state_signs_values])), (qt_state_signs_values, .inl (cy.1, 210, .inl (ft_state_signs)))] sz)) (va_Qi (fun r (_ : Unit) => r = out) (fun _ => kQ (dC, dI) cy [(qt, .inr (1, [.ref xt_shape, .ref qt_state])), (qt_state, .inr (6, [.ref xt_state_letters, .ref xt_state_open, .ref qt_state_signs, .int (it_state_size), .int (it_state_start), .int (it_state_goal)])), (qt_state_signs, .inr (4, [.ref qt_state_signs_values])), (qt_state_signs_values, .inl (cy.1, 210, .inl (ft_state_signs)))] (va_A [(qt, .inr (1, [.ref xt_shape, .ref qt_state])), (qt_state, .inr (6, [.ref xt_state_letters, .ref xt_state_open, .ref qt_state_signs, .int (it_state_size), .int (it_state_start), .int (it_state_goal)])), (qt_state_signs, .inr (4, [.ref qt_state_signs_values])), (qt_state_signs_values, .inl (cy.1, 210, .inl (ft_state_signs)))] sz)) (va_A [(qt, .inr (1, [.ref xt_shape, .ref qt_state])), (qt_state, .inr (6, [.ref xt_state_letters, .ref xt_state_open, .ref qt_state_signs, .int (it_state_size), .int (it_state_start), .int (it_state_goal)])), (qt_state_signs, .inr (4, [.ref qt_state_signs_values])), (qt_state_signs_values, .inl (cy.1, 210, .inl (ft_state_signs)))] sz)) 0 0 (va_A [(qt, .inr (1, [.ref xt_shape, .ref qt_state])), (qt_state, .inr (6, [.ref xt_state_letters, .ref xt_state_open, .ref qt_state_signs, .int (it_state_size), .int (it_state_start), .int (it_state_goal)])), (qt_state_signs, .inr (4, [.ref qt_state_signs_values])), (qt_state_signs_values, .inl (cy.1, 210, .inl (ft_state_signs)))] sz) := by
  refine Met.ofW (cc := cX1_signKind) (maxL := 2) (ret := (some .int)) (by decide) rfl ?_
  intro p e s m args below meth c s₁ B hml hv
  obtain ⟨rfl, hsz, hP, hK, hD0, hG⟩ := hv
  have hx := B.exec
  have hb := B.bytes
  have hr := B.returns
  have hts := atoms_spec (ws := wsX1_signKind) B.pre
  have hown : s.vm.findClass RX1 = some m.cls := findClass_of_methodNamed B.named
  have hlocks := B.notSynchronized
  subst hsz
  have hD := hD0.self (sz := s.heap.size)
  generalize hAe : va_A [(qt, .inr (1, [.ref xt_shape, .ref qt_state])), (qt_state, .inr (6, [.ref xt_state_letters, .ref xt_state_open, .ref qt_state_signs, .int (it_state_size), .int (it_state_start), .int (it_state_goal)])), (qt_state_signs, .inr (4, [.ref qt_state_signs_values])), (qt_state_signs_values, .inl (cy.1, 210, .inl (ft_state_signs)))] s.heap.size = A at hD hG ⊢
  have hA : ∀ q : Nat, s.heap.size ≤ q → A q := fun q h => by rw [← hAe]; exact Or.inr h
  have hS : va_S A s.heap s.heap [] := va_S.rf
  have hP : va_P (dC, dI) vwCl [(qt, .inr (1, [.ref xt_shape, .ref qt_state])), (qt_state, .inr (6, [.ref xt_state_letters, .ref xt_state_open, .ref qt_state_signs, .int (it_state_size), .int (it_state_start), .int (it_state_goal)])), (qt_state_signs, .inr (4, [.ref qt_state_signs_values])), (qt_state_signs_values, .inl (cy.1, 210, .inl (ft_state_signs)))] s.heap := hP
  have hl := lv_entry ([.ref qt, .int va1]) (n := 2) (Nat.le_of_ble_eq_true rfl)
  rw [lg_entry_eq]
  generalize (lg_sl ([.ref qt, .int va1]) ++ List.replicate (2 - (lg_sl ([.ref qt, .int va1])).length) Slot.unset).toArray = ls at hl ⊢
  have hl : lv_has ls 2 [(0, .ref qt), (1, .int va1)] := hl
  refine kgen (fun Q hQ => ?_)
  rw [f_X1_signKind] at hf
  refine lv_aload_n hx hb dX1_signKind_0 rfl (lv_at hl 0 rfl) ?_
  refine va_get (D := (dC, dI)) (ci := 1) (C := RX1) (T := TX1) (N := 2) hx hb hts (fun _ h => (List.mem_cons_of_mem _ (List.mem_append_left _ (List.mem_append_left _ (List.mem_append_right _ h))))) hown hK hP 0 rfl rfl 1 (by decide) (hts _ (List.mem_cons_of_mem _ (List.mem_append_left _ (List.mem_append_left _ (List.mem_append_left _ (List.mem_of_getElem? (i := 0) rfl)))))) (fun _ h => h) rfl dX1_signKind_1 ?_
  refine va_get (D := (dC, dI)) (ci := 6) (C := RX6) (T := TX6) (N := 6) hx hb hts (fun _ h => (List.mem_cons_of_mem _ (List.mem_append_left _ (List.mem_append_right _ h)))) hown hK hP 1 rfl rfl 2 (by decide) (hts _ (List.mem_cons_of_mem _ (List.mem_append_left _ (List.mem_append_left _ (List.mem_append_left _ (List.mem_of_getElem? (i := 1) rfl)))))) (fun _ h => h) rfl dX1_signKind_4 ?_
  refine lv_iload_n hx hb dX1_signKind_7 rfl (lv_at hl 1 rfl) ?_
  refine kcalli (wc := [(qt_state_signs, .inr (4, [.ref qt_state_signs_values])), (qt_state_signs_values, .inl (cy.1, 210, .inl (ft_state_signs)))]) (wr := [(qt, .inr (1, [.ref xt_shape, .ref qt_state])), (qt_state, .inr (6, [.ref xt_state_letters, .ref xt_state_open, .ref qt_state_signs, .int (it_state_size), .int (it_state_start), .int (it_state_goal)]))]) (w1 := [(qt_state_signs, .inr (4, [.ref qt_state_signs_values])), (qt_state_signs_values, .inl (cy.1, 210, .inl (ft_state_signs)))]) hK hP hD hS hA hG [2, 3] [0, 1] rfl rfl rfl rfl rfl (fun hU hPc => va_runV (As := [.int va1]) (rest := []) ⟨hx, hb, hml, hown, hts⟩ (c_X4_at l dC dI cy G s.heap.size qt_state_signs qt_state_signs_values 210 (ft_state_signs) (va1) (by decide) (t_X4_at 210 (ft_state_signs) (va1)) (tot_X4_at 210 (ft_state_signs) (va1))) (cwV 1 hts gX1_signKind_X4_at rfl rfl rfl hdX4_at ⟨Nat.le_of_ble_eq_true rfl, Nat.le_of_ble_eq_true rfl⟩) ⟨kBlind, (va_recv hK hP (ci := 4) (q0 := 2) rfl rfl), fun U h1 h2 => ⟨rfl, hU U h1 h2⟩⟩ rfl rfl hl.1 rfl (lv_room (Nat.le_of_ble_eq_true rfl)) dX1_signKind_8 ⟨Nat.zero_le _, Nat.zero_le _⟩) ((t_X4_at 210 (ft_state_signs) (va1))) (fun _ _ h => h) (fun _ _ h => h) (fun H locs hP hD hS => ?_)
  have hP : va_P (dC, dI) vwCl [(qt, .inr (1, [.ref xt_shape, .ref qt_state])), (qt_state, .inr (6, [.ref xt_state_letters, .ref xt_state_open, .ref qt_state_signs, .int (it_state_size), .int (it_state_start), .int (it_state_goal)])), (qt_state_signs, .inr (4, [.ref qt_state_signs_values])), (qt_state_signs_values, .inl (cy.1, 210, .inl (ft_state_signs)))] H := hP
  have hD : va_D A [(qt, .inr (1, [.ref xt_shape, .ref qt_state])), (qt_state, .inr (6, [.ref xt_state_letters, .ref xt_state_open, .ref qt_state_signs, .int (it_state_size), .int (it_state_start), .int (it_state_goal)])), (qt_state_signs, .inr (4, [.ref qt_state_signs_values])), (qt_state_signs_values, .inl (cy.1, 210, .inl (ft_state_signs)))] := hD
  refine lv_iconst (v := (1 : Int32)) hx hb dX1_signKind_11 (by decide) ?_
  refine lv_isub hx hb dX1_signKind_12 ?_
  refine lv_iconst (v := (2 : Int32)) hx hb dX1_signKind_13 (by decide) ?_
  refine lv_ishr hx hb dX1_signKind_14 ?_
  cases hf
  subst hQ
  exact kiret hx hb hr hlocks hK (hP.sub [0, 1, 2, 3] rfl) (hD.sub [0, 1, 2, 3] (by decide) rfl) hS rfl dX1_signKind_15
theorem hdX1_signKind : yX1_signKind.cls = RX1 ∧ yX1_signKind.cls ≠ "java/lang/invoke/MethodHandle" ∧ yX1_signKind.cls ≠ "java/lang/invoke/VarHandle" ∧ (parseMethodDescriptor yX1_signKind.desc).map (fun d => d.parameters.length) = some 1 := by decide +kernel
noncomputable def t_X1_signKind (ft_state_signs : Nat → Int32) (va1 : Int32) : Int32 :=
  (((t_X4_at 210 (ft_state_signs) (va1)) - (1 : Int32)) >>> ((2 : Int32) &&& 31))
theorem tot_X1_signKind (ft_state_signs : Nat → Int32) (va1 : Int32) : f_X1_signKind ft_state_signs va1 = some (t_X1_signKind ft_state_signs va1) := by
  simp only [f_X1_signKind, t_X1_signKind]
noncomputable def f_X1_signOwnDirection (ft_state_signs : Nat → Int32) (va1 : Int32) : Option (Int32) :=
  some ((((t_X4_at 210 (ft_state_signs) (va1)) - (1 : Int32)) &&& (3 : Int32)))
abbrev rm_X1_signOwnDirection : Room := { frames := 1, cells := 0, slots := 0, locals := 21 }
set_option maxHeartbeats 4000000 in
set_option maxRecDepth 100000 in
theorem c_X1_signOwnDirection (l : Launch) (dC : Nat → ClassId) (dI : Nat → Nat → Nat) (cy : gC) (G : gT) (sz : Nat) (qt : Nat) (qt_state : Nat) (qt_state_signs : Nat) (qt_state_signs_values : Nat) (xt_shape : Nat) (xt_state_letters : Nat) (xt_state_open : Nat) (it_state_size : Int32) (it_state_start : Int32) (it_state_goal : Int32) (ft_state_signs : Nat → Int32) (va1 : Int32) (out : Int32) (hf : f_X1_signOwnDirection ft_state_signs va1 = some out) : Met l yX1_signOwnDirection wsX1_signOwnDirection rm_X1_signOwnDirection (va_Pc [.ref qt, .int va1] (kP (dC, dI) cy G [(qt, .inr (1, [.ref xt_shape, .ref qt_state])), (qt_state, .inr (6, [.ref xt_state_letters, .ref xt_state_open, .ref qt_state_signs, .int (it_state_size), .int (it_state_start), .int (it_state_goal)])), (qt_state_signs, .inr (4, [.ref qt_state_signs_values])), (qt_state_signs_values, .inl (cy.1, 210, .inl (ft_state_signs)))] sz)) (va_Qi (fun r (_ : Unit) => r = out) (fun _ => kQ (dC, dI) cy [(qt, .inr (1, [.ref xt_shape, .ref qt_state])), (qt_state, .inr (6, [.ref xt_state_letters, .ref xt_state_open, .ref qt_state_signs, .int (it_state_size), .int (it_state_start), .int (it_state_goal)])), (qt_state_signs, .inr (4, [.ref qt_state_signs_values])), (qt_state_signs_values, .inl (cy.1, 210, .inl (ft_state_signs)))] (va_A [(qt, .inr (1, [.ref xt_shape, .ref qt_state])), (qt_state, .inr (6, [.ref xt_state_letters, .ref xt_state_open, .ref qt_state_signs, .int (it_state_size), .int (it_state_start), .int (it_state_goal)])), (qt_state_signs, .inr (4, [.ref qt_state_signs_values])), (qt_state_signs_values, .inl (cy.1, 210, .inl (ft_state_signs)))] sz)) (va_A [(qt, .inr (1, [.ref xt_shape, .ref qt_state])), (qt_state, .inr (6, [.ref xt_state_letters, .ref xt_state_open, .ref qt_state_signs, .int (it_state_size), .int (it_state_start), .int (it_state_goal)])), (qt_state_signs, .inr (4, [.ref qt_state_signs_values])), (qt_state_signs_values, .inl (cy.1, 210, .inl (ft_state_signs)))] sz)) 0 0 (va_A [(qt, .inr (1, [.ref xt_shape, .ref qt_state])), (qt_state, .inr (6, [.ref xt_state_letters, .ref xt_state_open, .ref qt_state_signs, .int (it_state_size), .int (it_state_start), .int (it_state_goal)])), (qt_state_signs, .inr (4, [.ref qt_state_signs_values])), (qt_state_signs_values, .inl (cy.1, 210, .inl (ft_state_signs)))] sz) := by
  refine Met.ofW (cc := cX1_signOwnDirection) (maxL := 2) (ret := (some .int)) (by decide) rfl ?_
  intro p e s m args below meth c s₁ B hml hv
  obtain ⟨rfl, hsz, hP, hK, hD0, hG⟩ := hv
  have hx := B.exec
  have hb := B.bytes
  have hr := B.returns
  have hts := atoms_spec (ws := wsX1_signOwnDirection) B.pre
  have hown : s.vm.findClass RX1 = some m.cls := findClass_of_methodNamed B.named
  have hlocks := B.notSynchronized
  subst hsz
  have hD := hD0.self (sz := s.heap.size)
  generalize hAe : va_A [(qt, .inr (1, [.ref xt_shape, .ref qt_state])), (qt_state, .inr (6, [.ref xt_state_letters, .ref xt_state_open, .ref qt_state_signs, .int (it_state_size), .int (it_state_start), .int (it_state_goal)])), (qt_state_signs, .inr (4, [.ref qt_state_signs_values])), (qt_state_signs_values, .inl (cy.1, 210, .inl (ft_state_signs)))] s.heap.size = A at hD hG ⊢
  have hA : ∀ q : Nat, s.heap.size ≤ q → A q := fun q h => by rw [← hAe]; exact Or.inr h
  have hS : va_S A s.heap s.heap [] := va_S.rf
  have hP : va_P (dC, dI) vwCl [(qt, .inr (1, [.ref xt_shape, .ref qt_state])), (qt_state, .inr (6, [.ref xt_state_letters, .ref xt_state_open, .ref qt_state_signs, .int (it_state_size), .int (it_state_start), .int (it_state_goal)])), (qt_state_signs, .inr (4, [.ref qt_state_signs_values])), (qt_state_signs_values, .inl (cy.1, 210, .inl (ft_state_signs)))] s.heap := hP
  have hl := lv_entry ([.ref qt, .int va1]) (n := 2) (Nat.le_of_ble_eq_true rfl)
  rw [lg_entry_eq]
  generalize (lg_sl ([.ref qt, .int va1]) ++ List.replicate (2 - (lg_sl ([.ref qt, .int va1])).length) Slot.unset).toArray = ls at hl ⊢
  have hl : lv_has ls 2 [(0, .ref qt), (1, .int va1)] := hl
  refine kgen (fun Q hQ => ?_)
  rw [f_X1_signOwnDirection] at hf
  refine lv_aload_n hx hb dX1_signOwnDirection_0 rfl (lv_at hl 0 rfl) ?_
  refine va_get (D := (dC, dI)) (ci := 1) (C := RX1) (T := TX1) (N := 2) hx hb hts (fun _ h => (List.mem_cons_of_mem _ (List.mem_append_left _ (List.mem_append_left _ (List.mem_append_right _ h))))) hown hK hP 0 rfl rfl 1 (by decide) (hts _ (List.mem_cons_of_mem _ (List.mem_append_left _ (List.mem_append_left _ (List.mem_append_left _ (List.mem_of_getElem? (i := 0) rfl)))))) (fun _ h => h) rfl dX1_signOwnDirection_1 ?_
  refine va_get (D := (dC, dI)) (ci := 6) (C := RX6) (T := TX6) (N := 6) hx hb hts (fun _ h => (List.mem_cons_of_mem _ (List.mem_append_left _ (List.mem_append_right _ h)))) hown hK hP 1 rfl rfl 2 (by decide) (hts _ (List.mem_cons_of_mem _ (List.mem_append_left _ (List.mem_append_left _ (List.mem_append_left _ (List.mem_of_getElem? (i := 1) rfl)))))) (fun _ h => h) rfl dX1_signOwnDirection_4 ?_
  refine lv_iload_n hx hb dX1_signOwnDirection_7 rfl (lv_at hl 1 rfl) ?_
  refine kcalli (wc := [(qt_state_signs, .inr (4, [.ref qt_state_signs_values])), (qt_state_signs_values, .inl (cy.1, 210, .inl (ft_state_signs)))]) (wr := [(qt, .inr (1, [.ref xt_shape, .ref qt_state])), (qt_state, .inr (6, [.ref xt_state_letters, .ref xt_state_open, .ref qt_state_signs, .int (it_state_size), .int (it_state_start), .int (it_state_goal)]))]) (w1 := [(qt_state_signs, .inr (4, [.ref qt_state_signs_values])), (qt_state_signs_values, .inl (cy.1, 210, .inl (ft_state_signs)))]) hK hP hD hS hA hG [2, 3] [0, 1] rfl rfl rfl rfl rfl (fun hU hPc => va_runV (As := [.int va1]) (rest := []) ⟨hx, hb, hml, hown, hts⟩ (c_X4_at l dC dI cy G s.heap.size qt_state_signs qt_state_signs_values 210 (ft_state_signs) (va1) (by decide) (t_X4_at 210 (ft_state_signs) (va1)) (tot_X4_at 210 (ft_state_signs) (va1))) (cwV 1 hts gX1_signOwnDirection_X4_at rfl rfl rfl hdX4_at ⟨Nat.le_of_ble_eq_true rfl, Nat.le_of_ble_eq_true rfl⟩) ⟨kBlind, (va_recv hK hP (ci := 4) (q0 := 2) rfl rfl), fun U h1 h2 => ⟨rfl, hU U h1 h2⟩⟩ rfl rfl hl.1 rfl (lv_room (Nat.le_of_ble_eq_true rfl)) dX1_signOwnDirection_8 ⟨Nat.zero_le _, Nat.zero_le _⟩) ((t_X4_at 210 (ft_state_signs) (va1))) (fun _ _ h => h) (fun _ _ h => h) (fun H locs hP hD hS => ?_)
  have hP : va_P (dC, dI) vwCl [(qt, .inr (1, [.ref xt_shape, .ref qt_state])), (qt_state, .inr (6, [.ref xt_state_letters, .ref xt_state_open, .ref qt_state_signs, .int (it_state_size), .int (it_state_start), .int (it_state_goal)])), (qt_state_signs, .inr (4, [.ref qt_state_signs_values])), (qt_state_signs_values, .inl (cy.1, 210, .inl (ft_state_signs)))] H := hP
  have hD : va_D A [(qt, .inr (1, [.ref xt_shape, .ref qt_state])), (qt_state, .inr (6, [.ref xt_state_letters, .ref xt_state_open, .ref qt_state_signs, .int (it_state_size), .int (it_state_start), .int (it_state_goal)])), (qt_state_signs, .inr (4, [.ref qt_state_signs_values])), (qt_state_signs_values, .inl (cy.1, 210, .inl (ft_state_signs)))] := hD
  refine lv_iconst (v := (1 : Int32)) hx hb dX1_signOwnDirection_11 (by decide) ?_
  refine lv_isub hx hb dX1_signOwnDirection_12 ?_
  refine lv_iconst (v := (3 : Int32)) hx hb dX1_signOwnDirection_13 (by decide) ?_
  refine lv_iand hx hb dX1_signOwnDirection_14 ?_
  cases hf
  subst hQ
  exact kiret hx hb hr hlocks hK (hP.sub [0, 1, 2, 3] rfl) (hD.sub [0, 1, 2, 3] (by decide) rfl) hS rfl dX1_signOwnDirection_15
theorem hdX1_signOwnDirection : yX1_signOwnDirection.cls = RX1 ∧ yX1_signOwnDirection.cls ≠ "java/lang/invoke/MethodHandle" ∧ yX1_signOwnDirection.cls ≠ "java/lang/invoke/VarHandle" ∧ (parseMethodDescriptor yX1_signOwnDirection.desc).map (fun d => d.parameters.length) = some 1 := by decide +kernel
noncomputable def t_X1_signOwnDirection (ft_state_signs : Nat → Int32) (va1 : Int32) : Int32 :=
  (((t_X4_at 210 (ft_state_signs) (va1)) - (1 : Int32)) &&& (3 : Int32))
theorem tot_X1_signOwnDirection (ft_state_signs : Nat → Int32) (va1 : Int32) : f_X1_signOwnDirection ft_state_signs va1 = some (t_X1_signOwnDirection ft_state_signs va1) := by
  simp only [f_X1_signOwnDirection, t_X1_signOwnDirection]
noncomputable def f_X1_putSign (ft_state_signs : Nat → Int32) (va1 : Int32) (va2 : Int32) (va3 : Int32) : Option ((Nat → Int32)) :=
  some ((t_X4_put 210 (ft_state_signs) (va1) ((((1 : Int32) + ((4 : Int32) * va2)) + va3))))
abbrev rm_X1_putSign : Room := { frames := 1, cells := 0, slots := 0, locals := 22 }
set_option maxHeartbeats 4000000 in
set_option maxRecDepth 100000 in
theorem c_X1_putSign (l : Launch) (dC : Nat → ClassId) (dI : Nat → Nat → Nat) (cy : gC) (G : gT) (sz : Nat) (qt : Nat) (qt_state : Nat) (qt_state_signs : Nat) (qt_state_signs_values : Nat) (xt_shape : Nat) (xt_state_letters : Nat) (xt_state_open : Nat) (it_state_size : Int32) (it_state_start : Int32) (it_state_goal : Int32) (ft_state_signs : Nat → Int32) (va1 : Int32) (va2 : Int32) (va3 : Int32) (out : (Nat → Int32)) (hf : f_X1_putSign ft_state_signs va1 va2 va3 = some out) : Met l yX1_putSign wsX1_putSign rm_X1_putSign (va_Pc [.ref qt, .int va1, .int va2, .int va3] (kP (dC, dI) cy G [(qt, .inr (1, [.ref xt_shape, .ref qt_state])), (qt_state, .inr (6, [.ref xt_state_letters, .ref xt_state_open, .ref qt_state_signs, .int (it_state_size), .int (it_state_start), .int (it_state_goal)])), (qt_state_signs, .inr (4, [.ref qt_state_signs_values])), (qt_state_signs_values, .inl (cy.1, 210, .inl (ft_state_signs)))] sz)) (va_Qv (fun (_ : Unit) => True) (fun _ => kQ (dC, dI) cy [(qt, .inr (1, [.ref xt_shape, .ref qt_state])), (qt_state, .inr (6, [.ref xt_state_letters, .ref xt_state_open, .ref qt_state_signs, .int (it_state_size), .int (it_state_start), .int (it_state_goal)])), (qt_state_signs, .inr (4, [.ref qt_state_signs_values])), (qt_state_signs_values, .inl (cy.1, 210, .inl (out)))] (va_A [(qt, .inr (1, [.ref xt_shape, .ref qt_state])), (qt_state, .inr (6, [.ref xt_state_letters, .ref xt_state_open, .ref qt_state_signs, .int (it_state_size), .int (it_state_start), .int (it_state_goal)])), (qt_state_signs, .inr (4, [.ref qt_state_signs_values])), (qt_state_signs_values, .inl (cy.1, 210, .inl (ft_state_signs)))] sz)) (va_A [(qt, .inr (1, [.ref xt_shape, .ref qt_state])), (qt_state, .inr (6, [.ref xt_state_letters, .ref xt_state_open, .ref qt_state_signs, .int (it_state_size), .int (it_state_start), .int (it_state_goal)])), (qt_state_signs, .inr (4, [.ref qt_state_signs_values])), (qt_state_signs_values, .inl (cy.1, 210, .inl (ft_state_signs)))] sz)) 0 0 (va_A [(qt, .inr (1, [.ref xt_shape, .ref qt_state])), (qt_state, .inr (6, [.ref xt_state_letters, .ref xt_state_open, .ref qt_state_signs, .int (it_state_size), .int (it_state_start), .int (it_state_goal)])), (qt_state_signs, .inr (4, [.ref qt_state_signs_values])), (qt_state_signs_values, .inl (cy.1, 210, .inl (ft_state_signs)))] sz) := by
  refine Met.ofW (cc := cX1_putSign) (maxL := 4) (ret := none) (by decide) rfl ?_
  intro p e s m args below meth c s₁ B hml hv
  obtain ⟨rfl, hsz, hP, hK, hD0, hG⟩ := hv
  have hx := B.exec
  have hb := B.bytes
  have hr := B.returns
  have hts := atoms_spec (ws := wsX1_putSign) B.pre
  have hown : s.vm.findClass RX1 = some m.cls := findClass_of_methodNamed B.named
  have hlocks := B.notSynchronized
  subst hsz
  have hD := hD0.self (sz := s.heap.size)
  generalize hAe : va_A [(qt, .inr (1, [.ref xt_shape, .ref qt_state])), (qt_state, .inr (6, [.ref xt_state_letters, .ref xt_state_open, .ref qt_state_signs, .int (it_state_size), .int (it_state_start), .int (it_state_goal)])), (qt_state_signs, .inr (4, [.ref qt_state_signs_values])), (qt_state_signs_values, .inl (cy.1, 210, .inl (ft_state_signs)))] s.heap.size = A at hD hG ⊢
  have hA : ∀ q : Nat, s.heap.size ≤ q → A q := fun q h => by rw [← hAe]; exact Or.inr h
  have hS : va_S A s.heap s.heap [] := va_S.rf
  have hP : va_P (dC, dI) vwCl [(qt, .inr (1, [.ref xt_shape, .ref qt_state])), (qt_state, .inr (6, [.ref xt_state_letters, .ref xt_state_open, .ref qt_state_signs, .int (it_state_size), .int (it_state_start), .int (it_state_goal)])), (qt_state_signs, .inr (4, [.ref qt_state_signs_values])), (qt_state_signs_values, .inl (cy.1, 210, .inl (ft_state_signs)))] s.heap := hP
  have hl := lv_entry ([.ref qt, .int va1, .int va2, .int va3]) (n := 4) (Nat.le_of_ble_eq_true rfl)
  rw [lg_entry_eq]
  generalize (lg_sl ([.ref qt, .int va1, .int va2, .int va3]) ++ List.replicate (4 - (lg_sl ([.ref qt, .int va1, .int va2, .int va3])).length) Slot.unset).toArray = ls at hl ⊢
  have hl : lv_has ls 4 [(0, .ref qt), (1, .int va1), (2, .int va2), (3, .int va3)] := hl
  refine kgen (fun Q hQ => ?_)
  rw [f_X1_putSign] at hf
  refine lv_aload_n hx hb dX1_putSign_0 rfl (lv_at hl 0 rfl) ?_
  refine va_get (D := (dC, dI)) (ci := 1) (C := RX1) (T := TX1) (N := 2) hx hb hts (fun _ h => (List.mem_cons_of_mem _ (List.mem_append_left _ (List.mem_append_left _ (List.mem_append_right _ h))))) hown hK hP 0 rfl rfl 1 (by decide) (hts _ (List.mem_cons_of_mem _ (List.mem_append_left _ (List.mem_append_left _ (List.mem_append_left _ (List.mem_of_getElem? (i := 0) rfl)))))) (fun _ h => h) rfl dX1_putSign_1 ?_
  refine va_get (D := (dC, dI)) (ci := 6) (C := RX6) (T := TX6) (N := 6) hx hb hts (fun _ h => (List.mem_cons_of_mem _ (List.mem_append_left _ (List.mem_append_right _ h)))) hown hK hP 1 rfl rfl 2 (by decide) (hts _ (List.mem_cons_of_mem _ (List.mem_append_left _ (List.mem_append_left _ (List.mem_append_left _ (List.mem_of_getElem? (i := 1) rfl)))))) (fun _ h => h) rfl dX1_putSign_4 ?_
  refine lv_iload_n hx hb dX1_putSign_7 rfl (lv_at hl 1 rfl) ?_
  refine lv_iconst (v := (1 : Int32)) hx hb dX1_putSign_8 (by decide) ?_
  refine lv_iconst (v := (4 : Int32)) hx hb dX1_putSign_9 (by decide) ?_
  refine lv_iload_n hx hb dX1_putSign_10 rfl (lv_at hl 2 rfl) ?_
  refine lv_imul hx hb dX1_putSign_11 ?_
  refine lv_iadd hx hb dX1_putSign_12 ?_
  refine lv_iload_n hx hb dX1_putSign_13 rfl (lv_at hl 3 rfl) ?_
  refine lv_iadd hx hb dX1_putSign_14 ?_
  refine kcallv (wc := [(qt_state_signs, .inr (4, [.ref qt_state_signs_values])), (qt_state_signs_values, .inl (cy.1, 210, .inl (ft_state_signs)))]) (wr := [(qt, .inr (1, [.ref xt_shape, .ref qt_state])), (qt_state, .inr (6, [.ref xt_state_letters, .ref xt_state_open, .ref qt_state_signs, .int (it_state_size), .int (it_state_start), .int (it_state_goal)]))]) (w1 := [(qt_state_signs, .inr (4, [.ref qt_state_signs_values])), (qt_state_signs_values, .inl (cy.1, 210, .inl ((t_X4_put 210 (ft_state_signs) (va1) ((((1 : Int32) + ((4 : Int32) * va2)) + va3))))))]) hK hP hD hS hA hG [2, 3] [0, 1] rfl rfl rfl rfl rfl (fun hU hPc => va_runV (As := [.int va1, .int (((1 : Int32) + ((4 : Int32) * va2)) + va3)]) (rest := []) ⟨hx, hb, hml, hown, hts⟩ (c_X4_put l dC dI cy G s.heap.size qt_state_signs qt_state_signs_values 210 (ft_state_signs) (va1) ((((1 : Int32) + ((4 : Int32) * va2)) + va3)) (by decide) (t_X4_put 210 (ft_state_signs) (va1) ((((1 : Int32) + ((4 : Int32) * va2)) + va3))) (tot_X4_put 210 (ft_state_signs) (va1) ((((1 : Int32) + ((4 : Int32) * va2)) + va3)))) (cwV 2 hts gX1_putSign_X4_put rfl rfl rfl hdX4_put ⟨Nat.le_of_ble_eq_true rfl, Nat.le_of_ble_eq_true rfl⟩) ⟨kBlind, (va_recv hK hP (ci := 4) (q0 := 2) rfl rfl), fun U h1 h2 => ⟨rfl, hU U h1 h2⟩⟩ rfl rfl hl.1 rfl (lv_room (Nat.le_of_ble_eq_true rfl)) dX1_putSign_15 ⟨Nat.zero_le _, Nat.zero_le _⟩) (fun _ _ h => h) (fun H locs hP hD hS => ?_)
  have hP : va_P (dC, dI) vwCl [(qt, .inr (1, [.ref xt_shape, .ref qt_state])), (qt_state, .inr (6, [.ref xt_state_letters, .ref xt_state_open, .ref qt_state_signs, .int (it_state_size), .int (it_state_start), .int (it_state_goal)])), (qt_state_signs, .inr (4, [.ref qt_state_signs_values])), (qt_state_signs_values, .inl (cy.1, 210, .inl ((t_X4_put 210 (ft_state_signs) (va1) ((((1 : Int32) + ((4 : Int32) * va2)) + va3))))))] H := hP
  have hD : va_D A [(qt, .inr (1, [.ref xt_shape, .ref qt_state])), (qt_state, .inr (6, [.ref xt_state_letters, .ref xt_state_open, .ref qt_state_signs, .int (it_state_size), .int (it_state_start), .int (it_state_goal)])), (qt_state_signs, .inr (4, [.ref qt_state_signs_values])), (qt_state_signs_values, .inl (cy.1, 210, .inl ((t_X4_put 210 (ft_state_signs) (va1) ((((1 : Int32) + ((4 : Int32) * va2)) + va3))))))] := hD
  cases hf
  subst hQ
  exact kvret hx hb hr hlocks hK (hP.sub [0, 1, 2, 3] rfl) (hD.sub [0, 1, 2, 3] (by decide) rfl) hS trivial dX1_putSign_18
theorem hdX1_putSign : yX1_putSign.cls = RX1 ∧ yX1_putSign.cls ≠ "java/lang/invoke/MethodHandle" ∧ yX1_putSign.cls ≠ "java/lang/invoke/VarHandle" ∧ (parseMethodDescriptor yX1_putSign.desc).map (fun d => d.parameters.length) = some 3 := by decide +kernel
noncomputable def t_X1_putSign (ft_state_signs : Nat → Int32) (va1 : Int32) (va2 : Int32) (va3 : Int32) : Nat → Int32 :=
  (t_X4_put 210 (ft_state_signs) (va1) ((((1 : Int32) + ((4 : Int32) * va2)) + va3)))
theorem tot_X1_putSign (ft_state_signs : Nat → Int32) (va1 : Int32) (va2 : Int32) (va3 : Int32) : f_X1_putSign ft_state_signs va1 va2 va3 = some (t_X1_putSign ft_state_signs va1 va2 va3) := by
  simp only [f_X1_putSign, t_X1_putSign]
noncomputable def f_X1_removeSign (ft_state_signs : Nat → Int32) (va1 : Int32) : Option ((Nat → Int32)) :=
  some ((t_X4_put 210 (ft_state_signs) (va1) ((0 : Int32))))
abbrev rm_X1_removeSign : Room := { frames := 1, cells := 0, slots := 0, locals := 22 }
set_option maxHeartbeats 4000000 in
set_option maxRecDepth 100000 in
theorem c_X1_removeSign (l : Launch) (dC : Nat → ClassId) (dI : Nat → Nat → Nat) (cy : gC) (G : gT) (sz : Nat) (qt : Nat) (qt_state : Nat) (qt_state_signs : Nat) (qt_state_signs_values : Nat) (xt_shape : Nat) (xt_state_letters : Nat) (xt_state_open : Nat) (it_state_size : Int32) (it_state_start : Int32) (it_state_goal : Int32) (ft_state_signs : Nat → Int32) (va1 : Int32) (out : (Nat → Int32)) (hf : f_X1_removeSign ft_state_signs va1 = some out) : Met l yX1_removeSign wsX1_removeSign rm_X1_removeSign (va_Pc [.ref qt, .int va1] (kP (dC, dI) cy G [(qt, .inr (1, [.ref xt_shape, .ref qt_state])), (qt_state, .inr (6, [.ref xt_state_letters, .ref xt_state_open, .ref qt_state_signs, .int (it_state_size), .int (it_state_start), .int (it_state_goal)])), (qt_state_signs, .inr (4, [.ref qt_state_signs_values])), (qt_state_signs_values, .inl (cy.1, 210, .inl (ft_state_signs)))] sz)) (va_Qv (fun (_ : Unit) => True) (fun _ => kQ (dC, dI) cy [(qt, .inr (1, [.ref xt_shape, .ref qt_state])), (qt_state, .inr (6, [.ref xt_state_letters, .ref xt_state_open, .ref qt_state_signs, .int (it_state_size), .int (it_state_start), .int (it_state_goal)])), (qt_state_signs, .inr (4, [.ref qt_state_signs_values])), (qt_state_signs_values, .inl (cy.1, 210, .inl (out)))] (va_A [(qt, .inr (1, [.ref xt_shape, .ref qt_state])), (qt_state, .inr (6, [.ref xt_state_letters, .ref xt_state_open, .ref qt_state_signs, .int (it_state_size), .int (it_state_start), .int (it_state_goal)])), (qt_state_signs, .inr (4, [.ref qt_state_signs_values])), (qt_state_signs_values, .inl (cy.1, 210, .inl (ft_state_signs)))] sz)) (va_A [(qt, .inr (1, [.ref xt_shape, .ref qt_state])), (qt_state, .inr (6, [.ref xt_state_letters, .ref xt_state_open, .ref qt_state_signs, .int (it_state_size), .int (it_state_start), .int (it_state_goal)])), (qt_state_signs, .inr (4, [.ref qt_state_signs_values])), (qt_state_signs_values, .inl (cy.1, 210, .inl (ft_state_signs)))] sz)) 0 0 (va_A [(qt, .inr (1, [.ref xt_shape, .ref qt_state])), (qt_state, .inr (6, [.ref xt_state_letters, .ref xt_state_open, .ref qt_state_signs, .int (it_state_size), .int (it_state_start), .int (it_state_goal)])), (qt_state_signs, .inr (4, [.ref qt_state_signs_values])), (qt_state_signs_values, .inl (cy.1, 210, .inl (ft_state_signs)))] sz) := by
  refine Met.ofW (cc := cX1_removeSign) (maxL := 2) (ret := none) (by decide) rfl ?_
  intro p e s m args below meth c s₁ B hml hv
  obtain ⟨rfl, hsz, hP, hK, hD0, hG⟩ := hv
  have hx := B.exec
  have hb := B.bytes
  have hr := B.returns
  have hts := atoms_spec (ws := wsX1_removeSign) B.pre
  have hown : s.vm.findClass RX1 = some m.cls := findClass_of_methodNamed B.named
  have hlocks := B.notSynchronized
  subst hsz
  have hD := hD0.self (sz := s.heap.size)
  generalize hAe : va_A [(qt, .inr (1, [.ref xt_shape, .ref qt_state])), (qt_state, .inr (6, [.ref xt_state_letters, .ref xt_state_open, .ref qt_state_signs, .int (it_state_size), .int (it_state_start), .int (it_state_goal)])), (qt_state_signs, .inr (4, [.ref qt_state_signs_values])), (qt_state_signs_values, .inl (cy.1, 210, .inl (ft_state_signs)))] s.heap.size = A at hD hG ⊢
  have hA : ∀ q : Nat, s.heap.size ≤ q → A q := fun q h => by rw [← hAe]; exact Or.inr h
  have hS : va_S A s.heap s.heap [] := va_S.rf
  have hP : va_P (dC, dI) vwCl [(qt, .inr (1, [.ref xt_shape, .ref qt_state])), (qt_state, .inr (6, [.ref xt_state_letters, .ref xt_state_open, .ref qt_state_signs, .int (it_state_size), .int (it_state_start), .int (it_state_goal)])), (qt_state_signs, .inr (4, [.ref qt_state_signs_values])), (qt_state_signs_values, .inl (cy.1, 210, .inl (ft_state_signs)))] s.heap := hP
  have hl := lv_entry ([.ref qt, .int va1]) (n := 2) (Nat.le_of_ble_eq_true rfl)
  rw [lg_entry_eq]
  generalize (lg_sl ([.ref qt, .int va1]) ++ List.replicate (2 - (lg_sl ([.ref qt, .int va1])).length) Slot.unset).toArray = ls at hl ⊢
  have hl : lv_has ls 2 [(0, .ref qt), (1, .int va1)] := hl
  refine kgen (fun Q hQ => ?_)
  rw [f_X1_removeSign] at hf
  refine lv_aload_n hx hb dX1_removeSign_0 rfl (lv_at hl 0 rfl) ?_
  refine va_get (D := (dC, dI)) (ci := 1) (C := RX1) (T := TX1) (N := 2) hx hb hts (fun _ h => (List.mem_cons_of_mem _ (List.mem_append_left _ (List.mem_append_left _ (List.mem_append_right _ h))))) hown hK hP 0 rfl rfl 1 (by decide) (hts _ (List.mem_cons_of_mem _ (List.mem_append_left _ (List.mem_append_left _ (List.mem_append_left _ (List.mem_of_getElem? (i := 0) rfl)))))) (fun _ h => h) rfl dX1_removeSign_1 ?_
  refine va_get (D := (dC, dI)) (ci := 6) (C := RX6) (T := TX6) (N := 6) hx hb hts (fun _ h => (List.mem_cons_of_mem _ (List.mem_append_left _ (List.mem_append_right _ h)))) hown hK hP 1 rfl rfl 2 (by decide) (hts _ (List.mem_cons_of_mem _ (List.mem_append_left _ (List.mem_append_left _ (List.mem_append_left _ (List.mem_of_getElem? (i := 1) rfl)))))) (fun _ h => h) rfl dX1_removeSign_4 ?_
  refine lv_iload_n hx hb dX1_removeSign_7 rfl (lv_at hl 1 rfl) ?_
  refine lv_iconst (v := (0 : Int32)) hx hb dX1_removeSign_8 (by decide) ?_
  refine kcallv (wc := [(qt_state_signs, .inr (4, [.ref qt_state_signs_values])), (qt_state_signs_values, .inl (cy.1, 210, .inl (ft_state_signs)))]) (wr := [(qt, .inr (1, [.ref xt_shape, .ref qt_state])), (qt_state, .inr (6, [.ref xt_state_letters, .ref xt_state_open, .ref qt_state_signs, .int (it_state_size), .int (it_state_start), .int (it_state_goal)]))]) (w1 := [(qt_state_signs, .inr (4, [.ref qt_state_signs_values])), (qt_state_signs_values, .inl (cy.1, 210, .inl ((t_X4_put 210 (ft_state_signs) (va1) ((0 : Int32))))))]) hK hP hD hS hA hG [2, 3] [0, 1] rfl rfl rfl rfl rfl (fun hU hPc => va_runV (As := [.int va1, .int (0 : Int32)]) (rest := []) ⟨hx, hb, hml, hown, hts⟩ (c_X4_put l dC dI cy G s.heap.size qt_state_signs qt_state_signs_values 210 (ft_state_signs) (va1) ((0 : Int32)) (by decide) (t_X4_put 210 (ft_state_signs) (va1) ((0 : Int32))) (tot_X4_put 210 (ft_state_signs) (va1) ((0 : Int32)))) (cwV 2 hts gX1_removeSign_X4_put rfl rfl rfl hdX4_put ⟨Nat.le_of_ble_eq_true rfl, Nat.le_of_ble_eq_true rfl⟩) ⟨kBlind, (va_recv hK hP (ci := 4) (q0 := 2) rfl rfl), fun U h1 h2 => ⟨rfl, hU U h1 h2⟩⟩ rfl rfl hl.1 rfl (lv_room (Nat.le_of_ble_eq_true rfl)) dX1_removeSign_9 ⟨Nat.zero_le _, Nat.zero_le _⟩) (fun _ _ h => h) (fun H locs hP hD hS => ?_)
  have hP : va_P (dC, dI) vwCl [(qt, .inr (1, [.ref xt_shape, .ref qt_state])), (qt_state, .inr (6, [.ref xt_state_letters, .ref xt_state_open, .ref qt_state_signs, .int (it_state_size), .int (it_state_start), .int (it_state_goal)])), (qt_state_signs, .inr (4, [.ref qt_state_signs_values])), (qt_state_signs_values, .inl (cy.1, 210, .inl ((t_X4_put 210 (ft_state_signs) (va1) ((0 : Int32))))))] H := hP
  have hD : va_D A [(qt, .inr (1, [.ref xt_shape, .ref qt_state])), (qt_state, .inr (6, [.ref xt_state_letters, .ref xt_state_open, .ref qt_state_signs, .int (it_state_size), .int (it_state_start), .int (it_state_goal)])), (qt_state_signs, .inr (4, [.ref qt_state_signs_values])), (qt_state_signs_values, .inl (cy.1, 210, .inl ((t_X4_put 210 (ft_state_signs) (va1) ((0 : Int32))))))] := hD
  cases hf
  subst hQ
  exact kvret hx hb hr hlocks hK (hP.sub [0, 1, 2, 3] rfl) (hD.sub [0, 1, 2, 3] (by decide) rfl) hS trivial dX1_removeSign_12
theorem hdX1_removeSign : yX1_removeSign.cls = RX1 ∧ yX1_removeSign.cls ≠ "java/lang/invoke/MethodHandle" ∧ yX1_removeSign.cls ≠ "java/lang/invoke/VarHandle" ∧ (parseMethodDescriptor yX1_removeSign.desc).map (fun d => d.parameters.length) = some 1 := by decide +kernel
noncomputable def t_X1_removeSign (ft_state_signs : Nat → Int32) (va1 : Int32) : Nat → Int32 :=
  (t_X4_put 210 (ft_state_signs) (va1) ((0 : Int32)))
theorem tot_X1_removeSign (ft_state_signs : Nat → Int32) (va1 : Int32) : f_X1_removeSign ft_state_signs va1 = some (t_X1_removeSign ft_state_signs va1) := by
  simp only [f_X1_removeSign, t_X1_removeSign]
noncomputable def b_X1_signCount_4 (N : Nat) (ft_state_open : Nat → Int32) (ft_state_signs : Nat → Int32) (va1 : Int32) : Nat → Int32 → Int32 → Option (Int32)
  | 0, _, _ => none
  | n + 1, l2, l3 =>
    if (210 : Int32) ≤ l3 then
      some (l2)
    else
      if va1 = 0 then
        if (t_X1_hasSign (ft_state_signs) (l3)) = 0 then
          b_X1_signCount_4 N ft_state_open ft_state_signs va1 n (l2) ((l3 + (1 : Int32)))
        else
          b_X1_signCount_4 N ft_state_open ft_state_signs va1 n ((l2 + (1 : Int32))) ((l3 + (1 : Int32)))
      else
        if (t_X1_signCounts (ft_state_open) (ft_state_signs) (l3)) = 0 then
          b_X1_signCount_4 N ft_state_open ft_state_signs va1 n (l2) ((l3 + (1 : Int32)))
        else
          b_X1_signCount_4 N ft_state_open ft_state_signs va1 n ((l2 + (1 : Int32))) ((l3 + (1 : Int32)))
noncomputable def f_X1_signCount (N : Nat) (ft_state_open : Nat → Int32) (ft_state_signs : Nat → Int32) (va1 : Int32) : Option (Int32) :=
  b_X1_signCount_4 N ft_state_open ft_state_signs va1 N ((0 : Int32)) ((0 : Int32))
abbrev rm_X1_signCount : Room := { frames := 4, cells := 0, slots := 0, locals := 84 }
set_option maxHeartbeats 4000000 in
set_option maxRecDepth 100000 in
theorem c_X1_signCount (l : Launch) (dC : Nat → ClassId) (dI : Nat → Nat → Nat) (cy : gC) (G : gT) (sz : Nat) (qt : Nat) (qt_state : Nat) (qt_state_open : Nat) (qt_state_open_values : Nat) (qt_state_signs : Nat) (qt_state_signs_values : Nat) (xt_shape : Nat) (xt_state_letters : Nat) (it_state_size : Int32) (it_state_start : Int32) (it_state_goal : Int32) (N : Nat) (ft_state_open : Nat → Int32) (ft_state_signs : Nat → Int32) (va1 : Int32) (out : Int32) (hf : f_X1_signCount N ft_state_open ft_state_signs va1 = some out) : Met l yX1_signCount wsX1_signCount rm_X1_signCount (va_Pc [.ref qt, .int va1] (kP (dC, dI) cy G [(qt, .inr (1, [.ref xt_shape, .ref qt_state])), (qt_state, .inr (6, [.ref xt_state_letters, .ref qt_state_open, .ref qt_state_signs, .int (it_state_size), .int (it_state_start), .int (it_state_goal)])), (qt_state_open, .inr (4, [.ref qt_state_open_values])), (qt_state_open_values, .inl (cy.1, 210, .inl (ft_state_open))), (qt_state_signs, .inr (4, [.ref qt_state_signs_values])), (qt_state_signs_values, .inl (cy.1, 210, .inl (ft_state_signs)))] sz)) (va_Qi (fun r (_ : Unit) => r = out) (fun _ => kQ (dC, dI) cy [(qt, .inr (1, [.ref xt_shape, .ref qt_state])), (qt_state, .inr (6, [.ref xt_state_letters, .ref qt_state_open, .ref qt_state_signs, .int (it_state_size), .int (it_state_start), .int (it_state_goal)])), (qt_state_open, .inr (4, [.ref qt_state_open_values])), (qt_state_open_values, .inl (cy.1, 210, .inl (ft_state_open))), (qt_state_signs, .inr (4, [.ref qt_state_signs_values])), (qt_state_signs_values, .inl (cy.1, 210, .inl (ft_state_signs)))] (va_A [(qt, .inr (1, [.ref xt_shape, .ref qt_state])), (qt_state, .inr (6, [.ref xt_state_letters, .ref qt_state_open, .ref qt_state_signs, .int (it_state_size), .int (it_state_start), .int (it_state_goal)])), (qt_state_open, .inr (4, [.ref qt_state_open_values])), (qt_state_open_values, .inl (cy.1, 210, .inl (ft_state_open))), (qt_state_signs, .inr (4, [.ref qt_state_signs_values])), (qt_state_signs_values, .inl (cy.1, 210, .inl (ft_state_signs)))] sz)) (va_A [(qt, .inr (1, [.ref xt_shape, .ref qt_state])), (qt_state, .inr (6, [.ref xt_state_letters, .ref qt_state_open, .ref qt_state_signs, .int (it_state_size), .int (it_state_start), .int (it_state_goal)])), (qt_state_open, .inr (4, [.ref qt_state_open_values])), (qt_state_open_values, .inl (cy.1, 210, .inl (ft_state_open))), (qt_state_signs, .inr (4, [.ref qt_state_signs_values])), (qt_state_signs_values, .inl (cy.1, 210, .inl (ft_state_signs)))] sz)) 0 0 (va_A [(qt, .inr (1, [.ref xt_shape, .ref qt_state])), (qt_state, .inr (6, [.ref xt_state_letters, .ref qt_state_open, .ref qt_state_signs, .int (it_state_size), .int (it_state_start), .int (it_state_goal)])), (qt_state_open, .inr (4, [.ref qt_state_open_values])), (qt_state_open_values, .inl (cy.1, 210, .inl (ft_state_open))), (qt_state_signs, .inr (4, [.ref qt_state_signs_values])), (qt_state_signs_values, .inl (cy.1, 210, .inl (ft_state_signs)))] sz) := by
  refine Met.ofW (cc := cX1_signCount) (maxL := 4) (ret := (some .int)) (by decide) rfl ?_
  intro p e s m args below meth c s₁ B hml hv
  obtain ⟨rfl, hsz, hP, hK, hD0, hG⟩ := hv
  have hx := B.exec
  have hb := B.bytes
  have hr := B.returns
  have hts := atoms_spec (ws := wsX1_signCount) B.pre
  have hown : s.vm.findClass RX1 = some m.cls := findClass_of_methodNamed B.named
  have hlocks := B.notSynchronized
  subst hsz
  have hD := hD0.self (sz := s.heap.size)
  generalize hAe : va_A [(qt, .inr (1, [.ref xt_shape, .ref qt_state])), (qt_state, .inr (6, [.ref xt_state_letters, .ref qt_state_open, .ref qt_state_signs, .int (it_state_size), .int (it_state_start), .int (it_state_goal)])), (qt_state_open, .inr (4, [.ref qt_state_open_values])), (qt_state_open_values, .inl (cy.1, 210, .inl (ft_state_open))), (qt_state_signs, .inr (4, [.ref qt_state_signs_values])), (qt_state_signs_values, .inl (cy.1, 210, .inl (ft_state_signs)))] s.heap.size = A at hD hG ⊢
  have hA : ∀ q : Nat, s.heap.size ≤ q → A q := fun q h => by rw [← hAe]; exact Or.inr h
  have hS : va_S A s.heap s.heap [] := va_S.rf
  have hP : va_P (dC, dI) vwCl [(qt, .inr (1, [.ref xt_shape, .ref qt_state])), (qt_state, .inr (6, [.ref xt_state_letters, .ref qt_state_open, .ref qt_state_signs, .int (it_state_size), .int (it_state_start), .int (it_state_goal)])), (qt_state_open, .inr (4, [.ref qt_state_open_values])), (qt_state_open_values, .inl (cy.1, 210, .inl (ft_state_open))), (qt_state_signs, .inr (4, [.ref qt_state_signs_values])), (qt_state_signs_values, .inl (cy.1, 210, .inl (ft_state_signs)))] s.heap := hP
  have hl := lv_entry ([.ref qt, .int va1]) (n := 4) (Nat.le_of_ble_eq_true rfl)
  rw [lg_entry_eq]
  generalize (lg_sl ([.ref qt, .int va1]) ++ List.replicate (4 - (lg_sl ([.ref qt, .int va1])).length) Slot.unset).toArray = ls at hl ⊢
  have hl : lv_has ls 4 [(0, .ref qt), (1, .int va1)] := hl
  refine kgen (fun Q hQ => ?_)
  have B4 : ∀ (n4 : Nat) (l2 : Int32) (l3 : Int32) (H : Heap) (locs : List Loc), va_P (dC, dI) vwCl [(qt, .inr (1, [.ref xt_shape, .ref qt_state])), (qt_state, .inr (6, [.ref xt_state_letters, .ref qt_state_open, .ref qt_state_signs, .int (it_state_size), .int (it_state_start), .int (it_state_goal)])), (qt_state_open, .inr (4, [.ref qt_state_open_values])), (qt_state_open_values, .inl (cy.1, 210, .inl (ft_state_open))), (qt_state_signs, .inr (4, [.ref qt_state_signs_values])), (qt_state_signs_values, .inl (cy.1, 210, .inl (ft_state_signs)))] H → va_D A [(qt, .inr (1, [.ref xt_shape, .ref qt_state])), (qt_state, .inr (6, [.ref xt_state_letters, .ref qt_state_open, .ref qt_state_signs, .int (it_state_size), .int (it_state_start), .int (it_state_goal)])), (qt_state_open, .inr (4, [.ref qt_state_open_values])), (qt_state_open_values, .inl (cy.1, 210, .inl (ft_state_open))), (qt_state_signs, .inr (4, [.ref qt_state_signs_values])), (qt_state_signs_values, .inl (cy.1, 210, .inl (ft_state_signs)))] → va_S A s.heap H locs → ∀ (ls : Array Slot), lv_has ls 4 [(0, .ref qt), (1, .int va1), (2, .int l2), (3, .int l3)] → b_X1_signCount_4 N ft_state_open ft_state_signs va1 n4 l2 l3 = some out → W p l e (headSpec wsX1_signCount rm_X1_signCount).room s m ([.ref qt, .int va1] : List Value).toArray below meth c H locs 0 0 Q (F0 m 4 ls []) := by
    intro n4
    induction n4 with
    | zero => intro l2 l3 H locs hP hD hS ls hl hf; rw [b_X1_signCount_4] at hf; cases hf
    | succ n4 ih4 =>
      intro l2 l3 H locs hP hD hS ls hl hf
      rw [b_X1_signCount_4] at hf
      refine lv_iload_n hx hb dX1_signCount_4 rfl (lv_at hl 3 rfl) ?_
      refine lv_sipush (v := (210 : Int32)) hx hb dX1_signCount_5 (by decide) ?_
      refine lv_icmp_ge (tgt := 43) hx hb dX1_signCount_8 (by decide) (fun hc_8 => ?_) (fun hc_8 => ?_)
      · rw [if_pos hc_8] at hf
        refine lv_iload_n hx hb dX1_signCount_43 rfl (lv_at hl 2 rfl) ?_
        cases hf
        subst hQ
        exact kiret hx hb hr hlocks hK (hP.sub [0, 1, 2, 3, 4, 5] rfl) (hD.sub [0, 1, 2, 3, 4, 5] (by decide) rfl) hS rfl dX1_signCount_44
      · rw [if_neg hc_8] at hf
        refine lv_iload_n hx hb dX1_signCount_11 rfl (lv_at hl 1 rfl) ?_
        refine lv_if_eq (tgt := 26) hx hb dX1_signCount_12 (by decide) (fun hc_12 => ?_) (fun hc_12 => ?_)
        · rw [if_pos hc_12] at hf
          refine lv_aload_n hx hb dX1_signCount_26 rfl (lv_at hl 0 rfl) ?_
          refine lv_iload_n hx hb dX1_signCount_27 rfl (lv_at hl 3 rfl) ?_
          refine kcalli (wc := [(qt, .inr (1, [.ref xt_shape, .ref qt_state])), (qt_state, .inr (6, [.ref xt_state_letters, .ref qt_state_open, .ref qt_state_signs, .int (it_state_size), .int (it_state_start), .int (it_state_goal)])), (qt_state_signs, .inr (4, [.ref qt_state_signs_values])), (qt_state_signs_values, .inl (cy.1, 210, .inl (ft_state_signs)))]) (wr := [(qt_state_open, .inr (4, [.ref qt_state_open_values])), (qt_state_open_values, .inl (cy.1, 210, .inl (ft_state_open)))]) (w1 := [(qt, .inr (1, [.ref xt_shape, .ref qt_state])), (qt_state, .inr (6, [.ref xt_state_letters, .ref qt_state_open, .ref qt_state_signs, .int (it_state_size), .int (it_state_start), .int (it_state_goal)])), (qt_state_signs, .inr (4, [.ref qt_state_signs_values])), (qt_state_signs_values, .inl (cy.1, 210, .inl (ft_state_signs)))]) hK hP hD hS hA hG [0, 1, 4, 5] [2, 3] rfl rfl rfl rfl rfl (fun hU hPc => va_runV (As := [.int l3]) (rest := []) ⟨hx, hb, hml, hown, hts⟩ (c_X1_hasSign l dC dI cy G H.size qt qt_state qt_state_signs qt_state_signs_values xt_shape xt_state_letters qt_state_open (it_state_size) (it_state_start) (it_state_goal) (ft_state_signs) (l3) (t_X1_hasSign (ft_state_signs) (l3)) (tot_X1_hasSign (ft_state_signs) (l3))) (cwV 1 hts gX1_signCount_X1_hasSign rfl rfl rfl hdX1_hasSign ⟨Nat.le_of_ble_eq_true rfl, Nat.le_of_ble_eq_true rfl⟩) ⟨kBlind, (va_recv hK hP (ci := 1) (q0 := 0) rfl rfl), fun U h1 h2 => ⟨rfl, hU U h1 h2⟩⟩ rfl rfl hl.1 rfl (lv_room (Nat.le_of_ble_eq_true rfl)) dX1_signCount_28 ⟨Nat.zero_le _, Nat.zero_le _⟩) ((t_X1_hasSign (ft_state_signs) (l3))) (fun _ _ h => h) (fun _ _ h => h) (fun H locs hP hD hS => ?_)
          have hP : va_P (dC, dI) vwCl [(qt_state_open, .inr (4, [.ref qt_state_open_values])), (qt_state_open_values, .inl (cy.1, 210, .inl (ft_state_open))), (qt, .inr (1, [.ref xt_shape, .ref qt_state])), (qt_state, .inr (6, [.ref xt_state_letters, .ref qt_state_open, .ref qt_state_signs, .int (it_state_size), .int (it_state_start), .int (it_state_goal)])), (qt_state_signs, .inr (4, [.ref qt_state_signs_values])), (qt_state_signs_values, .inl (cy.1, 210, .inl (ft_state_signs)))] H := hP
          have hD : va_D A [(qt_state_open, .inr (4, [.ref qt_state_open_values])), (qt_state_open_values, .inl (cy.1, 210, .inl (ft_state_open))), (qt, .inr (1, [.ref xt_shape, .ref qt_state])), (qt_state, .inr (6, [.ref xt_state_letters, .ref qt_state_open, .ref qt_state_signs, .int (it_state_size), .int (it_state_start), .int (it_state_goal)])), (qt_state_signs, .inr (4, [.ref qt_state_signs_values])), (qt_state_signs_values, .inl (cy.1, 210, .inl (ft_state_signs)))] := hD
          refine lv_if_eq (tgt := 37) hx hb dX1_signCount_31 (by decide) (fun hc_31 => ?_) (fun hc_31 => ?_)
          · rw [if_pos hc_31] at hf
            refine lv_iinc (v := (l3 + (1 : Int32))) (lv' := [(3, .int (l3 + (1 : Int32))), (0, .ref qt), (1, .int va1), (2, .int l2)]) hx hb dX1_signCount_37 hl (k := 3) rfl rfl (by decide) rfl (fun ls hl => ?_)
            refine lv_goto (tgt := 4) hx hb dX1_signCount_40 (by decide) ?_
            exact ih4 (l2) ((l3 + (1 : Int32))) _ _ (hP.sub [2, 3, 0, 1, 4, 5] rfl) (hD.sub [2, 3, 0, 1, 4, 5] (by decide) rfl) hS _ (lv_sub hl [1, 2, 3, 0] rfl) hf
          · rw [if_neg hc_31] at hf
            refine lv_iinc (v := (l2 + (1 : Int32))) (lv' := [(2, .int (l2 + (1 : Int32))), (0, .ref qt), (1, .int va1), (3, .int l3)]) hx hb dX1_signCount_34 hl (k := 2) rfl rfl (by decide) rfl (fun ls hl => ?_)
            refine lv_iinc (v := (l3 + (1 : Int32))) (lv' := [(3, .int (l3 + (1 : Int32))), (2, .int (l2 + (1 : Int32))), (0, .ref qt), (1, .int va1)]) hx hb dX1_signCount_37 hl (k := 3) rfl rfl (by decide) rfl (fun ls hl => ?_)
            refine lv_goto (tgt := 4) hx hb dX1_signCount_40 (by decide) ?_
            exact ih4 ((l2 + (1 : Int32))) ((l3 + (1 : Int32))) _ _ (hP.sub [2, 3, 0, 1, 4, 5] rfl) (hD.sub [2, 3, 0, 1, 4, 5] (by decide) rfl) hS _ (lv_sub hl [2, 3, 1, 0] rfl) hf
        · rw [if_neg hc_12] at hf
          refine lv_aload_n hx hb dX1_signCount_15 rfl (lv_at hl 0 rfl) ?_
          refine lv_iload_n hx hb dX1_signCount_16 rfl (lv_at hl 3 rfl) ?_
          refine kcalli (wc := [(qt, .inr (1, [.ref xt_shape, .ref qt_state])), (qt_state, .inr (6, [.ref xt_state_letters, .ref qt_state_open, .ref qt_state_signs, .int (it_state_size), .int (it_state_start), .int (it_state_goal)])), (qt_state_open, .inr (4, [.ref qt_state_open_values])), (qt_state_open_values, .inl (cy.1, 210, .inl (ft_state_open))), (qt_state_signs, .inr (4, [.ref qt_state_signs_values])), (qt_state_signs_values, .inl (cy.1, 210, .inl (ft_state_signs)))]) (wr := []) (w1 := [(qt, .inr (1, [.ref xt_shape, .ref qt_state])), (qt_state, .inr (6, [.ref xt_state_letters, .ref qt_state_open, .ref qt_state_signs, .int (it_state_size), .int (it_state_start), .int (it_state_goal)])), (qt_state_open, .inr (4, [.ref qt_state_open_values])), (qt_state_open_values, .inl (cy.1, 210, .inl (ft_state_open))), (qt_state_signs, .inr (4, [.ref qt_state_signs_values])), (qt_state_signs_values, .inl (cy.1, 210, .inl (ft_state_signs)))]) hK hP hD hS hA hG [0, 1, 2, 3, 4, 5] [] rfl rfl rfl rfl rfl (fun hU hPc => va_runV (As := [.int l3]) (rest := []) ⟨hx, hb, hml, hown, hts⟩ (c_X1_signCounts l dC dI cy G H.size qt qt_state qt_state_open qt_state_open_values qt_state_signs qt_state_signs_values xt_shape xt_state_letters (it_state_size) (it_state_start) (it_state_goal) (ft_state_open) (ft_state_signs) (l3) (t_X1_signCounts (ft_state_open) (ft_state_signs) (l3)) (tot_X1_signCounts (ft_state_open) (ft_state_signs) (l3))) (cwV 1 hts gX1_signCount_X1_signCounts rfl rfl rfl hdX1_signCounts ⟨Nat.le_of_ble_eq_true rfl, Nat.le_of_ble_eq_true rfl⟩) ⟨kBlind, (va_recv hK hP (ci := 1) (q0 := 0) rfl rfl), fun U h1 h2 => ⟨rfl, hU U h1 h2⟩⟩ rfl rfl hl.1 rfl (lv_room (Nat.le_of_ble_eq_true rfl)) dX1_signCount_17 ⟨Nat.zero_le _, Nat.zero_le _⟩) ((t_X1_signCounts (ft_state_open) (ft_state_signs) (l3))) (fun _ _ h => h) (fun _ _ h => h) (fun H locs hP hD hS => ?_)
          have hP : va_P (dC, dI) vwCl [(qt, .inr (1, [.ref xt_shape, .ref qt_state])), (qt_state, .inr (6, [.ref xt_state_letters, .ref qt_state_open, .ref qt_state_signs, .int (it_state_size), .int (it_state_start), .int (it_state_goal)])), (qt_state_open, .inr (4, [.ref qt_state_open_values])), (qt_state_open_values, .inl (cy.1, 210, .inl (ft_state_open))), (qt_state_signs, .inr (4, [.ref qt_state_signs_values])), (qt_state_signs_values, .inl (cy.1, 210, .inl (ft_state_signs)))] H := hP
          have hD : va_D A [(qt, .inr (1, [.ref xt_shape, .ref qt_state])), (qt_state, .inr (6, [.ref xt_state_letters, .ref qt_state_open, .ref qt_state_signs, .int (it_state_size), .int (it_state_start), .int (it_state_goal)])), (qt_state_open, .inr (4, [.ref qt_state_open_values])), (qt_state_open_values, .inl (cy.1, 210, .inl (ft_state_open))), (qt_state_signs, .inr (4, [.ref qt_state_signs_values])), (qt_state_signs_values, .inl (cy.1, 210, .inl (ft_state_signs)))] := hD
          refine lv_if_eq (tgt := 37) hx hb dX1_signCount_20 (by decide) (fun hc_20 => ?_) (fun hc_20 => ?_)
          · rw [if_pos hc_20] at hf
            refine lv_iinc (v := (l3 + (1 : Int32))) (lv' := [(3, .int (l3 + (1 : Int32))), (0, .ref qt), (1, .int va1), (2, .int l2)]) hx hb dX1_signCount_37 hl (k := 3) rfl rfl (by decide) rfl (fun ls hl => ?_)
            refine lv_goto (tgt := 4) hx hb dX1_signCount_40 (by decide) ?_
            exact ih4 (l2) ((l3 + (1 : Int32))) _ _ (hP.sub [0, 1, 2, 3, 4, 5] rfl) (hD.sub [0, 1, 2, 3, 4, 5] (by decide) rfl) hS _ (lv_sub hl [1, 2, 3, 0] rfl) hf
          · rw [if_neg hc_20] at hf
            refine lv_goto (tgt := 34) hx hb dX1_signCount_23 (by decide) ?_
            refine lv_iinc (v := (l2 + (1 : Int32))) (lv' := [(2, .int (l2 + (1 : Int32))), (0, .ref qt), (1, .int va1), (3, .int l3)]) hx hb dX1_signCount_34 hl (k := 2) rfl rfl (by decide) rfl (fun ls hl => ?_)
            refine lv_iinc (v := (l3 + (1 : Int32))) (lv' := [(3, .int (l3 + (1 : Int32))), (2, .int (l2 + (1 : Int32))), (0, .ref qt), (1, .int va1)]) hx hb dX1_signCount_37 hl (k := 3) rfl rfl (by decide) rfl (fun ls hl => ?_)
            refine lv_goto (tgt := 4) hx hb dX1_signCount_40 (by decide) ?_
            exact ih4 ((l2 + (1 : Int32))) ((l3 + (1 : Int32))) _ _ (hP.sub [0, 1, 2, 3, 4, 5] rfl) (hD.sub [0, 1, 2, 3, 4, 5] (by decide) rfl) hS _ (lv_sub hl [2, 3, 1, 0] rfl) hf
  rw [f_X1_signCount] at hf
  refine lv_iconst (v := (0 : Int32)) hx hb dX1_signCount_0 (by decide) ?_
  refine lv_istore_n (lv' := [(2, .int (0 : Int32)), (0, .ref qt), (1, .int va1)]) hx hb dX1_signCount_1 rfl hl (by decide) rfl (fun ls hl => ?_)
  refine lv_iconst (v := (0 : Int32)) hx hb dX1_signCount_2 (by decide) ?_
  refine lv_istore_n (lv' := [(3, .int (0 : Int32)), (2, .int (0 : Int32)), (0, .ref qt), (1, .int va1)]) hx hb dX1_signCount_3 rfl hl (by decide) rfl (fun ls hl => ?_)
  exact B4 N ((0 : Int32)) ((0 : Int32)) _ _ (hP.sub [0, 1, 2, 3, 4, 5] rfl) (hD.sub [0, 1, 2, 3, 4, 5] (by decide) rfl) hS _ (lv_sub hl [2, 3, 1, 0] rfl) hf
theorem hdX1_signCount : yX1_signCount.cls = RX1 ∧ yX1_signCount.cls ≠ "java/lang/invoke/MethodHandle" ∧ yX1_signCount.cls ≠ "java/lang/invoke/VarHandle" ∧ (parseMethodDescriptor yX1_signCount.desc).map (fun d => d.parameters.length) = some 1 := by decide +kernel
noncomputable def f_X10_isDirection (va1 : Int32) : Option (Int32) :=
  if va1 < 0 then
    some ((0 : Int32))
  else
    if (4 : Int32) ≤ va1 then
      some ((0 : Int32))
    else
      some ((1 : Int32))
abbrev rm_X10_isDirection : Room := { frames := 0, cells := 0, slots := 0, locals := 0 }
set_option maxHeartbeats 4000000 in
set_option maxRecDepth 100000 in
theorem c_X10_isDirection (l : Launch) (dC : Nat → ClassId) (dI : Nat → Nat → Nat) (cy : gC) (G : gT) (sz : Nat) (va1 : Int32) (out : Int32) (hf : f_X10_isDirection va1 = some out) : Met l yX10_isDirection wsX10_isDirection rm_X10_isDirection (va_Pc [.int va1] (kP (dC, dI) cy G [] sz)) (va_Qi (fun r (_ : Unit) => r = out) (fun _ => kQ (dC, dI) cy [] (va_A [] sz)) (va_A [] sz)) 0 0 (va_A [] sz) := by
  refine Met.ofW (cc := cX10_isDirection) (maxL := 1) (ret := (some .boolean)) (by decide) rfl ?_
  intro p e s m args below meth c s₁ B hml hv
  obtain ⟨rfl, hsz, hP, hK, hD0, hG⟩ := hv
  have hx := B.exec
  have hb := B.bytes
  have hr := B.returns
  have hts := atoms_spec (ws := wsX10_isDirection) B.pre
  have hown : s.vm.findClass RX10 = some m.cls := findClass_of_methodNamed B.named
  have hlocks := B.notSynchronized
  subst hsz
  have hD := hD0.self (sz := s.heap.size)
  generalize hAe : va_A [] s.heap.size = A at hD hG ⊢
  have hA : ∀ q : Nat, s.heap.size ≤ q → A q := fun q h => by rw [← hAe]; exact Or.inr h
  have hS : va_S A s.heap s.heap [] := va_S.rf
  have hP : va_P (dC, dI) vwCl [] s.heap := hP
  have hl := lv_entry ([.int va1]) (n := 1) (Nat.le_of_ble_eq_true rfl)
  rw [lg_entry_eq]
  generalize (lg_sl ([.int va1]) ++ List.replicate (1 - (lg_sl ([.int va1])).length) Slot.unset).toArray = ls at hl ⊢
  have hl : lv_has ls 1 [(0, .int va1)] := hl
  refine kgen (fun Q hQ => ?_)
  rw [f_X10_isDirection] at hf
  refine lv_iload_n hx hb dX10_isDirection_0 rfl (lv_at hl 0 rfl) ?_
  refine lv_if_lt (tgt := 13) hx hb dX10_isDirection_1 (by decide) (fun hc_1 => ?_) (fun hc_1 => ?_)
  · rw [if_pos hc_1] at hf
    refine lv_iconst (v := (0 : Int32)) hx hb dX10_isDirection_13 (by decide) ?_
    cases hf
    subst hQ
    exact kzret hx hb hr hlocks rfl hK (hP.sub [] rfl) (hD.sub [] (by decide) rfl) hS rfl dX10_isDirection_14
  · rw [if_neg hc_1] at hf
    refine lv_iload_n hx hb dX10_isDirection_4 rfl (lv_at hl 0 rfl) ?_
    refine lv_iconst (v := (4 : Int32)) hx hb dX10_isDirection_5 (by decide) ?_
    refine lv_icmp_ge (tgt := 13) hx hb dX10_isDirection_6 (by decide) (fun hc_6 => ?_) (fun hc_6 => ?_)
    · rw [if_pos hc_6] at hf
      refine lv_iconst (v := (0 : Int32)) hx hb dX10_isDirection_13 (by decide) ?_
      cases hf
      subst hQ
      exact kzret hx hb hr hlocks rfl hK (hP.sub [] rfl) (hD.sub [] (by decide) rfl) hS rfl dX10_isDirection_14
    · rw [if_neg hc_6] at hf
      refine lv_iconst (v := (1 : Int32)) hx hb dX10_isDirection_9 (by decide) ?_
      refine lv_goto (tgt := 14) hx hb dX10_isDirection_10 (by decide) ?_
      cases hf
      subst hQ
      exact kzret hx hb hr hlocks rfl hK (hP.sub [] rfl) (hD.sub [] (by decide) rfl) hS rfl dX10_isDirection_14
theorem hdX10_isDirection : yX10_isDirection.cls = RX10 ∧ yX10_isDirection.cls ≠ "java/lang/invoke/MethodHandle" ∧ yX10_isDirection.cls ≠ "java/lang/invoke/VarHandle" ∧ (parseMethodDescriptor yX10_isDirection.desc).map (fun d => d.parameters.length) = some 1 := by decide +kernel
noncomputable def t_X10_isDirection (va1 : Int32) : Int32 :=
  if va1 < 0 then
    (0 : Int32)
  else
    if (4 : Int32) ≤ va1 then
      (0 : Int32)
    else
      (1 : Int32)
theorem tot_X10_isDirection (va1 : Int32) : f_X10_isDirection va1 = some (t_X10_isDirection va1) := by
  by_cases hc_1 : va1 < 0
  · simp only [f_X10_isDirection, t_X10_isDirection, if_pos hc_1]
  · by_cases hc_6 : (4 : Int32) ≤ va1
    · simp only [f_X10_isDirection, t_X10_isDirection, if_neg hc_1, if_pos hc_6]
    · simp only [f_X10_isDirection, t_X10_isDirection, if_neg hc_1, if_neg hc_6]
theorem bl_X10_isDirection (va1 : Int32) : t_X10_isDirection va1 = 0 ∨ t_X10_isDirection va1 = 1 := by
  unfold t_X10_isDirection
  repeat' (first | exact Or.inl rfl | exact Or.inr rfl | fail | split)
noncomputable def f_X10_isSign (va1 : Int32) (va2 : Int32) : Option (Int32) :=
  if va1 = (2 : Int32) then
    some ((t_X10_isDirection (va2)))
  else
    if va1 < 0 then
      some ((0 : Int32))
    else
      if (2 : Int32) ≤ va1 then
        some ((0 : Int32))
      else
        if va2 = 0 then
          some ((1 : Int32))
        else
          some ((0 : Int32))
abbrev rm_X10_isSign : Room := { frames := 1, cells := 0, slots := 0, locals := 20 }
set_option maxHeartbeats 4000000 in
set_option maxRecDepth 100000 in
theorem c_X10_isSign (l : Launch) (dC : Nat → ClassId) (dI : Nat → Nat → Nat) (cy : gC) (G : gT) (sz : Nat) (va1 : Int32) (va2 : Int32) (out : Int32) (hf : f_X10_isSign va1 va2 = some out) : Met l yX10_isSign wsX10_isSign rm_X10_isSign (va_Pc [.int va1, .int va2] (kP (dC, dI) cy G [] sz)) (va_Qi (fun r (_ : Unit) => r = out) (fun _ => kQ (dC, dI) cy [] (va_A [] sz)) (va_A [] sz)) 0 0 (va_A [] sz) := by
  refine Met.ofW (cc := cX10_isSign) (maxL := 2) (ret := (some .boolean)) (by decide) rfl ?_
  intro p e s m args below meth c s₁ B hml hv
  obtain ⟨rfl, hsz, hP, hK, hD0, hG⟩ := hv
  have hx := B.exec
  have hb := B.bytes
  have hr := B.returns
  have hts := atoms_spec (ws := wsX10_isSign) B.pre
  have hown : s.vm.findClass RX10 = some m.cls := findClass_of_methodNamed B.named
  have hlocks := B.notSynchronized
  subst hsz
  have hD := hD0.self (sz := s.heap.size)
  generalize hAe : va_A [] s.heap.size = A at hD hG ⊢
  have hA : ∀ q : Nat, s.heap.size ≤ q → A q := fun q h => by rw [← hAe]; exact Or.inr h
  have hS : va_S A s.heap s.heap [] := va_S.rf
  have hP : va_P (dC, dI) vwCl [] s.heap := hP
  have hl := lv_entry ([.int va1, .int va2]) (n := 2) (Nat.le_of_ble_eq_true rfl)
  rw [lg_entry_eq]
  generalize (lg_sl ([.int va1, .int va2]) ++ List.replicate (2 - (lg_sl ([.int va1, .int va2])).length) Slot.unset).toArray = ls at hl ⊢
  have hl : lv_has ls 2 [(0, .int va1), (1, .int va2)] := hl
  refine kgen (fun Q hQ => ?_)
  rw [f_X10_isSign] at hf
  refine lv_iload_n hx hb dX10_isSign_0 rfl (lv_at hl 0 rfl) ?_
  refine lv_iconst (v := (2 : Int32)) hx hb dX10_isSign_1 (by decide) ?_
  refine lv_icmp_ne (tgt := 10) hx hb dX10_isSign_2 (by decide) (fun hc_2 => ?_) (fun hc_2 => ?_)
  · rw [if_neg hc_2] at hf
    refine lv_iload_n hx hb dX10_isSign_10 rfl (lv_at hl 0 rfl) ?_
    refine lv_if_lt (tgt := 27) hx hb dX10_isSign_11 (by decide) (fun hc_11 => ?_) (fun hc_11 => ?_)
    · rw [if_pos hc_11] at hf
      refine lv_iconst (v := (0 : Int32)) hx hb dX10_isSign_27 (by decide) ?_
      cases hf
      subst hQ
      exact kzret hx hb hr hlocks rfl hK (hP.sub [] rfl) (hD.sub [] (by decide) rfl) hS rfl dX10_isSign_28
    · rw [if_neg hc_11] at hf
      refine lv_iload_n hx hb dX10_isSign_14 rfl (lv_at hl 0 rfl) ?_
      refine lv_iconst (v := (2 : Int32)) hx hb dX10_isSign_15 (by decide) ?_
      refine lv_icmp_ge (tgt := 27) hx hb dX10_isSign_16 (by decide) (fun hc_16 => ?_) (fun hc_16 => ?_)
      · rw [if_pos hc_16] at hf
        refine lv_iconst (v := (0 : Int32)) hx hb dX10_isSign_27 (by decide) ?_
        cases hf
        subst hQ
        exact kzret hx hb hr hlocks rfl hK (hP.sub [] rfl) (hD.sub [] (by decide) rfl) hS rfl dX10_isSign_28
      · rw [if_neg hc_16] at hf
        refine lv_iload_n hx hb dX10_isSign_19 rfl (lv_at hl 1 rfl) ?_
        refine lv_if_ne (tgt := 27) hx hb dX10_isSign_20 (by decide) (fun hc_20 => ?_) (fun hc_20 => ?_)
        · rw [if_neg hc_20] at hf
          refine lv_iconst (v := (0 : Int32)) hx hb dX10_isSign_27 (by decide) ?_
          cases hf
          subst hQ
          exact kzret hx hb hr hlocks rfl hK (hP.sub [] rfl) (hD.sub [] (by decide) rfl) hS rfl dX10_isSign_28
        · rw [if_pos hc_20] at hf
          refine lv_iconst (v := (1 : Int32)) hx hb dX10_isSign_23 (by decide) ?_
          refine lv_goto (tgt := 28) hx hb dX10_isSign_24 (by decide) ?_
          cases hf
          subst hQ
          exact kzret hx hb hr hlocks rfl hK (hP.sub [] rfl) (hD.sub [] (by decide) rfl) hS rfl dX10_isSign_28
  · rw [if_pos hc_2] at hf
    refine lv_iload_n hx hb dX10_isSign_5 rfl (lv_at hl 1 rfl) ?_
    refine kcalli (wc := []) (wr := []) (w1 := []) hK hP hD hS hA hG [] [] rfl rfl rfl rfl rfl (fun hU hPc => va_runS (As := [.int va2]) (rest := []) ⟨hx, hb, hml, hown, hts⟩ (c_X10_isDirection l dC dI cy G s.heap.size (va2) (t_X10_isDirection (va2)) (tot_X10_isDirection (va2))) (va_cwS 1 hts gX10_isSign_X10_isDirection rfl rfl rfl hdX10_isDirection.2 ⟨Nat.le_of_ble_eq_true rfl, Nat.le_of_ble_eq_true rfl⟩) ⟨kBlind, fun U h1 h2 => ⟨rfl, hU U h1 h2⟩⟩ rfl rfl hl.1 rfl (lv_room (Nat.le_of_ble_eq_true rfl)) dX10_isSign_6 ⟨Nat.zero_le _, Nat.zero_le _⟩) ((t_X10_isDirection (va2))) (fun _ _ h => h) (fun _ _ h => h) (fun H locs hP hD hS => ?_)
    cases hf
    subst hQ
    exact kzret hx hb hr hlocks (kbool (Classical.not_not.mpr (bl_X10_isDirection (va2)))) hK (hP.sub [] rfl) (hD.sub [] (by decide) rfl) hS rfl dX10_isSign_9
theorem hdX10_isSign : yX10_isSign.cls = RX10 ∧ yX10_isSign.cls ≠ "java/lang/invoke/MethodHandle" ∧ yX10_isSign.cls ≠ "java/lang/invoke/VarHandle" ∧ (parseMethodDescriptor yX10_isSign.desc).map (fun d => d.parameters.length) = some 2 := by decide +kernel
noncomputable def t_X10_isSign (va1 : Int32) (va2 : Int32) : Int32 :=
  if va1 = (2 : Int32) then
    (t_X10_isDirection (va2))
  else
    if va1 < 0 then
      (0 : Int32)
    else
      if (2 : Int32) ≤ va1 then
        (0 : Int32)
      else
        if va2 = 0 then
          (1 : Int32)
        else
          (0 : Int32)
theorem tot_X10_isSign (va1 : Int32) (va2 : Int32) : f_X10_isSign va1 va2 = some (t_X10_isSign va1 va2) := by
  by_cases hc_2 : va1 = (2 : Int32)
  · simp only [f_X10_isSign, t_X10_isSign, if_pos hc_2]
  · by_cases hc_11 : va1 < 0
    · simp only [f_X10_isSign, t_X10_isSign, if_neg hc_2, if_pos hc_11]
    · by_cases hc_16 : (2 : Int32) ≤ va1
      · simp only [f_X10_isSign, t_X10_isSign, if_neg hc_2, if_neg hc_11, if_pos hc_16]
      · by_cases hc_20 : va2 = 0
        · simp only [f_X10_isSign, t_X10_isSign, if_neg hc_2, if_neg hc_11, if_neg hc_16, if_pos hc_20]
        · simp only [f_X10_isSign, t_X10_isSign, if_neg hc_2, if_neg hc_11, if_neg hc_16, if_neg hc_20]
theorem bl_X10_isSign (va1 : Int32) (va2 : Int32) : t_X10_isSign va1 va2 = 0 ∨ t_X10_isSign va1 va2 = 1 := by
  unfold t_X10_isSign
  repeat' (first | exact Or.inl rfl | exact Or.inr rfl | exact bl_X10_isDirection _ | split)

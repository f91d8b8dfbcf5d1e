noncomputable def f_X5_patternRow (N : Nat) (va1 : Int32) (va2 : Int32) : Option (Int32) :=
  bnd1 (f_J0_indexOf_0f7a4_s0 N ((((va1).toUInt32 % 65536).toInt32))) fun r4 =>
  if ((r4 * (5 : Int32)) + va2) < 0 then
    some ((0 : Int32))
  else
    if (75 : Int32) ≤ ((r4 * (5 : Int32)) + va2) then
      some ((0 : Int32))
    else
      some ((patT (((r4 * (5 : Int32)) + va2)).toNatClampNeg))
abbrev rm_X5_patternRow : Room := { frames := 4, cells := 0, slots := 0, locals := 91 }
set_option maxHeartbeats 4000000 in
set_option maxRecDepth 100000 in
theorem c_X5_patternRow (l : Launch) (dC : Nat → ClassId) (dI : Nat → Nat → Nat) (cy : gC) (G : gT) (sz : Nat) (N : Nat) (va1 : Int32) (va2 : Int32) (out : Int32) (hf : f_X5_patternRow N va1 va2 = some out) : Met l yX5_patternRow wsX5_patternRow rm_X5_patternRow (va_Pc [.int va1, .int va2] (kP (dC, dI) cy G [] sz)) (va_Qi (fun r (_ : Unit) => r = out) (fun _ => kQ (dC, dI) cy [] (va_A [] sz)) (va_A [] sz)) 0 0 (va_A [] sz) := by
  refine Met.ofW (cc := cX5_patternRow) (maxL := 3) (ret := (some .int)) (by decide) rfl ?_
  intro p e s m args below meth c s₁ B hml hv
  obtain ⟨rfl, hsz, hP, hK, hD0, hG⟩ := hv
  have hx := B.exec
  have hb := B.bytes
  have hr := B.returns
  have hts := atoms_spec (ws := wsX5_patternRow) B.pre
  have hown : s.vm.findClass RX5 = some m.cls := findClass_of_methodNamed B.named
  have hlocks := B.notSynchronized
  subst hsz
  have hD := hD0.self (sz := s.heap.size)
  generalize hAe : va_A [] s.heap.size = A at hD hG ⊢
  have hA : ∀ q : Nat, s.heap.size ≤ q → A q := fun q h => by rw [← hAe]; exact Or.inr h
  have hS : va_S A s.heap s.heap [] := va_S.rf
  have hP : va_P (dC, dI) vwCl [] s.heap := hP
  have hl := lv_entry ([.int va1, .int va2]) (n := 3) (Nat.le_of_ble_eq_true rfl)
  rw [lg_entry_eq]
  generalize (lg_sl ([.int va1, .int va2]) ++ List.replicate (3 - (lg_sl ([.int va1, .int va2])).length) Slot.unset).toArray = ls at hl ⊢
  have hl : lv_has ls 3 [(0, .int va1), (1, .int va2)] := hl
  refine kgen (fun Q hQ => ?_)
  rw [f_X5_patternRow] at hf
  refine va_ldcS hx hb hown (hG.2.2.2.2.1) dX5_patternRow_0 ?_
  refine lv_iload_n hx hb dX5_patternRow_2 rfl (lv_at hl 0 rfl) ?_
  refine lv_i2c (v := ((va1).toUInt32 % 65536).toInt32) hx hb dX5_patternRow_3 rfl ?_
  obtain ⟨r4, hq_4, hf⟩ := bnd1_s hf
  refine kcalli (wc := []) (wr := []) (w1 := []) hK hP hD hS hA hG [] [] rfl rfl rfl rfl rfl (fun hU hPc => va_runV (As := [.int (((va1).toUInt32 % 65536).toInt32)]) (rest := []) ⟨hx, hb, hml, hown, hts⟩ (c_J0_indexOf_0f7a4_s0 l dC dI cy G s.heap.size N ((((va1).toUInt32 % 65536).toInt32)) r4 hq_4) (cwV 1 hts gX5_patternRow_J0_indexOf_0f7a4 rfl rfl rfl hdJ0_indexOf_0f7a4 ⟨Nat.le_of_ble_eq_true rfl, Nat.le_of_ble_eq_true rfl⟩) ⟨kBlind, (vk_recv hG.2.2.2.1 (i := 0) (by decide) hS), fun U h1 h2 => ⟨rfl, hU U h1 h2⟩⟩ rfl rfl hl.1 rfl (lv_room (Nat.le_of_ble_eq_true rfl)) dX5_patternRow_4 ⟨Nat.zero_le _, Nat.zero_le _⟩) (r4) (fun _ _ h => h) (fun _ _ h => h) (fun H locs hP hD hS => ?_)
  refine lv_iconst (v := (5 : Int32)) hx hb dX5_patternRow_7 (by decide) ?_
  refine lv_imul hx hb dX5_patternRow_8 ?_
  refine lv_iload_n hx hb dX5_patternRow_9 rfl (lv_at hl 1 rfl) ?_
  refine lv_iadd hx hb dX5_patternRow_10 ?_
  refine lv_istore_n (lv' := [(2, .int ((r4 * (5 : Int32)) + va2)), (0, .int va1), (1, .int va2)]) hx hb dX5_patternRow_11 rfl hl (by decide) rfl (fun ls hl => ?_)
  refine lv_iload_n hx hb dX5_patternRow_12 rfl (lv_at hl 0 rfl) ?_
  refine lv_if_lt (tgt := 32) hx hb dX5_patternRow_13 (by decide) (fun hc_13 => ?_) (fun hc_13 => ?_)
  · rw [if_pos hc_13] at hf
    refine lv_iconst (v := (0 : Int32)) hx hb dX5_patternRow_32 (by decide) ?_
    cases hf
    subst hQ
    exact kiret hx hb hr hlocks hK (hP.sub [] rfl) (hD.sub [] (by decide) rfl) hS rfl dX5_patternRow_33
  · rw [if_neg hc_13] at hf
    refine lv_iload_n hx hb dX5_patternRow_16 rfl (lv_at hl 0 rfl) ?_
    refine va_getsN (C := RX10) (n := "PATTERNS") (d := "[I") hx hb hG.1 hS hown (va_Nw.use rfl hG.2.2.2.2.2.2.2.1) (fun _ h => h) dX5_patternRow_17 ?_
    refine va_tlen (v := (75 : Int32)) hx hb hG.2.1 hS rfl dX5_patternRow_20 ?_
    refine lv_icmp_ge (tgt := 32) hx hb dX5_patternRow_21 (by decide) (fun hc_21 => ?_) (fun hc_21 => ?_)
    · rw [if_pos hc_21] at hf
      refine lv_iconst (v := (0 : Int32)) hx hb dX5_patternRow_32 (by decide) ?_
      cases hf
      subst hQ
      exact kiret hx hb hr hlocks hK (hP.sub [] rfl) (hD.sub [] (by decide) rfl) hS rfl dX5_patternRow_33
    · rw [if_neg hc_21] at hf
      refine va_getsN (C := RX10) (n := "PATTERNS") (d := "[I") hx hb hG.1 hS hown (va_Nw.use rfl hG.2.2.2.2.2.2.2.1) (fun _ h => h) dX5_patternRow_24 ?_
      refine lv_iload_n hx hb dX5_patternRow_27 rfl (lv_at hl 0 rfl) ?_
      refine va_ti hx hb hG.2.1 hS (vin_75 hc_13 hc_21) rfl dX5_patternRow_28 ?_
      refine lv_goto (tgt := 33) hx hb dX5_patternRow_29 (by decide) ?_
      cases hf
      subst hQ
      exact kiret hx hb hr hlocks hK (hP.sub [] rfl) (hD.sub [] (by decide) rfl) hS rfl dX5_patternRow_33
theorem hdX5_patternRow : yX5_patternRow.cls = RX5 ∧ yX5_patternRow.cls ≠ "java/lang/invoke/MethodHandle" ∧ yX5_patternRow.cls ≠ "java/lang/invoke/VarHandle" ∧ (parseMethodDescriptor yX5_patternRow.desc).map (fun d => d.parameters.length) = some 2 := by decide +kernel
noncomputable def b_X5_layLetter_17 (N : Nat) (it_width : Int32) (va1 : Int32) (va2 : Int32) (k2 : Int32 → (Nat → Int32) → Option ((Nat → Int32))) : Nat → Int32 → Int32 → Int32 → (Nat → Int32) → Option ((Nat → Int32))
  | 0, _, _, _, _ => none
  | n + 1, l3, l4, l5, cft_owners =>
    if (5 : Int32) ≤ l5 then
      k2 ((l3 + (1 : Int32))) (cft_owners)
    else
      if ((l4 >>> (((4 : Int32) - l5) &&& 31)) &&& (1 : Int32)) = (1 : Int32) then
        b_X5_layLetter_17 N it_width va1 va2 k2 n (l3) (l4) ((l5 + (1 : Int32))) ((t_X4_put 210 (cft_owners) ((((l3 * it_width) + ((6 : Int32) * va1)) + l5)) (((2 : Int32) + va1))))
      else
        b_X5_layLetter_17 N it_width va1 va2 k2 n (l3) (l4) ((l5 + (1 : Int32))) (cft_owners)
noncomputable def b_X5_layLetter_2 (N : Nat) (it_width : Int32) (va1 : Int32) (va2 : Int32) : Nat → Int32 → (Nat → Int32) → Option ((Nat → Int32))
  | 0, _, _ => none
  | n + 1, l3, cft_owners =>
    if (5 : Int32) ≤ l3 then
      some (cft_owners)
    else
      bnd1 (f_X5_patternRow N (va2) (l3)) fun r9 =>
      b_X5_layLetter_17 N it_width va1 va2 (b_X5_layLetter_2 N it_width va1 va2 n) N (l3) (r9) ((0 : Int32)) (cft_owners)
noncomputable def f_X5_layLetter (N : Nat) (it_width : Int32) (ft_owners : Nat → Int32) (va1 : Int32) (va2 : Int32) : Option ((Nat → Int32)) :=
  b_X5_layLetter_2 N it_width va1 va2 N ((0 : Int32)) (ft_owners)
abbrev rm_X5_layLetter : Room := { frames := 5, cells := 0, slots := 0, locals := 113 }
set_option maxHeartbeats 4000000 in
set_option maxRecDepth 100000 in
theorem c_X5_layLetter (l : Launch) (dC : Nat → ClassId) (dI : Nat → Nat → Nat) (cy : gC) (G : gT) (sz : Nat) (qt : Nat) (qt_owners : Nat) (qt_owners_values : Nat) (it_cellCount : Int32) (it_roomCount : Int32) (it_doorCount : Int32) (it_lowest : Int32) (N : Nat) (it_width : Int32) (ft_owners : Nat → Int32) (va1 : Int32) (va2 : Int32) (out : (Nat → Int32)) (hf : f_X5_layLetter N it_width ft_owners va1 va2 = some out) : Met l yX5_layLetter wsX5_layLetter rm_X5_layLetter (va_Pc [.ref qt, .int va1, .int va2] (kP (dC, dI) cy G [(qt, .inr (5, [.ref qt_owners, .int (it_width), .int (it_cellCount), .int (it_roomCount), .int (it_doorCount), .int (it_lowest)])), (qt_owners, .inr (4, [.ref qt_owners_values])), (qt_owners_values, .inl (cy.1, 210, .inl (ft_owners)))] sz)) (va_Qv (fun (_ : Unit) => True) (fun _ => kQ (dC, dI) cy [(qt, .inr (5, [.ref qt_owners, .int (it_width), .int (it_cellCount), .int (it_roomCount), .int (it_doorCount), .int (it_lowest)])), (qt_owners, .inr (4, [.ref qt_owners_values])), (qt_owners_values, .inl (cy.1, 210, .inl (out)))] (va_A [(qt, .inr (5, [.ref qt_owners, .int (it_width), .int (it_cellCount), .int (it_roomCount), .int (it_doorCount), .int (it_lowest)])), (qt_owners, .inr (4, [.ref qt_owners_values])), (qt_owners_values, .inl (cy.1, 210, .inl (ft_owners)))] sz)) (va_A [(qt, .inr (5, [.ref qt_owners, .int (it_width), .int (it_cellCount), .int (it_roomCount), .int (it_doorCount), .int (it_lowest)])), (qt_owners, .inr (4, [.ref qt_owners_values])), (qt_owners_values, .inl (cy.1, 210, .inl (ft_owners)))] sz)) 0 0 (va_A [(qt, .inr (5, [.ref qt_owners, .int (it_width), .int (it_cellCount), .int (it_roomCount), .int (it_doorCount), .int (it_lowest)])), (qt_owners, .inr (4, [.ref qt_owners_values])), (qt_owners_values, .inl (cy.1, 210, .inl (ft_owners)))] sz) := by
  refine Met.ofW (cc := cX5_layLetter) (maxL := 6) (ret := none) (by decide) rfl ?_
  intro p e s m args below meth c s₁ B hml hv
  obtain ⟨rfl, hsz, hP, hK, hD0, hG⟩ := hv
  have hx := B.exec
  have hb := B.bytes
  have hr := B.returns
  have hts := atoms_spec (ws := wsX5_layLetter) B.pre
  have hown : s.vm.findClass RX5 = some m.cls := findClass_of_methodNamed B.named
  have hlocks := B.notSynchronized
  subst hsz
  have hD := hD0.self (sz := s.heap.size)
  generalize hAe : va_A [(qt, .inr (5, [.ref qt_owners, .int (it_width), .int (it_cellCount), .int (it_roomCount), .int (it_doorCount), .int (it_lowest)])), (qt_owners, .inr (4, [.ref qt_owners_values])), (qt_owners_values, .inl (cy.1, 210, .inl (ft_owners)))] s.heap.size = A at hD hG ⊢
  have hA : ∀ q : Nat, s.heap.size ≤ q → A q := fun q h => by rw [← hAe]; exact Or.inr h
  have hS : va_S A s.heap s.heap [] := va_S.rf
  have hP : va_P (dC, dI) vwCl [(qt, .inr (5, [.ref qt_owners, .int (it_width), .int (it_cellCount), .int (it_roomCount), .int (it_doorCount), .int (it_lowest)])), (qt_owners, .inr (4, [.ref qt_owners_values])), (qt_owners_values, .inl (cy.1, 210, .inl (ft_owners)))] s.heap := hP
  have hl := lv_entry ([.ref qt, .int va1, .int va2]) (n := 6) (Nat.le_of_ble_eq_true rfl)
  rw [lg_entry_eq]
  generalize (lg_sl ([.ref qt, .int va1, .int va2]) ++ List.replicate (6 - (lg_sl ([.ref qt, .int va1, .int va2])).length) Slot.unset).toArray = ls at hl ⊢
  have hl : lv_has ls 6 [(0, .ref qt), (1, .int va1), (2, .int va2)] := hl
  refine kgen (fun Q hQ => ?_)
  have B2 : ∀ (n2 : Nat) (l3 : Int32) (cft_owners : Nat → Int32) (H : Heap) (locs : List Loc), va_P (dC, dI) vwCl [(qt, .inr (5, [.ref qt_owners, .int (it_width), .int (it_cellCount), .int (it_roomCount), .int (it_doorCount), .int (it_lowest)])), (qt_owners, .inr (4, [.ref qt_owners_values])), (qt_owners_values, .inl (cy.1, 210, .inl (cft_owners)))] H → va_D A [(qt, .inr (5, [.ref qt_owners, .int (it_width), .int (it_cellCount), .int (it_roomCount), .int (it_doorCount), .int (it_lowest)])), (qt_owners, .inr (4, [.ref qt_owners_values])), (qt_owners_values, .inl (cy.1, 210, .inl (cft_owners)))] → va_S A s.heap H locs → ∀ (ls : Array Slot), lv_has ls 6 [(0, .ref qt), (1, .int va1), (2, .int va2), (3, .int l3)] → b_X5_layLetter_2 N it_width va1 va2 n2 l3 cft_owners = some out → W p l e (headSpec wsX5_layLetter rm_X5_layLetter).room s m ([.ref qt, .int va1, .int va2] : List Value).toArray below meth c H locs 0 0 Q (F0 m 2 ls []) := by
    intro n2
    induction n2 with
    | zero => intro l3 cft_owners H locs hP hD hS ls hl hf; rw [b_X5_layLetter_2] at hf; cases hf
    | succ n2 ih2 =>
      have B17 : ∀ (n17 : Nat) (l3 : Int32) (l4 : Int32) (l5 : Int32) (cft_owners : Nat → Int32) (H : Heap) (locs : List Loc), va_P (dC, dI) vwCl [(qt, .inr (5, [.ref qt_owners, .int (it_width), .int (it_cellCount), .int (it_roomCount), .int (it_doorCount), .int (it_lowest)])), (qt_owners, .inr (4, [.ref qt_owners_values])), (qt_owners_values, .inl (cy.1, 210, .inl (cft_owners)))] H → va_D A [(qt, .inr (5, [.ref qt_owners, .int (it_width), .int (it_cellCount), .int (it_roomCount), .int (it_doorCount), .int (it_lowest)])), (qt_owners, .inr (4, [.ref qt_owners_values])), (qt_owners_values, .inl (cy.1, 210, .inl (cft_owners)))] → va_S A s.heap H locs → ∀ (ls : Array Slot), lv_has ls 6 [(0, .ref qt), (1, .int va1), (2, .int va2), (3, .int l3), (4, .int l4), (5, .int l5)] → b_X5_layLetter_17 N it_width va1 va2 (b_X5_layLetter_2 N it_width va1 va2 n2) n17 l3 l4 l5 cft_owners = some out → W p l e (headSpec wsX5_layLetter rm_X5_layLetter).room s m ([.ref qt, .int va1, .int va2] : List Value).toArray below meth c H locs 0 0 Q (F0 m 17 ls []) := by
        intro n17
        induction n17 with
        | zero => intro l3 l4 l5 cft_owners H locs hP hD hS ls hl hf; rw [b_X5_layLetter_17] at hf; cases hf
        | succ n17 ih17 =>
          intro l3 l4 l5 cft_owners H locs hP hD hS ls hl hf
          rw [b_X5_layLetter_17] at hf
          refine lv_iload hx hb dX5_layLetter_17 (lv_at hl 5 rfl) ?_
          refine lv_iconst (v := (5 : Int32)) hx hb dX5_layLetter_19 (by decide) ?_
          refine lv_icmp_ge (tgt := 66) hx hb dX5_layLetter_20 (by decide) (fun hc_20 => ?_) (fun hc_20 => ?_)
          · rw [if_pos hc_20] at hf
            refine lv_iinc (v := (l3 + (1 : Int32))) (lv' := [(3, .int (l3 + (1 : Int32))), (0, .ref qt), (1, .int va1), (2, .int va2), (4, .int l4), (5, .int l5)]) hx hb dX5_layLetter_66 hl (k := 3) rfl rfl (by decide) rfl (fun ls hl => ?_)
            refine lv_goto (tgt := 2) hx hb dX5_layLetter_69 (by decide) ?_
            exact ih2 ((l3 + (1 : Int32))) (cft_owners) _ _ (hP.sub [0, 1, 2] rfl) (hD.sub [0, 1, 2] (by decide) rfl) hS _ (lv_sub hl [1, 2, 3, 0] rfl) hf
          · rw [if_neg hc_20] at hf
            refine lv_iload hx hb dX5_layLetter_23 (lv_at hl 4 rfl) ?_
            refine lv_iconst (v := (4 : Int32)) hx hb dX5_layLetter_25 (by decide) ?_
            refine lv_iload hx hb dX5_layLetter_26 (lv_at hl 5 rfl) ?_
            refine lv_isub hx hb dX5_layLetter_28 ?_
            refine lv_ishr hx hb dX5_layLetter_29 ?_
            refine lv_iconst (v := (1 : Int32)) hx hb dX5_layLetter_30 (by decide) ?_
            refine lv_iand hx hb dX5_layLetter_31 ?_
            refine lv_iconst (v := (1 : Int32)) hx hb dX5_layLetter_32 (by decide) ?_
            refine lv_icmp_ne (tgt := 60) hx hb dX5_layLetter_33 (by decide) (fun hc_33 => ?_) (fun hc_33 => ?_)
            · rw [if_neg hc_33] at hf
              refine lv_iinc (v := (l5 + (1 : Int32))) (lv' := [(5, .int (l5 + (1 : Int32))), (0, .ref qt), (1, .int va1), (2, .int va2), (3, .int l3), (4, .int l4)]) hx hb dX5_layLetter_60 hl (k := 5) rfl rfl (by decide) rfl (fun ls hl => ?_)
              refine lv_goto (tgt := 17) hx hb dX5_layLetter_63 (by decide) ?_
              exact ih17 (l3) (l4) ((l5 + (1 : Int32))) (cft_owners) _ _ (hP.sub [0, 1, 2] rfl) (hD.sub [0, 1, 2] (by decide) rfl) hS _ (lv_sub hl [1, 2, 3, 4, 5, 0] rfl) hf
            · rw [if_pos hc_33] at hf
              refine lv_aload_n hx hb dX5_layLetter_36 rfl (lv_at hl 0 rfl) ?_
              refine va_get (D := (dC, dI)) (ci := 5) (C := RX5) (T := TX5) (N := 6) hx hb hts (fun _ h => (List.mem_cons_of_mem _ (List.mem_append_left _ (List.mem_append_right _ h)))) hown hK hP 0 rfl rfl 0 (by decide) (hts _ (List.mem_cons_of_mem _ (List.mem_append_left _ (List.mem_append_left _ (List.mem_append_left _ (List.mem_of_getElem? (i := 0) rfl)))))) (fun _ h => h) rfl dX5_layLetter_37 ?_
              refine lv_iload_n hx hb dX5_layLetter_40 rfl (lv_at hl 3 rfl) ?_
              refine lv_aload_n hx hb dX5_layLetter_41 rfl (lv_at hl 0 rfl) ?_
              refine va_get (D := (dC, dI)) (ci := 5) (C := RX5) (T := TX5) (N := 6) hx hb hts (fun _ h => (List.mem_cons_of_mem _ (List.mem_append_left _ (List.mem_append_right _ h)))) hown hK hP 0 rfl rfl 1 (by decide) (hts _ (List.mem_cons_of_mem _ (List.mem_append_left _ (List.mem_append_left _ (List.mem_append_left _ (List.mem_of_getElem? (i := 1) rfl)))))) (fun _ h => h) rfl dX5_layLetter_42 ?_
              refine lv_imul hx hb dX5_layLetter_45 ?_
              refine lv_bipush (v := (6 : Int32)) hx hb dX5_layLetter_46 (by decide) ?_
              refine lv_iload_n hx hb dX5_layLetter_48 rfl (lv_at hl 1 rfl) ?_
              refine lv_imul hx hb dX5_layLetter_49 ?_
              refine lv_iadd hx hb dX5_layLetter_50 ?_
              refine lv_iload hx hb dX5_layLetter_51 (lv_at hl 5 rfl) ?_
              refine lv_iadd hx hb dX5_layLetter_53 ?_
              refine lv_iconst (v := (2 : Int32)) hx hb dX5_layLetter_54 (by decide) ?_
              refine lv_iload_n hx hb dX5_layLetter_55 rfl (lv_at hl 1 rfl) ?_
              refine lv_iadd hx hb dX5_layLetter_56 ?_
              refine kcallv (wc := [(qt_owners, .inr (4, [.ref qt_owners_values])), (qt_owners_values, .inl (cy.1, 210, .inl (cft_owners)))]) (wr := [(qt, .inr (5, [.ref qt_owners, .int (it_width), .int (it_cellCount), .int (it_roomCount), .int (it_doorCount), .int (it_lowest)]))]) (w1 := [(qt_owners, .inr (4, [.ref qt_owners_values])), (qt_owners_values, .inl (cy.1, 210, .inl ((t_X4_put 210 (cft_owners) ((((l3 * it_width) + ((6 : Int32) * va1)) + l5)) (((2 : Int32) + va1))))))]) hK hP hD hS hA hG [1, 2] [0] rfl rfl rfl rfl rfl (fun hU hPc => va_runV (As := [.int (((l3 * it_width) + ((6 : Int32) * va1)) + l5), .int ((2 : Int32) + va1)]) (rest := []) ⟨hx, hb, hml, hown, hts⟩ (c_X4_put l dC dI cy G H.size qt_owners qt_owners_values 210 (cft_owners) ((((l3 * it_width) + ((6 : Int32) * va1)) + l5)) (((2 : Int32) + va1)) (by decide) (t_X4_put 210 (cft_owners) ((((l3 * it_width) + ((6 : Int32) * va1)) + l5)) (((2 : Int32) + va1))) (tot_X4_put 210 (cft_owners) ((((l3 * it_width) + ((6 : Int32) * va1)) + l5)) (((2 : Int32) + va1)))) (cwV 2 hts gX5_layLetter_X4_put rfl rfl rfl hdX4_put ⟨Nat.le_of_ble_eq_true rfl, Nat.le_of_ble_eq_true rfl⟩) ⟨kBlind, (va_recv hK hP (ci := 4) (q0 := 1) rfl rfl), fun U h1 h2 => ⟨rfl, hU U h1 h2⟩⟩ rfl rfl hl.1 rfl (lv_room (Nat.le_of_ble_eq_true rfl)) dX5_layLetter_57 ⟨Nat.zero_le _, Nat.zero_le _⟩) (fun _ _ h => h) (fun H locs hP hD hS => ?_)
              have hP : va_P (dC, dI) vwCl [(qt, .inr (5, [.ref qt_owners, .int (it_width), .int (it_cellCount), .int (it_roomCount), .int (it_doorCount), .int (it_lowest)])), (qt_owners, .inr (4, [.ref qt_owners_values])), (qt_owners_values, .inl (cy.1, 210, .inl ((t_X4_put 210 (cft_owners) ((((l3 * it_width) + ((6 : Int32) * va1)) + l5)) (((2 : Int32) + va1))))))] H := hP
              have hD : va_D A [(qt, .inr (5, [.ref qt_owners, .int (it_width), .int (it_cellCount), .int (it_roomCount), .int (it_doorCount), .int (it_lowest)])), (qt_owners, .inr (4, [.ref qt_owners_values])), (qt_owners_values, .inl (cy.1, 210, .inl ((t_X4_put 210 (cft_owners) ((((l3 * it_width) + ((6 : Int32) * va1)) + l5)) (((2 : Int32) + va1))))))] := hD
              refine lv_iinc (v := (l5 + (1 : Int32))) (lv' := [(5, .int (l5 + (1 : Int32))), (0, .ref qt), (1, .int va1), (2, .int va2), (3, .int l3), (4, .int l4)]) hx hb dX5_layLetter_60 hl (k := 5) rfl rfl (by decide) rfl (fun ls hl => ?_)
              refine lv_goto (tgt := 17) hx hb dX5_layLetter_63 (by decide) ?_
              exact ih17 (l3) (l4) ((l5 + (1 : Int32))) ((t_X4_put 210 (cft_owners) ((((l3 * it_width) + ((6 : Int32) * va1)) + l5)) (((2 : Int32) + va1)))) _ _ (hP.sub [0, 1, 2] rfl) (hD.sub [0, 1, 2] (by decide) rfl) hS _ (lv_sub hl [1, 2, 3, 4, 5, 0] rfl) hf
      intro l3 cft_owners H locs hP hD hS ls hl hf
      rw [b_X5_layLetter_2] at hf
      refine lv_iload_n hx hb dX5_layLetter_2 rfl (lv_at hl 3 rfl) ?_
      refine lv_iconst (v := (5 : Int32)) hx hb dX5_layLetter_3 (by decide) ?_
      refine lv_icmp_ge (tgt := 72) hx hb dX5_layLetter_4 (by decide) (fun hc_4 => ?_) (fun hc_4 => ?_)
      · rw [if_pos hc_4] at hf
        cases hf
        subst hQ
        exact kvret hx hb hr hlocks hK (hP.sub [0, 1, 2] rfl) (hD.sub [0, 1, 2] (by decide) rfl) hS trivial dX5_layLetter_72
      · rw [if_neg hc_4] at hf
        refine lv_iload_n hx hb dX5_layLetter_7 rfl (lv_at hl 2 rfl) ?_
        refine lv_iload_n hx hb dX5_layLetter_8 rfl (lv_at hl 3 rfl) ?_
        obtain ⟨r9, hq_9, hf⟩ := bnd1_s hf
        refine kcalli (wc := []) (wr := [(qt, .inr (5, [.ref qt_owners, .int (it_width), .int (it_cellCount), .int (it_roomCount), .int (it_doorCount), .int (it_lowest)])), (qt_owners, .inr (4, [.ref qt_owners_values])), (qt_owners_values, .inl (cy.1, 210, .inl (cft_owners)))]) (w1 := []) hK hP hD hS hA hG [] [0, 1, 2] rfl rfl rfl rfl rfl (fun hU hPc => va_runS (As := [.int va2, .int l3]) (rest := []) ⟨hx, hb, hml, hown, hts⟩ (c_X5_patternRow l dC dI cy G H.size N (va2) (l3) r9 hq_9) (va_cwS 2 hts gX5_layLetter_X5_patternRow rfl rfl rfl hdX5_patternRow.2 ⟨Nat.le_of_ble_eq_true rfl, Nat.le_of_ble_eq_true rfl⟩) ⟨kBlind, fun U h1 h2 => ⟨rfl, hU U h1 h2⟩⟩ rfl rfl hl.1 rfl (lv_room (Nat.le_of_ble_eq_true rfl)) dX5_layLetter_9 ⟨Nat.zero_le _, Nat.zero_le _⟩) (r9) (fun _ _ h => h) (fun _ _ h => h) (fun H locs hP hD hS => ?_)
        have hP : va_P (dC, dI) vwCl [(qt, .inr (5, [.ref qt_owners, .int (it_width), .int (it_cellCount), .int (it_roomCount), .int (it_doorCount), .int (it_lowest)])), (qt_owners, .inr (4, [.ref qt_owners_values])), (qt_owners_values, .inl (cy.1, 210, .inl (cft_owners)))] H := hP
        have hD : va_D A [(qt, .inr (5, [.ref qt_owners, .int (it_width), .int (it_cellCount), .int (it_roomCount), .int (it_doorCount), .int (it_lowest)])), (qt_owners, .inr (4, [.ref qt_owners_values])), (qt_owners_values, .inl (cy.1, 210, .inl (cft_owners)))] := hD
        refine lv_istore (lv' := [(4, .int r9), (0, .ref qt), (1, .int va1), (2, .int va2), (3, .int l3)]) hx hb dX5_layLetter_12 hl (by decide) rfl (fun ls hl => ?_)
        refine lv_iconst (v := (0 : Int32)) hx hb dX5_layLetter_14 (by decide) ?_
        refine lv_istore (lv' := [(5, .int (0 : Int32)), (4, .int r9), (0, .ref qt), (1, .int va1), (2, .int va2), (3, .int l3)]) hx hb dX5_layLetter_15 hl (by decide) rfl (fun ls hl => ?_)
        exact B17 N (l3) (r9) ((0 : Int32)) (cft_owners) _ _ (hP.sub [0, 1, 2] rfl) (hD.sub [0, 1, 2] (by decide) rfl) hS _ (lv_sub hl [2, 3, 4, 5, 1, 0] rfl) hf
  rw [f_X5_layLetter] at hf
  refine lv_iconst (v := (0 : Int32)) hx hb dX5_layLetter_0 (by decide) ?_
  refine lv_istore_n (lv' := [(3, .int (0 : Int32)), (0, .ref qt), (1, .int va1), (2, .int va2)]) hx hb dX5_layLetter_1 rfl hl (by decide) rfl (fun ls hl => ?_)
  exact B2 N ((0 : Int32)) (ft_owners) _ _ (hP.sub [0, 1, 2] rfl) (hD.sub [0, 1, 2] (by decide) rfl) hS _ (lv_sub hl [1, 2, 3, 0] rfl) hf
theorem hdX5_layLetter : yX5_layLetter.cls = RX5 ∧ yX5_layLetter.cls ≠ "java/lang/invoke/MethodHandle" ∧ yX5_layLetter.cls ≠ "java/lang/invoke/VarHandle" ∧ (parseMethodDescriptor yX5_layLetter.desc).map (fun d => d.parameters.length) = some 2 := by decide +kernel
noncomputable def f_X5_baseCell (it_width : Int32) : Option (Int32) :=
  some (((5 : Int32) * it_width))
abbrev rm_X5_baseCell : Room := { frames := 0, cells := 0, slots := 0, locals := 0 }
set_option maxHeartbeats 4000000 in
set_option maxRecDepth 100000 in
theorem c_X5_baseCell (l : Launch) (dC : Nat → ClassId) (dI : Nat → Nat → Nat) (cy : gC) (G : gT) (sz : Nat) (qt : Nat) (xt_owners : Nat) (it_cellCount : Int32) (it_roomCount : Int32) (it_doorCount : Int32) (it_lowest : Int32) (it_width : Int32) (out : Int32) (hf : f_X5_baseCell it_width = some out) : Met l yX5_baseCell wsX5_baseCell rm_X5_baseCell (va_Pc [.ref qt] (kP (dC, dI) cy G [(qt, .inr (5, [.ref xt_owners, .int (it_width), .int (it_cellCount), .int (it_roomCount), .int (it_doorCount), .int (it_lowest)]))] sz)) (va_Qi (fun r (_ : Unit) => r = out) (fun _ => kQ (dC, dI) cy [(qt, .inr (5, [.ref xt_owners, .int (it_width), .int (it_cellCount), .int (it_roomCount), .int (it_doorCount), .int (it_lowest)]))] (va_A [(qt, .inr (5, [.ref xt_owners, .int (it_width), .int (it_cellCount), .int (it_roomCount), .int (it_doorCount), .int (it_lowest)]))] sz)) (va_A [(qt, .inr (5, [.ref xt_owners, .int (it_width), .int (it_cellCount), .int (it_roomCount), .int (it_doorCount), .int (it_lowest)]))] sz)) 0 0 (va_A [(qt, .inr (5, [.ref xt_owners, .int (it_width), .int (it_cellCount), .int (it_roomCount), .int (it_doorCount), .int (it_lowest)]))] sz) := by
  refine Met.ofW (cc := cX5_baseCell) (maxL := 1) (ret := (some .int)) (by decide) rfl ?_
  intro p e s m args below meth c s₁ B hml hv
  obtain ⟨rfl, hsz, hP, hK, hD0, hG⟩ := hv
  have hx := B.exec
  have hb := B.bytes
  have hr := B.returns
  have hts := atoms_spec (ws := wsX5_baseCell) B.pre
  have hown : s.vm.findClass RX5 = some m.cls := findClass_of_methodNamed B.named
  have hlocks := B.notSynchronized
  subst hsz
  have hD := hD0.self (sz := s.heap.size)
  generalize hAe : va_A [(qt, .inr (5, [.ref xt_owners, .int (it_width), .int (it_cellCount), .int (it_roomCount), .int (it_doorCount), .int (it_lowest)]))] s.heap.size = A at hD hG ⊢
  have hA : ∀ q : Nat, s.heap.size ≤ q → A q := fun q h => by rw [← hAe]; exact Or.inr h
  have hS : va_S A s.heap s.heap [] := va_S.rf
  have hP : va_P (dC, dI) vwCl [(qt, .inr (5, [.ref xt_owners, .int (it_width), .int (it_cellCount), .int (it_roomCount), .int (it_doorCount), .int (it_lowest)]))] s.heap := hP
  have hl := lv_entry ([.ref qt]) (n := 1) (Nat.le_of_ble_eq_true rfl)
  rw [lg_entry_eq]
  generalize (lg_sl ([.ref qt]) ++ List.replicate (1 - (lg_sl ([.ref qt])).length) Slot.unset).toArray = ls at hl ⊢
  have hl : lv_has ls 1 [(0, .ref qt)] := hl
  refine kgen (fun Q hQ => ?_)
  rw [f_X5_baseCell] at hf
  refine lv_iconst (v := (5 : Int32)) hx hb dX5_baseCell_0 (by decide) ?_
  refine lv_aload_n hx hb dX5_baseCell_1 rfl (lv_at hl 0 rfl) ?_
  refine va_get (D := (dC, dI)) (ci := 5) (C := RX5) (T := TX5) (N := 6) hx hb hts (fun _ h => (List.mem_cons_of_mem _ (List.mem_append_right _ h))) hown hK hP 0 rfl rfl 1 (by decide) (hts _ (List.mem_cons_of_mem _ (List.mem_append_left _ (List.mem_of_getElem? (i := 0) rfl)))) (fun _ h => h) rfl dX5_baseCell_2 ?_
  refine lv_imul hx hb dX5_baseCell_5 ?_
  cases hf
  subst hQ
  exact kiret hx hb hr hlocks hK (hP.sub [0] rfl) (hD.sub [0] (by decide) rfl) hS rfl dX5_baseCell_6
theorem hdX5_baseCell : yX5_baseCell.cls = RX5 ∧ yX5_baseCell.cls ≠ "java/lang/invoke/MethodHandle" ∧ yX5_baseCell.cls ≠ "java/lang/invoke/VarHandle" ∧ (parseMethodDescriptor yX5_baseCell.desc).map (fun d => d.parameters.length) = some 0 := by decide +kernel
noncomputable def t_X5_baseCell (it_width : Int32) : Int32 :=
  ((5 : Int32) * it_width)
theorem tot_X5_baseCell (it_width : Int32) : f_X5_baseCell it_width = some (t_X5_baseCell it_width) := by
  simp only [f_X5_baseCell, t_X5_baseCell]
noncomputable def f_X5_holds (ft_owners : Nat → Int32) (va1 : Int32) : Option (Int32) :=
  if (t_X4_at 210 (ft_owners) (va1)) = 0 then
    some ((0 : Int32))
  else
    some ((1 : Int32))
abbrev rm_X5_holds : Room := { frames := 1, cells := 0, slots := 0, locals := 21 }
set_option maxHeartbeats 4000000 in
set_option maxRecDepth 100000 in
theorem c_X5_holds (l : Launch) (dC : Nat → ClassId) (dI : Nat → Nat → Nat) (cy : gC) (G : gT) (sz : Nat) (qt : Nat) (qt_owners : Nat) (qt_owners_values : Nat) (it_width : Int32) (it_cellCount : Int32) (it_roomCount : Int32) (it_doorCount : Int32) (it_lowest : Int32) (ft_owners : Nat → Int32) (va1 : Int32) (out : Int32) (hf : f_X5_holds ft_owners va1 = some out) : Met l yX5_holds wsX5_holds rm_X5_holds (va_Pc [.ref qt, .int va1] (kP (dC, dI) cy G [(qt, .inr (5, [.ref qt_owners, .int (it_width), .int (it_cellCount), .int (it_roomCount), .int (it_doorCount), .int (it_lowest)])), (qt_owners, .inr (4, [.ref qt_owners_values])), (qt_owners_values, .inl (cy.1, 210, .inl (ft_owners)))] sz)) (va_Qi (fun r (_ : Unit) => r = out) (fun _ => kQ (dC, dI) cy [(qt, .inr (5, [.ref qt_owners, .int (it_width), .int (it_cellCount), .int (it_roomCount), .int (it_doorCount), .int (it_lowest)])), (qt_owners, .inr (4, [.ref qt_owners_values])), (qt_owners_values, .inl (cy.1, 210, .inl (ft_owners)))] (va_A [(qt, .inr (5, [.ref qt_owners, .int (it_width), .int (it_cellCount), .int (it_roomCount), .int (it_doorCount), .int (it_lowest)])), (qt_owners, .inr (4, [.ref qt_owners_values])), (qt_owners_values, .inl (cy.1, 210, .inl (ft_owners)))] sz)) (va_A [(qt, .inr (5, [.ref qt_owners, .int (it_width), .int (it_cellCount), .int (it_roomCount), .int (it_doorCount), .int (it_lowest)])), (qt_owners, .inr (4, [.ref qt_owners_values])), (qt_owners_values, .inl (cy.1, 210, .inl (ft_owners)))] sz)) 0 0 (va_A [(qt, .inr (5, [.ref qt_owners, .int (it_width), .int (it_cellCount), .int (it_roomCount), .int (it_doorCount), .int (it_lowest)])), (qt_owners, .inr (4, [.ref qt_owners_values])), (qt_owners_values, .inl (cy.1, 210, .inl (ft_owners)))] sz) := by
  refine Met.ofW (cc := cX5_holds) (maxL := 2) (ret := (some .boolean)) (by decide) rfl ?_
  intro p e s m args below meth c s₁ B hml hv
  obtain ⟨rfl, hsz, hP, hK, hD0, hG⟩ := hv
  have hx := B.exec
  have hb := B.bytes
  have hr := B.returns
  have hts := atoms_spec (ws := wsX5_holds) B.pre
  have hown : s.vm.findClass RX5 = some m.cls := findClass_of_methodNamed B.named
  have hlocks := B.notSynchronized
  subst hsz
  have hD := hD0.self (sz := s.heap.size)
  generalize hAe : va_A [(qt, .inr (5, [.ref qt_owners, .int (it_width), .int (it_cellCount), .int (it_roomCount), .int (it_doorCount), .int (it_lowest)])), (qt_owners, .inr (4, [.ref qt_owners_values])), (qt_owners_values, .inl (cy.1, 210, .inl (ft_owners)))] s.heap.size = A at hD hG ⊢
  have hA : ∀ q : Nat, s.heap.size ≤ q → A q := fun q h => by rw [← hAe]; exact Or.inr h
  have hS : va_S A s.heap s.heap [] := va_S.rf
  have hP : va_P (dC, dI) vwCl [(qt, .inr (5, [.ref qt_owners, .int (it_width), .int (it_cellCount), .int (it_roomCount), .int (it_doorCount), .int (it_lowest)])), (qt_owners, .inr (4, [.ref qt_owners_values])), (qt_owners_values, .inl (cy.1, 210, .inl (ft_owners)))] s.heap := hP
  have hl := lv_entry ([.ref qt, .int va1]) (n := 2) (Nat.le_of_ble_eq_true rfl)
  rw [lg_entry_eq]
  generalize (lg_sl ([.ref qt, .int va1]) ++ List.replicate (2 - (lg_sl ([.ref qt, .int va1])).length) Slot.unset).toArray = ls at hl ⊢
  have hl : lv_has ls 2 [(0, .ref qt), (1, .int va1)] := hl
  refine kgen (fun Q hQ => ?_)
  rw [f_X5_holds] at hf
  refine lv_aload_n hx hb dX5_holds_0 rfl (lv_at hl 0 rfl) ?_
  refine va_get (D := (dC, dI)) (ci := 5) (C := RX5) (T := TX5) (N := 6) hx hb hts (fun _ h => (List.mem_cons_of_mem _ (List.mem_append_left _ (List.mem_append_right _ h)))) hown hK hP 0 rfl rfl 0 (by decide) (hts _ (List.mem_cons_of_mem _ (List.mem_append_left _ (List.mem_append_left _ (List.mem_of_getElem? (i := 0) rfl))))) (fun _ h => h) rfl dX5_holds_1 ?_
  refine lv_iload_n hx hb dX5_holds_4 rfl (lv_at hl 1 rfl) ?_
  refine kcalli (wc := [(qt_owners, .inr (4, [.ref qt_owners_values])), (qt_owners_values, .inl (cy.1, 210, .inl (ft_owners)))]) (wr := [(qt, .inr (5, [.ref qt_owners, .int (it_width), .int (it_cellCount), .int (it_roomCount), .int (it_doorCount), .int (it_lowest)]))]) (w1 := [(qt_owners, .inr (4, [.ref qt_owners_values])), (qt_owners_values, .inl (cy.1, 210, .inl (ft_owners)))]) hK hP hD hS hA hG [1, 2] [0] rfl rfl rfl rfl rfl (fun hU hPc => va_runV (As := [.int va1]) (rest := []) ⟨hx, hb, hml, hown, hts⟩ (c_X4_at l dC dI cy G s.heap.size qt_owners qt_owners_values 210 (ft_owners) (va1) (by decide) (t_X4_at 210 (ft_owners) (va1)) (tot_X4_at 210 (ft_owners) (va1))) (cwV 1 hts gX5_holds_X4_at rfl rfl rfl hdX4_at ⟨Nat.le_of_ble_eq_true rfl, Nat.le_of_ble_eq_true rfl⟩) ⟨kBlind, (va_recv hK hP (ci := 4) (q0 := 1) rfl rfl), fun U h1 h2 => ⟨rfl, hU U h1 h2⟩⟩ rfl rfl hl.1 rfl (lv_room (Nat.le_of_ble_eq_true rfl)) dX5_holds_5 ⟨Nat.zero_le _, Nat.zero_le _⟩) ((t_X4_at 210 (ft_owners) (va1))) (fun _ _ h => h) (fun _ _ h => h) (fun H locs hP hD hS => ?_)
  have hP : va_P (dC, dI) vwCl [(qt, .inr (5, [.ref qt_owners, .int (it_width), .int (it_cellCount), .int (it_roomCount), .int (it_doorCount), .int (it_lowest)])), (qt_owners, .inr (4, [.ref qt_owners_values])), (qt_owners_values, .inl (cy.1, 210, .inl (ft_owners)))] H := hP
  have hD : va_D A [(qt, .inr (5, [.ref qt_owners, .int (it_width), .int (it_cellCount), .int (it_roomCount), .int (it_doorCount), .int (it_lowest)])), (qt_owners, .inr (4, [.ref qt_owners_values])), (qt_owners_values, .inl (cy.1, 210, .inl (ft_owners)))] := hD
  refine lv_if_eq (tgt := 15) hx hb dX5_holds_8 (by decide) (fun hc_8 => ?_) (fun hc_8 => ?_)
  · rw [if_pos hc_8] at hf
    refine lv_iconst (v := (0 : Int32)) hx hb dX5_holds_15 (by decide) ?_
    cases hf
    subst hQ
    exact kzret hx hb hr hlocks rfl hK (hP.sub [0, 1, 2] rfl) (hD.sub [0, 1, 2] (by decide) rfl) hS rfl dX5_holds_16
  · rw [if_neg hc_8] at hf
    refine lv_iconst (v := (1 : Int32)) hx hb dX5_holds_11 (by decide) ?_
    refine lv_goto (tgt := 16) hx hb dX5_holds_12 (by decide) ?_
    cases hf
    subst hQ
    exact kzret hx hb hr hlocks rfl hK (hP.sub [0, 1, 2] rfl) (hD.sub [0, 1, 2] (by decide) rfl) hS rfl dX5_holds_16
theorem hdX5_holds : yX5_holds.cls = RX5 ∧ yX5_holds.cls ≠ "java/lang/invoke/MethodHandle" ∧ yX5_holds.cls ≠ "java/lang/invoke/VarHandle" ∧ (parseMethodDescriptor yX5_holds.desc).map (fun d => d.parameters.length) = some 1 := by decide +kernel
noncomputable def t_X5_holds (ft_owners : Nat → Int32) (va1 : Int32) : Int32 :=
  if (t_X4_at 210 (ft_owners) (va1)) = 0 then
    (0 : Int32)
  else
    (1 : Int32)
theorem tot_X5_holds (ft_owners : Nat → Int32) (va1 : Int32) : f_X5_holds ft_owners va1 = some (t_X5_holds ft_owners va1) := by
  by_cases hc_8 : (t_X4_at 210 (ft_owners) (va1)) = 0
  · simp only [f_X5_holds, t_X5_holds, if_pos hc_8]
  · simp only [f_X5_holds, t_X5_holds, if_neg hc_8]
theorem bl_X5_holds (ft_owners : Nat → Int32) (va1 : Int32) : t_X5_holds ft_owners va1 = 0 ∨ t_X5_holds ft_owners va1 = 1 := by
  unfold t_X5_holds
  repeat' (first | exact Or.inl rfl | exact Or.inr rfl | fail | split)
noncomputable def f_X5_stride (it_width : Int32) (va1 : Int32) : Option (Int32) :=
  if va1 = (1 : Int32) then
    some ((1 : Int32))
  else
    if va1 = (2 : Int32) then
      some (it_width)
    else
      if va1 = (3 : Int32) then
        some ((-1 : Int32))
      else
        some ((-it_width))
abbrev rm_X5_stride : Room := { frames := 0, cells := 0, slots := 0, locals := 0 }
set_option maxHeartbeats 4000000 in
set_option maxRecDepth 100000 in
theorem c_X5_stride (l : Launch) (dC : Nat → ClassId) (dI : Nat → Nat → Nat) (cy : gC) (G : gT) (sz : Nat) (qt : Nat) (xt_owners : Nat) (it_cellCount : Int32) (it_roomCount : Int32) (it_doorCount : Int32) (it_lowest : Int32) (it_width : Int32) (va1 : Int32) (out : Int32) (hf : f_X5_stride it_width va1 = some out) : Met l yX5_stride wsX5_stride rm_X5_stride (va_Pc [.ref qt, .int va1] (kP (dC, dI) cy G [(qt, .inr (5, [.ref xt_owners, .int (it_width), .int (it_cellCount), .int (it_roomCount), .int (it_doorCount), .int (it_lowest)]))] sz)) (va_Qi (fun r (_ : Unit) => r = out) (fun _ => kQ (dC, dI) cy [(qt, .inr (5, [.ref xt_owners, .int (it_width), .int (it_cellCount), .int (it_roomCount), .int (it_doorCount), .int (it_lowest)]))] (va_A [(qt, .inr (5, [.ref xt_owners, .int (it_width), .int (it_cellCount), .int (it_roomCount), .int (it_doorCount), .int (it_lowest)]))] sz)) (va_A [(qt, .inr (5, [.ref xt_owners, .int (it_width), .int (it_cellCount), .int (it_roomCount), .int (it_doorCount), .int (it_lowest)]))] sz)) 0 0 (va_A [(qt, .inr (5, [.ref xt_owners, .int (it_width), .int (it_cellCount), .int (it_roomCount), .int (it_doorCount), .int (it_lowest)]))] sz) := by
  refine Met.ofW (cc := cX5_stride) (maxL := 2) (ret := (some .int)) (by decide) rfl ?_
  intro p e s m args below meth c s₁ B hml hv
  obtain ⟨rfl, hsz, hP, hK, hD0, hG⟩ := hv
  have hx := B.exec
  have hb := B.bytes
  have hr := B.returns
  have hts := atoms_spec (ws := wsX5_stride) B.pre
  have hown : s.vm.findClass RX5 = some m.cls := findClass_of_methodNamed B.named
  have hlocks := B.notSynchronized
  subst hsz
  have hD := hD0.self (sz := s.heap.size)
  generalize hAe : va_A [(qt, .inr (5, [.ref xt_owners, .int (it_width), .int (it_cellCount), .int (it_roomCount), .int (it_doorCount), .int (it_lowest)]))] s.heap.size = A at hD hG ⊢
  have hA : ∀ q : Nat, s.heap.size ≤ q → A q := fun q h => by rw [← hAe]; exact Or.inr h
  have hS : va_S A s.heap s.heap [] := va_S.rf
  have hP : va_P (dC, dI) vwCl [(qt, .inr (5, [.ref xt_owners, .int (it_width), .int (it_cellCount), .int (it_roomCount), .int (it_doorCount), .int (it_lowest)]))] s.heap := hP
  have hl := lv_entry ([.ref qt, .int va1]) (n := 2) (Nat.le_of_ble_eq_true rfl)
  rw [lg_entry_eq]
  generalize (lg_sl ([.ref qt, .int va1]) ++ List.replicate (2 - (lg_sl ([.ref qt, .int va1])).length) Slot.unset).toArray = ls at hl ⊢
  have hl : lv_has ls 2 [(0, .ref qt), (1, .int va1)] := hl
  refine kgen (fun Q hQ => ?_)
  rw [f_X5_stride] at hf
  refine lv_iload_n hx hb dX5_stride_0 rfl (lv_at hl 1 rfl) ?_
  by_cases hc_1_0 : va1 = (1 : Int32)
  · rw [if_pos hc_1_0] at hf
    refine lv_tableIn (tgt := 28) hx hb dX5_stride_1 (by rw [hc_1_0]; decide) (by rw [hc_1_0]; decide) (by rw [hc_1_0]; rfl) (by decide) ?_
    refine lv_iconst (v := (1 : Int32)) hx hb dX5_stride_28 (by decide) ?_
    cases hf
    subst hQ
    exact kiret hx hb hr hlocks hK (hP.sub [0] rfl) (hD.sub [0] (by decide) rfl) hS rfl dX5_stride_29
  rw [if_neg hc_1_0] at hf
  by_cases hc_1_1 : va1 = (2 : Int32)
  · rw [if_pos hc_1_1] at hf
    refine lv_tableIn (tgt := 30) hx hb dX5_stride_1 (by rw [hc_1_1]; decide) (by rw [hc_1_1]; decide) (by rw [hc_1_1]; rfl) (by decide) ?_
    refine lv_aload_n hx hb dX5_stride_30 rfl (lv_at hl 0 rfl) ?_
    refine va_get (D := (dC, dI)) (ci := 5) (C := RX5) (T := TX5) (N := 6) hx hb hts (fun _ h => (List.mem_cons_of_mem _ (List.mem_append_right _ h))) hown hK hP 0 rfl rfl 1 (by decide) (hts _ (List.mem_cons_of_mem _ (List.mem_append_left _ (List.mem_of_getElem? (i := 0) rfl)))) (fun _ h => h) rfl dX5_stride_31 ?_
    cases hf
    subst hQ
    exact kiret hx hb hr hlocks hK (hP.sub [0] rfl) (hD.sub [0] (by decide) rfl) hS rfl dX5_stride_34
  rw [if_neg hc_1_1] at hf
  by_cases hc_1_2 : va1 = (3 : Int32)
  · rw [if_pos hc_1_2] at hf
    refine lv_tableIn (tgt := 35) hx hb dX5_stride_1 (by rw [hc_1_2]; decide) (by rw [hc_1_2]; decide) (by rw [hc_1_2]; rfl) (by decide) ?_
    refine lv_iconst (v := (-1 : Int32)) hx hb dX5_stride_35 (by decide) ?_
    cases hf
    subst hQ
    exact kiret hx hb hr hlocks hK (hP.sub [0] rfl) (hD.sub [0] (by decide) rfl) hS rfl dX5_stride_36
  rw [if_neg hc_1_2] at hf
  refine lv_tableOut (tgt := 37) hx hb dX5_stride_1 (by have z0 := lv_neT (a := 1) hc_1_0 (by decide); have z1 := lv_neT (a := 2) hc_1_1 (by decide); have z2 := lv_neT (a := 3) hc_1_2 (by decide); omega) (by decide) ?_
  refine lv_aload_n hx hb dX5_stride_37 rfl (lv_at hl 0 rfl) ?_
  refine va_get (D := (dC, dI)) (ci := 5) (C := RX5) (T := TX5) (N := 6) hx hb hts (fun _ h => (List.mem_cons_of_mem _ (List.mem_append_right _ h))) hown hK hP 0 rfl rfl 1 (by decide) (hts _ (List.mem_cons_of_mem _ (List.mem_append_left _ (List.mem_of_getElem? (i := 0) rfl)))) (fun _ h => h) rfl dX5_stride_38 ?_
  refine lv_ineg hx hb dX5_stride_41 ?_
  cases hf
  subst hQ
  exact kiret hx hb hr hlocks hK (hP.sub [0] rfl) (hD.sub [0] (by decide) rfl) hS rfl dX5_stride_42
theorem hdX5_stride : yX5_stride.cls = RX5 ∧ yX5_stride.cls ≠ "java/lang/invoke/MethodHandle" ∧ yX5_stride.cls ≠ "java/lang/invoke/VarHandle" ∧ (parseMethodDescriptor yX5_stride.desc).map (fun d => d.parameters.length) = some 1 := by decide +kernel
noncomputable def t_X5_stride (it_width : Int32) (va1 : Int32) : Int32 :=
  if va1 = (1 : Int32) then
    (1 : Int32)
  else
    if va1 = (2 : Int32) then
      it_width
    else
      if va1 = (3 : Int32) then
        (-1 : Int32)
      else
        (-it_width)
theorem tot_X5_stride (it_width : Int32) (va1 : Int32) : f_X5_stride it_width va1 = some (t_X5_stride it_width va1) := by
  by_cases hc_1_0 : va1 = (1 : Int32)
  · simp only [f_X5_stride, t_X5_stride, if_pos hc_1_0]
  · by_cases hc_1_1 : va1 = (2 : Int32)
    · simp only [f_X5_stride, t_X5_stride, if_neg hc_1_0, if_pos hc_1_1]
    · by_cases hc_1_2 : va1 = (3 : Int32)
      · simp only [f_X5_stride, t_X5_stride, if_neg hc_1_0, if_neg hc_1_1, if_pos hc_1_2]
      · simp only [f_X5_stride, t_X5_stride, if_neg hc_1_0, if_neg hc_1_1, if_neg hc_1_2]
noncomputable def b_X5_beside_44 (it_width : Int32) (ft_owners : Nat → Int32) (va1 : Int32) (va2 : Int32) : Option (Int32) :=
  if (t_X5_holds (ft_owners) ((va1 + (t_X5_stride (it_width) (va2))))) = 0 then
    some ((-1 : Int32))
  else
    some ((va1 + (t_X5_stride (it_width) (va2))))
noncomputable def b_X5_beside_33 (it_width : Int32) (ft_owners : Nat → Int32) (va1 : Int32) (va2 : Int32) (l3 : Int32) : Option (Int32) :=
  if va2 = (3 : Int32) then
    if l3 = 0 then
      some ((-1 : Int32))
    else
      b_X5_beside_44 it_width ft_owners va1 va2 
  else
    b_X5_beside_44 it_width ft_owners va1 va2 
noncomputable def b_X5_beside_17 (it_width : Int32) (ft_owners : Nat → Int32) (va1 : Int32) (va2 : Int32) (s0 : Int32) : Option (Int32) :=
  if va2 = (1 : Int32) then
    if s0 = (it_width - (1 : Int32)) then
      some ((-1 : Int32))
    else
      b_X5_beside_33 it_width ft_owners va1 va2 (s0)
  else
    b_X5_beside_33 it_width ft_owners va1 va2 (s0)
noncomputable def f_X5_beside (it_width : Int32) (ft_owners : Nat → Int32) (va1 : Int32) (va2 : Int32) : Option (Int32) :=
  if it_width ≤ 0 then
    b_X5_beside_17 it_width ft_owners va1 va2 ((0 : Int32))
  else
    b_X5_beside_17 it_width ft_owners va1 va2 ((va1 - va1 / it_width * it_width))
abbrev rm_X5_beside : Room := { frames := 2, cells := 0, slots := 0, locals := 42 }
set_option maxHeartbeats 4000000 in
set_option maxRecDepth 100000 in
theorem c_X5_beside (l : Launch) (dC : Nat → ClassId) (dI : Nat → Nat → Nat) (cy : gC) (G : gT) (sz : Nat) (qt : Nat) (qt_owners : Nat) (qt_owners_values : Nat) (it_cellCount : Int32) (it_roomCount : Int32) (it_doorCount : Int32) (it_lowest : Int32) (it_width : Int32) (ft_owners : Nat → Int32) (va1 : Int32) (va2 : Int32) (out : Int32) (hf : f_X5_beside it_width ft_owners va1 va2 = some out) : Met l yX5_beside wsX5_beside rm_X5_beside (va_Pc [.ref qt, .int va1, .int va2] (kP (dC, dI) cy G [(qt, .inr (5, [.ref qt_owners, .int (it_width), .int (it_cellCount), .int (it_roomCount), .int (it_doorCount), .int (it_lowest)])), (qt_owners, .inr (4, [.ref qt_owners_values])), (qt_owners_values, .inl (cy.1, 210, .inl (ft_owners)))] sz)) (va_Qi (fun r (_ : Unit) => r = out) (fun _ => kQ (dC, dI) cy [(qt, .inr (5, [.ref qt_owners, .int (it_width), .int (it_cellCount), .int (it_roomCount), .int (it_doorCount), .int (it_lowest)])), (qt_owners, .inr (4, [.ref qt_owners_values])), (qt_owners_values, .inl (cy.1, 210, .inl (ft_owners)))] (va_A [(qt, .inr (5, [.ref qt_owners, .int (it_width), .int (it_cellCount), .int (it_roomCount), .int (it_doorCount), .int (it_lowest)])), (qt_owners, .inr (4, [.ref qt_owners_values])), (qt_owners_values, .inl (cy.1, 210, .inl (ft_owners)))] sz)) (va_A [(qt, .inr (5, [.ref qt_owners, .int (it_width), .int (it_cellCount), .int (it_roomCount), .int (it_doorCount), .int (it_lowest)])), (qt_owners, .inr (4, [.ref qt_owners_values])), (qt_owners_values, .inl (cy.1, 210, .inl (ft_owners)))] sz)) 0 0 (va_A [(qt, .inr (5, [.ref qt_owners, .int (it_width), .int (it_cellCount), .int (it_roomCount), .int (it_doorCount), .int (it_lowest)])), (qt_owners, .inr (4, [.ref qt_owners_values])), (qt_owners_values, .inl (cy.1, 210, .inl (ft_owners)))] sz) := by
  refine Met.ofW (cc := cX5_beside) (maxL := 5) (ret := (some .int)) (by decide) rfl ?_
  intro p e s m args below meth c s₁ B hml hv
  obtain ⟨rfl, hsz, hP, hK, hD0, hG⟩ := hv
  have hx := B.exec
  have hb := B.bytes
  have hr := B.returns
  have hts := atoms_spec (ws := wsX5_beside) B.pre
  have hown : s.vm.findClass RX5 = some m.cls := findClass_of_methodNamed B.named
  have hlocks := B.notSynchronized
  subst hsz
  have hD := hD0.self (sz := s.heap.size)
  generalize hAe : va_A [(qt, .inr (5, [.ref qt_owners, .int (it_width), .int (it_cellCount), .int (it_roomCount), .int (it_doorCount), .int (it_lowest)])), (qt_owners, .inr (4, [.ref qt_owners_values])), (qt_owners_values, .inl (cy.1, 210, .inl (ft_owners)))] s.heap.size = A at hD hG ⊢
  have hA : ∀ q : Nat, s.heap.size ≤ q → A q := fun q h => by rw [← hAe]; exact Or.inr h
  have hS : va_S A s.heap s.heap [] := va_S.rf
  have hP : va_P (dC, dI) vwCl [(qt, .inr (5, [.ref qt_owners, .int (it_width), .int (it_cellCount), .int (it_roomCount), .int (it_doorCount), .int (it_lowest)])), (qt_owners, .inr (4, [.ref qt_owners_values])), (qt_owners_values, .inl (cy.1, 210, .inl (ft_owners)))] s.heap := hP
  have hl := lv_entry ([.ref qt, .int va1, .int va2]) (n := 5) (Nat.le_of_ble_eq_true rfl)
  rw [lg_entry_eq]
  generalize (lg_sl ([.ref qt, .int va1, .int va2]) ++ List.replicate (5 - (lg_sl ([.ref qt, .int va1, .int va2])).length) Slot.unset).toArray = ls at hl ⊢
  have hl : lv_has ls 5 [(0, .ref qt), (1, .int va1), (2, .int va2)] := hl
  refine kgen (fun Q hQ => ?_)
  have B44 : ∀ (H : Heap) (locs : List Loc), va_P (dC, dI) vwCl [(qt, .inr (5, [.ref qt_owners, .int (it_width), .int (it_cellCount), .int (it_roomCount), .int (it_doorCount), .int (it_lowest)])), (qt_owners, .inr (4, [.ref qt_owners_values])), (qt_owners_values, .inl (cy.1, 210, .inl (ft_owners)))] H → va_D A [(qt, .inr (5, [.ref qt_owners, .int (it_width), .int (it_cellCount), .int (it_roomCount), .int (it_doorCount), .int (it_lowest)])), (qt_owners, .inr (4, [.ref qt_owners_values])), (qt_owners_values, .inl (cy.1, 210, .inl (ft_owners)))] → va_S A s.heap H locs → ∀ (ls : Array Slot), lv_has ls 5 [(0, .ref qt), (1, .int va1), (2, .int va2)] → b_X5_beside_44 it_width ft_owners va1 va2  = some out → W p l e (headSpec wsX5_beside rm_X5_beside).room s m ([.ref qt, .int va1, .int va2] : List Value).toArray below meth c H locs 0 0 Q (F0 m 44 ls []) := by
    intro  H locs hP hD hS ls hl hf
    rw [b_X5_beside_44] at hf
    refine lv_iload_n hx hb dX5_beside_44 rfl (lv_at hl 1 rfl) ?_
    refine lv_aload_n hx hb dX5_beside_45 rfl (lv_at hl 0 rfl) ?_
    refine lv_iload_n hx hb dX5_beside_46 rfl (lv_at hl 2 rfl) ?_
    refine kcalli (wc := [(qt, .inr (5, [.ref qt_owners, .int (it_width), .int (it_cellCount), .int (it_roomCount), .int (it_doorCount), .int (it_lowest)]))]) (wr := [(qt_owners, .inr (4, [.ref qt_owners_values])), (qt_owners_values, .inl (cy.1, 210, .inl (ft_owners)))]) (w1 := [(qt, .inr (5, [.ref qt_owners, .int (it_width), .int (it_cellCount), .int (it_roomCount), .int (it_doorCount), .int (it_lowest)]))]) hK hP hD hS hA hG [0] [1, 2] rfl rfl rfl rfl rfl (fun hU hPc => va_runV (As := [.int va2]) (rest := [.int va1]) ⟨hx, hb, hml, hown, hts⟩ (c_X5_stride l dC dI cy G H.size qt qt_owners (it_cellCount) (it_roomCount) (it_doorCount) (it_lowest) (it_width) (va2) (t_X5_stride (it_width) (va2)) (tot_X5_stride (it_width) (va2))) (cwV 1 hts gX5_beside_X5_stride rfl rfl rfl hdX5_stride ⟨Nat.le_of_ble_eq_true rfl, Nat.le_of_ble_eq_true rfl⟩) ⟨kBlind, (va_recv hK hP (ci := 5) (q0 := 0) rfl rfl), fun U h1 h2 => ⟨rfl, hU U h1 h2⟩⟩ rfl rfl hl.1 rfl (lv_room (Nat.le_of_ble_eq_true rfl)) dX5_beside_47 ⟨Nat.zero_le _, Nat.zero_le _⟩) ((t_X5_stride (it_width) (va2))) (fun _ _ h => h) (fun _ _ h => h) (fun H locs hP hD hS => ?_)
    have hP : va_P (dC, dI) vwCl [(qt_owners, .inr (4, [.ref qt_owners_values])), (qt_owners_values, .inl (cy.1, 210, .inl (ft_owners))), (qt, .inr (5, [.ref qt_owners, .int (it_width), .int (it_cellCount), .int (it_roomCount), .int (it_doorCount), .int (it_lowest)]))] H := hP
    have hD : va_D A [(qt_owners, .inr (4, [.ref qt_owners_values])), (qt_owners_values, .inl (cy.1, 210, .inl (ft_owners))), (qt, .inr (5, [.ref qt_owners, .int (it_width), .int (it_cellCount), .int (it_roomCount), .int (it_doorCount), .int (it_lowest)]))] := hD
    refine lv_iadd hx hb dX5_beside_50 ?_
    refine lv_istore (lv' := [(4, .int (va1 + (t_X5_stride (it_width) (va2)))), (0, .ref qt), (1, .int va1), (2, .int va2)]) hx hb dX5_beside_51 hl (by decide) rfl (fun ls hl => ?_)
    refine lv_aload_n hx hb dX5_beside_53 rfl (lv_at hl 1 rfl) ?_
    refine lv_iload hx hb dX5_beside_54 (lv_at hl 0 rfl) ?_
    refine kcalli (wc := [(qt, .inr (5, [.ref qt_owners, .int (it_width), .int (it_cellCount), .int (it_roomCount), .int (it_doorCount), .int (it_lowest)])), (qt_owners, .inr (4, [.ref qt_owners_values])), (qt_owners_values, .inl (cy.1, 210, .inl (ft_owners)))]) (wr := []) (w1 := [(qt, .inr (5, [.ref qt_owners, .int (it_width), .int (it_cellCount), .int (it_roomCount), .int (it_doorCount), .int (it_lowest)])), (qt_owners, .inr (4, [.ref qt_owners_values])), (qt_owners_values, .inl (cy.1, 210, .inl (ft_owners)))]) hK hP hD hS hA hG [2, 0, 1] [] rfl rfl rfl rfl rfl (fun hU hPc => va_runV (As := [.int (va1 + (t_X5_stride (it_width) (va2)))]) (rest := []) ⟨hx, hb, hml, hown, hts⟩ (c_X5_holds l dC dI cy G H.size qt qt_owners qt_owners_values (it_width) (it_cellCount) (it_roomCount) (it_doorCount) (it_lowest) (ft_owners) ((va1 + (t_X5_stride (it_width) (va2)))) (t_X5_holds (ft_owners) ((va1 + (t_X5_stride (it_width) (va2))))) (tot_X5_holds (ft_owners) ((va1 + (t_X5_stride (it_width) (va2)))))) (cwV 1 hts gX5_beside_X5_holds rfl rfl rfl hdX5_holds ⟨Nat.le_of_ble_eq_true rfl, Nat.le_of_ble_eq_true rfl⟩) ⟨kBlind, (va_recv hK hP (ci := 5) (q0 := 2) rfl rfl), fun U h1 h2 => ⟨rfl, hU U h1 h2⟩⟩ rfl rfl hl.1 rfl (lv_room (Nat.le_of_ble_eq_true rfl)) dX5_beside_56 ⟨Nat.zero_le _, Nat.zero_le _⟩) ((t_X5_holds (ft_owners) ((va1 + (t_X5_stride (it_width) (va2)))))) (fun _ _ h => h) (fun _ _ h => h) (fun H locs hP hD hS => ?_)
    have hP : va_P (dC, dI) vwCl [(qt, .inr (5, [.ref qt_owners, .int (it_width), .int (it_cellCount), .int (it_roomCount), .int (it_doorCount), .int (it_lowest)])), (qt_owners, .inr (4, [.ref qt_owners_values])), (qt_owners_values, .inl (cy.1, 210, .inl (ft_owners)))] H := hP
    have hD : va_D A [(qt, .inr (5, [.ref qt_owners, .int (it_width), .int (it_cellCount), .int (it_roomCount), .int (it_doorCount), .int (it_lowest)])), (qt_owners, .inr (4, [.ref qt_owners_values])), (qt_owners_values, .inl (cy.1, 210, .inl (ft_owners)))] := hD
    refine lv_if_eq (tgt := 67) hx hb dX5_beside_59 (by decide) (fun hc_59 => ?_) (fun hc_59 => ?_)
    · rw [if_pos hc_59] at hf
      refine lv_iconst (v := (-1 : Int32)) hx hb dX5_beside_67 (by decide) ?_
      cases hf
      subst hQ
      exact kiret hx hb hr hlocks hK (hP.sub [0, 1, 2] rfl) (hD.sub [0, 1, 2] (by decide) rfl) hS rfl dX5_beside_68
    · rw [if_neg hc_59] at hf
      refine lv_iload hx hb dX5_beside_62 (lv_at hl 0 rfl) ?_
      refine lv_goto (tgt := 68) hx hb dX5_beside_64 (by decide) ?_
      cases hf
      subst hQ
      exact kiret hx hb hr hlocks hK (hP.sub [0, 1, 2] rfl) (hD.sub [0, 1, 2] (by decide) rfl) hS rfl dX5_beside_68
  have B33 : ∀ (l3 : Int32) (H : Heap) (locs : List Loc), va_P (dC, dI) vwCl [(qt, .inr (5, [.ref qt_owners, .int (it_width), .int (it_cellCount), .int (it_roomCount), .int (it_doorCount), .int (it_lowest)])), (qt_owners, .inr (4, [.ref qt_owners_values])), (qt_owners_values, .inl (cy.1, 210, .inl (ft_owners)))] H → va_D A [(qt, .inr (5, [.ref qt_owners, .int (it_width), .int (it_cellCount), .int (it_roomCount), .int (it_doorCount), .int (it_lowest)])), (qt_owners, .inr (4, [.ref qt_owners_values])), (qt_owners_values, .inl (cy.1, 210, .inl (ft_owners)))] → va_S A s.heap H locs → ∀ (ls : Array Slot), lv_has ls 5 [(0, .ref qt), (1, .int va1), (2, .int va2), (3, .int l3)] → b_X5_beside_33 it_width ft_owners va1 va2 l3 = some out → W p l e (headSpec wsX5_beside rm_X5_beside).room s m ([.ref qt, .int va1, .int va2] : List Value).toArray below meth c H locs 0 0 Q (F0 m 33 ls []) := by
    intro l3 H locs hP hD hS ls hl hf
    rw [b_X5_beside_33] at hf
    refine lv_iload_n hx hb dX5_beside_33 rfl (lv_at hl 2 rfl) ?_
    refine lv_iconst (v := (3 : Int32)) hx hb dX5_beside_34 (by decide) ?_
    refine lv_icmp_ne (tgt := 44) hx hb dX5_beside_35 (by decide) (fun hc_35 => ?_) (fun hc_35 => ?_)
    · rw [if_neg hc_35] at hf
      exact B44  _ _ (hP.sub [0, 1, 2] rfl) (hD.sub [0, 1, 2] (by decide) rfl) hS _ (lv_sub hl [0, 1, 2] rfl) hf
    · rw [if_pos hc_35] at hf
      refine lv_iload_n hx hb dX5_beside_38 rfl (lv_at hl 3 rfl) ?_
      refine lv_if_ne (tgt := 44) hx hb dX5_beside_39 (by decide) (fun hc_39 => ?_) (fun hc_39 => ?_)
      · rw [if_neg hc_39] at hf
        exact B44  _ _ (hP.sub [0, 1, 2] rfl) (hD.sub [0, 1, 2] (by decide) rfl) hS _ (lv_sub hl [0, 1, 2] rfl) hf
      · rw [if_pos hc_39] at hf
        refine lv_iconst (v := (-1 : Int32)) hx hb dX5_beside_42 (by decide) ?_
        cases hf
        subst hQ
        exact kiret hx hb hr hlocks hK (hP.sub [0, 1, 2] rfl) (hD.sub [0, 1, 2] (by decide) rfl) hS rfl dX5_beside_43
  have B17 : ∀ (s0 : Int32) (H : Heap) (locs : List Loc), va_P (dC, dI) vwCl [(qt, .inr (5, [.ref qt_owners, .int (it_width), .int (it_cellCount), .int (it_roomCount), .int (it_doorCount), .int (it_lowest)])), (qt_owners, .inr (4, [.ref qt_owners_values])), (qt_owners_values, .inl (cy.1, 210, .inl (ft_owners)))] H → va_D A [(qt, .inr (5, [.ref qt_owners, .int (it_width), .int (it_cellCount), .int (it_roomCount), .int (it_doorCount), .int (it_lowest)])), (qt_owners, .inr (4, [.ref qt_owners_values])), (qt_owners_values, .inl (cy.1, 210, .inl (ft_owners)))] → va_S A s.heap H locs → ∀ (ls : Array Slot), lv_has ls 5 [(0, .ref qt), (1, .int va1), (2, .int va2)] → b_X5_beside_17 it_width ft_owners va1 va2 s0 = some out → W p l e (headSpec wsX5_beside rm_X5_beside).room s m ([.ref qt, .int va1, .int va2] : List Value).toArray below meth c H locs 0 0 Q (F0 m 17 ls [.int s0]) := by
    intro s0 H locs hP hD hS ls hl hf
    rw [b_X5_beside_17] at hf
    refine lv_istore_n (lv' := [(3, .int s0), (0, .ref qt), (1, .int va1), (2, .int va2)]) hx hb dX5_beside_17 rfl hl (by decide) rfl (fun ls hl => ?_)
    refine lv_iload_n hx hb dX5_beside_18 rfl (lv_at hl 3 rfl) ?_
    refine lv_iconst (v := (1 : Int32)) hx hb dX5_beside_19 (by decide) ?_
    refine lv_icmp_ne (tgt := 33) hx hb dX5_beside_20 (by decide) (fun hc_20 => ?_) (fun hc_20 => ?_)
    · rw [if_neg hc_20] at hf
      exact B33 (s0) _ _ (hP.sub [0, 1, 2] rfl) (hD.sub [0, 1, 2] (by decide) rfl) hS _ (lv_sub hl [1, 2, 3, 0] rfl) hf
    · rw [if_pos hc_20] at hf
      refine lv_iload_n hx hb dX5_beside_23 rfl (lv_at hl 0 rfl) ?_
      refine lv_aload_n hx hb dX5_beside_24 rfl (lv_at hl 1 rfl) ?_
      refine va_get (D := (dC, dI)) (ci := 5) (C := RX5) (T := TX5) (N := 6) hx hb hts (fun _ h => (List.mem_cons_of_mem _ (List.mem_append_left _ (List.mem_append_right _ h)))) hown hK hP 0 rfl rfl 1 (by decide) (hts _ (List.mem_cons_of_mem _ (List.mem_append_left _ (List.mem_append_left _ (List.mem_of_getElem? (i := 0) rfl))))) (fun _ h => h) rfl dX5_beside_25 ?_
      refine lv_iconst (v := (1 : Int32)) hx hb dX5_beside_28 (by decide) ?_
      refine lv_isub hx hb dX5_beside_29 ?_
      refine lv_icmp_eq (tgt := 42) hx hb dX5_beside_30 (by decide) (fun hc_30 => ?_) (fun hc_30 => ?_)
      · rw [if_pos hc_30] at hf
        refine lv_iconst (v := (-1 : Int32)) hx hb dX5_beside_42 (by decide) ?_
        cases hf
        subst hQ
        exact kiret hx hb hr hlocks hK (hP.sub [0, 1, 2] rfl) (hD.sub [0, 1, 2] (by decide) rfl) hS rfl dX5_beside_43
      · rw [if_neg hc_30] at hf
        exact B33 (s0) _ _ (hP.sub [0, 1, 2] rfl) (hD.sub [0, 1, 2] (by decide) rfl) hS _ (lv_sub hl [1, 2, 3, 0] rfl) hf
  rw [f_X5_beside] at hf
  refine lv_aload_n hx hb dX5_beside_0 rfl (lv_at hl 0 rfl) ?_
  refine va_get (D := (dC, dI)) (ci := 5) (C := RX5) (T := TX5) (N := 6) hx hb hts (fun _ h => (List.mem_cons_of_mem _ (List.mem_append_left _ (List.mem_append_right _ h)))) hown hK hP 0 rfl rfl 1 (by decide) (hts _ (List.mem_cons_of_mem _ (List.mem_append_left _ (List.mem_append_left _ (List.mem_of_getElem? (i := 0) rfl))))) (fun _ h => h) rfl dX5_beside_1 ?_
  refine lv_if_le (tgt := 16) hx hb dX5_beside_4 (by decide) (fun hc_4 => ?_) (fun hc_4 => ?_)
  · rw [if_pos hc_4] at hf
    refine lv_iconst (v := (0 : Int32)) hx hb dX5_beside_16 (by decide) ?_
    exact B17 ((0 : Int32)) _ _ (hP.sub [0, 1, 2] rfl) (hD.sub [0, 1, 2] (by decide) rfl) hS _ (lv_sub hl [0, 1, 2] rfl) hf
  · rw [if_neg hc_4] at hf
    refine lv_iload_n hx hb dX5_beside_7 rfl (lv_at hl 1 rfl) ?_
    refine lv_aload_n hx hb dX5_beside_8 rfl (lv_at hl 0 rfl) ?_
    refine va_get (D := (dC, dI)) (ci := 5) (C := RX5) (T := TX5) (N := 6) hx hb hts (fun _ h => (List.mem_cons_of_mem _ (List.mem_append_left _ (List.mem_append_right _ h)))) hown hK hP 0 rfl rfl 1 (by decide) (hts _ (List.mem_cons_of_mem _ (List.mem_append_left _ (List.mem_append_left _ (List.mem_of_getElem? (i := 0) rfl))))) (fun _ h => h) rfl dX5_beside_9 ?_
    refine lv_irem hx hb dX5_beside_12 (fun h => absurd hc_4 (by rw [h]; decide)) ?_
    refine lv_goto (tgt := 17) hx hb dX5_beside_13 (by decide) ?_
    exact B17 ((va1 - va1 / it_width * it_width)) _ _ (hP.sub [0, 1, 2] rfl) (hD.sub [0, 1, 2] (by decide) rfl) hS _ (lv_sub hl [0, 1, 2] rfl) hf
theorem hdX5_beside : yX5_beside.cls = RX5 ∧ yX5_beside.cls ≠ "java/lang/invoke/MethodHandle" ∧ yX5_beside.cls ≠ "java/lang/invoke/VarHandle" ∧ (parseMethodDescriptor yX5_beside.desc).map (fun d => d.parameters.length) = some 2 := by decide +kernel
noncomputable def tb_X5_beside_44 (it_width : Int32) (ft_owners : Nat → Int32) (va1 : Int32) (va2 : Int32) : Int32 :=
  if (t_X5_holds (ft_owners) ((va1 + (t_X5_stride (it_width) (va2))))) = 0 then
    (-1 : Int32)
  else
    (va1 + (t_X5_stride (it_width) (va2)))
theorem totb_X5_beside_44 (it_width : Int32) (ft_owners : Nat → Int32) (va1 : Int32) (va2 : Int32) : b_X5_beside_44 it_width ft_owners va1 va2 = some (tb_X5_beside_44 it_width ft_owners va1 va2) := by
  by_cases hc_59 : (t_X5_holds (ft_owners) ((va1 + (t_X5_stride (it_width) (va2))))) = 0
  · simp only [b_X5_beside_44, tb_X5_beside_44, if_pos hc_59]
  · simp only [b_X5_beside_44, tb_X5_beside_44, if_neg hc_59]
noncomputable def tb_X5_beside_33 (it_width : Int32) (ft_owners : Nat → Int32) (va1 : Int32) (va2 : Int32) (l3 : Int32) : Int32 :=
  if va2 = (3 : Int32) then
    if l3 = 0 then
      (-1 : Int32)
    else
      tb_X5_beside_44 it_width ft_owners va1 va2
  else
    tb_X5_beside_44 it_width ft_owners va1 va2
theorem totb_X5_beside_33 (it_width : Int32) (ft_owners : Nat → Int32) (va1 : Int32) (va2 : Int32) (l3 : Int32) : b_X5_beside_33 it_width ft_owners va1 va2 l3 = some (tb_X5_beside_33 it_width ft_owners va1 va2 l3) := by
  by_cases hc_35 : va2 = (3 : Int32)
  · by_cases hc_39 : l3 = 0
    · simp only [b_X5_beside_33, tb_X5_beside_33, if_pos hc_35, if_pos hc_39]
    · simp only [b_X5_beside_33, tb_X5_beside_33, if_pos hc_35, if_neg hc_39, totb_X5_beside_44]
  · simp only [b_X5_beside_33, tb_X5_beside_33, if_neg hc_35, totb_X5_beside_44]
noncomputable def tb_X5_beside_17 (it_width : Int32) (ft_owners : Nat → Int32) (va1 : Int32) (va2 : Int32) (s0 : Int32) : Int32 :=
  if va2 = (1 : Int32) then
    if s0 = (it_width - (1 : Int32)) then
      (-1 : Int32)
    else
      tb_X5_beside_33 it_width ft_owners va1 va2 (s0)
  else
    tb_X5_beside_33 it_width ft_owners va1 va2 (s0)
theorem totb_X5_beside_17 (it_width : Int32) (ft_owners : Nat → Int32) (va1 : Int32) (va2 : Int32) (s0 : Int32) : b_X5_beside_17 it_width ft_owners va1 va2 s0 = some (tb_X5_beside_17 it_width ft_owners va1 va2 s0) := by
  by_cases hc_20 : va2 = (1 : Int32)
  · by_cases hc_30 : s0 = (it_width - (1 : Int32))
    · simp only [b_X5_beside_17, tb_X5_beside_17, if_pos hc_20, if_pos hc_30]
    · simp only [b_X5_beside_17, tb_X5_beside_17, if_pos hc_20, if_neg hc_30, totb_X5_beside_33]
  · simp only [b_X5_beside_17, tb_X5_beside_17, if_neg hc_20, totb_X5_beside_33]
noncomputable def t_X5_beside (it_width : Int32) (ft_owners : Nat → Int32) (va1 : Int32) (va2 : Int32) : Int32 :=
  if it_width ≤ 0 then
    tb_X5_beside_17 it_width ft_owners va1 va2 ((0 : Int32))
  else
    tb_X5_beside_17 it_width ft_owners va1 va2 ((va1 - va1 / it_width * it_width))
theorem tot_X5_beside (it_width : Int32) (ft_owners : Nat → Int32) (va1 : Int32) (va2 : Int32) : f_X5_beside it_width ft_owners va1 va2 = some (t_X5_beside it_width ft_owners va1 va2) := by
  by_cases hc_4 : it_width ≤ 0
  · simp only [f_X5_beside, t_X5_beside, if_pos hc_4, totb_X5_beside_17]
  · simp only [f_X5_beside, t_X5_beside, if_neg hc_4, totb_X5_beside_17]
noncomputable def f_X5_hasDoor (it_width : Int32) (ft_owners : Nat → Int32) (va1 : Int32) (va2 : Int32) : Option (Int32) :=
  if (t_X5_holds (ft_owners) (va1)) = 0 then
    some ((0 : Int32))
  else
    if (t_X5_beside (it_width) (ft_owners) (va1) (va2)) = (-1 : Int32) then
      some ((0 : Int32))
    else
      some ((1 : Int32))
abbrev rm_X5_hasDoor : Room := { frames := 3, cells := 0, slots := 0, locals := 66 }
set_option maxHeartbeats 4000000 in
set_option maxRecDepth 100000 in
theorem c_X5_hasDoor (l : Launch) (dC : Nat → ClassId) (dI : Nat → Nat → Nat) (cy : gC) (G : gT) (sz : Nat) (qt : Nat) (qt_owners : Nat) (qt_owners_values : Nat) (it_cellCount : Int32) (it_roomCount : Int32) (it_doorCount : Int32) (it_lowest : Int32) (it_width : Int32) (ft_owners : Nat → Int32) (va1 : Int32) (va2 : Int32) (out : Int32) (hf : f_X5_hasDoor it_width ft_owners va1 va2 = some out) : Met l yX5_hasDoor wsX5_hasDoor rm_X5_hasDoor (va_Pc [.ref qt, .int va1, .int va2] (kP (dC, dI) cy G [(qt, .inr (5, [.ref qt_owners, .int (it_width), .int (it_cellCount), .int (it_roomCount), .int (it_doorCount), .int (it_lowest)])), (qt_owners, .inr (4, [.ref qt_owners_values])), (qt_owners_values, .inl (cy.1, 210, .inl (ft_owners)))] sz)) (va_Qi (fun r (_ : Unit) => r = out) (fun _ => kQ (dC, dI) cy [(qt, .inr (5, [.ref qt_owners, .int (it_width), .int (it_cellCount), .int (it_roomCount), .int (it_doorCount), .int (it_lowest)])), (qt_owners, .inr (4, [.ref qt_owners_values])), (qt_owners_values, .inl (cy.1, 210, .inl (ft_owners)))] (va_A [(qt, .inr (5, [.ref qt_owners, .int (it_width), .int (it_cellCount), .int (it_roomCount), .int (it_doorCount), .int (it_lowest)])), (qt_owners, .inr (4, [.ref qt_owners_values])), (qt_owners_values, .inl (cy.1, 210, .inl (ft_owners)))] sz)) (va_A [(qt, .inr (5, [.ref qt_owners, .int (it_width), .int (it_cellCount), .int (it_roomCount), .int (it_doorCount), .int (it_lowest)])), (qt_owners, .inr (4, [.ref qt_owners_values])), (qt_owners_values, .inl (cy.1, 210, .inl (ft_owners)))] sz)) 0 0 (va_A [(qt, .inr (5, [.ref qt_owners, .int (it_width), .int (it_cellCount), .int (it_roomCount), .int (it_doorCount), .int (it_lowest)])), (qt_owners, .inr (4, [.ref qt_owners_values])), (qt_owners_values, .inl (cy.1, 210, .inl (ft_owners)))] sz) := by
  refine Met.ofW (cc := cX5_hasDoor) (maxL := 3) (ret := (some .boolean)) (by decide) rfl ?_
  intro p e s m args below meth c s₁ B hml hv
  obtain ⟨rfl, hsz, hP, hK, hD0, hG⟩ := hv
  have hx := B.exec
  have hb := B.bytes
  have hr := B.returns
  have hts := atoms_spec (ws := wsX5_hasDoor) B.pre
  have hown : s.vm.findClass RX5 = some m.cls := findClass_of_methodNamed B.named
  have hlocks := B.notSynchronized
  subst hsz
  have hD := hD0.self (sz := s.heap.size)
  generalize hAe : va_A [(qt, .inr (5, [.ref qt_owners, .int (it_width), .int (it_cellCount), .int (it_roomCount), .int (it_doorCount), .int (it_lowest)])), (qt_owners, .inr (4, [.ref qt_owners_values])), (qt_owners_values, .inl (cy.1, 210, .inl (ft_owners)))] s.heap.size = A at hD hG ⊢
  have hA : ∀ q : Nat, s.heap.size ≤ q → A q := fun q h => by rw [← hAe]; exact Or.inr h
  have hS : va_S A s.heap s.heap [] := va_S.rf
  have hP : va_P (dC, dI) vwCl [(qt, .inr (5, [.ref qt_owners, .int (it_width), .int (it_cellCount), .int (it_roomCount), .int (it_doorCount), .int (it_lowest)])), (qt_owners, .inr (4, [.ref qt_owners_values])), (qt_owners_values, .inl (cy.1, 210, .inl (ft_owners)))] s.heap := hP
  have hl := lv_entry ([.ref qt, .int va1, .int va2]) (n := 3) (Nat.le_of_ble_eq_true rfl)
  rw [lg_entry_eq]
  generalize (lg_sl ([.ref qt, .int va1, .int va2]) ++ List.replicate (3 - (lg_sl ([.ref qt, .int va1, .int va2])).length) Slot.unset).toArray = ls at hl ⊢
  have hl : lv_has ls 3 [(0, .ref qt), (1, .int va1), (2, .int va2)] := hl
  refine kgen (fun Q hQ => ?_)
  rw [f_X5_hasDoor] at hf
  refine lv_aload_n hx hb dX5_hasDoor_0 rfl (lv_at hl 0 rfl) ?_
  refine lv_iload_n hx hb dX5_hasDoor_1 rfl (lv_at hl 1 rfl) ?_
  refine kcalli (wc := [(qt, .inr (5, [.ref qt_owners, .int (it_width), .int (it_cellCount), .int (it_roomCount), .int (it_doorCount), .int (it_lowest)])), (qt_owners, .inr (4, [.ref qt_owners_values])), (qt_owners_values, .inl (cy.1, 210, .inl (ft_owners)))]) (wr := []) (w1 := [(qt, .inr (5, [.ref qt_owners, .int (it_width), .int (it_cellCount), .int (it_roomCount), .int (it_doorCount), .int (it_lowest)])), (qt_owners, .inr (4, [.ref qt_owners_values])), (qt_owners_values, .inl (cy.1, 210, .inl (ft_owners)))]) hK hP hD hS hA hG [0, 1, 2] [] rfl rfl rfl rfl rfl (fun hU hPc => va_runV (As := [.int va1]) (rest := []) ⟨hx, hb, hml, hown, hts⟩ (c_X5_holds l dC dI cy G s.heap.size qt qt_owners qt_owners_values (it_width) (it_cellCount) (it_roomCount) (it_doorCount) (it_lowest) (ft_owners) (va1) (t_X5_holds (ft_owners) (va1)) (tot_X5_holds (ft_owners) (va1))) (cwV 1 hts gX5_hasDoor_X5_holds rfl rfl rfl hdX5_holds ⟨Nat.le_of_ble_eq_true rfl, Nat.le_of_ble_eq_true rfl⟩) ⟨kBlind, (va_recv hK hP (ci := 5) (q0 := 0) rfl rfl), fun U h1 h2 => ⟨rfl, hU U h1 h2⟩⟩ rfl rfl hl.1 rfl (lv_room (Nat.le_of_ble_eq_true rfl)) dX5_hasDoor_2 ⟨Nat.zero_le _, Nat.zero_le _⟩) ((t_X5_holds (ft_owners) (va1))) (fun _ _ h => h) (fun _ _ h => h) (fun H locs hP hD hS => ?_)
  have hP : va_P (dC, dI) vwCl [(qt, .inr (5, [.ref qt_owners, .int (it_width), .int (it_cellCount), .int (it_roomCount), .int (it_doorCount), .int (it_lowest)])), (qt_owners, .inr (4, [.ref qt_owners_values])), (qt_owners_values, .inl (cy.1, 210, .inl (ft_owners)))] H := hP
  have hD : va_D A [(qt, .inr (5, [.ref qt_owners, .int (it_width), .int (it_cellCount), .int (it_roomCount), .int (it_doorCount), .int (it_lowest)])), (qt_owners, .inr (4, [.ref qt_owners_values])), (qt_owners_values, .inl (cy.1, 210, .inl (ft_owners)))] := hD
  refine lv_if_eq (tgt := 22) hx hb dX5_hasDoor_5 (by decide) (fun hc_5 => ?_) (fun hc_5 => ?_)
  · rw [if_pos hc_5] at hf
    refine lv_iconst (v := (0 : Int32)) hx hb dX5_hasDoor_22 (by decide) ?_
    cases hf
    subst hQ
    exact kzret hx hb hr hlocks rfl hK (hP.sub [0, 1, 2] rfl) (hD.sub [0, 1, 2] (by decide) rfl) hS rfl dX5_hasDoor_23
  · rw [if_neg hc_5] at hf
    refine lv_aload_n hx hb dX5_hasDoor_8 rfl (lv_at hl 0 rfl) ?_
    refine lv_iload_n hx hb dX5_hasDoor_9 rfl (lv_at hl 1 rfl) ?_
    refine lv_iload_n hx hb dX5_hasDoor_10 rfl (lv_at hl 2 rfl) ?_
    refine kcalli (wc := [(qt, .inr (5, [.ref qt_owners, .int (it_width), .int (it_cellCount), .int (it_roomCount), .int (it_doorCount), .int (it_lowest)])), (qt_owners, .inr (4, [.ref qt_owners_values])), (qt_owners_values, .inl (cy.1, 210, .inl (ft_owners)))]) (wr := []) (w1 := [(qt, .inr (5, [.ref qt_owners, .int (it_width), .int (it_cellCount), .int (it_roomCount), .int (it_doorCount), .int (it_lowest)])), (qt_owners, .inr (4, [.ref qt_owners_values])), (qt_owners_values, .inl (cy.1, 210, .inl (ft_owners)))]) hK hP hD hS hA hG [0, 1, 2] [] rfl rfl rfl rfl rfl (fun hU hPc => va_runV (As := [.int va1, .int va2]) (rest := []) ⟨hx, hb, hml, hown, hts⟩ (c_X5_beside l dC dI cy G H.size qt qt_owners qt_owners_values (it_cellCount) (it_roomCount) (it_doorCount) (it_lowest) (it_width) (ft_owners) (va1) (va2) (t_X5_beside (it_width) (ft_owners) (va1) (va2)) (tot_X5_beside (it_width) (ft_owners) (va1) (va2))) (cwV 2 hts gX5_hasDoor_X5_beside rfl rfl rfl hdX5_beside ⟨Nat.le_of_ble_eq_true rfl, Nat.le_of_ble_eq_true rfl⟩) ⟨kBlind, (va_recv hK hP (ci := 5) (q0 := 0) rfl rfl), fun U h1 h2 => ⟨rfl, hU U h1 h2⟩⟩ rfl rfl hl.1 rfl (lv_room (Nat.le_of_ble_eq_true rfl)) dX5_hasDoor_11 ⟨Nat.zero_le _, Nat.zero_le _⟩) ((t_X5_beside (it_width) (ft_owners) (va1) (va2))) (fun _ _ h => h) (fun _ _ h => h) (fun H locs hP hD hS => ?_)
    have hP : va_P (dC, dI) vwCl [(qt, .inr (5, [.ref qt_owners, .int (it_width), .int (it_cellCount), .int (it_roomCount), .int (it_doorCount), .int (it_lowest)])), (qt_owners, .inr (4, [.ref qt_owners_values])), (qt_owners_values, .inl (cy.1, 210, .inl (ft_owners)))] H := hP
    have hD : va_D A [(qt, .inr (5, [.ref qt_owners, .int (it_width), .int (it_cellCount), .int (it_roomCount), .int (it_doorCount), .int (it_lowest)])), (qt_owners, .inr (4, [.ref qt_owners_values])), (qt_owners_values, .inl (cy.1, 210, .inl (ft_owners)))] := hD
    refine lv_iconst (v := (-1 : Int32)) hx hb dX5_hasDoor_14 (by decide) ?_
    refine lv_icmp_eq (tgt := 22) hx hb dX5_hasDoor_15 (by decide) (fun hc_15 => ?_) (fun hc_15 => ?_)
    · rw [if_pos hc_15] at hf
      refine lv_iconst (v := (0 : Int32)) hx hb dX5_hasDoor_22 (by decide) ?_
      cases hf
      subst hQ
      exact kzret hx hb hr hlocks rfl hK (hP.sub [0, 1, 2] rfl) (hD.sub [0, 1, 2] (by decide) rfl) hS rfl dX5_hasDoor_23
    · rw [if_neg hc_15] at hf
      refine lv_iconst (v := (1 : Int32)) hx hb dX5_hasDoor_18 (by decide) ?_
      refine lv_goto (tgt := 23) hx hb dX5_hasDoor_19 (by decide) ?_
      cases hf
      subst hQ
      exact kzret hx hb hr hlocks rfl hK (hP.sub [0, 1, 2] rfl) (hD.sub [0, 1, 2] (by decide) rfl) hS rfl dX5_hasDoor_23
theorem hdX5_hasDoor : yX5_hasDoor.cls = RX5 ∧ yX5_hasDoor.cls ≠ "java/lang/invoke/MethodHandle" ∧ yX5_hasDoor.cls ≠ "java/lang/invoke/VarHandle" ∧ (parseMethodDescriptor yX5_hasDoor.desc).map (fun d => d.parameters.length) = some 2 := by decide +kernel
noncomputable def t_X5_hasDoor (it_width : Int32) (ft_owners : Nat → Int32) (va1 : Int32) (va2 : Int32) : Int32 :=
  if (t_X5_holds (ft_owners) (va1)) = 0 then
    (0 : Int32)
  else
    if (t_X5_beside (it_width) (ft_owners) (va1) (va2)) = (-1 : Int32) then
      (0 : Int32)
    else
      (1 : Int32)
theorem tot_X5_hasDoor (it_width : Int32) (ft_owners : Nat → Int32) (va1 : Int32) (va2 : Int32) : f_X5_hasDoor it_width ft_owners va1 va2 = some (t_X5_hasDoor it_width ft_owners va1 va2) := by
  by_cases hc_5 : (t_X5_holds (ft_owners) (va1)) = 0
  · simp only [f_X5_hasDoor, t_X5_hasDoor, if_pos hc_5]
  · by_cases hc_15 : (t_X5_beside (it_width) (ft_owners) (va1) (va2)) = (-1 : Int32)
    · simp only [f_X5_hasDoor, t_X5_hasDoor, if_neg hc_5, if_pos hc_15]
    · simp only [f_X5_hasDoor, t_X5_hasDoor, if_neg hc_5, if_neg hc_15]
theorem bl_X5_hasDoor (it_width : Int32) (ft_owners : Nat → Int32) (va1 : Int32) (va2 : Int32) : t_X5_hasDoor it_width ft_owners va1 va2 = 0 ∨ t_X5_hasDoor it_width ft_owners va1 va2 = 1 := by
  unfold t_X5_hasDoor
  repeat' (first | exact Or.inl rfl | exact Or.inr rfl | exact bl_X5_holds _ _ | split)
noncomputable def b_X5_countRoomsAndDoors_81 (N : Nat) (it_width : Int32) (ft_owners : Nat → Int32) (k17 : Int32 → Int32 → Int32 → Int32 → Option (Int32 × Int32 × Int32)) (l1 : Int32) (s1 : Int32) (s2 : Int32) (cit_roomCount : Int32) (cit_doorCount : Int32) (cit_lowest : Int32) : Option (Int32 × Int32 × Int32) :=
  if (t_X5_hasDoor (it_width) (ft_owners) (l1) ((2 : Int32))) = 0 then
    k17 ((l1 + (1 : Int32))) (cit_roomCount) (((s1 + s2) + (0 : Int32))) (cit_lowest)
  else
    k17 ((l1 + (1 : Int32))) (cit_roomCount) (((s1 + s2) + (1 : Int32))) (cit_lowest)
noncomputable def b_X5_countRoomsAndDoors_59 (N : Nat) (it_width : Int32) (ft_owners : Nat → Int32) (k17 : Int32 → Int32 → Int32 → Int32 → Option (Int32 × Int32 × Int32)) (l1 : Int32) (s1 : Int32) (cit_roomCount : Int32) (cit_doorCount : Int32) (cit_lowest : Int32) : Option (Int32 × Int32 × Int32) :=
  if (t_X5_hasDoor (it_width) (ft_owners) (l1) ((1 : Int32))) = 0 then
    b_X5_countRoomsAndDoors_81 N it_width ft_owners (k17) (l1) (cit_doorCount) ((0 : Int32)) (cit_roomCount) (cit_doorCount) (s1)
  else
    b_X5_countRoomsAndDoors_81 N it_width ft_owners (k17) (l1) (cit_doorCount) ((1 : Int32)) (cit_roomCount) (cit_doorCount) (s1)
noncomputable def b_X5_countRoomsAndDoors_17 (N : Nat) (it_width : Int32) (ft_owners : Nat → Int32) : Nat → Int32 → Int32 → Int32 → Int32 → Option (Int32 × Int32 × Int32)
  | 0, _, _, _, _ => none
  | n + 1, l1, cit_roomCount, cit_doorCount, cit_lowest =>
    if (210 : Int32) ≤ l1 then
      some (cit_roomCount, cit_doorCount, cit_lowest)
    else
      if (t_X5_holds (ft_owners) (l1)) = 0 then
        b_X5_countRoomsAndDoors_17 N it_width ft_owners n ((l1 + (1 : Int32))) (cit_roomCount) (cit_doorCount) (cit_lowest)
      else
        if cit_lowest = (-1 : Int32) then
          b_X5_countRoomsAndDoors_59 N it_width ft_owners (b_X5_countRoomsAndDoors_17 N it_width ft_owners n) (l1) (l1) ((cit_roomCount + (1 : Int32))) (cit_doorCount) (cit_lowest)
        else
          b_X5_countRoomsAndDoors_59 N it_width ft_owners (b_X5_countRoomsAndDoors_17 N it_width ft_owners n) (l1) (cit_lowest) ((cit_roomCount + (1 : Int32))) (cit_doorCount) (cit_lowest)
noncomputable def f_X5_countRoomsAndDoors (N : Nat) (it_width : Int32) (it_roomCount : Int32) (it_doorCount : Int32) (it_lowest : Int32) (ft_owners : Nat → Int32) : Option (Int32 × Int32 × Int32) :=
  b_X5_countRoomsAndDoors_17 N it_width ft_owners N ((0 : Int32)) ((0 : Int32)) ((0 : Int32)) ((-1 : Int32))
abbrev rm_X5_countRoomsAndDoors : Room := { frames := 4, cells := 0, slots := 0, locals := 88 }
set_option maxHeartbeats 4000000 in
set_option maxRecDepth 100000 in
theorem c_X5_countRoomsAndDoors (l : Launch) (dC : Nat → ClassId) (dI : Nat → Nat → Nat) (cy : gC) (G : gT) (sz : Nat) (qt : Nat) (qt_owners : Nat) (qt_owners_values : Nat) (it_cellCount : Int32) (N : Nat) (it_width : Int32) (it_roomCount : Int32) (it_doorCount : Int32) (it_lowest : Int32) (ft_owners : Nat → Int32) (out : Int32 × Int32 × Int32) (hf : f_X5_countRoomsAndDoors N it_width it_roomCount it_doorCount it_lowest ft_owners = some out) : Met l yX5_countRoomsAndDoors wsX5_countRoomsAndDoors rm_X5_countRoomsAndDoors (va_Pc [.ref qt] (kP (dC, dI) cy G [(qt, .inr (5, [.ref qt_owners, .int (it_width), .int (it_cellCount), .int (it_roomCount), .int (it_doorCount), .int (it_lowest)])), (qt_owners, .inr (4, [.ref qt_owners_values])), (qt_owners_values, .inl (cy.1, 210, .inl (ft_owners)))] sz)) (va_Qv (fun (_ : Unit) => True) (fun _ => kQ (dC, dI) cy [(qt, .inr (5, [.ref qt_owners, .int (it_width), .int (it_cellCount), .int (out.1), .int (out.2.1), .int (out.2.2)])), (qt_owners, .inr (4, [.ref qt_owners_values])), (qt_owners_values, .inl (cy.1, 210, .inl (ft_owners)))] (va_A [(qt, .inr (5, [.ref qt_owners, .int (it_width), .int (it_cellCount), .int (it_roomCount), .int (it_doorCount), .int (it_lowest)])), (qt_owners, .inr (4, [.ref qt_owners_values])), (qt_owners_values, .inl (cy.1, 210, .inl (ft_owners)))] sz)) (va_A [(qt, .inr (5, [.ref qt_owners, .int (it_width), .int (it_cellCount), .int (it_roomCount), .int (it_doorCount), .int (it_lowest)])), (qt_owners, .inr (4, [.ref qt_owners_values])), (qt_owners_values, .inl (cy.1, 210, .inl (ft_owners)))] sz)) 0 0 (va_A [(qt, .inr (5, [.ref qt_owners, .int (it_width), .int (it_cellCount), .int (it_roomCount), .int (it_doorCount), .int (it_lowest)])), (qt_owners, .inr (4, [.ref qt_owners_values])), (qt_owners_values, .inl (cy.1, 210, .inl (ft_owners)))] sz) := by
  refine Met.ofW (cc := cX5_countRoomsAndDoors) (maxL := 2) (ret := none) (by decide) rfl ?_
  intro p e s m args below meth c s₁ B hml hv
  obtain ⟨rfl, hsz, hP, hK, hD0, hG⟩ := hv
  have hx := B.exec
  have hb := B.bytes
  have hr := B.returns
  have hts := atoms_spec (ws := wsX5_countRoomsAndDoors) B.pre
  have hown : s.vm.findClass RX5 = some m.cls := findClass_of_methodNamed B.named
  have hlocks := B.notSynchronized
  subst hsz
  have hD := hD0.self (sz := s.heap.size)
  generalize hAe : va_A [(qt, .inr (5, [.ref qt_owners, .int (it_width), .int (it_cellCount), .int (it_roomCount), .int (it_doorCount), .int (it_lowest)])), (qt_owners, .inr (4, [.ref qt_owners_values])), (qt_owners_values, .inl (cy.1, 210, .inl (ft_owners)))] s.heap.size = A at hD hG ⊢
  have hA : ∀ q : Nat, s.heap.size ≤ q → A q := fun q h => by rw [← hAe]; exact Or.inr h
  have hS : va_S A s.heap s.heap [] := va_S.rf
  have hP : va_P (dC, dI) vwCl [(qt, .inr (5, [.ref qt_owners, .int (it_width), .int (it_cellCount), .int (it_roomCount), .int (it_doorCount), .int (it_lowest)])), (qt_owners, .inr (4, [.ref qt_owners_values])), (qt_owners_values, .inl (cy.1, 210, .inl (ft_owners)))] s.heap := hP
  have hl := lv_entry ([.ref qt]) (n := 2) (Nat.le_of_ble_eq_true rfl)
  rw [lg_entry_eq]
  generalize (lg_sl ([.ref qt]) ++ List.replicate (2 - (lg_sl ([.ref qt])).length) Slot.unset).toArray = ls at hl ⊢
  have hl : lv_has ls 2 [(0, .ref qt)] := hl
  refine kgen (fun Q hQ => ?_)
  have B17 : ∀ (n17 : Nat) (l1 : Int32) (cit_roomCount : Int32) (cit_doorCount : Int32) (cit_lowest : Int32) (H : Heap) (locs : List Loc), va_P (dC, dI) vwCl [(qt, .inr (5, [.ref qt_owners, .int (it_width), .int (it_cellCount), .int (cit_roomCount), .int (cit_doorCount), .int (cit_lowest)])), (qt_owners, .inr (4, [.ref qt_owners_values])), (qt_owners_values, .inl (cy.1, 210, .inl (ft_owners)))] H → va_D A [(qt, .inr (5, [.ref qt_owners, .int (it_width), .int (it_cellCount), .int (cit_roomCount), .int (cit_doorCount), .int (cit_lowest)])), (qt_owners, .inr (4, [.ref qt_owners_values])), (qt_owners_values, .inl (cy.1, 210, .inl (ft_owners)))] → va_S A s.heap H locs → ∀ (ls : Array Slot), lv_has ls 2 [(0, .ref qt), (1, .int l1)] → b_X5_countRoomsAndDoors_17 N it_width ft_owners n17 l1 cit_roomCount cit_doorCount cit_lowest = some out → W p l e (headSpec wsX5_countRoomsAndDoors rm_X5_countRoomsAndDoors).room s m ([.ref qt] : List Value).toArray below meth c H locs 0 0 Q (F0 m 17 ls []) := by
    intro n17
    induction n17 with
    | zero => intro l1 cit_roomCount cit_doorCount cit_lowest H locs hP hD hS ls hl hf; rw [b_X5_countRoomsAndDoors_17] at hf; cases hf
    | succ n17 ih17 =>
      have B81 : ∀ (l1 : Int32) (s1 : Int32) (s2 : Int32) (cit_roomCount : Int32) (cit_doorCount : Int32) (cit_lowest : Int32) (H : Heap) (locs : List Loc), va_P (dC, dI) vwCl [(qt, .inr (5, [.ref qt_owners, .int (it_width), .int (it_cellCount), .int (cit_roomCount), .int (cit_doorCount), .int (cit_lowest)])), (qt_owners, .inr (4, [.ref qt_owners_values])), (qt_owners_values, .inl (cy.1, 210, .inl (ft_owners)))] H → va_D A [(qt, .inr (5, [.ref qt_owners, .int (it_width), .int (it_cellCount), .int (cit_roomCount), .int (cit_doorCount), .int (cit_lowest)])), (qt_owners, .inr (4, [.ref qt_owners_values])), (qt_owners_values, .inl (cy.1, 210, .inl (ft_owners)))] → va_S A s.heap H locs → ∀ (ls : Array Slot), lv_has ls 2 [(0, .ref qt), (1, .int l1)] → b_X5_countRoomsAndDoors_81 N it_width ft_owners (b_X5_countRoomsAndDoors_17 N it_width ft_owners n17) l1 s1 s2 cit_roomCount cit_doorCount cit_lowest = some out → W p l e (headSpec wsX5_countRoomsAndDoors rm_X5_countRoomsAndDoors).room s m ([.ref qt] : List Value).toArray below meth c H locs 0 0 Q (F0 m 81 ls [.int s2, .int s1, .ref qt]) := by
        intro l1 s1 s2 cit_roomCount cit_doorCount cit_lowest H locs hP hD hS ls hl hf
        rw [b_X5_countRoomsAndDoors_81] at hf
        refine lv_iadd hx hb dX5_countRoomsAndDoors_81 ?_
        refine va_put (D := (dC, dI)) (ci := 5) (v := .int (s1 + s2)) (ty := .int) (C := RX5) (T := TX5) (N := 6) hx hb hts (fun _ h => (List.mem_cons_of_mem _ (List.mem_append_left _ (List.mem_append_right _ h)))) tyX5 tyX5_ok nmX5 hown hK hP hD hS 0 rfl rfl 4 (by decide) (hts _ (List.mem_cons_of_mem _ (List.mem_append_left _ (List.mem_append_left _ (List.mem_append_left _ (List.mem_of_getElem? (i := 1) rfl)))))) (fun _ h => h) rfl (by decide +kernel) rfl rfl (Nat.le_of_ble_eq_true rfl) dX5_countRoomsAndDoors_82 (fun H locs hP hD hS => ?_)
        have hP : va_P (dC, dI) vwCl [(qt, .inr (5, [.ref qt_owners, .int (it_width), .int (it_cellCount), .int (cit_roomCount), .int ((s1 + s2)), .int (cit_lowest)])), (qt_owners, .inr (4, [.ref qt_owners_values])), (qt_owners_values, .inl (cy.1, 210, .inl (ft_owners)))] H := hP
        have hD : va_D A [(qt, .inr (5, [.ref qt_owners, .int (it_width), .int (it_cellCount), .int (cit_roomCount), .int ((s1 + s2)), .int (cit_lowest)])), (qt_owners, .inr (4, [.ref qt_owners_values])), (qt_owners_values, .inl (cy.1, 210, .inl (ft_owners)))] := hD
        refine lv_aload_n hx hb dX5_countRoomsAndDoors_85 rfl (lv_at hl 0 rfl) ?_
        refine lv_dup hx hb dX5_countRoomsAndDoors_86 rfl ?_
        refine va_get (D := (dC, dI)) (ci := 5) (C := RX5) (T := TX5) (N := 6) hx hb hts (fun _ h => (List.mem_cons_of_mem _ (List.mem_append_left _ (List.mem_append_right _ h)))) hown hK hP 0 rfl rfl 4 (by decide) (hts _ (List.mem_cons_of_mem _ (List.mem_append_left _ (List.mem_append_left _ (List.mem_append_left _ (List.mem_of_getElem? (i := 1) rfl)))))) (fun _ h => h) rfl dX5_countRoomsAndDoors_87 ?_
        refine lv_aload_n hx hb dX5_countRoomsAndDoors_90 rfl (lv_at hl 0 rfl) ?_
        refine lv_iload_n hx hb dX5_countRoomsAndDoors_91 rfl (lv_at hl 1 rfl) ?_
        refine lv_iconst (v := (2 : Int32)) hx hb dX5_countRoomsAndDoors_92 (by decide) ?_
        refine kcalli (wc := [(qt, .inr (5, [.ref qt_owners, .int (it_width), .int (it_cellCount), .int (cit_roomCount), .int ((s1 + s2)), .int (cit_lowest)])), (qt_owners, .inr (4, [.ref qt_owners_values])), (qt_owners_values, .inl (cy.1, 210, .inl (ft_owners)))]) (wr := []) (w1 := [(qt, .inr (5, [.ref qt_owners, .int (it_width), .int (it_cellCount), .int (cit_roomCount), .int ((s1 + s2)), .int (cit_lowest)])), (qt_owners, .inr (4, [.ref qt_owners_values])), (qt_owners_values, .inl (cy.1, 210, .inl (ft_owners)))]) hK hP hD hS hA hG [0, 1, 2] [] rfl rfl rfl rfl rfl (fun hU hPc => va_runV (As := [.int l1, .int (2 : Int32)]) (rest := [.int (s1 + s2), .ref qt]) ⟨hx, hb, hml, hown, hts⟩ (c_X5_hasDoor l dC dI cy G H.size qt qt_owners qt_owners_values (it_cellCount) (cit_roomCount) ((s1 + s2)) (cit_lowest) (it_width) (ft_owners) (l1) ((2 : Int32)) (t_X5_hasDoor (it_width) (ft_owners) (l1) ((2 : Int32))) (tot_X5_hasDoor (it_width) (ft_owners) (l1) ((2 : Int32)))) (cwV 2 hts gX5_countRoomsAndDoors_X5_hasDoor rfl rfl rfl hdX5_hasDoor ⟨Nat.le_of_ble_eq_true rfl, Nat.le_of_ble_eq_true rfl⟩) ⟨kBlind, (va_recv hK hP (ci := 5) (q0 := 0) rfl rfl), fun U h1 h2 => ⟨rfl, hU U h1 h2⟩⟩ rfl rfl hl.1 rfl (lv_room (Nat.le_of_ble_eq_true rfl)) dX5_countRoomsAndDoors_93 ⟨Nat.zero_le _, Nat.zero_le _⟩) ((t_X5_hasDoor (it_width) (ft_owners) (l1) ((2 : Int32)))) (fun _ _ h => h) (fun _ _ h => h) (fun H locs hP hD hS => ?_)
        have hP : va_P (dC, dI) vwCl [(qt, .inr (5, [.ref qt_owners, .int (it_width), .int (it_cellCount), .int (cit_roomCount), .int ((s1 + s2)), .int (cit_lowest)])), (qt_owners, .inr (4, [.ref qt_owners_values])), (qt_owners_values, .inl (cy.1, 210, .inl (ft_owners)))] H := hP
        have hD : va_D A [(qt, .inr (5, [.ref qt_owners, .int (it_width), .int (it_cellCount), .int (cit_roomCount), .int ((s1 + s2)), .int (cit_lowest)])), (qt_owners, .inr (4, [.ref qt_owners_values])), (qt_owners_values, .inl (cy.1, 210, .inl (ft_owners)))] := hD
        refine lv_if_eq (tgt := 103) hx hb dX5_countRoomsAndDoors_96 (by decide) (fun hc_96 => ?_) (fun hc_96 => ?_)
        · rw [if_pos hc_96] at hf
          refine lv_iconst (v := (0 : Int32)) hx hb dX5_countRoomsAndDoors_103 (by decide) ?_
          refine lv_iadd hx hb dX5_countRoomsAndDoors_104 ?_
          refine va_put (D := (dC, dI)) (ci := 5) (v := .int ((s1 + s2) + (0 : Int32))) (ty := .int) (C := RX5) (T := TX5) (N := 6) hx hb hts (fun _ h => (List.mem_cons_of_mem _ (List.mem_append_left _ (List.mem_append_right _ h)))) tyX5 tyX5_ok nmX5 hown hK hP hD hS 0 rfl rfl 4 (by decide) (hts _ (List.mem_cons_of_mem _ (List.mem_append_left _ (List.mem_append_left _ (List.mem_append_left _ (List.mem_of_getElem? (i := 1) rfl)))))) (fun _ h => h) rfl (by decide +kernel) rfl rfl (Nat.le_of_ble_eq_true rfl) dX5_countRoomsAndDoors_105 (fun H locs hP hD hS => ?_)
          have hP : va_P (dC, dI) vwCl [(qt, .inr (5, [.ref qt_owners, .int (it_width), .int (it_cellCount), .int (cit_roomCount), .int (((s1 + s2) + (0 : Int32))), .int (cit_lowest)])), (qt_owners, .inr (4, [.ref qt_owners_values])), (qt_owners_values, .inl (cy.1, 210, .inl (ft_owners)))] H := hP
          have hD : va_D A [(qt, .inr (5, [.ref qt_owners, .int (it_width), .int (it_cellCount), .int (cit_roomCount), .int (((s1 + s2) + (0 : Int32))), .int (cit_lowest)])), (qt_owners, .inr (4, [.ref qt_owners_values])), (qt_owners_values, .inl (cy.1, 210, .inl (ft_owners)))] := hD
          refine lv_iinc (v := (l1 + (1 : Int32))) (lv' := [(1, .int (l1 + (1 : Int32))), (0, .ref qt)]) hx hb dX5_countRoomsAndDoors_108 hl (k := 1) rfl rfl (by decide) rfl (fun ls hl => ?_)
          refine lv_goto (tgt := 17) hx hb dX5_countRoomsAndDoors_111 (by decide) ?_
          exact ih17 ((l1 + (1 : Int32))) (cit_roomCount) (((s1 + s2) + (0 : Int32))) (cit_lowest) _ _ (hP.sub [0, 1, 2] rfl) (hD.sub [0, 1, 2] (by decide) rfl) hS _ (lv_sub hl [1, 0] rfl) hf
        · rw [if_neg hc_96] at hf
          refine lv_iconst (v := (1 : Int32)) hx hb dX5_countRoomsAndDoors_99 (by decide) ?_
          refine lv_goto (tgt := 104) hx hb dX5_countRoomsAndDoors_100 (by decide) ?_
          refine lv_iadd hx hb dX5_countRoomsAndDoors_104 ?_
          refine va_put (D := (dC, dI)) (ci := 5) (v := .int ((s1 + s2) + (1 : Int32))) (ty := .int) (C := RX5) (T := TX5) (N := 6) hx hb hts (fun _ h => (List.mem_cons_of_mem _ (List.mem_append_left _ (List.mem_append_right _ h)))) tyX5 tyX5_ok nmX5 hown hK hP hD hS 0 rfl rfl 4 (by decide) (hts _ (List.mem_cons_of_mem _ (List.mem_append_left _ (List.mem_append_left _ (List.mem_append_left _ (List.mem_of_getElem? (i := 1) rfl)))))) (fun _ h => h) rfl (by decide +kernel) rfl rfl (Nat.le_of_ble_eq_true rfl) dX5_countRoomsAndDoors_105 (fun H locs hP hD hS => ?_)
          have hP : va_P (dC, dI) vwCl [(qt, .inr (5, [.ref qt_owners, .int (it_width), .int (it_cellCount), .int (cit_roomCount), .int (((s1 + s2) + (1 : Int32))), .int (cit_lowest)])), (qt_owners, .inr (4, [.ref qt_owners_values])), (qt_owners_values, .inl (cy.1, 210, .inl (ft_owners)))] H := hP
          have hD : va_D A [(qt, .inr (5, [.ref qt_owners, .int (it_width), .int (it_cellCount), .int (cit_roomCount), .int (((s1 + s2) + (1 : Int32))), .int (cit_lowest)])), (qt_owners, .inr (4, [.ref qt_owners_values])), (qt_owners_values, .inl (cy.1, 210, .inl (ft_owners)))] := hD
          refine lv_iinc (v := (l1 + (1 : Int32))) (lv' := [(1, .int (l1 + (1 : Int32))), (0, .ref qt)]) hx hb dX5_countRoomsAndDoors_108 hl (k := 1) rfl rfl (by decide) rfl (fun ls hl => ?_)
          refine lv_goto (tgt := 17) hx hb dX5_countRoomsAndDoors_111 (by decide) ?_
          exact ih17 ((l1 + (1 : Int32))) (cit_roomCount) (((s1 + s2) + (1 : Int32))) (cit_lowest) _ _ (hP.sub [0, 1, 2] rfl) (hD.sub [0, 1, 2] (by decide) rfl) hS _ (lv_sub hl [1, 0] rfl) hf
      have B59 : ∀ (l1 : Int32) (s1 : Int32) (cit_roomCount : Int32) (cit_doorCount : Int32) (cit_lowest : Int32) (H : Heap) (locs : List Loc), va_P (dC, dI) vwCl [(qt, .inr (5, [.ref qt_owners, .int (it_width), .int (it_cellCount), .int (cit_roomCount), .int (cit_doorCount), .int (cit_lowest)])), (qt_owners, .inr (4, [.ref qt_owners_values])), (qt_owners_values, .inl (cy.1, 210, .inl (ft_owners)))] H → va_D A [(qt, .inr (5, [.ref qt_owners, .int (it_width), .int (it_cellCount), .int (cit_roomCount), .int (cit_doorCount), .int (cit_lowest)])), (qt_owners, .inr (4, [.ref qt_owners_values])), (qt_owners_values, .inl (cy.1, 210, .inl (ft_owners)))] → va_S A s.heap H locs → ∀ (ls : Array Slot), lv_has ls 2 [(0, .ref qt), (1, .int l1)] → b_X5_countRoomsAndDoors_59 N it_width ft_owners (b_X5_countRoomsAndDoors_17 N it_width ft_owners n17) l1 s1 cit_roomCount cit_doorCount cit_lowest = some out → W p l e (headSpec wsX5_countRoomsAndDoors rm_X5_countRoomsAndDoors).room s m ([.ref qt] : List Value).toArray below meth c H locs 0 0 Q (F0 m 59 ls [.int s1, .ref qt]) := by
        intro l1 s1 cit_roomCount cit_doorCount cit_lowest H locs hP hD hS ls hl hf
        rw [b_X5_countRoomsAndDoors_59] at hf
        refine va_put (D := (dC, dI)) (ci := 5) (v := .int s1) (ty := .int) (C := RX5) (T := TX5) (N := 6) hx hb hts (fun _ h => (List.mem_cons_of_mem _ (List.mem_append_left _ (List.mem_append_right _ h)))) tyX5 tyX5_ok nmX5 hown hK hP hD hS 0 rfl rfl 5 (by decide) (hts _ (List.mem_cons_of_mem _ (List.mem_append_left _ (List.mem_append_left _ (List.mem_append_left _ (List.mem_of_getElem? (i := 2) rfl)))))) (fun _ h => h) rfl (by decide +kernel) rfl rfl (Nat.le_of_ble_eq_true rfl) dX5_countRoomsAndDoors_59 (fun H locs hP hD hS => ?_)
        have hP : va_P (dC, dI) vwCl [(qt, .inr (5, [.ref qt_owners, .int (it_width), .int (it_cellCount), .int (cit_roomCount), .int (cit_doorCount), .int (s1)])), (qt_owners, .inr (4, [.ref qt_owners_values])), (qt_owners_values, .inl (cy.1, 210, .inl (ft_owners)))] H := hP
        have hD : va_D A [(qt, .inr (5, [.ref qt_owners, .int (it_width), .int (it_cellCount), .int (cit_roomCount), .int (cit_doorCount), .int (s1)])), (qt_owners, .inr (4, [.ref qt_owners_values])), (qt_owners_values, .inl (cy.1, 210, .inl (ft_owners)))] := hD
        refine lv_aload_n hx hb dX5_countRoomsAndDoors_62 rfl (lv_at hl 0 rfl) ?_
        refine lv_dup hx hb dX5_countRoomsAndDoors_63 rfl ?_
        refine va_get (D := (dC, dI)) (ci := 5) (C := RX5) (T := TX5) (N := 6) hx hb hts (fun _ h => (List.mem_cons_of_mem _ (List.mem_append_left _ (List.mem_append_right _ h)))) hown hK hP 0 rfl rfl 4 (by decide) (hts _ (List.mem_cons_of_mem _ (List.mem_append_left _ (List.mem_append_left _ (List.mem_append_left _ (List.mem_of_getElem? (i := 1) rfl)))))) (fun _ h => h) rfl dX5_countRoomsAndDoors_64 ?_
        refine lv_aload_n hx hb dX5_countRoomsAndDoors_67 rfl (lv_at hl 0 rfl) ?_
        refine lv_iload_n hx hb dX5_countRoomsAndDoors_68 rfl (lv_at hl 1 rfl) ?_
        refine lv_iconst (v := (1 : Int32)) hx hb dX5_countRoomsAndDoors_69 (by decide) ?_
        refine kcalli (wc := [(qt, .inr (5, [.ref qt_owners, .int (it_width), .int (it_cellCount), .int (cit_roomCount), .int (cit_doorCount), .int (s1)])), (qt_owners, .inr (4, [.ref qt_owners_values])), (qt_owners_values, .inl (cy.1, 210, .inl (ft_owners)))]) (wr := []) (w1 := [(qt, .inr (5, [.ref qt_owners, .int (it_width), .int (it_cellCount), .int (cit_roomCount), .int (cit_doorCount), .int (s1)])), (qt_owners, .inr (4, [.ref qt_owners_values])), (qt_owners_values, .inl (cy.1, 210, .inl (ft_owners)))]) hK hP hD hS hA hG [0, 1, 2] [] rfl rfl rfl rfl rfl (fun hU hPc => va_runV (As := [.int l1, .int (1 : Int32)]) (rest := [.int cit_doorCount, .ref qt]) ⟨hx, hb, hml, hown, hts⟩ (c_X5_hasDoor l dC dI cy G H.size qt qt_owners qt_owners_values (it_cellCount) (cit_roomCount) (cit_doorCount) (s1) (it_width) (ft_owners) (l1) ((1 : Int32)) (t_X5_hasDoor (it_width) (ft_owners) (l1) ((1 : Int32))) (tot_X5_hasDoor (it_width) (ft_owners) (l1) ((1 : Int32)))) (cwV 2 hts gX5_countRoomsAndDoors_X5_hasDoor rfl rfl rfl hdX5_hasDoor ⟨Nat.le_of_ble_eq_true rfl, Nat.le_of_ble_eq_true rfl⟩) ⟨kBlind, (va_recv hK hP (ci := 5) (q0 := 0) rfl rfl), fun U h1 h2 => ⟨rfl, hU U h1 h2⟩⟩ rfl rfl hl.1 rfl (lv_room (Nat.le_of_ble_eq_true rfl)) dX5_countRoomsAndDoors_70 ⟨Nat.zero_le _, Nat.zero_le _⟩) ((t_X5_hasDoor (it_width) (ft_owners) (l1) ((1 : Int32)))) (fun _ _ h => h) (fun _ _ h => h) (fun H locs hP hD hS => ?_)
        have hP : va_P (dC, dI) vwCl [(qt, .inr (5, [.ref qt_owners, .int (it_width), .int (it_cellCount), .int (cit_roomCount), .int (cit_doorCount), .int (s1)])), (qt_owners, .inr (4, [.ref qt_owners_values])), (qt_owners_values, .inl (cy.1, 210, .inl (ft_owners)))] H := hP
        have hD : va_D A [(qt, .inr (5, [.ref qt_owners, .int (it_width), .int (it_cellCount), .int (cit_roomCount), .int (cit_doorCount), .int (s1)])), (qt_owners, .inr (4, [.ref qt_owners_values])), (qt_owners_values, .inl (cy.1, 210, .inl (ft_owners)))] := hD
        refine lv_if_eq (tgt := 80) hx hb dX5_countRoomsAndDoors_73 (by decide) (fun hc_73 => ?_) (fun hc_73 => ?_)
        · rw [if_pos hc_73] at hf
          refine lv_iconst (v := (0 : Int32)) hx hb dX5_countRoomsAndDoors_80 (by decide) ?_
          exact B81 (l1) (cit_doorCount) ((0 : Int32)) (cit_roomCount) (cit_doorCount) (s1) _ _ (hP.sub [0, 1, 2] rfl) (hD.sub [0, 1, 2] (by decide) rfl) hS _ (lv_sub hl [0, 1] rfl) hf
        · rw [if_neg hc_73] at hf
          refine lv_iconst (v := (1 : Int32)) hx hb dX5_countRoomsAndDoors_76 (by decide) ?_
          refine lv_goto (tgt := 81) hx hb dX5_countRoomsAndDoors_77 (by decide) ?_
          exact B81 (l1) (cit_doorCount) ((1 : Int32)) (cit_roomCount) (cit_doorCount) (s1) _ _ (hP.sub [0, 1, 2] rfl) (hD.sub [0, 1, 2] (by decide) rfl) hS _ (lv_sub hl [0, 1] rfl) hf
      intro l1 cit_roomCount cit_doorCount cit_lowest H locs hP hD hS ls hl hf
      rw [b_X5_countRoomsAndDoors_17] at hf
      refine lv_iload_n hx hb dX5_countRoomsAndDoors_17 rfl (lv_at hl 1 rfl) ?_
      refine lv_sipush (v := (210 : Int32)) hx hb dX5_countRoomsAndDoors_18 (by decide) ?_
      refine lv_icmp_ge (tgt := 114) hx hb dX5_countRoomsAndDoors_21 (by decide) (fun hc_21 => ?_) (fun hc_21 => ?_)
      · rw [if_pos hc_21] at hf
        cases hf
        subst hQ
        exact kvret hx hb hr hlocks hK (hP.sub [0, 1, 2] rfl) (hD.sub [0, 1, 2] (by decide) rfl) hS trivial dX5_countRoomsAndDoors_114
      · rw [if_neg hc_21] at hf
        refine lv_aload_n hx hb dX5_countRoomsAndDoors_24 rfl (lv_at hl 0 rfl) ?_
        refine lv_iload_n hx hb dX5_countRoomsAndDoors_25 rfl (lv_at hl 1 rfl) ?_
        refine kcalli (wc := [(qt, .inr (5, [.ref qt_owners, .int (it_width), .int (it_cellCount), .int (cit_roomCount), .int (cit_doorCount), .int (cit_lowest)])), (qt_owners, .inr (4, [.ref qt_owners_values])), (qt_owners_values, .inl (cy.1, 210, .inl (ft_owners)))]) (wr := []) (w1 := [(qt, .inr (5, [.ref qt_owners, .int (it_width), .int (it_cellCount), .int (cit_roomCount), .int (cit_doorCount), .int (cit_lowest)])), (qt_owners, .inr (4, [.ref qt_owners_values])), (qt_owners_values, .inl (cy.1, 210, .inl (ft_owners)))]) hK hP hD hS hA hG [0, 1, 2] [] rfl rfl rfl rfl rfl (fun hU hPc => va_runV (As := [.int l1]) (rest := []) ⟨hx, hb, hml, hown, hts⟩ (c_X5_holds l dC dI cy G H.size qt qt_owners qt_owners_values (it_width) (it_cellCount) (cit_roomCount) (cit_doorCount) (cit_lowest) (ft_owners) (l1) (t_X5_holds (ft_owners) (l1)) (tot_X5_holds (ft_owners) (l1))) (cwV 1 hts gX5_countRoomsAndDoors_X5_holds rfl rfl rfl hdX5_holds ⟨Nat.le_of_ble_eq_true rfl, Nat.le_of_ble_eq_true rfl⟩) ⟨kBlind, (va_recv hK hP (ci := 5) (q0 := 0) rfl rfl), fun U h1 h2 => ⟨rfl, hU U h1 h2⟩⟩ rfl rfl hl.1 rfl (lv_room (Nat.le_of_ble_eq_true rfl)) dX5_countRoomsAndDoors_26 ⟨Nat.zero_le _, Nat.zero_le _⟩) ((t_X5_holds (ft_owners) (l1))) (fun _ _ h => h) (fun _ _ h => h) (fun H locs hP hD hS => ?_)
        have hP : va_P (dC, dI) vwCl [(qt, .inr (5, [.ref qt_owners, .int (it_width), .int (it_cellCount), .int (cit_roomCount), .int (cit_doorCount), .int (cit_lowest)])), (qt_owners, .inr (4, [.ref qt_owners_values])), (qt_owners_values, .inl (cy.1, 210, .inl (ft_owners)))] H := hP
        have hD : va_D A [(qt, .inr (5, [.ref qt_owners, .int (it_width), .int (it_cellCount), .int (cit_roomCount), .int (cit_doorCount), .int (cit_lowest)])), (qt_owners, .inr (4, [.ref qt_owners_values])), (qt_owners_values, .inl (cy.1, 210, .inl (ft_owners)))] := hD
        refine lv_if_eq (tgt := 108) hx hb dX5_countRoomsAndDoors_29 (by decide) (fun hc_29 => ?_) (fun hc_29 => ?_)
        · rw [if_pos hc_29] at hf
          refine lv_iinc (v := (l1 + (1 : Int32))) (lv' := [(1, .int (l1 + (1 : Int32))), (0, .ref qt)]) hx hb dX5_countRoomsAndDoors_108 hl (k := 1) rfl rfl (by decide) rfl (fun ls hl => ?_)
          refine lv_goto (tgt := 17) hx hb dX5_countRoomsAndDoors_111 (by decide) ?_
          exact ih17 ((l1 + (1 : Int32))) (cit_roomCount) (cit_doorCount) (cit_lowest) _ _ (hP.sub [0, 1, 2] rfl) (hD.sub [0, 1, 2] (by decide) rfl) hS _ (lv_sub hl [1, 0] rfl) hf
        · rw [if_neg hc_29] at hf
          refine lv_aload_n hx hb dX5_countRoomsAndDoors_32 rfl (lv_at hl 0 rfl) ?_
          refine lv_dup hx hb dX5_countRoomsAndDoors_33 rfl ?_
          refine va_get (D := (dC, dI)) (ci := 5) (C := RX5) (T := TX5) (N := 6) hx hb hts (fun _ h => (List.mem_cons_of_mem _ (List.mem_append_left _ (List.mem_append_right _ h)))) hown hK hP 0 rfl rfl 3 (by decide) (hts _ (List.mem_cons_of_mem _ (List.mem_append_left _ (List.mem_append_left _ (List.mem_append_left _ (List.mem_of_getElem? (i := 0) rfl)))))) (fun _ h => h) rfl dX5_countRoomsAndDoors_34 ?_
          refine lv_iconst (v := (1 : Int32)) hx hb dX5_countRoomsAndDoors_37 (by decide) ?_
          refine lv_iadd hx hb dX5_countRoomsAndDoors_38 ?_
          refine va_put (D := (dC, dI)) (ci := 5) (v := .int (cit_roomCount + (1 : Int32))) (ty := .int) (C := RX5) (T := TX5) (N := 6) hx hb hts (fun _ h => (List.mem_cons_of_mem _ (List.mem_append_left _ (List.mem_append_right _ h)))) tyX5 tyX5_ok nmX5 hown hK hP hD hS 0 rfl rfl 3 (by decide) (hts _ (List.mem_cons_of_mem _ (List.mem_append_left _ (List.mem_append_left _ (List.mem_append_left _ (List.mem_of_getElem? (i := 0) rfl)))))) (fun _ h => h) rfl (by decide +kernel) rfl rfl (Nat.le_of_ble_eq_true rfl) dX5_countRoomsAndDoors_39 (fun H locs hP hD hS => ?_)
          have hP : va_P (dC, dI) vwCl [(qt, .inr (5, [.ref qt_owners, .int (it_width), .int (it_cellCount), .int ((cit_roomCount + (1 : Int32))), .int (cit_doorCount), .int (cit_lowest)])), (qt_owners, .inr (4, [.ref qt_owners_values])), (qt_owners_values, .inl (cy.1, 210, .inl (ft_owners)))] H := hP
          have hD : va_D A [(qt, .inr (5, [.ref qt_owners, .int (it_width), .int (it_cellCount), .int ((cit_roomCount + (1 : Int32))), .int (cit_doorCount), .int (cit_lowest)])), (qt_owners, .inr (4, [.ref qt_owners_values])), (qt_owners_values, .inl (cy.1, 210, .inl (ft_owners)))] := hD
          refine lv_aload_n hx hb dX5_countRoomsAndDoors_42 rfl (lv_at hl 0 rfl) ?_
          refine lv_aload_n hx hb dX5_countRoomsAndDoors_43 rfl (lv_at hl 0 rfl) ?_
          refine va_get (D := (dC, dI)) (ci := 5) (C := RX5) (T := TX5) (N := 6) hx hb hts (fun _ h => (List.mem_cons_of_mem _ (List.mem_append_left _ (List.mem_append_right _ h)))) hown hK hP 0 rfl rfl 5 (by decide) (hts _ (List.mem_cons_of_mem _ (List.mem_append_left _ (List.mem_append_left _ (List.mem_append_left _ (List.mem_of_getElem? (i := 2) rfl)))))) (fun _ h => h) rfl dX5_countRoomsAndDoors_44 ?_
          refine lv_iconst (v := (-1 : Int32)) hx hb dX5_countRoomsAndDoors_47 (by decide) ?_
          refine lv_icmp_ne (tgt := 55) hx hb dX5_countRoomsAndDoors_48 (by decide) (fun hc_48 => ?_) (fun hc_48 => ?_)
          · rw [if_neg hc_48] at hf
            refine lv_aload_n hx hb dX5_countRoomsAndDoors_55 rfl (lv_at hl 0 rfl) ?_
            refine va_get (D := (dC, dI)) (ci := 5) (C := RX5) (T := TX5) (N := 6) hx hb hts (fun _ h => (List.mem_cons_of_mem _ (List.mem_append_left _ (List.mem_append_right _ h)))) hown hK hP 0 rfl rfl 5 (by decide) (hts _ (List.mem_cons_of_mem _ (List.mem_append_left _ (List.mem_append_left _ (List.mem_append_left _ (List.mem_of_getElem? (i := 2) rfl)))))) (fun _ h => h) rfl dX5_countRoomsAndDoors_56 ?_
            exact B59 (l1) (cit_lowest) ((cit_roomCount + (1 : Int32))) (cit_doorCount) (cit_lowest) _ _ (hP.sub [0, 1, 2] rfl) (hD.sub [0, 1, 2] (by decide) rfl) hS _ (lv_sub hl [0, 1] rfl) hf
          · rw [if_pos hc_48] at hf
            refine lv_iload_n hx hb dX5_countRoomsAndDoors_51 rfl (lv_at hl 1 rfl) ?_
            refine lv_goto (tgt := 59) hx hb dX5_countRoomsAndDoors_52 (by decide) ?_
            exact B59 (l1) (l1) ((cit_roomCount + (1 : Int32))) (cit_doorCount) (cit_lowest) _ _ (hP.sub [0, 1, 2] rfl) (hD.sub [0, 1, 2] (by decide) rfl) hS _ (lv_sub hl [0, 1] rfl) hf
  rw [f_X5_countRoomsAndDoors] at hf
  refine lv_aload_n hx hb dX5_countRoomsAndDoors_0 rfl (lv_at hl 0 rfl) ?_
  refine lv_iconst (v := (0 : Int32)) hx hb dX5_countRoomsAndDoors_1 (by decide) ?_
  refine va_put (D := (dC, dI)) (ci := 5) (v := .int (0 : Int32)) (ty := .int) (C := RX5) (T := TX5) (N := 6) hx hb hts (fun _ h => (List.mem_cons_of_mem _ (List.mem_append_left _ (List.mem_append_right _ h)))) tyX5 tyX5_ok nmX5 hown hK hP hD hS 0 rfl rfl 3 (by decide) (hts _ (List.mem_cons_of_mem _ (List.mem_append_left _ (List.mem_append_left _ (List.mem_append_left _ (List.mem_of_getElem? (i := 0) rfl)))))) (fun _ h => h) rfl (by decide +kernel) rfl rfl (Nat.le_of_ble_eq_true rfl) dX5_countRoomsAndDoors_2 (fun H locs hP hD hS => ?_)
  have hP : va_P (dC, dI) vwCl [(qt, .inr (5, [.ref qt_owners, .int (it_width), .int (it_cellCount), .int ((0 : Int32)), .int (it_doorCount), .int (it_lowest)])), (qt_owners, .inr (4, [.ref qt_owners_values])), (qt_owners_values, .inl (cy.1, 210, .inl (ft_owners)))] H := hP
  have hD : va_D A [(qt, .inr (5, [.ref qt_owners, .int (it_width), .int (it_cellCount), .int ((0 : Int32)), .int (it_doorCount), .int (it_lowest)])), (qt_owners, .inr (4, [.ref qt_owners_values])), (qt_owners_values, .inl (cy.1, 210, .inl (ft_owners)))] := hD
  refine lv_aload_n hx hb dX5_countRoomsAndDoors_5 rfl (lv_at hl 0 rfl) ?_
  refine lv_iconst (v := (0 : Int32)) hx hb dX5_countRoomsAndDoors_6 (by decide) ?_
  refine va_put (D := (dC, dI)) (ci := 5) (v := .int (0 : Int32)) (ty := .int) (C := RX5) (T := TX5) (N := 6) hx hb hts (fun _ h => (List.mem_cons_of_mem _ (List.mem_append_left _ (List.mem_append_right _ h)))) tyX5 tyX5_ok nmX5 hown hK hP hD hS 0 rfl rfl 4 (by decide) (hts _ (List.mem_cons_of_mem _ (List.mem_append_left _ (List.mem_append_left _ (List.mem_append_left _ (List.mem_of_getElem? (i := 1) rfl)))))) (fun _ h => h) rfl (by decide +kernel) rfl rfl (Nat.le_of_ble_eq_true rfl) dX5_countRoomsAndDoors_7 (fun H locs hP hD hS => ?_)
  have hP : va_P (dC, dI) vwCl [(qt, .inr (5, [.ref qt_owners, .int (it_width), .int (it_cellCount), .int ((0 : Int32)), .int ((0 : Int32)), .int (it_lowest)])), (qt_owners, .inr (4, [.ref qt_owners_values])), (qt_owners_values, .inl (cy.1, 210, .inl (ft_owners)))] H := hP
  have hD : va_D A [(qt, .inr (5, [.ref qt_owners, .int (it_width), .int (it_cellCount), .int ((0 : Int32)), .int ((0 : Int32)), .int (it_lowest)])), (qt_owners, .inr (4, [.ref qt_owners_values])), (qt_owners_values, .inl (cy.1, 210, .inl (ft_owners)))] := hD
  refine lv_aload_n hx hb dX5_countRoomsAndDoors_10 rfl (lv_at hl 0 rfl) ?_
  refine lv_iconst (v := (-1 : Int32)) hx hb dX5_countRoomsAndDoors_11 (by decide) ?_
  refine va_put (D := (dC, dI)) (ci := 5) (v := .int (-1 : Int32)) (ty := .int) (C := RX5) (T := TX5) (N := 6) hx hb hts (fun _ h => (List.mem_cons_of_mem _ (List.mem_append_left _ (List.mem_append_right _ h)))) tyX5 tyX5_ok nmX5 hown hK hP hD hS 0 rfl rfl 5 (by decide) (hts _ (List.mem_cons_of_mem _ (List.mem_append_left _ (List.mem_append_left _ (List.mem_append_left _ (List.mem_of_getElem? (i := 2) rfl)))))) (fun _ h => h) rfl (by decide +kernel) rfl rfl (Nat.le_of_ble_eq_true rfl) dX5_countRoomsAndDoors_12 (fun H locs hP hD hS => ?_)
  have hP : va_P (dC, dI) vwCl [(qt, .inr (5, [.ref qt_owners, .int (it_width), .int (it_cellCount), .int ((0 : Int32)), .int ((0 : Int32)), .int ((-1 : Int32))])), (qt_owners, .inr (4, [.ref qt_owners_values])), (qt_owners_values, .inl (cy.1, 210, .inl (ft_owners)))] H := hP
  have hD : va_D A [(qt, .inr (5, [.ref qt_owners, .int (it_width), .int (it_cellCount), .int ((0 : Int32)), .int ((0 : Int32)), .int ((-1 : Int32))])), (qt_owners, .inr (4, [.ref qt_owners_values])), (qt_owners_values, .inl (cy.1, 210, .inl (ft_owners)))] := hD
  refine lv_iconst (v := (0 : Int32)) hx hb dX5_countRoomsAndDoors_15 (by decide) ?_
  refine lv_istore_n (lv' := [(1, .int (0 : Int32)), (0, .ref qt)]) hx hb dX5_countRoomsAndDoors_16 rfl hl (by decide) rfl (fun ls hl => ?_)
  exact B17 N ((0 : Int32)) ((0 : Int32)) ((0 : Int32)) ((-1 : Int32)) _ _ (hP.sub [0, 1, 2] rfl) (hD.sub [0, 1, 2] (by decide) rfl) hS _ (lv_sub hl [1, 0] rfl) hf
theorem hdX5_countRoomsAndDoors : yX5_countRoomsAndDoors.cls = RX5 ∧ yX5_countRoomsAndDoors.cls ≠ "java/lang/invoke/MethodHandle" ∧ yX5_countRoomsAndDoors.cls ≠ "java/lang/invoke/VarHandle" ∧ (parseMethodDescriptor yX5_countRoomsAndDoors.desc).map (fun d => d.parameters.length) = some 0 := by decide +kernel
noncomputable def b_X5_build_103 (N : Nat) (ia1_size : Int32) (fa1_letters : Nat → Int32) (cit_width : Int32) (cit_cellCount : Int32) (cit_roomCount : Int32) (cit_doorCount : Int32) (cit_lowest : Int32) (cft_owners : Nat → Int32) : Option (Int32 × Int32 × Int32 × Int32 × Int32 × (Nat → Int32)) :=
  bnd3 (f_X5_countRoomsAndDoors N (cit_width) (cit_roomCount) (cit_doorCount) (cit_lowest) (cft_owners)) fun o104_0 o104_1 o104_2 =>
  some (cit_width, cit_cellCount, o104_0, o104_1, o104_2, cft_owners)
noncomputable def b_X5_build_69 (N : Nat) (ia1_size : Int32) (fa1_letters : Nat → Int32) : Nat → Int32 → Int32 → Int32 → Int32 → Int32 → Int32 → (Nat → Int32) → Option (Int32 × Int32 × Int32 × Int32 × Int32 × (Nat → Int32))
  | 0, _, _, _, _, _, _, _ => none
  | n + 1, l2, cit_width, cit_cellCount, cit_roomCount, cit_doorCount, cit_lowest, cft_owners =>
    if cit_width ≤ l2 then
      b_X5_build_103 N ia1_size fa1_letters (cit_width) (cit_cellCount) (cit_roomCount) (cit_doorCount) (cit_lowest) (cft_owners)
    else
      if (35 : Int32) ≤ l2 then
        b_X5_build_103 N ia1_size fa1_letters (cit_width) (cit_cellCount) (cit_roomCount) (cit_doorCount) (cit_lowest) (cft_owners)
      else
        b_X5_build_69 N ia1_size fa1_letters n ((l2 + (1 : Int32))) (cit_width) (cit_cellCount) (cit_roomCount) (cit_doorCount) (cit_lowest) ((t_X4_put 210 (cft_owners) (((t_X5_baseCell (cit_width)) + l2)) ((1 : Int32))))
noncomputable def b_X5_build_34 (N : Nat) (ia1_size : Int32) (fa1_letters : Nat → Int32) : Nat → Int32 → Int32 → Int32 → Int32 → Int32 → Int32 → (Nat → Int32) → Option (Int32 × Int32 × Int32 × Int32 × Int32 × (Nat → Int32))
  | 0, _, _, _, _, _, _, _ => none
  | n + 1, l2, cit_width, cit_cellCount, cit_roomCount, cit_doorCount, cit_lowest, cft_owners =>
    if ia1_size ≤ l2 then
      b_X5_build_69 N ia1_size fa1_letters N ((0 : Int32)) (cit_width) (cit_cellCount) (cit_roomCount) (cit_doorCount) (cit_lowest) (cft_owners)
    else
      if (6 : Int32) ≤ l2 then
        b_X5_build_69 N ia1_size fa1_letters N ((0 : Int32)) (cit_width) (cit_cellCount) (cit_roomCount) (cit_doorCount) (cit_lowest) (cft_owners)
      else
        bnd1 (f_X5_layLetter N (cit_width) (cft_owners) (l2) ((t_X4_at 6 (fa1_letters) (l2)))) fun o58_0 =>
        b_X5_build_34 N ia1_size fa1_letters n ((l2 + (1 : Int32))) (cit_width) (cit_cellCount) (cit_roomCount) (cit_doorCount) (cit_lowest) (o58_0)
noncomputable def f_X5_build (N : Nat) (it_width : Int32) (it_cellCount : Int32) (it_roomCount : Int32) (it_doorCount : Int32) (it_lowest : Int32) (ft_owners : Nat → Int32) (ia1_size : Int32) (fa1_letters : Nat → Int32) : Option (Int32 × Int32 × Int32 × Int32 × Int32 × (Nat → Int32)) :=
  bnd1 (f_X4_fill N 210 (ft_owners) ((0 : Int32))) fun o29_0 =>
  b_X5_build_34 N ia1_size fa1_letters N ((0 : Int32)) ((((6 : Int32) * ia1_size) - (1 : Int32))) (((6 : Int32) * (((6 : Int32) * ia1_size) - (1 : Int32)))) (it_roomCount) (it_doorCount) (it_lowest) (o29_0)
abbrev rm_X5_build : Room := { frames := 6, cells := 0, slots := 0, locals := 138 }
set_option maxHeartbeats 4000000 in
set_option maxRecDepth 100000 in
theorem c_X5_build (l : Launch) (dC : Nat → ClassId) (dI : Nat → Nat → Nat) (cy : gC) (G : gT) (sz : Nat) (qt : Nat) (qt_owners : Nat) (qt_owners_values : Nat) (qa1 : Nat) (qa1_letters : Nat) (qa1_letters_values : Nat) (xa1_open : Nat) (xa1_signs : Nat) (ia1_start : Int32) (ia1_goal : Int32) (N : Nat) (it_width : Int32) (it_cellCount : Int32) (it_roomCount : Int32) (it_doorCount : Int32) (it_lowest : Int32) (ft_owners : Nat → Int32) (ia1_size : Int32) (fa1_letters : Nat → Int32) (out : Int32 × Int32 × Int32 × Int32 × Int32 × (Nat → Int32)) (hf : f_X5_build N it_width it_cellCount it_roomCount it_doorCount it_lowest ft_owners ia1_size fa1_letters = some out) : Met l yX5_build wsX5_build rm_X5_build (va_Pc [.ref qt, .ref qa1] (kP (dC, dI) cy G [(qt, .inr (5, [.ref qt_owners, .int (it_width), .int (it_cellCount), .int (it_roomCount), .int (it_doorCount), .int (it_lowest)])), (qt_owners, .inr (4, [.ref qt_owners_values])), (qt_owners_values, .inl (cy.1, 210, .inl (ft_owners))), (qa1, .inr (6, [.ref qa1_letters, .ref xa1_open, .ref xa1_signs, .int (ia1_size), .int (ia1_start), .int (ia1_goal)])), (qa1_letters, .inr (4, [.ref qa1_letters_values])), (qa1_letters_values, .inl (cy.1, 6, .inl (fa1_letters)))] sz)) (va_Qv (fun (_ : Unit) => True) (fun _ => kQ (dC, dI) cy [(qt, .inr (5, [.ref qt_owners, .int (out.1), .int (out.2.1), .int (out.2.2.1), .int (out.2.2.2.1), .int (out.2.2.2.2.1)])), (qt_owners, .inr (4, [.ref qt_owners_values])), (qt_owners_values, .inl (cy.1, 210, .inl (out.2.2.2.2.2))), (qa1, .inr (6, [.ref qa1_letters, .ref xa1_open, .ref xa1_signs, .int (ia1_size), .int (ia1_start), .int (ia1_goal)])), (qa1_letters, .inr (4, [.ref qa1_letters_values])), (qa1_letters_values, .inl (cy.1, 6, .inl (fa1_letters)))] (va_A [(qt, .inr (5, [.ref qt_owners, .int (it_width), .int (it_cellCount), .int (it_roomCount), .int (it_doorCount), .int (it_lowest)])), (qt_owners, .inr (4, [.ref qt_owners_values])), (qt_owners_values, .inl (cy.1, 210, .inl (ft_owners))), (qa1, .inr (6, [.ref qa1_letters, .ref xa1_open, .ref xa1_signs, .int (ia1_size), .int (ia1_start), .int (ia1_goal)])), (qa1_letters, .inr (4, [.ref qa1_letters_values])), (qa1_letters_values, .inl (cy.1, 6, .inl (fa1_letters)))] sz)) (va_A [(qt, .inr (5, [.ref qt_owners, .int (it_width), .int (it_cellCount), .int (it_roomCount), .int (it_doorCount), .int (it_lowest)])), (qt_owners, .inr (4, [.ref qt_owners_values])), (qt_owners_values, .inl (cy.1, 210, .inl (ft_owners))), (qa1, .inr (6, [.ref qa1_letters, .ref xa1_open, .ref xa1_signs, .int (ia1_size), .int (ia1_start), .int (ia1_goal)])), (qa1_letters, .inr (4, [.ref qa1_letters_values])), (qa1_letters_values, .inl (cy.1, 6, .inl (fa1_letters)))] sz)) 0 0 (va_A [(qt, .inr (5, [.ref qt_owners, .int (it_width), .int (it_cellCount), .int (it_roomCount), .int (it_doorCount), .int (it_lowest)])), (qt_owners, .inr (4, [.ref qt_owners_values])), (qt_owners_values, .inl (cy.1, 210, .inl (ft_owners))), (qa1, .inr (6, [.ref qa1_letters, .ref xa1_open, .ref xa1_signs, .int (ia1_size), .int (ia1_start), .int (ia1_goal)])), (qa1_letters, .inr (4, [.ref qa1_letters_values])), (qa1_letters_values, .inl (cy.1, 6, .inl (fa1_letters)))] sz) := by
  refine Met.ofW (cc := cX5_build) (maxL := 3) (ret := none) (by decide) rfl ?_
  intro p e s m args below meth c s₁ B hml hv
  obtain ⟨rfl, hsz, hP, hK, hD0, hG⟩ := hv
  have hx := B.exec
  have hb := B.bytes
  have hr := B.returns
  have hts := atoms_spec (ws := wsX5_build) B.pre
  have hown : s.vm.findClass RX5 = some m.cls := findClass_of_methodNamed B.named
  have hlocks := B.notSynchronized
  subst hsz
  have hD := hD0.self (sz := s.heap.size)
  generalize hAe : va_A [(qt, .inr (5, [.ref qt_owners, .int (it_width), .int (it_cellCount), .int (it_roomCount), .int (it_doorCount), .int (it_lowest)])), (qt_owners, .inr (4, [.ref qt_owners_values])), (qt_owners_values, .inl (cy.1, 210, .inl (ft_owners))), (qa1, .inr (6, [.ref qa1_letters, .ref xa1_open, .ref xa1_signs, .int (ia1_size), .int (ia1_start), .int (ia1_goal)])), (qa1_letters, .inr (4, [.ref qa1_letters_values])), (qa1_letters_values, .inl (cy.1, 6, .inl (fa1_letters)))] s.heap.size = A at hD hG ⊢
  have hA : ∀ q : Nat, s.heap.size ≤ q → A q := fun q h => by rw [← hAe]; exact Or.inr h
  have hS : va_S A s.heap s.heap [] := va_S.rf
  have hP : va_P (dC, dI) vwCl [(qt, .inr (5, [.ref qt_owners, .int (it_width), .int (it_cellCount), .int (it_roomCount), .int (it_doorCount), .int (it_lowest)])), (qt_owners, .inr (4, [.ref qt_owners_values])), (qt_owners_values, .inl (cy.1, 210, .inl (ft_owners))), (qa1, .inr (6, [.ref qa1_letters, .ref xa1_open, .ref xa1_signs, .int (ia1_size), .int (ia1_start), .int (ia1_goal)])), (qa1_letters, .inr (4, [.ref qa1_letters_values])), (qa1_letters_values, .inl (cy.1, 6, .inl (fa1_letters)))] s.heap := hP
  have hl := lv_entry ([.ref qt, .ref qa1]) (n := 3) (Nat.le_of_ble_eq_true rfl)
  rw [lg_entry_eq]
  generalize (lg_sl ([.ref qt, .ref qa1]) ++ List.replicate (3 - (lg_sl ([.ref qt, .ref qa1])).length) Slot.unset).toArray = ls at hl ⊢
  have hl : lv_has ls 3 [(0, .ref qt), (1, .ref qa1)] := hl
  refine kgen (fun Q hQ => ?_)
  have B103 : ∀ (cit_width : Int32) (cit_cellCount : Int32) (cit_roomCount : Int32) (cit_doorCount : Int32) (cit_lowest : Int32) (cft_owners : Nat → Int32) (H : Heap) (locs : List Loc), va_P (dC, dI) vwCl [(qt, .inr (5, [.ref qt_owners, .int (cit_width), .int (cit_cellCount), .int (cit_roomCount), .int (cit_doorCount), .int (cit_lowest)])), (qt_owners, .inr (4, [.ref qt_owners_values])), (qt_owners_values, .inl (cy.1, 210, .inl (cft_owners))), (qa1, .inr (6, [.ref qa1_letters, .ref xa1_open, .ref xa1_signs, .int (ia1_size), .int (ia1_start), .int (ia1_goal)])), (qa1_letters, .inr (4, [.ref qa1_letters_values])), (qa1_letters_values, .inl (cy.1, 6, .inl (fa1_letters)))] H → va_D A [(qt, .inr (5, [.ref qt_owners, .int (cit_width), .int (cit_cellCount), .int (cit_roomCount), .int (cit_doorCount), .int (cit_lowest)])), (qt_owners, .inr (4, [.ref qt_owners_values])), (qt_owners_values, .inl (cy.1, 210, .inl (cft_owners))), (qa1, .inr (6, [.ref qa1_letters, .ref xa1_open, .ref xa1_signs, .int (ia1_size), .int (ia1_start), .int (ia1_goal)])), (qa1_letters, .inr (4, [.ref qa1_letters_values])), (qa1_letters_values, .inl (cy.1, 6, .inl (fa1_letters)))] → va_S A s.heap H locs → ∀ (ls : Array Slot), lv_has ls 3 [(0, .ref qt)] → b_X5_build_103 N ia1_size fa1_letters cit_width cit_cellCount cit_roomCount cit_doorCount cit_lowest cft_owners = some out → W p l e (headSpec wsX5_build rm_X5_build).room s m ([.ref qt, .ref qa1] : List Value).toArray below meth c H locs 0 0 Q (F0 m 103 ls []) := by
    intro cit_width cit_cellCount cit_roomCount cit_doorCount cit_lowest cft_owners H locs hP hD hS ls hl hf
    rw [b_X5_build_103] at hf
    refine lv_aload_n hx hb dX5_build_103 rfl (lv_at hl 0 rfl) ?_
    obtain ⟨o104_0, o104_1, o104_2, hq_104, hf⟩ := bnd3_s hf
    refine kcallv (wc := [(qt, .inr (5, [.ref qt_owners, .int (cit_width), .int (cit_cellCount), .int (cit_roomCount), .int (cit_doorCount), .int (cit_lowest)])), (qt_owners, .inr (4, [.ref qt_owners_values])), (qt_owners_values, .inl (cy.1, 210, .inl (cft_owners)))]) (wr := [(qa1, .inr (6, [.ref qa1_letters, .ref xa1_open, .ref xa1_signs, .int (ia1_size), .int (ia1_start), .int (ia1_goal)])), (qa1_letters, .inr (4, [.ref qa1_letters_values])), (qa1_letters_values, .inl (cy.1, 6, .inl (fa1_letters)))]) (w1 := [(qt, .inr (5, [.ref qt_owners, .int (cit_width), .int (cit_cellCount), .int (o104_0), .int (o104_1), .int (o104_2)])), (qt_owners, .inr (4, [.ref qt_owners_values])), (qt_owners_values, .inl (cy.1, 210, .inl (cft_owners)))]) hK hP hD hS hA hG [0, 1, 2] [3, 4, 5] rfl rfl rfl rfl rfl (fun hU hPc => va_runV (As := []) (rest := []) ⟨hx, hb, hml, hown, hts⟩ (c_X5_countRoomsAndDoors l dC dI cy G H.size qt qt_owners qt_owners_values (cit_cellCount) N (cit_width) (cit_roomCount) (cit_doorCount) (cit_lowest) (cft_owners) (o104_0, o104_1, o104_2) hq_104) (cwV 0 hts gX5_build_X5_countRoomsAndDoors rfl rfl rfl hdX5_countRoomsAndDoors ⟨Nat.le_of_ble_eq_true rfl, Nat.le_of_ble_eq_true rfl⟩) ⟨kBlind, (va_recv hK hP (ci := 5) (q0 := 0) rfl rfl), fun U h1 h2 => ⟨rfl, hU U h1 h2⟩⟩ rfl rfl hl.1 rfl (lv_room (Nat.le_of_ble_eq_true rfl)) dX5_build_104 ⟨Nat.zero_le _, Nat.zero_le _⟩) (fun _ _ h => h) (fun H locs hP hD hS => ?_)
    have hP : va_P (dC, dI) vwCl [(qa1, .inr (6, [.ref qa1_letters, .ref xa1_open, .ref xa1_signs, .int (ia1_size), .int (ia1_start), .int (ia1_goal)])), (qa1_letters, .inr (4, [.ref qa1_letters_values])), (qa1_letters_values, .inl (cy.1, 6, .inl (fa1_letters))), (qt, .inr (5, [.ref qt_owners, .int (cit_width), .int (cit_cellCount), .int (o104_0), .int (o104_1), .int (o104_2)])), (qt_owners, .inr (4, [.ref qt_owners_values])), (qt_owners_values, .inl (cy.1, 210, .inl (cft_owners)))] H := hP
    have hD : va_D A [(qa1, .inr (6, [.ref qa1_letters, .ref xa1_open, .ref xa1_signs, .int (ia1_size), .int (ia1_start), .int (ia1_goal)])), (qa1_letters, .inr (4, [.ref qa1_letters_values])), (qa1_letters_values, .inl (cy.1, 6, .inl (fa1_letters))), (qt, .inr (5, [.ref qt_owners, .int (cit_width), .int (cit_cellCount), .int (o104_0), .int (o104_1), .int (o104_2)])), (qt_owners, .inr (4, [.ref qt_owners_values])), (qt_owners_values, .inl (cy.1, 210, .inl (cft_owners)))] := hD
    cases hf
    subst hQ
    exact kvret hx hb hr hlocks hK (hP.sub [3, 4, 5, 0, 1, 2] rfl) (hD.sub [3, 4, 5, 0, 1, 2] (by decide) rfl) hS trivial dX5_build_107
  have B69 : ∀ (n69 : Nat) (l2 : Int32) (cit_width : Int32) (cit_cellCount : Int32) (cit_roomCount : Int32) (cit_doorCount : Int32) (cit_lowest : Int32) (cft_owners : Nat → Int32) (H : Heap) (locs : List Loc), va_P (dC, dI) vwCl [(qt, .inr (5, [.ref qt_owners, .int (cit_width), .int (cit_cellCount), .int (cit_roomCount), .int (cit_doorCount), .int (cit_lowest)])), (qt_owners, .inr (4, [.ref qt_owners_values])), (qt_owners_values, .inl (cy.1, 210, .inl (cft_owners))), (qa1, .inr (6, [.ref qa1_letters, .ref xa1_open, .ref xa1_signs, .int (ia1_size), .int (ia1_start), .int (ia1_goal)])), (qa1_letters, .inr (4, [.ref qa1_letters_values])), (qa1_letters_values, .inl (cy.1, 6, .inl (fa1_letters)))] H → va_D A [(qt, .inr (5, [.ref qt_owners, .int (cit_width), .int (cit_cellCount), .int (cit_roomCount), .int (cit_doorCount), .int (cit_lowest)])), (qt_owners, .inr (4, [.ref qt_owners_values])), (qt_owners_values, .inl (cy.1, 210, .inl (cft_owners))), (qa1, .inr (6, [.ref qa1_letters, .ref xa1_open, .ref xa1_signs, .int (ia1_size), .int (ia1_start), .int (ia1_goal)])), (qa1_letters, .inr (4, [.ref qa1_letters_values])), (qa1_letters_values, .inl (cy.1, 6, .inl (fa1_letters)))] → va_S A s.heap H locs → ∀ (ls : Array Slot), lv_has ls 3 [(0, .ref qt), (2, .int l2)] → b_X5_build_69 N ia1_size fa1_letters n69 l2 cit_width cit_cellCount cit_roomCount cit_doorCount cit_lowest cft_owners = some out → W p l e (headSpec wsX5_build rm_X5_build).room s m ([.ref qt, .ref qa1] : List Value).toArray below meth c H locs 0 0 Q (F0 m 69 ls []) := by
    intro n69
    induction n69 with
    | zero => intro l2 cit_width cit_cellCount cit_roomCount cit_doorCount cit_lowest cft_owners H locs hP hD hS ls hl hf; rw [b_X5_build_69] at hf; cases hf
    | succ n69 ih69 =>
      intro l2 cit_width cit_cellCount cit_roomCount cit_doorCount cit_lowest cft_owners H locs hP hD hS ls hl hf
      rw [b_X5_build_69] at hf
      refine lv_iload_n hx hb dX5_build_69 rfl (lv_at hl 1 rfl) ?_
      refine lv_aload_n hx hb dX5_build_70 rfl (lv_at hl 0 rfl) ?_
      refine va_get (D := (dC, dI)) (ci := 5) (C := RX5) (T := TX5) (N := 6) hx hb hts (fun _ h => (List.mem_cons_of_mem _ (List.mem_append_left _ (List.mem_append_right _ h)))) hown hK hP 0 rfl rfl 1 (by decide) (hts _ (List.mem_cons_of_mem _ (List.mem_append_left _ (List.mem_append_left _ (List.mem_append_left _ (List.mem_append_left _ (List.mem_of_getElem? (i := 1) rfl))))))) (fun _ h => h) rfl dX5_build_71 ?_
      refine lv_icmp_ge (tgt := 103) hx hb dX5_build_74 (by decide) (fun hc_74 => ?_) (fun hc_74 => ?_)
      · rw [if_pos hc_74] at hf
        exact B103 (cit_width) (cit_cellCount) (cit_roomCount) (cit_doorCount) (cit_lowest) (cft_owners) _ _ (hP.sub [0, 1, 2, 3, 4, 5] rfl) (hD.sub [0, 1, 2, 3, 4, 5] (by decide) rfl) hS _ (lv_sub hl [0] rfl) hf
      · rw [if_neg hc_74] at hf
        refine lv_iload_n hx hb dX5_build_77 rfl (lv_at hl 1 rfl) ?_
        refine lv_bipush (v := (35 : Int32)) hx hb dX5_build_78 (by decide) ?_
        refine lv_icmp_ge (tgt := 103) hx hb dX5_build_80 (by decide) (fun hc_80 => ?_) (fun hc_80 => ?_)
        · rw [if_pos hc_80] at hf
          exact B103 (cit_width) (cit_cellCount) (cit_roomCount) (cit_doorCount) (cit_lowest) (cft_owners) _ _ (hP.sub [0, 1, 2, 3, 4, 5] rfl) (hD.sub [0, 1, 2, 3, 4, 5] (by decide) rfl) hS _ (lv_sub hl [0] rfl) hf
        · rw [if_neg hc_80] at hf
          refine lv_aload_n hx hb dX5_build_83 rfl (lv_at hl 0 rfl) ?_
          refine va_get (D := (dC, dI)) (ci := 5) (C := RX5) (T := TX5) (N := 6) hx hb hts (fun _ h => (List.mem_cons_of_mem _ (List.mem_append_left _ (List.mem_append_right _ h)))) hown hK hP 0 rfl rfl 0 (by decide) (hts _ (List.mem_cons_of_mem _ (List.mem_append_left _ (List.mem_append_left _ (List.mem_append_left _ (List.mem_append_left _ (List.mem_of_getElem? (i := 3) rfl))))))) (fun _ h => h) rfl dX5_build_84 ?_
          refine lv_aload_n hx hb dX5_build_87 rfl (lv_at hl 0 rfl) ?_
          refine kcalli (wc := [(qt, .inr (5, [.ref qt_owners, .int (cit_width), .int (cit_cellCount), .int (cit_roomCount), .int (cit_doorCount), .int (cit_lowest)]))]) (wr := [(qt_owners, .inr (4, [.ref qt_owners_values])), (qt_owners_values, .inl (cy.1, 210, .inl (cft_owners))), (qa1, .inr (6, [.ref qa1_letters, .ref xa1_open, .ref xa1_signs, .int (ia1_size), .int (ia1_start), .int (ia1_goal)])), (qa1_letters, .inr (4, [.ref qa1_letters_values])), (qa1_letters_values, .inl (cy.1, 6, .inl (fa1_letters)))]) (w1 := [(qt, .inr (5, [.ref qt_owners, .int (cit_width), .int (cit_cellCount), .int (cit_roomCount), .int (cit_doorCount), .int (cit_lowest)]))]) hK hP hD hS hA hG [0] [1, 2, 3, 4, 5] rfl rfl rfl rfl rfl (fun hU hPc => va_runV (As := []) (rest := [.ref qt_owners]) ⟨hx, hb, hml, hown, hts⟩ (c_X5_baseCell l dC dI cy G H.size qt qt_owners (cit_cellCount) (cit_roomCount) (cit_doorCount) (cit_lowest) (cit_width) (t_X5_baseCell (cit_width)) (tot_X5_baseCell (cit_width))) (cwV 0 hts gX5_build_X5_baseCell rfl rfl rfl hdX5_baseCell ⟨Nat.le_of_ble_eq_true rfl, Nat.le_of_ble_eq_true rfl⟩) ⟨kBlind, (va_recv hK hP (ci := 5) (q0 := 0) rfl rfl), fun U h1 h2 => ⟨rfl, hU U h1 h2⟩⟩ rfl rfl hl.1 rfl (lv_room (Nat.le_of_ble_eq_true rfl)) dX5_build_88 ⟨Nat.zero_le _, Nat.zero_le _⟩) ((t_X5_baseCell (cit_width))) (fun _ _ h => h) (fun _ _ h => h) (fun H locs hP hD hS => ?_)
          have hP : va_P (dC, dI) vwCl [(qt_owners, .inr (4, [.ref qt_owners_values])), (qt_owners_values, .inl (cy.1, 210, .inl (cft_owners))), (qa1, .inr (6, [.ref qa1_letters, .ref xa1_open, .ref xa1_signs, .int (ia1_size), .int (ia1_start), .int (ia1_goal)])), (qa1_letters, .inr (4, [.ref qa1_letters_values])), (qa1_letters_values, .inl (cy.1, 6, .inl (fa1_letters))), (qt, .inr (5, [.ref qt_owners, .int (cit_width), .int (cit_cellCount), .int (cit_roomCount), .int (cit_doorCount), .int (cit_lowest)]))] H := hP
          have hD : va_D A [(qt_owners, .inr (4, [.ref qt_owners_values])), (qt_owners_values, .inl (cy.1, 210, .inl (cft_owners))), (qa1, .inr (6, [.ref qa1_letters, .ref xa1_open, .ref xa1_signs, .int (ia1_size), .int (ia1_start), .int (ia1_goal)])), (qa1_letters, .inr (4, [.ref qa1_letters_values])), (qa1_letters_values, .inl (cy.1, 6, .inl (fa1_letters))), (qt, .inr (5, [.ref qt_owners, .int (cit_width), .int (cit_cellCount), .int (cit_roomCount), .int (cit_doorCount), .int (cit_lowest)]))] := hD
          refine lv_iload_n hx hb dX5_build_91 rfl (lv_at hl 1 rfl) ?_
          refine lv_iadd hx hb dX5_build_92 ?_
          refine lv_iconst (v := (1 : Int32)) hx hb dX5_build_93 (by decide) ?_
          refine kcallv (wc := [(qt_owners, .inr (4, [.ref qt_owners_values])), (qt_owners_values, .inl (cy.1, 210, .inl (cft_owners)))]) (wr := [(qa1, .inr (6, [.ref qa1_letters, .ref xa1_open, .ref xa1_signs, .int (ia1_size), .int (ia1_start), .int (ia1_goal)])), (qa1_letters, .inr (4, [.ref qa1_letters_values])), (qa1_letters_values, .inl (cy.1, 6, .inl (fa1_letters))), (qt, .inr (5, [.ref qt_owners, .int (cit_width), .int (cit_cellCount), .int (cit_roomCount), .int (cit_doorCount), .int (cit_lowest)]))]) (w1 := [(qt_owners, .inr (4, [.ref qt_owners_values])), (qt_owners_values, .inl (cy.1, 210, .inl ((t_X4_put 210 (cft_owners) (((t_X5_baseCell (cit_width)) + l2)) ((1 : Int32))))))]) hK hP hD hS hA hG [0, 1] [2, 3, 4, 5] rfl rfl rfl rfl rfl (fun hU hPc => va_runV (As := [.int ((t_X5_baseCell (cit_width)) + l2), .int (1 : Int32)]) (rest := []) ⟨hx, hb, hml, hown, hts⟩ (c_X4_put l dC dI cy G H.size qt_owners qt_owners_values 210 (cft_owners) (((t_X5_baseCell (cit_width)) + l2)) ((1 : Int32)) (by decide) (t_X4_put 210 (cft_owners) (((t_X5_baseCell (cit_width)) + l2)) ((1 : Int32))) (tot_X4_put 210 (cft_owners) (((t_X5_baseCell (cit_width)) + l2)) ((1 : Int32)))) (cwV 2 hts gX5_build_X4_put rfl rfl rfl hdX4_put ⟨Nat.le_of_ble_eq_true rfl, Nat.le_of_ble_eq_true rfl⟩) ⟨kBlind, (va_recv hK hP (ci := 4) (q0 := 0) rfl rfl), fun U h1 h2 => ⟨rfl, hU U h1 h2⟩⟩ rfl rfl hl.1 rfl (lv_room (Nat.le_of_ble_eq_true rfl)) dX5_build_94 ⟨Nat.zero_le _, Nat.zero_le _⟩) (fun _ _ h => h) (fun H locs hP hD hS => ?_)
          have hP : va_P (dC, dI) vwCl [(qa1, .inr (6, [.ref qa1_letters, .ref xa1_open, .ref xa1_signs, .int (ia1_size), .int (ia1_start), .int (ia1_goal)])), (qa1_letters, .inr (4, [.ref qa1_letters_values])), (qa1_letters_values, .inl (cy.1, 6, .inl (fa1_letters))), (qt, .inr (5, [.ref qt_owners, .int (cit_width), .int (cit_cellCount), .int (cit_roomCount), .int (cit_doorCount), .int (cit_lowest)])), (qt_owners, .inr (4, [.ref qt_owners_values])), (qt_owners_values, .inl (cy.1, 210, .inl ((t_X4_put 210 (cft_owners) (((t_X5_baseCell (cit_width)) + l2)) ((1 : Int32))))))] H := hP
          have hD : va_D A [(qa1, .inr (6, [.ref qa1_letters, .ref xa1_open, .ref xa1_signs, .int (ia1_size), .int (ia1_start), .int (ia1_goal)])), (qa1_letters, .inr (4, [.ref qa1_letters_values])), (qa1_letters_values, .inl (cy.1, 6, .inl (fa1_letters))), (qt, .inr (5, [.ref qt_owners, .int (cit_width), .int (cit_cellCount), .int (cit_roomCount), .int (cit_doorCount), .int (cit_lowest)])), (qt_owners, .inr (4, [.ref qt_owners_values])), (qt_owners_values, .inl (cy.1, 210, .inl ((t_X4_put 210 (cft_owners) (((t_X5_baseCell (cit_width)) + l2)) ((1 : Int32))))))] := hD
          refine lv_iinc (v := (l2 + (1 : Int32))) (lv' := [(2, .int (l2 + (1 : Int32))), (0, .ref qt)]) hx hb dX5_build_97 hl (k := 1) rfl rfl (by decide) rfl (fun ls hl => ?_)
          refine lv_goto (tgt := 69) hx hb dX5_build_100 (by decide) ?_
          exact ih69 ((l2 + (1 : Int32))) (cit_width) (cit_cellCount) (cit_roomCount) (cit_doorCount) (cit_lowest) ((t_X4_put 210 (cft_owners) (((t_X5_baseCell (cit_width)) + l2)) ((1 : Int32)))) _ _ (hP.sub [3, 4, 5, 0, 1, 2] rfl) (hD.sub [3, 4, 5, 0, 1, 2] (by decide) rfl) hS _ (lv_sub hl [1, 0] rfl) hf
  have B34 : ∀ (n34 : Nat) (l2 : Int32) (cit_width : Int32) (cit_cellCount : Int32) (cit_roomCount : Int32) (cit_doorCount : Int32) (cit_lowest : Int32) (cft_owners : Nat → Int32) (H : Heap) (locs : List Loc), va_P (dC, dI) vwCl [(qt, .inr (5, [.ref qt_owners, .int (cit_width), .int (cit_cellCount), .int (cit_roomCount), .int (cit_doorCount), .int (cit_lowest)])), (qt_owners, .inr (4, [.ref qt_owners_values])), (qt_owners_values, .inl (cy.1, 210, .inl (cft_owners))), (qa1, .inr (6, [.ref qa1_letters, .ref xa1_open, .ref xa1_signs, .int (ia1_size), .int (ia1_start), .int (ia1_goal)])), (qa1_letters, .inr (4, [.ref qa1_letters_values])), (qa1_letters_values, .inl (cy.1, 6, .inl (fa1_letters)))] H → va_D A [(qt, .inr (5, [.ref qt_owners, .int (cit_width), .int (cit_cellCount), .int (cit_roomCount), .int (cit_doorCount), .int (cit_lowest)])), (qt_owners, .inr (4, [.ref qt_owners_values])), (qt_owners_values, .inl (cy.1, 210, .inl (cft_owners))), (qa1, .inr (6, [.ref qa1_letters, .ref xa1_open, .ref xa1_signs, .int (ia1_size), .int (ia1_start), .int (ia1_goal)])), (qa1_letters, .inr (4, [.ref qa1_letters_values])), (qa1_letters_values, .inl (cy.1, 6, .inl (fa1_letters)))] → va_S A s.heap H locs → ∀ (ls : Array Slot), lv_has ls 3 [(0, .ref qt), (1, .ref qa1), (2, .int l2)] → b_X5_build_34 N ia1_size fa1_letters n34 l2 cit_width cit_cellCount cit_roomCount cit_doorCount cit_lowest cft_owners = some out → W p l e (headSpec wsX5_build rm_X5_build).room s m ([.ref qt, .ref qa1] : List Value).toArray below meth c H locs 0 0 Q (F0 m 34 ls []) := by
    intro n34
    induction n34 with
    | zero => intro l2 cit_width cit_cellCount cit_roomCount cit_doorCount cit_lowest cft_owners H locs hP hD hS ls hl hf; rw [b_X5_build_34] at hf; cases hf
    | succ n34 ih34 =>
      intro l2 cit_width cit_cellCount cit_roomCount cit_doorCount cit_lowest cft_owners H locs hP hD hS ls hl hf
      rw [b_X5_build_34] at hf
      refine lv_iload_n hx hb dX5_build_34 rfl (lv_at hl 2 rfl) ?_
      refine lv_aload_n hx hb dX5_build_35 rfl (lv_at hl 1 rfl) ?_
      refine va_get (D := (dC, dI)) (ci := 6) (C := RX6) (T := TX6) (N := 6) hx hb hts (fun _ h => (List.mem_cons_of_mem _ (List.mem_append_left _ (List.mem_append_left _ (List.mem_append_right _ h))))) hown hK hP 3 rfl rfl 3 (by decide) (hts _ (List.mem_cons_of_mem _ (List.mem_append_left _ (List.mem_append_left _ (List.mem_append_left _ (List.mem_append_left _ (List.mem_of_getElem? (i := 0) rfl))))))) (fun _ h => h) rfl dX5_build_36 ?_
      refine lv_icmp_ge (tgt := 67) hx hb dX5_build_39 (by decide) (fun hc_39 => ?_) (fun hc_39 => ?_)
      · rw [if_pos hc_39] at hf
        refine lv_iconst (v := (0 : Int32)) hx hb dX5_build_67 (by decide) ?_
        refine lv_istore_n (lv' := [(2, .int (0 : Int32)), (0, .ref qt), (1, .ref qa1)]) hx hb dX5_build_68 rfl hl (by decide) rfl (fun ls hl => ?_)
        exact B69 N ((0 : Int32)) (cit_width) (cit_cellCount) (cit_roomCount) (cit_doorCount) (cit_lowest) (cft_owners) _ _ (hP.sub [0, 1, 2, 3, 4, 5] rfl) (hD.sub [0, 1, 2, 3, 4, 5] (by decide) rfl) hS _ (lv_sub hl [1, 0] rfl) hf
      · rw [if_neg hc_39] at hf
        refine lv_iload_n hx hb dX5_build_42 rfl (lv_at hl 2 rfl) ?_
        refine lv_bipush (v := (6 : Int32)) hx hb dX5_build_43 (by decide) ?_
        refine lv_icmp_ge (tgt := 67) hx hb dX5_build_45 (by decide) (fun hc_45 => ?_) (fun hc_45 => ?_)
        · rw [if_pos hc_45] at hf
          refine lv_iconst (v := (0 : Int32)) hx hb dX5_build_67 (by decide) ?_
          refine lv_istore_n (lv' := [(2, .int (0 : Int32)), (0, .ref qt), (1, .ref qa1)]) hx hb dX5_build_68 rfl hl (by decide) rfl (fun ls hl => ?_)
          exact B69 N ((0 : Int32)) (cit_width) (cit_cellCount) (cit_roomCount) (cit_doorCount) (cit_lowest) (cft_owners) _ _ (hP.sub [0, 1, 2, 3, 4, 5] rfl) (hD.sub [0, 1, 2, 3, 4, 5] (by decide) rfl) hS _ (lv_sub hl [1, 0] rfl) hf
        · rw [if_neg hc_45] at hf
          refine lv_aload_n hx hb dX5_build_48 rfl (lv_at hl 0 rfl) ?_
          refine lv_iload_n hx hb dX5_build_49 rfl (lv_at hl 2 rfl) ?_
          refine lv_aload_n hx hb dX5_build_50 rfl (lv_at hl 1 rfl) ?_
          refine va_get (D := (dC, dI)) (ci := 6) (C := RX6) (T := TX6) (N := 6) hx hb hts (fun _ h => (List.mem_cons_of_mem _ (List.mem_append_left _ (List.mem_append_left _ (List.mem_append_right _ h))))) hown hK hP 3 rfl rfl 0 (by decide) (hts _ (List.mem_cons_of_mem _ (List.mem_append_left _ (List.mem_append_left _ (List.mem_append_left _ (List.mem_append_left _ (List.mem_of_getElem? (i := 4) rfl))))))) (fun _ h => h) rfl dX5_build_51 ?_
          refine lv_iload_n hx hb dX5_build_54 rfl (lv_at hl 2 rfl) ?_
          refine kcalli (wc := [(qa1_letters, .inr (4, [.ref qa1_letters_values])), (qa1_letters_values, .inl (cy.1, 6, .inl (fa1_letters)))]) (wr := [(qt, .inr (5, [.ref qt_owners, .int (cit_width), .int (cit_cellCount), .int (cit_roomCount), .int (cit_doorCount), .int (cit_lowest)])), (qt_owners, .inr (4, [.ref qt_owners_values])), (qt_owners_values, .inl (cy.1, 210, .inl (cft_owners))), (qa1, .inr (6, [.ref qa1_letters, .ref xa1_open, .ref xa1_signs, .int (ia1_size), .int (ia1_start), .int (ia1_goal)]))]) (w1 := [(qa1_letters, .inr (4, [.ref qa1_letters_values])), (qa1_letters_values, .inl (cy.1, 6, .inl (fa1_letters)))]) hK hP hD hS hA hG [4, 5] [0, 1, 2, 3] rfl rfl rfl rfl rfl (fun hU hPc => va_runV (As := [.int l2]) (rest := [.int l2, .ref qt]) ⟨hx, hb, hml, hown, hts⟩ (c_X4_at l dC dI cy G H.size qa1_letters qa1_letters_values 6 (fa1_letters) (l2) (by decide) (t_X4_at 6 (fa1_letters) (l2)) (tot_X4_at 6 (fa1_letters) (l2))) (cwV 1 hts gX5_build_X4_at rfl rfl rfl hdX4_at ⟨Nat.le_of_ble_eq_true rfl, Nat.le_of_ble_eq_true rfl⟩) ⟨kBlind, (va_recv hK hP (ci := 4) (q0 := 4) rfl rfl), fun U h1 h2 => ⟨rfl, hU U h1 h2⟩⟩ rfl rfl hl.1 rfl (lv_room (Nat.le_of_ble_eq_true rfl)) dX5_build_55 ⟨Nat.zero_le _, Nat.zero_le _⟩) ((t_X4_at 6 (fa1_letters) (l2))) (fun _ _ h => h) (fun _ _ h => h) (fun H locs hP hD hS => ?_)
          have hP : va_P (dC, dI) vwCl [(qt, .inr (5, [.ref qt_owners, .int (cit_width), .int (cit_cellCount), .int (cit_roomCount), .int (cit_doorCount), .int (cit_lowest)])), (qt_owners, .inr (4, [.ref qt_owners_values])), (qt_owners_values, .inl (cy.1, 210, .inl (cft_owners))), (qa1, .inr (6, [.ref qa1_letters, .ref xa1_open, .ref xa1_signs, .int (ia1_size), .int (ia1_start), .int (ia1_goal)])), (qa1_letters, .inr (4, [.ref qa1_letters_values])), (qa1_letters_values, .inl (cy.1, 6, .inl (fa1_letters)))] H := hP
          have hD : va_D A [(qt, .inr (5, [.ref qt_owners, .int (cit_width), .int (cit_cellCount), .int (cit_roomCount), .int (cit_doorCount), .int (cit_lowest)])), (qt_owners, .inr (4, [.ref qt_owners_values])), (qt_owners_values, .inl (cy.1, 210, .inl (cft_owners))), (qa1, .inr (6, [.ref qa1_letters, .ref xa1_open, .ref xa1_signs, .int (ia1_size), .int (ia1_start), .int (ia1_goal)])), (qa1_letters, .inr (4, [.ref qa1_letters_values])), (qa1_letters_values, .inl (cy.1, 6, .inl (fa1_letters)))] := hD
          obtain ⟨o58_0, hq_58, hf⟩ := bnd1_s hf
          refine kcallv (wc := [(qt, .inr (5, [.ref qt_owners, .int (cit_width), .int (cit_cellCount), .int (cit_roomCount), .int (cit_doorCount), .int (cit_lowest)])), (qt_owners, .inr (4, [.ref qt_owners_values])), (qt_owners_values, .inl (cy.1, 210, .inl (cft_owners)))]) (wr := [(qa1, .inr (6, [.ref qa1_letters, .ref xa1_open, .ref xa1_signs, .int (ia1_size), .int (ia1_start), .int (ia1_goal)])), (qa1_letters, .inr (4, [.ref qa1_letters_values])), (qa1_letters_values, .inl (cy.1, 6, .inl (fa1_letters)))]) (w1 := [(qt, .inr (5, [.ref qt_owners, .int (cit_width), .int (cit_cellCount), .int (cit_roomCount), .int (cit_doorCount), .int (cit_lowest)])), (qt_owners, .inr (4, [.ref qt_owners_values])), (qt_owners_values, .inl (cy.1, 210, .inl (o58_0)))]) hK hP hD hS hA hG [0, 1, 2] [3, 4, 5] rfl rfl rfl rfl rfl (fun hU hPc => va_runV (As := [.int l2, .int (t_X4_at 6 (fa1_letters) (l2))]) (rest := []) ⟨hx, hb, hml, hown, hts⟩ (c_X5_layLetter l dC dI cy G H.size qt qt_owners qt_owners_values (cit_cellCount) (cit_roomCount) (cit_doorCount) (cit_lowest) N (cit_width) (cft_owners) (l2) ((t_X4_at 6 (fa1_letters) (l2))) o58_0 hq_58) (cwV 2 hts gX5_build_X5_layLetter rfl rfl rfl hdX5_layLetter ⟨Nat.le_of_ble_eq_true rfl, Nat.le_of_ble_eq_true rfl⟩) ⟨kBlind, (va_recv hK hP (ci := 5) (q0 := 0) rfl rfl), fun U h1 h2 => ⟨rfl, hU U h1 h2⟩⟩ rfl rfl hl.1 rfl (lv_room (Nat.le_of_ble_eq_true rfl)) dX5_build_58 ⟨Nat.zero_le _, Nat.zero_le _⟩) (fun _ _ h => h) (fun H locs hP hD hS => ?_)
          have hP : va_P (dC, dI) vwCl [(qa1, .inr (6, [.ref qa1_letters, .ref xa1_open, .ref xa1_signs, .int (ia1_size), .int (ia1_start), .int (ia1_goal)])), (qa1_letters, .inr (4, [.ref qa1_letters_values])), (qa1_letters_values, .inl (cy.1, 6, .inl (fa1_letters))), (qt, .inr (5, [.ref qt_owners, .int (cit_width), .int (cit_cellCount), .int (cit_roomCount), .int (cit_doorCount), .int (cit_lowest)])), (qt_owners, .inr (4, [.ref qt_owners_values])), (qt_owners_values, .inl (cy.1, 210, .inl (o58_0)))] H := hP
          have hD : va_D A [(qa1, .inr (6, [.ref qa1_letters, .ref xa1_open, .ref xa1_signs, .int (ia1_size), .int (ia1_start), .int (ia1_goal)])), (qa1_letters, .inr (4, [.ref qa1_letters_values])), (qa1_letters_values, .inl (cy.1, 6, .inl (fa1_letters))), (qt, .inr (5, [.ref qt_owners, .int (cit_width), .int (cit_cellCount), .int (cit_roomCount), .int (cit_doorCount), .int (cit_lowest)])), (qt_owners, .inr (4, [.ref qt_owners_values])), (qt_owners_values, .inl (cy.1, 210, .inl (o58_0)))] := hD
          refine lv_iinc (v := (l2 + (1 : Int32))) (lv' := [(2, .int (l2 + (1 : Int32))), (0, .ref qt), (1, .ref qa1)]) hx hb dX5_build_61 hl (k := 2) rfl rfl (by decide) rfl (fun ls hl => ?_)
          refine lv_goto (tgt := 34) hx hb dX5_build_64 (by decide) ?_
          exact ih34 ((l2 + (1 : Int32))) (cit_width) (cit_cellCount) (cit_roomCount) (cit_doorCount) (cit_lowest) (o58_0) _ _ (hP.sub [3, 4, 5, 0, 1, 2] rfl) (hD.sub [3, 4, 5, 0, 1, 2] (by decide) rfl) hS _ (lv_sub hl [1, 2, 0] rfl) hf
  rw [f_X5_build] at hf
  refine lv_aload_n hx hb dX5_build_0 rfl (lv_at hl 0 rfl) ?_
  refine lv_bipush (v := (6 : Int32)) hx hb dX5_build_1 (by decide) ?_
  refine lv_aload_n hx hb dX5_build_3 rfl (lv_at hl 1 rfl) ?_
  refine va_get (D := (dC, dI)) (ci := 6) (C := RX6) (T := TX6) (N := 6) hx hb hts (fun _ h => (List.mem_cons_of_mem _ (List.mem_append_left _ (List.mem_append_left _ (List.mem_append_right _ h))))) hown hK hP 3 rfl rfl 3 (by decide) (hts _ (List.mem_cons_of_mem _ (List.mem_append_left _ (List.mem_append_left _ (List.mem_append_left _ (List.mem_append_left _ (List.mem_of_getElem? (i := 0) rfl))))))) (fun _ h => h) rfl dX5_build_4 ?_
  refine lv_imul hx hb dX5_build_7 ?_
  refine lv_iconst (v := (1 : Int32)) hx hb dX5_build_8 (by decide) ?_
  refine lv_isub hx hb dX5_build_9 ?_
  refine va_put (D := (dC, dI)) (ci := 5) (v := .int (((6 : Int32) * ia1_size) - (1 : Int32))) (ty := .int) (C := RX5) (T := TX5) (N := 6) hx hb hts (fun _ h => (List.mem_cons_of_mem _ (List.mem_append_left _ (List.mem_append_right _ h)))) tyX5 tyX5_ok nmX5 hown hK hP hD hS 0 rfl rfl 1 (by decide) (hts _ (List.mem_cons_of_mem _ (List.mem_append_left _ (List.mem_append_left _ (List.mem_append_left _ (List.mem_append_left _ (List.mem_of_getElem? (i := 1) rfl))))))) (fun _ h => h) rfl (by decide +kernel) rfl rfl (Nat.le_of_ble_eq_true rfl) dX5_build_10 (fun H locs hP hD hS => ?_)
  have hP : va_P (dC, dI) vwCl [(qt, .inr (5, [.ref qt_owners, .int ((((6 : Int32) * ia1_size) - (1 : Int32))), .int (it_cellCount), .int (it_roomCount), .int (it_doorCount), .int (it_lowest)])), (qt_owners, .inr (4, [.ref qt_owners_values])), (qt_owners_values, .inl (cy.1, 210, .inl (ft_owners))), (qa1, .inr (6, [.ref qa1_letters, .ref xa1_open, .ref xa1_signs, .int (ia1_size), .int (ia1_start), .int (ia1_goal)])), (qa1_letters, .inr (4, [.ref qa1_letters_values])), (qa1_letters_values, .inl (cy.1, 6, .inl (fa1_letters)))] H := hP
  have hD : va_D A [(qt, .inr (5, [.ref qt_owners, .int ((((6 : Int32) * ia1_size) - (1 : Int32))), .int (it_cellCount), .int (it_roomCount), .int (it_doorCount), .int (it_lowest)])), (qt_owners, .inr (4, [.ref qt_owners_values])), (qt_owners_values, .inl (cy.1, 210, .inl (ft_owners))), (qa1, .inr (6, [.ref qa1_letters, .ref xa1_open, .ref xa1_signs, .int (ia1_size), .int (ia1_start), .int (ia1_goal)])), (qa1_letters, .inr (4, [.ref qa1_letters_values])), (qa1_letters_values, .inl (cy.1, 6, .inl (fa1_letters)))] := hD
  refine lv_aload_n hx hb dX5_build_13 rfl (lv_at hl 0 rfl) ?_
  refine lv_bipush (v := (6 : Int32)) hx hb dX5_build_14 (by decide) ?_
  refine lv_aload_n hx hb dX5_build_16 rfl (lv_at hl 0 rfl) ?_
  refine va_get (D := (dC, dI)) (ci := 5) (C := RX5) (T := TX5) (N := 6) hx hb hts (fun _ h => (List.mem_cons_of_mem _ (List.mem_append_left _ (List.mem_append_right _ h)))) hown hK hP 0 rfl rfl 1 (by decide) (hts _ (List.mem_cons_of_mem _ (List.mem_append_left _ (List.mem_append_left _ (List.mem_append_left _ (List.mem_append_left _ (List.mem_of_getElem? (i := 1) rfl))))))) (fun _ h => h) rfl dX5_build_17 ?_
  refine lv_imul hx hb dX5_build_20 ?_
  refine va_put (D := (dC, dI)) (ci := 5) (v := .int ((6 : Int32) * (((6 : Int32) * ia1_size) - (1 : Int32)))) (ty := .int) (C := RX5) (T := TX5) (N := 6) hx hb hts (fun _ h => (List.mem_cons_of_mem _ (List.mem_append_left _ (List.mem_append_right _ h)))) tyX5 tyX5_ok nmX5 hown hK hP hD hS 0 rfl rfl 2 (by decide) (hts _ (List.mem_cons_of_mem _ (List.mem_append_left _ (List.mem_append_left _ (List.mem_append_left _ (List.mem_append_left _ (List.mem_of_getElem? (i := 2) rfl))))))) (fun _ h => h) rfl (by decide +kernel) rfl rfl (Nat.le_of_ble_eq_true rfl) dX5_build_21 (fun H locs hP hD hS => ?_)
  have hP : va_P (dC, dI) vwCl [(qt, .inr (5, [.ref qt_owners, .int ((((6 : Int32) * ia1_size) - (1 : Int32))), .int (((6 : Int32) * (((6 : Int32) * ia1_size) - (1 : Int32)))), .int (it_roomCount), .int (it_doorCount), .int (it_lowest)])), (qt_owners, .inr (4, [.ref qt_owners_values])), (qt_owners_values, .inl (cy.1, 210, .inl (ft_owners))), (qa1, .inr (6, [.ref qa1_letters, .ref xa1_open, .ref xa1_signs, .int (ia1_size), .int (ia1_start), .int (ia1_goal)])), (qa1_letters, .inr (4, [.ref qa1_letters_values])), (qa1_letters_values, .inl (cy.1, 6, .inl (fa1_letters)))] H := hP
  have hD : va_D A [(qt, .inr (5, [.ref qt_owners, .int ((((6 : Int32) * ia1_size) - (1 : Int32))), .int (((6 : Int32) * (((6 : Int32) * ia1_size) - (1 : Int32)))), .int (it_roomCount), .int (it_doorCount), .int (it_lowest)])), (qt_owners, .inr (4, [.ref qt_owners_values])), (qt_owners_values, .inl (cy.1, 210, .inl (ft_owners))), (qa1, .inr (6, [.ref qa1_letters, .ref xa1_open, .ref xa1_signs, .int (ia1_size), .int (ia1_start), .int (ia1_goal)])), (qa1_letters, .inr (4, [.ref qa1_letters_values])), (qa1_letters_values, .inl (cy.1, 6, .inl (fa1_letters)))] := hD
  refine lv_aload_n hx hb dX5_build_24 rfl (lv_at hl 0 rfl) ?_
  refine va_get (D := (dC, dI)) (ci := 5) (C := RX5) (T := TX5) (N := 6) hx hb hts (fun _ h => (List.mem_cons_of_mem _ (List.mem_append_left _ (List.mem_append_right _ h)))) hown hK hP 0 rfl rfl 0 (by decide) (hts _ (List.mem_cons_of_mem _ (List.mem_append_left _ (List.mem_append_left _ (List.mem_append_left _ (List.mem_append_left _ (List.mem_of_getElem? (i := 3) rfl))))))) (fun _ h => h) rfl dX5_build_25 ?_
  refine lv_iconst (v := (0 : Int32)) hx hb dX5_build_28 (by decide) ?_
  obtain ⟨o29_0, hq_29, hf⟩ := bnd1_s hf
  refine kcallv (wc := [(qt_owners, .inr (4, [.ref qt_owners_values])), (qt_owners_values, .inl (cy.1, 210, .inl (ft_owners)))]) (wr := [(qt, .inr (5, [.ref qt_owners, .int ((((6 : Int32) * ia1_size) - (1 : Int32))), .int (((6 : Int32) * (((6 : Int32) * ia1_size) - (1 : Int32)))), .int (it_roomCount), .int (it_doorCount), .int (it_lowest)])), (qa1, .inr (6, [.ref qa1_letters, .ref xa1_open, .ref xa1_signs, .int (ia1_size), .int (ia1_start), .int (ia1_goal)])), (qa1_letters, .inr (4, [.ref qa1_letters_values])), (qa1_letters_values, .inl (cy.1, 6, .inl (fa1_letters)))]) (w1 := [(qt_owners, .inr (4, [.ref qt_owners_values])), (qt_owners_values, .inl (cy.1, 210, .inl (o29_0)))]) hK hP hD hS hA hG [1, 2] [0, 3, 4, 5] rfl rfl rfl rfl rfl (fun hU hPc => va_runV (As := [.int (0 : Int32)]) (rest := []) ⟨hx, hb, hml, hown, hts⟩ (c_X4_fill l dC dI cy G H.size qt_owners qt_owners_values N 210 (ft_owners) ((0 : Int32)) (by decide) o29_0 hq_29) (cwV 1 hts gX5_build_X4_fill rfl rfl rfl hdX4_fill ⟨Nat.le_of_ble_eq_true rfl, Nat.le_of_ble_eq_true rfl⟩) ⟨kBlind, (va_recv hK hP (ci := 4) (q0 := 1) rfl rfl), fun U h1 h2 => ⟨rfl, hU U h1 h2⟩⟩ rfl rfl hl.1 rfl (lv_room (Nat.le_of_ble_eq_true rfl)) dX5_build_29 ⟨Nat.zero_le _, Nat.zero_le _⟩) (fun _ _ h => h) (fun H locs hP hD hS => ?_)
  have hP : va_P (dC, dI) vwCl [(qt, .inr (5, [.ref qt_owners, .int ((((6 : Int32) * ia1_size) - (1 : Int32))), .int (((6 : Int32) * (((6 : Int32) * ia1_size) - (1 : Int32)))), .int (it_roomCount), .int (it_doorCount), .int (it_lowest)])), (qa1, .inr (6, [.ref qa1_letters, .ref xa1_open, .ref xa1_signs, .int (ia1_size), .int (ia1_start), .int (ia1_goal)])), (qa1_letters, .inr (4, [.ref qa1_letters_values])), (qa1_letters_values, .inl (cy.1, 6, .inl (fa1_letters))), (qt_owners, .inr (4, [.ref qt_owners_values])), (qt_owners_values, .inl (cy.1, 210, .inl (o29_0)))] H := hP
  have hD : va_D A [(qt, .inr (5, [.ref qt_owners, .int ((((6 : Int32) * ia1_size) - (1 : Int32))), .int (((6 : Int32) * (((6 : Int32) * ia1_size) - (1 : Int32)))), .int (it_roomCount), .int (it_doorCount), .int (it_lowest)])), (qa1, .inr (6, [.ref qa1_letters, .ref xa1_open, .ref xa1_signs, .int (ia1_size), .int (ia1_start), .int (ia1_goal)])), (qa1_letters, .inr (4, [.ref qa1_letters_values])), (qa1_letters_values, .inl (cy.1, 6, .inl (fa1_letters))), (qt_owners, .inr (4, [.ref qt_owners_values])), (qt_owners_values, .inl (cy.1, 210, .inl (o29_0)))] := hD
  refine lv_iconst (v := (0 : Int32)) hx hb dX5_build_32 (by decide) ?_
  refine lv_istore_n (lv' := [(2, .int (0 : Int32)), (0, .ref qt), (1, .ref qa1)]) hx hb dX5_build_33 rfl hl (by decide) rfl (fun ls hl => ?_)
  exact B34 N ((0 : Int32)) ((((6 : Int32) * ia1_size) - (1 : Int32))) (((6 : Int32) * (((6 : Int32) * ia1_size) - (1 : Int32)))) (it_roomCount) (it_doorCount) (it_lowest) (o29_0) _ _ (hP.sub [0, 4, 5, 1, 2, 3] rfl) (hD.sub [0, 4, 5, 1, 2, 3] (by decide) rfl) hS _ (lv_sub hl [1, 2, 0] rfl) hf
theorem hdX5_build : yX5_build.cls = RX5 ∧ yX5_build.cls ≠ "java/lang/invoke/MethodHandle" ∧ yX5_build.cls ≠ "java/lang/invoke/VarHandle" ∧ (parseMethodDescriptor yX5_build.desc).map (fun d => d.parameters.length) = some 1 := by decide +kernel
noncomputable def b_X5_roomsOf_4 (N : Nat) (ft_owners : Nat → Int32) (va1 : Int32) : Nat → Int32 → Int32 → Option (Int32)
  | 0, _, _ => none
  | n + 1, l2, l3 =>
    if (210 : Int32) ≤ l3 then
      some (l2)
    else
      if (t_X4_at 210 (ft_owners) (l3)) = va1 then
        b_X5_roomsOf_4 N ft_owners va1 n ((l2 + (1 : Int32))) ((l3 + (1 : Int32)))
      else
        b_X5_roomsOf_4 N ft_owners va1 n (l2) ((l3 + (1 : Int32)))
noncomputable def f_X5_roomsOf (N : Nat) (ft_owners : Nat → Int32) (va1 : Int32) : Option (Int32) :=
  b_X5_roomsOf_4 N ft_owners va1 N ((0 : Int32)) ((0 : Int32))
abbrev rm_X5_roomsOf : Room := { frames := 1, cells := 0, slots := 0, locals := 21 }
set_option maxHeartbeats 4000000 in
set_option maxRecDepth 100000 in
theorem c_X5_roomsOf (l : Launch) (dC : Nat → ClassId) (dI : Nat → Nat → Nat) (cy : gC) (G : gT) (sz : Nat) (qt : Nat) (qt_owners : Nat) (qt_owners_values : Nat) (it_width : Int32) (it_cellCount : Int32) (it_roomCount : Int32) (it_doorCount : Int32) (it_lowest : Int32) (N : Nat) (ft_owners : Nat → Int32) (va1 : Int32) (out : Int32) (hf : f_X5_roomsOf N ft_owners va1 = some out) : Met l yX5_roomsOf wsX5_roomsOf rm_X5_roomsOf (va_Pc [.ref qt, .int va1] (kP (dC, dI) cy G [(qt, .inr (5, [.ref qt_owners, .int (it_width), .int (it_cellCount), .int (it_roomCount), .int (it_doorCount), .int (it_lowest)])), (qt_owners, .inr (4, [.ref qt_owners_values])), (qt_owners_values, .inl (cy.1, 210, .inl (ft_owners)))] sz)) (va_Qi (fun r (_ : Unit) => r = out) (fun _ => kQ (dC, dI) cy [(qt, .inr (5, [.ref qt_owners, .int (it_width), .int (it_cellCount), .int (it_roomCount), .int (it_doorCount), .int (it_lowest)])), (qt_owners, .inr (4, [.ref qt_owners_values])), (qt_owners_values, .inl (cy.1, 210, .inl (ft_owners)))] (va_A [(qt, .inr (5, [.ref qt_owners, .int (it_width), .int (it_cellCount), .int (it_roomCount), .int (it_doorCount), .int (it_lowest)])), (qt_owners, .inr (4, [.ref qt_owners_values])), (qt_owners_values, .inl (cy.1, 210, .inl (ft_owners)))] sz)) (va_A [(qt, .inr (5, [.ref qt_owners, .int (it_width), .int (it_cellCount), .int (it_roomCount), .int (it_doorCount), .int (it_lowest)])), (qt_owners, .inr (4, [.ref qt_owners_values])), (qt_owners_values, .inl (cy.1, 210, .inl (ft_owners)))] sz)) 0 0 (va_A [(qt, .inr (5, [.ref qt_owners, .int (it_width), .int (it_cellCount), .int (it_roomCount), .int (it_doorCount), .int (it_lowest)])), (qt_owners, .inr (4, [.ref qt_owners_values])), (qt_owners_values, .inl (cy.1, 210, .inl (ft_owners)))] sz) := by
  refine Met.ofW (cc := cX5_roomsOf) (maxL := 4) (ret := (some .int)) (by decide) rfl ?_
  intro p e s m args below meth c s₁ B hml hv
  obtain ⟨rfl, hsz, hP, hK, hD0, hG⟩ := hv
  have hx := B.exec
  have hb := B.bytes
  have hr := B.returns
  have hts := atoms_spec (ws := wsX5_roomsOf) B.pre
  have hown : s.vm.findClass RX5 = some m.cls := findClass_of_methodNamed B.named
  have hlocks := B.notSynchronized
  subst hsz
  have hD := hD0.self (sz := s.heap.size)
  generalize hAe : va_A [(qt, .inr (5, [.ref qt_owners, .int (it_width), .int (it_cellCount), .int (it_roomCount), .int (it_doorCount), .int (it_lowest)])), (qt_owners, .inr (4, [.ref qt_owners_values])), (qt_owners_values, .inl (cy.1, 210, .inl (ft_owners)))] s.heap.size = A at hD hG ⊢
  have hA : ∀ q : Nat, s.heap.size ≤ q → A q := fun q h => by rw [← hAe]; exact Or.inr h
  have hS : va_S A s.heap s.heap [] := va_S.rf
  have hP : va_P (dC, dI) vwCl [(qt, .inr (5, [.ref qt_owners, .int (it_width), .int (it_cellCount), .int (it_roomCount), .int (it_doorCount), .int (it_lowest)])), (qt_owners, .inr (4, [.ref qt_owners_values])), (qt_owners_values, .inl (cy.1, 210, .inl (ft_owners)))] s.heap := hP
  have hl := lv_entry ([.ref qt, .int va1]) (n := 4) (Nat.le_of_ble_eq_true rfl)
  rw [lg_entry_eq]
  generalize (lg_sl ([.ref qt, .int va1]) ++ List.replicate (4 - (lg_sl ([.ref qt, .int va1])).length) Slot.unset).toArray = ls at hl ⊢
  have hl : lv_has ls 4 [(0, .ref qt), (1, .int va1)] := hl
  refine kgen (fun Q hQ => ?_)
  have B4 : ∀ (n4 : Nat) (l2 : Int32) (l3 : Int32) (H : Heap) (locs : List Loc), va_P (dC, dI) vwCl [(qt, .inr (5, [.ref qt_owners, .int (it_width), .int (it_cellCount), .int (it_roomCount), .int (it_doorCount), .int (it_lowest)])), (qt_owners, .inr (4, [.ref qt_owners_values])), (qt_owners_values, .inl (cy.1, 210, .inl (ft_owners)))] H → va_D A [(qt, .inr (5, [.ref qt_owners, .int (it_width), .int (it_cellCount), .int (it_roomCount), .int (it_doorCount), .int (it_lowest)])), (qt_owners, .inr (4, [.ref qt_owners_values])), (qt_owners_values, .inl (cy.1, 210, .inl (ft_owners)))] → va_S A s.heap H locs → ∀ (ls : Array Slot), lv_has ls 4 [(0, .ref qt), (1, .int va1), (2, .int l2), (3, .int l3)] → b_X5_roomsOf_4 N ft_owners va1 n4 l2 l3 = some out → W p l e (headSpec wsX5_roomsOf rm_X5_roomsOf).room s m ([.ref qt, .int va1] : List Value).toArray below meth c H locs 0 0 Q (F0 m 4 ls []) := by
    intro n4
    induction n4 with
    | zero => intro l2 l3 H locs hP hD hS ls hl hf; rw [b_X5_roomsOf_4] at hf; cases hf
    | succ n4 ih4 =>
      intro l2 l3 H locs hP hD hS ls hl hf
      rw [b_X5_roomsOf_4] at hf
      refine lv_iload_n hx hb dX5_roomsOf_4 rfl (lv_at hl 3 rfl) ?_
      refine lv_sipush (v := (210 : Int32)) hx hb dX5_roomsOf_5 (by decide) ?_
      refine lv_icmp_ge (tgt := 32) hx hb dX5_roomsOf_8 (by decide) (fun hc_8 => ?_) (fun hc_8 => ?_)
      · rw [if_pos hc_8] at hf
        refine lv_iload_n hx hb dX5_roomsOf_32 rfl (lv_at hl 2 rfl) ?_
        cases hf
        subst hQ
        exact kiret hx hb hr hlocks hK (hP.sub [0, 1, 2] rfl) (hD.sub [0, 1, 2] (by decide) rfl) hS rfl dX5_roomsOf_33
      · rw [if_neg hc_8] at hf
        refine lv_aload_n hx hb dX5_roomsOf_11 rfl (lv_at hl 0 rfl) ?_
        refine va_get (D := (dC, dI)) (ci := 5) (C := RX5) (T := TX5) (N := 6) hx hb hts (fun _ h => (List.mem_cons_of_mem _ (List.mem_append_left _ (List.mem_append_right _ h)))) hown hK hP 0 rfl rfl 0 (by decide) (hts _ (List.mem_cons_of_mem _ (List.mem_append_left _ (List.mem_append_left _ (List.mem_of_getElem? (i := 0) rfl))))) (fun _ h => h) rfl dX5_roomsOf_12 ?_
        refine lv_iload_n hx hb dX5_roomsOf_15 rfl (lv_at hl 3 rfl) ?_
        refine kcalli (wc := [(qt_owners, .inr (4, [.ref qt_owners_values])), (qt_owners_values, .inl (cy.1, 210, .inl (ft_owners)))]) (wr := [(qt, .inr (5, [.ref qt_owners, .int (it_width), .int (it_cellCount), .int (it_roomCount), .int (it_doorCount), .int (it_lowest)]))]) (w1 := [(qt_owners, .inr (4, [.ref qt_owners_values])), (qt_owners_values, .inl (cy.1, 210, .inl (ft_owners)))]) hK hP hD hS hA hG [1, 2] [0] rfl rfl rfl rfl rfl (fun hU hPc => va_runV (As := [.int l3]) (rest := []) ⟨hx, hb, hml, hown, hts⟩ (c_X4_at l dC dI cy G H.size qt_owners qt_owners_values 210 (ft_owners) (l3) (by decide) (t_X4_at 210 (ft_owners) (l3)) (tot_X4_at 210 (ft_owners) (l3))) (cwV 1 hts gX5_roomsOf_X4_at rfl rfl rfl hdX4_at ⟨Nat.le_of_ble_eq_true rfl, Nat.le_of_ble_eq_true rfl⟩) ⟨kBlind, (va_recv hK hP (ci := 4) (q0 := 1) rfl rfl), fun U h1 h2 => ⟨rfl, hU U h1 h2⟩⟩ rfl rfl hl.1 rfl (lv_room (Nat.le_of_ble_eq_true rfl)) dX5_roomsOf_16 ⟨Nat.zero_le _, Nat.zero_le _⟩) ((t_X4_at 210 (ft_owners) (l3))) (fun _ _ h => h) (fun _ _ h => h) (fun H locs hP hD hS => ?_)
        have hP : va_P (dC, dI) vwCl [(qt, .inr (5, [.ref qt_owners, .int (it_width), .int (it_cellCount), .int (it_roomCount), .int (it_doorCount), .int (it_lowest)])), (qt_owners, .inr (4, [.ref qt_owners_values])), (qt_owners_values, .inl (cy.1, 210, .inl (ft_owners)))] H := hP
        have hD : va_D A [(qt, .inr (5, [.ref qt_owners, .int (it_width), .int (it_cellCount), .int (it_roomCount), .int (it_doorCount), .int (it_lowest)])), (qt_owners, .inr (4, [.ref qt_owners_values])), (qt_owners_values, .inl (cy.1, 210, .inl (ft_owners)))] := hD
        refine lv_iload_n hx hb dX5_roomsOf_19 rfl (lv_at hl 1 rfl) ?_
        refine lv_icmp_ne (tgt := 26) hx hb dX5_roomsOf_20 (by decide) (fun hc_20 => ?_) (fun hc_20 => ?_)
        · rw [if_neg hc_20] at hf
          refine lv_iinc (v := (l3 + (1 : Int32))) (lv' := [(3, .int (l3 + (1 : Int32))), (0, .ref qt), (1, .int va1), (2, .int l2)]) hx hb dX5_roomsOf_26 hl (k := 3) rfl rfl (by decide) rfl (fun ls hl => ?_)
          refine lv_goto (tgt := 4) hx hb dX5_roomsOf_29 (by decide) ?_
          exact ih4 (l2) ((l3 + (1 : Int32))) _ _ (hP.sub [0, 1, 2] rfl) (hD.sub [0, 1, 2] (by decide) rfl) hS _ (lv_sub hl [1, 2, 3, 0] rfl) hf
        · rw [if_pos hc_20] at hf
          refine lv_iinc (v := (l2 + (1 : Int32))) (lv' := [(2, .int (l2 + (1 : Int32))), (0, .ref qt), (1, .int va1), (3, .int l3)]) hx hb dX5_roomsOf_23 hl (k := 2) rfl rfl (by decide) rfl (fun ls hl => ?_)
          refine lv_iinc (v := (l3 + (1 : Int32))) (lv' := [(3, .int (l3 + (1 : Int32))), (2, .int (l2 + (1 : Int32))), (0, .ref qt), (1, .int va1)]) hx hb dX5_roomsOf_26 hl (k := 3) rfl rfl (by decide) rfl (fun ls hl => ?_)
          refine lv_goto (tgt := 4) hx hb dX5_roomsOf_29 (by decide) ?_
          exact ih4 ((l2 + (1 : Int32))) ((l3 + (1 : Int32))) _ _ (hP.sub [0, 1, 2] rfl) (hD.sub [0, 1, 2] (by decide) rfl) hS _ (lv_sub hl [2, 3, 1, 0] rfl) hf
  rw [f_X5_roomsOf] at hf
  refine lv_iconst (v := (0 : Int32)) hx hb dX5_roomsOf_0 (by decide) ?_
  refine lv_istore_n (lv' := [(2, .int (0 : Int32)), (0, .ref qt), (1, .int va1)]) hx hb dX5_roomsOf_1 rfl hl (by decide) rfl (fun ls hl => ?_)
  refine lv_iconst (v := (0 : Int32)) hx hb dX5_roomsOf_2 (by decide) ?_
  refine lv_istore_n (lv' := [(3, .int (0 : Int32)), (2, .int (0 : Int32)), (0, .ref qt), (1, .int va1)]) hx hb dX5_roomsOf_3 rfl hl (by decide) rfl (fun ls hl => ?_)
  exact B4 N ((0 : Int32)) ((0 : Int32)) _ _ (hP.sub [0, 1, 2] rfl) (hD.sub [0, 1, 2] (by decide) rfl) hS _ (lv_sub hl [2, 3, 1, 0] rfl) hf
theorem hdX5_roomsOf : yX5_roomsOf.cls = RX5 ∧ yX5_roomsOf.cls ≠ "java/lang/invoke/MethodHandle" ∧ yX5_roomsOf.cls ≠ "java/lang/invoke/VarHandle" ∧ (parseMethodDescriptor yX5_roomsOf.desc).map (fun d => d.parameters.length) = some 1 := by decide +kernel

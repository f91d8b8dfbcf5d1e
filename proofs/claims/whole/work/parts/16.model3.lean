noncomputable def b_X11_sign_63 (N : Nat) (va1 : Int32) (va2 : Int32) (va3 : Int32) (cit_saved : Int32) (cft_now : Nat → Int32) (cft_past : Nat → Int32) : Option (Int32 × Int32 × (Nat → Int32) × (Nat → Int32)) :=
  bnd2 (f_X11_records N (cit_saved) (cft_now) (cft_past)) fun o64_0 o64_1 =>
  if ((429 : Int32) + va1) < 0 ∨ 639 ≤ (((429 : Int32) + va1)).toNatClampNeg then none else
  bnd1 (f_X11_signs N ((upd cft_now (((429 : Int32) + va1)).toNatClampNeg (((1 : Int32) + ((4 : Int32) * va2)) + va3))) ((0 : Int32))) fun r86 =>
  some (r86, o64_0, (upd cft_now (((429 : Int32) + va1)).toNatClampNeg (((1 : Int32) + ((4 : Int32) * va2)) + va3)), o64_1)
noncomputable def b_X11_sign_29 (N : Nat) (va1 : Int32) (va2 : Int32) (va3 : Int32) (s0 : Int32) (s1 : Int32) (s2 : Int32) (cit_saved : Int32) (cft_now : Nat → Int32) (cft_past : Nat → Int32) : Option (Int32 × Int32 × (Nat → Int32) × (Nat → Int32)) :=
  if (t_X11_in (s0) (s1) (s2)) = 0 then
    some ((-1 : Int32), cit_saved, cft_now, cft_past)
  else
    if ((429 : Int32) + va1) < 0 ∨ 639 ≤ (((429 : Int32) + va1)).toNatClampNeg then none else
    if (cft_now (((429 : Int32) + va1)).toNatClampNeg) = 0 then
      bnd1 (f_X11_signs N (cft_now) ((0 : Int32))) fun r52 =>
      if r52 = (20 : Int32) then
        some ((-3 : Int32), cit_saved, cft_now, cft_past)
      else
        b_X11_sign_63 N va1 va2 va3 (cit_saved) (cft_now) (cft_past)
    else
      b_X11_sign_63 N va1 va2 va3 (cit_saved) (cft_now) (cft_past)
noncomputable def f_X11_sign (N : Nat) (it_saved : Int32) (ft_now : Nat → Int32) (ft_past : Nat → Int32) (va1 : Int32) (va2 : Int32) (va3 : Int32) : Option (Int32 × Int32 × (Nat → Int32) × (Nat → Int32)) :=
  bnd1 (f_X11_hasRoom (ft_now) (va1)) fun r2 =>
  if r2 = 0 then
    some ((-1 : Int32), it_saved, ft_now, ft_past)
  else
    if (t_X11_in (va2) ((0 : Int32)) ((2 : Int32))) = 0 then
      some ((-1 : Int32), it_saved, ft_now, ft_past)
    else
      if va2 = (2 : Int32) then
        b_X11_sign_29 N va1 va2 va3 (va3) ((0 : Int32)) ((3 : Int32)) (it_saved) (ft_now) (ft_past)
      else
        b_X11_sign_29 N va1 va2 va3 (va3) ((0 : Int32)) ((0 : Int32)) (it_saved) (ft_now) (ft_past)
abbrev rm_X11_sign : Room := { frames := 9, cells := 0, slots := 0, locals := 202 }
set_option maxHeartbeats 4000000 in
set_option maxRecDepth 100000 in
theorem c_X11_sign (l : Launch) (dC : Nat → ClassId) (dI : Nat → Nat → Nat) (cy : gC) (G : gT) (sz : Nat) (qt : Nat) (qt_now : Nat) (qt_past : Nat) (xt_text : Nat) (xt_doors : Nat) (xt_label : Nat) (xt_far : Nat) (xt_ring : Nat) (xt_was : Nat) (it_length : Int32) (it_doorMany : Int32) (it_drawn : Int32) (it_walker : Int32) (it_from : Int32) (it_steps : Int32) (it_faultAt : Int32) (it_mover : Int32) (N : Nat) (it_saved : Int32) (ft_now : Nat → Int32) (ft_past : Nat → Int32) (va1 : Int32) (va2 : Int32) (va3 : Int32) (out : Int32 × Int32 × (Nat → Int32) × (Nat → Int32)) (hf : f_X11_sign N it_saved ft_now ft_past va1 va2 va3 = some out) : Met l yX11_sign wsX11_sign rm_X11_sign (va_Pc [.ref qt, .int va1, .int va2, .int va3] (kP (dC, dI) cy G [(qt, .inr (11, [.ref qt_now, .ref qt_past, .int (it_saved), .ref xt_text, .int (it_length), .ref xt_doors, .int (it_doorMany), .ref xt_label, .int (it_drawn), .ref xt_far, .ref xt_ring, .int (it_walker), .int (it_from), .ref xt_was, .int (it_steps), .int (it_faultAt), .int (it_mover)])), (qt_now, .inl (cy.1, 639, .inl (ft_now))), (qt_past, .inl (cy.1, 3195, .inl (ft_past)))] sz)) (va_Qi (fun r (_ : Unit) => r = out.1) (fun _ => kQ (dC, dI) cy [(qt, .inr (11, [.ref qt_now, .ref qt_past, .int (out.2.1), .ref xt_text, .int (it_length), .ref xt_doors, .int (it_doorMany), .ref xt_label, .int (it_drawn), .ref xt_far, .ref xt_ring, .int (it_walker), .int (it_from), .ref xt_was, .int (it_steps), .int (it_faultAt), .int (it_mover)])), (qt_now, .inl (cy.1, 639, .inl (out.2.2.1))), (qt_past, .inl (cy.1, 3195, .inl (out.2.2.2)))] (va_A [(qt, .inr (11, [.ref qt_now, .ref qt_past, .int (it_saved), .ref xt_text, .int (it_length), .ref xt_doors, .int (it_doorMany), .ref xt_label, .int (it_drawn), .ref xt_far, .ref xt_ring, .int (it_walker), .int (it_from), .ref xt_was, .int (it_steps), .int (it_faultAt), .int (it_mover)])), (qt_now, .inl (cy.1, 639, .inl (ft_now))), (qt_past, .inl (cy.1, 3195, .inl (ft_past)))] sz)) (va_A [(qt, .inr (11, [.ref qt_now, .ref qt_past, .int (it_saved), .ref xt_text, .int (it_length), .ref xt_doors, .int (it_doorMany), .ref xt_label, .int (it_drawn), .ref xt_far, .ref xt_ring, .int (it_walker), .int (it_from), .ref xt_was, .int (it_steps), .int (it_faultAt), .int (it_mover)])), (qt_now, .inl (cy.1, 639, .inl (ft_now))), (qt_past, .inl (cy.1, 3195, .inl (ft_past)))] sz)) 0 0 (va_A [(qt, .inr (11, [.ref qt_now, .ref qt_past, .int (it_saved), .ref xt_text, .int (it_length), .ref xt_doors, .int (it_doorMany), .ref xt_label, .int (it_drawn), .ref xt_far, .ref xt_ring, .int (it_walker), .int (it_from), .ref xt_was, .int (it_steps), .int (it_faultAt), .int (it_mover)])), (qt_now, .inl (cy.1, 639, .inl (ft_now))), (qt_past, .inl (cy.1, 3195, .inl (ft_past)))] sz) := by
  refine Met.ofW (cc := cX11_sign) (maxL := 4) (ret := (some .int)) (by decide) rfl ?_
  intro p e s m args below meth c s₁ B hml hv
  obtain ⟨rfl, hsz, hP, hK, hD0, hG⟩ := hv
  have hx := B.exec
  have hb := B.bytes
  have hr := B.returns
  have hts := atoms_spec (ws := wsX11_sign) B.pre
  have hown : s.vm.findClass RX11 = some m.cls := findClass_of_methodNamed B.named
  have hlocks := B.notSynchronized
  subst hsz
  have hD := hD0.self (sz := s.heap.size)
  generalize hAe : va_A [(qt, .inr (11, [.ref qt_now, .ref qt_past, .int (it_saved), .ref xt_text, .int (it_length), .ref xt_doors, .int (it_doorMany), .ref xt_label, .int (it_drawn), .ref xt_far, .ref xt_ring, .int (it_walker), .int (it_from), .ref xt_was, .int (it_steps), .int (it_faultAt), .int (it_mover)])), (qt_now, .inl (cy.1, 639, .inl (ft_now))), (qt_past, .inl (cy.1, 3195, .inl (ft_past)))] s.heap.size = A at hD hG ⊢
  have hA : ∀ q : Nat, s.heap.size ≤ q → A q := fun q h => by rw [← hAe]; exact Or.inr h
  have hS : va_S A s.heap s.heap [] := va_S.rf
  have hP : va_P (dC, dI) vwCl [(qt, .inr (11, [.ref qt_now, .ref qt_past, .int (it_saved), .ref xt_text, .int (it_length), .ref xt_doors, .int (it_doorMany), .ref xt_label, .int (it_drawn), .ref xt_far, .ref xt_ring, .int (it_walker), .int (it_from), .ref xt_was, .int (it_steps), .int (it_faultAt), .int (it_mover)])), (qt_now, .inl (cy.1, 639, .inl (ft_now))), (qt_past, .inl (cy.1, 3195, .inl (ft_past)))] s.heap := hP
  have hl := lv_entry ([.ref qt, .int va1, .int va2, .int va3]) (n := 4) (Nat.le_of_ble_eq_true rfl)
  rw [lg_entry_eq]
  generalize (lg_sl ([.ref qt, .int va1, .int va2, .int va3]) ++ List.replicate (4 - (lg_sl ([.ref qt, .int va1, .int va2, .int va3])).length) Slot.unset).toArray = ls at hl ⊢
  have hl : lv_has ls 4 [(0, .ref qt), (1, .int va1), (2, .int va2), (3, .int va3)] := hl
  refine kgen (fun Q hQ => ?_)
  have B63 : ∀ (cit_saved : Int32) (cft_now : Nat → Int32) (cft_past : Nat → Int32) (H : Heap) (locs : List Loc), va_P (dC, dI) vwCl [(qt, .inr (11, [.ref qt_now, .ref qt_past, .int (cit_saved), .ref xt_text, .int (it_length), .ref xt_doors, .int (it_doorMany), .ref xt_label, .int (it_drawn), .ref xt_far, .ref xt_ring, .int (it_walker), .int (it_from), .ref xt_was, .int (it_steps), .int (it_faultAt), .int (it_mover)])), (qt_now, .inl (cy.1, 639, .inl (cft_now))), (qt_past, .inl (cy.1, 3195, .inl (cft_past)))] H → va_D A [(qt, .inr (11, [.ref qt_now, .ref qt_past, .int (cit_saved), .ref xt_text, .int (it_length), .ref xt_doors, .int (it_doorMany), .ref xt_label, .int (it_drawn), .ref xt_far, .ref xt_ring, .int (it_walker), .int (it_from), .ref xt_was, .int (it_steps), .int (it_faultAt), .int (it_mover)])), (qt_now, .inl (cy.1, 639, .inl (cft_now))), (qt_past, .inl (cy.1, 3195, .inl (cft_past)))] → va_S A s.heap H locs → ∀ (ls : Array Slot), lv_has ls 4 [(0, .ref qt), (1, .int va1), (2, .int va2), (3, .int va3)] → b_X11_sign_63 N va1 va2 va3 cit_saved cft_now cft_past = some out → W p l e (headSpec wsX11_sign rm_X11_sign).room s m ([.ref qt, .int va1, .int va2, .int va3] : List Value).toArray below meth c H locs 0 0 Q (F0 m 63 ls []) := by
    intro cit_saved cft_now cft_past H locs hP hD hS ls hl hf
    rw [b_X11_sign_63] at hf
    refine lv_aload_n hx hb dX11_sign_63 rfl (lv_at hl 0 rfl) ?_
    obtain ⟨o64_0, o64_1, hq_64, hf⟩ := bnd2_s hf
    refine kcallv (wc := [(qt, .inr (11, [.ref qt_now, .ref qt_past, .int (cit_saved), .ref xt_text, .int (it_length), .ref xt_doors, .int (it_doorMany), .ref xt_label, .int (it_drawn), .ref xt_far, .ref xt_ring, .int (it_walker), .int (it_from), .ref xt_was, .int (it_steps), .int (it_faultAt), .int (it_mover)])), (qt_now, .inl (cy.1, 639, .inl (cft_now))), (qt_past, .inl (cy.1, 3195, .inl (cft_past)))]) (wr := []) (w1 := [(qt, .inr (11, [.ref qt_now, .ref qt_past, .int (o64_0), .ref xt_text, .int (it_length), .ref xt_doors, .int (it_doorMany), .ref xt_label, .int (it_drawn), .ref xt_far, .ref xt_ring, .int (it_walker), .int (it_from), .ref xt_was, .int (it_steps), .int (it_faultAt), .int (it_mover)])), (qt_now, .inl (cy.1, 639, .inl (cft_now))), (qt_past, .inl (cy.1, 3195, .inl (o64_1)))]) hK hP hD hS hA hG [0, 1, 2] [] rfl rfl rfl rfl rfl (fun hU hPc => va_runV (As := []) (rest := []) ⟨hx, hb, hml, hown, hts⟩ (c_X11_records l dC dI cy G H.size qt qt_now qt_past xt_text xt_doors xt_label xt_far xt_ring xt_was (it_length) (it_doorMany) (it_drawn) (it_walker) (it_from) (it_steps) (it_faultAt) (it_mover) N (cit_saved) (cft_now) (cft_past) (o64_0, o64_1) hq_64) (cwV 0 hts gX11_sign_X11_records rfl rfl rfl hdX11_records ⟨Nat.le_of_ble_eq_true rfl, Nat.le_of_ble_eq_true rfl⟩) ⟨kBlind, (va_recv hK hP (ci := 11) (q0 := 0) rfl rfl), fun U h1 h2 => ⟨rfl, hU U h1 h2⟩⟩ rfl rfl hl.1 rfl (lv_room (Nat.le_of_ble_eq_true rfl)) dX11_sign_64 ⟨Nat.zero_le _, Nat.zero_le _⟩) (fun _ _ h => h) (fun H locs hP hD hS => ?_)
    have hP : va_P (dC, dI) vwCl [(qt, .inr (11, [.ref qt_now, .ref qt_past, .int (o64_0), .ref xt_text, .int (it_length), .ref xt_doors, .int (it_doorMany), .ref xt_label, .int (it_drawn), .ref xt_far, .ref xt_ring, .int (it_walker), .int (it_from), .ref xt_was, .int (it_steps), .int (it_faultAt), .int (it_mover)])), (qt_now, .inl (cy.1, 639, .inl (cft_now))), (qt_past, .inl (cy.1, 3195, .inl (o64_1)))] H := hP
    have hD : va_D A [(qt, .inr (11, [.ref qt_now, .ref qt_past, .int (o64_0), .ref xt_text, .int (it_length), .ref xt_doors, .int (it_doorMany), .ref xt_label, .int (it_drawn), .ref xt_far, .ref xt_ring, .int (it_walker), .int (it_from), .ref xt_was, .int (it_steps), .int (it_faultAt), .int (it_mover)])), (qt_now, .inl (cy.1, 639, .inl (cft_now))), (qt_past, .inl (cy.1, 3195, .inl (o64_1)))] := hD
    refine lv_aload_n hx hb dX11_sign_67 rfl (lv_at hl 0 rfl) ?_
    refine va_get (D := (dC, dI)) (ci := 11) (C := RX11) (T := TX11) (N := 17) hx hb hts (fun _ h => (List.mem_cons_of_mem _ (List.mem_append_right _ h))) hown hK hP 0 rfl rfl 0 (by decide) (hts _ (List.mem_cons_of_mem _ (List.mem_append_left _ (List.mem_append_left _ (List.mem_of_getElem? (i := 0) rfl))))) (fun _ h => h) rfl dX11_sign_68 ?_
    refine lv_sipush (v := (429 : Int32)) hx hb dX11_sign_71 (by decide) ?_
    refine lv_iload_n hx hb dX11_sign_74 rfl (lv_at hl 1 rfl) ?_
    refine lv_iadd hx hb dX11_sign_75 ?_
    refine lv_iconst (v := (1 : Int32)) hx hb dX11_sign_76 (by decide) ?_
    refine lv_iconst (v := (4 : Int32)) hx hb dX11_sign_77 (by decide) ?_
    refine lv_iload_n hx hb dX11_sign_78 rfl (lv_at hl 2 rfl) ?_
    refine lv_imul hx hb dX11_sign_79 ?_
    refine lv_iadd hx hb dX11_sign_80 ?_
    refine lv_iload_n hx hb dX11_sign_81 rfl (lv_at hl 3 rfl) ?_
    refine lv_iadd hx hb dX11_sign_82 ?_
    obtain ⟨hk_83, hf⟩ := chk_s hf
    refine va_iast hx hb hK hP hD hS 1 0 rfl rfl hk_83 dX11_sign_83 (fun H locs hP hD hS => ?_)
    have hP : va_P (dC, dI) vwCl [(qt, .inr (11, [.ref qt_now, .ref qt_past, .int (o64_0), .ref xt_text, .int (it_length), .ref xt_doors, .int (it_doorMany), .ref xt_label, .int (it_drawn), .ref xt_far, .ref xt_ring, .int (it_walker), .int (it_from), .ref xt_was, .int (it_steps), .int (it_faultAt), .int (it_mover)])), (qt_now, .inl (cy.1, 639, .inl ((upd cft_now (((429 : Int32) + va1)).toNatClampNeg (((1 : Int32) + ((4 : Int32) * va2)) + va3))))), (qt_past, .inl (cy.1, 3195, .inl (o64_1)))] H := hP
    have hD : va_D A [(qt, .inr (11, [.ref qt_now, .ref qt_past, .int (o64_0), .ref xt_text, .int (it_length), .ref xt_doors, .int (it_doorMany), .ref xt_label, .int (it_drawn), .ref xt_far, .ref xt_ring, .int (it_walker), .int (it_from), .ref xt_was, .int (it_steps), .int (it_faultAt), .int (it_mover)])), (qt_now, .inl (cy.1, 639, .inl ((upd cft_now (((429 : Int32) + va1)).toNatClampNeg (((1 : Int32) + ((4 : Int32) * va2)) + va3))))), (qt_past, .inl (cy.1, 3195, .inl (o64_1)))] := hD
    refine lv_aload_n hx hb dX11_sign_84 rfl (lv_at hl 0 rfl) ?_
    refine lv_iconst (v := (0 : Int32)) hx hb dX11_sign_85 (by decide) ?_
    obtain ⟨r86, hq_86, hf⟩ := bnd1_s hf
    refine kcalli (wc := [(qt, .inr (11, [.ref qt_now, .ref qt_past, .int (o64_0), .ref xt_text, .int (it_length), .ref xt_doors, .int (it_doorMany), .ref xt_label, .int (it_drawn), .ref xt_far, .ref xt_ring, .int (it_walker), .int (it_from), .ref xt_was, .int (it_steps), .int (it_faultAt), .int (it_mover)])), (qt_now, .inl (cy.1, 639, .inl ((upd cft_now (((429 : Int32) + va1)).toNatClampNeg (((1 : Int32) + ((4 : Int32) * va2)) + va3)))))]) (wr := [(qt_past, .inl (cy.1, 3195, .inl (o64_1)))]) (w1 := [(qt, .inr (11, [.ref qt_now, .ref qt_past, .int (o64_0), .ref xt_text, .int (it_length), .ref xt_doors, .int (it_doorMany), .ref xt_label, .int (it_drawn), .ref xt_far, .ref xt_ring, .int (it_walker), .int (it_from), .ref xt_was, .int (it_steps), .int (it_faultAt), .int (it_mover)])), (qt_now, .inl (cy.1, 639, .inl ((upd cft_now (((429 : Int32) + va1)).toNatClampNeg (((1 : Int32) + ((4 : Int32) * va2)) + va3)))))]) hK hP hD hS hA hG [0, 1] [2] rfl rfl rfl rfl rfl (fun hU hPc => va_runV (As := [.int (0 : Int32)]) (rest := []) ⟨hx, hb, hml, hown, hts⟩ (c_X11_signs l dC dI cy G H.size qt qt_now qt_past xt_text xt_doors xt_label xt_far xt_ring xt_was (o64_0) (it_length) (it_doorMany) (it_drawn) (it_walker) (it_from) (it_steps) (it_faultAt) (it_mover) N ((upd cft_now (((429 : Int32) + va1)).toNatClampNeg (((1 : Int32) + ((4 : Int32) * va2)) + va3))) ((0 : Int32)) r86 hq_86) (cwV 1 hts gX11_sign_X11_signs rfl rfl rfl hdX11_signs ⟨Nat.le_of_ble_eq_true rfl, Nat.le_of_ble_eq_true rfl⟩) ⟨kBlind, (va_recv hK hP (ci := 11) (q0 := 0) rfl rfl), fun U h1 h2 => ⟨rfl, hU U h1 h2⟩⟩ rfl rfl hl.1 rfl (lv_room (Nat.le_of_ble_eq_true rfl)) dX11_sign_86 ⟨Nat.zero_le _, Nat.zero_le _⟩) (r86) (fun _ _ h => h) (fun _ _ h => h) (fun H locs hP hD hS => ?_)
    have hP : va_P (dC, dI) vwCl [(qt_past, .inl (cy.1, 3195, .inl (o64_1))), (qt, .inr (11, [.ref qt_now, .ref qt_past, .int (o64_0), .ref xt_text, .int (it_length), .ref xt_doors, .int (it_doorMany), .ref xt_label, .int (it_drawn), .ref xt_far, .ref xt_ring, .int (it_walker), .int (it_from), .ref xt_was, .int (it_steps), .int (it_faultAt), .int (it_mover)])), (qt_now, .inl (cy.1, 639, .inl ((upd cft_now (((429 : Int32) + va1)).toNatClampNeg (((1 : Int32) + ((4 : Int32) * va2)) + va3)))))] H := hP
    have hD : va_D A [(qt_past, .inl (cy.1, 3195, .inl (o64_1))), (qt, .inr (11, [.ref qt_now, .ref qt_past, .int (o64_0), .ref xt_text, .int (it_length), .ref xt_doors, .int (it_doorMany), .ref xt_label, .int (it_drawn), .ref xt_far, .ref xt_ring, .int (it_walker), .int (it_from), .ref xt_was, .int (it_steps), .int (it_faultAt), .int (it_mover)])), (qt_now, .inl (cy.1, 639, .inl ((upd cft_now (((429 : Int32) + va1)).toNatClampNeg (((1 : Int32) + ((4 : Int32) * va2)) + va3)))))] := hD
    cases hf
    subst hQ
    exact kiret hx hb hr hlocks hK (hP.sub [1, 2, 0] rfl) (hD.sub [1, 2, 0] (by decide) rfl) hS rfl dX11_sign_89
  have B29 : ∀ (s0 : Int32) (s1 : Int32) (s2 : Int32) (cit_saved : Int32) (cft_now : Nat → Int32) (cft_past : Nat → Int32) (H : Heap) (locs : List Loc), va_P (dC, dI) vwCl [(qt, .inr (11, [.ref qt_now, .ref qt_past, .int (cit_saved), .ref xt_text, .int (it_length), .ref xt_doors, .int (it_doorMany), .ref xt_label, .int (it_drawn), .ref xt_far, .ref xt_ring, .int (it_walker), .int (it_from), .ref xt_was, .int (it_steps), .int (it_faultAt), .int (it_mover)])), (qt_now, .inl (cy.1, 639, .inl (cft_now))), (qt_past, .inl (cy.1, 3195, .inl (cft_past)))] H → va_D A [(qt, .inr (11, [.ref qt_now, .ref qt_past, .int (cit_saved), .ref xt_text, .int (it_length), .ref xt_doors, .int (it_doorMany), .ref xt_label, .int (it_drawn), .ref xt_far, .ref xt_ring, .int (it_walker), .int (it_from), .ref xt_was, .int (it_steps), .int (it_faultAt), .int (it_mover)])), (qt_now, .inl (cy.1, 639, .inl (cft_now))), (qt_past, .inl (cy.1, 3195, .inl (cft_past)))] → va_S A s.heap H locs → ∀ (ls : Array Slot), lv_has ls 4 [(0, .ref qt), (1, .int va1), (2, .int va2), (3, .int va3)] → b_X11_sign_29 N va1 va2 va3 s0 s1 s2 cit_saved cft_now cft_past = some out → W p l e (headSpec wsX11_sign rm_X11_sign).room s m ([.ref qt, .int va1, .int va2, .int va3] : List Value).toArray below meth c H locs 0 0 Q (F0 m 29 ls [.int s2, .int s1, .int s0]) := by
    intro s0 s1 s2 cit_saved cft_now cft_past H locs hP hD hS ls hl hf
    rw [b_X11_sign_29] at hf
    refine kcalli (wc := []) (wr := [(qt, .inr (11, [.ref qt_now, .ref qt_past, .int (cit_saved), .ref xt_text, .int (it_length), .ref xt_doors, .int (it_doorMany), .ref xt_label, .int (it_drawn), .ref xt_far, .ref xt_ring, .int (it_walker), .int (it_from), .ref xt_was, .int (it_steps), .int (it_faultAt), .int (it_mover)])), (qt_now, .inl (cy.1, 639, .inl (cft_now))), (qt_past, .inl (cy.1, 3195, .inl (cft_past)))]) (w1 := []) hK hP hD hS hA hG [] [0, 1, 2] rfl rfl rfl rfl rfl (fun hU hPc => va_runS (As := [.int s0, .int s1, .int s2]) (rest := []) ⟨hx, hb, hml, hown, hts⟩ (c_X11_in l dC dI cy G H.size (s0) (s1) (s2) (t_X11_in (s0) (s1) (s2)) (tot_X11_in (s0) (s1) (s2))) (va_cwS 3 hts gX11_sign_X11_in rfl rfl rfl hdX11_in.2 ⟨Nat.le_of_ble_eq_true rfl, Nat.le_of_ble_eq_true rfl⟩) ⟨kBlind, fun U h1 h2 => ⟨rfl, hU U h1 h2⟩⟩ rfl rfl hl.1 rfl (lv_room (Nat.le_of_ble_eq_true rfl)) dX11_sign_29 ⟨Nat.zero_le _, Nat.zero_le _⟩) ((t_X11_in (s0) (s1) (s2))) (fun _ _ h => h) (fun _ _ h => h) (fun H locs hP hD hS => ?_)
    have hP : va_P (dC, dI) vwCl [(qt, .inr (11, [.ref qt_now, .ref qt_past, .int (cit_saved), .ref xt_text, .int (it_length), .ref xt_doors, .int (it_doorMany), .ref xt_label, .int (it_drawn), .ref xt_far, .ref xt_ring, .int (it_walker), .int (it_from), .ref xt_was, .int (it_steps), .int (it_faultAt), .int (it_mover)])), (qt_now, .inl (cy.1, 639, .inl (cft_now))), (qt_past, .inl (cy.1, 3195, .inl (cft_past)))] H := hP
    have hD : va_D A [(qt, .inr (11, [.ref qt_now, .ref qt_past, .int (cit_saved), .ref xt_text, .int (it_length), .ref xt_doors, .int (it_doorMany), .ref xt_label, .int (it_drawn), .ref xt_far, .ref xt_ring, .int (it_walker), .int (it_from), .ref xt_was, .int (it_steps), .int (it_faultAt), .int (it_mover)])), (qt_now, .inl (cy.1, 639, .inl (cft_now))), (qt_past, .inl (cy.1, 3195, .inl (cft_past)))] := hD
    refine lv_if_ne (tgt := 37) hx hb dX11_sign_32 (by decide) (fun hc_32 => ?_) (fun hc_32 => ?_)
    · rw [if_neg hc_32] at hf
      refine lv_aload_n hx hb dX11_sign_37 rfl (lv_at hl 0 rfl) ?_
      refine va_get (D := (dC, dI)) (ci := 11) (C := RX11) (T := TX11) (N := 17) hx hb hts (fun _ h => (List.mem_cons_of_mem _ (List.mem_append_right _ h))) hown hK hP 0 rfl rfl 0 (by decide) (hts _ (List.mem_cons_of_mem _ (List.mem_append_left _ (List.mem_append_left _ (List.mem_of_getElem? (i := 0) rfl))))) (fun _ h => h) rfl dX11_sign_38 ?_
      refine lv_sipush (v := (429 : Int32)) hx hb dX11_sign_41 (by decide) ?_
      refine lv_iload_n hx hb dX11_sign_44 rfl (lv_at hl 1 rfl) ?_
      refine lv_iadd hx hb dX11_sign_45 ?_
      obtain ⟨hk_46, hf⟩ := chk_s hf
      refine va_iald hx hb hK hP 1 0 rfl rfl hk_46 dX11_sign_46 ?_
      refine lv_if_ne (tgt := 63) hx hb dX11_sign_47 (by decide) (fun hc_47 => ?_) (fun hc_47 => ?_)
      · rw [if_neg hc_47] at hf
        exact B63 (cit_saved) (cft_now) (cft_past) _ _ (hP.sub [0, 1, 2] rfl) (hD.sub [0, 1, 2] (by decide) rfl) hS _ (lv_sub hl [0, 1, 2, 3] rfl) hf
      · rw [if_pos hc_47] at hf
        refine lv_aload_n hx hb dX11_sign_50 rfl (lv_at hl 0 rfl) ?_
        refine lv_iconst (v := (0 : Int32)) hx hb dX11_sign_51 (by decide) ?_
        obtain ⟨r52, hq_52, hf⟩ := bnd1_s hf
        refine kcalli (wc := [(qt, .inr (11, [.ref qt_now, .ref qt_past, .int (cit_saved), .ref xt_text, .int (it_length), .ref xt_doors, .int (it_doorMany), .ref xt_label, .int (it_drawn), .ref xt_far, .ref xt_ring, .int (it_walker), .int (it_from), .ref xt_was, .int (it_steps), .int (it_faultAt), .int (it_mover)])), (qt_now, .inl (cy.1, 639, .inl (cft_now)))]) (wr := [(qt_past, .inl (cy.1, 3195, .inl (cft_past)))]) (w1 := [(qt, .inr (11, [.ref qt_now, .ref qt_past, .int (cit_saved), .ref xt_text, .int (it_length), .ref xt_doors, .int (it_doorMany), .ref xt_label, .int (it_drawn), .ref xt_far, .ref xt_ring, .int (it_walker), .int (it_from), .ref xt_was, .int (it_steps), .int (it_faultAt), .int (it_mover)])), (qt_now, .inl (cy.1, 639, .inl (cft_now)))]) hK hP hD hS hA hG [0, 1] [2] rfl rfl rfl rfl rfl (fun hU hPc => va_runV (As := [.int (0 : Int32)]) (rest := []) ⟨hx, hb, hml, hown, hts⟩ (c_X11_signs l dC dI cy G H.size qt qt_now qt_past xt_text xt_doors xt_label xt_far xt_ring xt_was (cit_saved) (it_length) (it_doorMany) (it_drawn) (it_walker) (it_from) (it_steps) (it_faultAt) (it_mover) N (cft_now) ((0 : Int32)) r52 hq_52) (cwV 1 hts gX11_sign_X11_signs rfl rfl rfl hdX11_signs ⟨Nat.le_of_ble_eq_true rfl, Nat.le_of_ble_eq_true rfl⟩) ⟨kBlind, (va_recv hK hP (ci := 11) (q0 := 0) rfl rfl), fun U h1 h2 => ⟨rfl, hU U h1 h2⟩⟩ rfl rfl hl.1 rfl (lv_room (Nat.le_of_ble_eq_true rfl)) dX11_sign_52 ⟨Nat.zero_le _, Nat.zero_le _⟩) (r52) (fun _ _ h => h) (fun _ _ h => h) (fun H locs hP hD hS => ?_)
        have hP : va_P (dC, dI) vwCl [(qt_past, .inl (cy.1, 3195, .inl (cft_past))), (qt, .inr (11, [.ref qt_now, .ref qt_past, .int (cit_saved), .ref xt_text, .int (it_length), .ref xt_doors, .int (it_doorMany), .ref xt_label, .int (it_drawn), .ref xt_far, .ref xt_ring, .int (it_walker), .int (it_from), .ref xt_was, .int (it_steps), .int (it_faultAt), .int (it_mover)])), (qt_now, .inl (cy.1, 639, .inl (cft_now)))] H := hP
        have hD : va_D A [(qt_past, .inl (cy.1, 3195, .inl (cft_past))), (qt, .inr (11, [.ref qt_now, .ref qt_past, .int (cit_saved), .ref xt_text, .int (it_length), .ref xt_doors, .int (it_doorMany), .ref xt_label, .int (it_drawn), .ref xt_far, .ref xt_ring, .int (it_walker), .int (it_from), .ref xt_was, .int (it_steps), .int (it_faultAt), .int (it_mover)])), (qt_now, .inl (cy.1, 639, .inl (cft_now)))] := hD
        refine lv_bipush (v := (20 : Int32)) hx hb dX11_sign_55 (by decide) ?_
        refine lv_icmp_ne (tgt := 63) hx hb dX11_sign_57 (by decide) (fun hc_57 => ?_) (fun hc_57 => ?_)
        · rw [if_neg hc_57] at hf
          exact B63 (cit_saved) (cft_now) (cft_past) _ _ (hP.sub [1, 2, 0] rfl) (hD.sub [1, 2, 0] (by decide) rfl) hS _ (lv_sub hl [0, 1, 2, 3] rfl) hf
        · rw [if_pos hc_57] at hf
          refine lv_bipush (v := (-3 : Int32)) hx hb dX11_sign_60 (by decide) ?_
          cases hf
          subst hQ
          exact kiret hx hb hr hlocks hK (hP.sub [1, 2, 0] rfl) (hD.sub [1, 2, 0] (by decide) rfl) hS rfl dX11_sign_62
    · rw [if_pos hc_32] at hf
      refine lv_iconst (v := (-1 : Int32)) hx hb dX11_sign_35 (by decide) ?_
      cases hf
      subst hQ
      exact kiret hx hb hr hlocks hK (hP.sub [0, 1, 2] rfl) (hD.sub [0, 1, 2] (by decide) rfl) hS rfl dX11_sign_36
  rw [f_X11_sign] at hf
  refine lv_aload_n hx hb dX11_sign_0 rfl (lv_at hl 0 rfl) ?_
  refine lv_iload_n hx hb dX11_sign_1 rfl (lv_at hl 1 rfl) ?_
  obtain ⟨r2, hq_2, hf⟩ := bnd1_s hf
  refine kcalli (wc := [(qt, .inr (11, [.ref qt_now, .ref qt_past, .int (it_saved), .ref xt_text, .int (it_length), .ref xt_doors, .int (it_doorMany), .ref xt_label, .int (it_drawn), .ref xt_far, .ref xt_ring, .int (it_walker), .int (it_from), .ref xt_was, .int (it_steps), .int (it_faultAt), .int (it_mover)])), (qt_now, .inl (cy.1, 639, .inl (ft_now)))]) (wr := [(qt_past, .inl (cy.1, 3195, .inl (ft_past)))]) (w1 := [(qt, .inr (11, [.ref qt_now, .ref qt_past, .int (it_saved), .ref xt_text, .int (it_length), .ref xt_doors, .int (it_doorMany), .ref xt_label, .int (it_drawn), .ref xt_far, .ref xt_ring, .int (it_walker), .int (it_from), .ref xt_was, .int (it_steps), .int (it_faultAt), .int (it_mover)])), (qt_now, .inl (cy.1, 639, .inl (ft_now)))]) hK hP hD hS hA hG [0, 1] [2] rfl rfl rfl rfl rfl (fun hU hPc => va_runV (As := [.int va1]) (rest := []) ⟨hx, hb, hml, hown, hts⟩ (c_X11_hasRoom l dC dI cy G s.heap.size qt qt_now qt_past xt_text xt_doors xt_label xt_far xt_ring xt_was (it_saved) (it_length) (it_doorMany) (it_drawn) (it_walker) (it_from) (it_steps) (it_faultAt) (it_mover) (ft_now) (va1) r2 hq_2) (cwV 1 hts gX11_sign_X11_hasRoom rfl rfl rfl hdX11_hasRoom ⟨Nat.le_of_ble_eq_true rfl, Nat.le_of_ble_eq_true rfl⟩) ⟨kBlind, (va_recv hK hP (ci := 11) (q0 := 0) rfl rfl), fun U h1 h2 => ⟨rfl, hU U h1 h2⟩⟩ rfl rfl hl.1 rfl (lv_room (Nat.le_of_ble_eq_true rfl)) dX11_sign_2 ⟨Nat.zero_le _, Nat.zero_le _⟩) (r2) (fun _ _ h => h) (fun _ _ h => h) (fun H locs hP hD hS => ?_)
  have hP : va_P (dC, dI) vwCl [(qt_past, .inl (cy.1, 3195, .inl (ft_past))), (qt, .inr (11, [.ref qt_now, .ref qt_past, .int (it_saved), .ref xt_text, .int (it_length), .ref xt_doors, .int (it_doorMany), .ref xt_label, .int (it_drawn), .ref xt_far, .ref xt_ring, .int (it_walker), .int (it_from), .ref xt_was, .int (it_steps), .int (it_faultAt), .int (it_mover)])), (qt_now, .inl (cy.1, 639, .inl (ft_now)))] H := hP
  have hD : va_D A [(qt_past, .inl (cy.1, 3195, .inl (ft_past))), (qt, .inr (11, [.ref qt_now, .ref qt_past, .int (it_saved), .ref xt_text, .int (it_length), .ref xt_doors, .int (it_doorMany), .ref xt_label, .int (it_drawn), .ref xt_far, .ref xt_ring, .int (it_walker), .int (it_from), .ref xt_was, .int (it_steps), .int (it_faultAt), .int (it_mover)])), (qt_now, .inl (cy.1, 639, .inl (ft_now)))] := hD
  refine lv_if_eq (tgt := 35) hx hb dX11_sign_5 (by decide) (fun hc_5 => ?_) (fun hc_5 => ?_)
  · rw [if_pos hc_5] at hf
    refine lv_iconst (v := (-1 : Int32)) hx hb dX11_sign_35 (by decide) ?_
    cases hf
    subst hQ
    exact kiret hx hb hr hlocks hK (hP.sub [1, 2, 0] rfl) (hD.sub [1, 2, 0] (by decide) rfl) hS rfl dX11_sign_36
  · rw [if_neg hc_5] at hf
    refine lv_iload_n hx hb dX11_sign_8 rfl (lv_at hl 2 rfl) ?_
    refine lv_iconst (v := (0 : Int32)) hx hb dX11_sign_9 (by decide) ?_
    refine lv_iconst (v := (2 : Int32)) hx hb dX11_sign_10 (by decide) ?_
    refine kcalli (wc := []) (wr := [(qt_past, .inl (cy.1, 3195, .inl (ft_past))), (qt, .inr (11, [.ref qt_now, .ref qt_past, .int (it_saved), .ref xt_text, .int (it_length), .ref xt_doors, .int (it_doorMany), .ref xt_label, .int (it_drawn), .ref xt_far, .ref xt_ring, .int (it_walker), .int (it_from), .ref xt_was, .int (it_steps), .int (it_faultAt), .int (it_mover)])), (qt_now, .inl (cy.1, 639, .inl (ft_now)))]) (w1 := []) hK hP hD hS hA hG [] [0, 1, 2] rfl rfl rfl rfl rfl (fun hU hPc => va_runS (As := [.int va2, .int (0 : Int32), .int (2 : Int32)]) (rest := []) ⟨hx, hb, hml, hown, hts⟩ (c_X11_in l dC dI cy G H.size (va2) ((0 : Int32)) ((2 : Int32)) (t_X11_in (va2) ((0 : Int32)) ((2 : Int32))) (tot_X11_in (va2) ((0 : Int32)) ((2 : Int32)))) (va_cwS 3 hts gX11_sign_X11_in rfl rfl rfl hdX11_in.2 ⟨Nat.le_of_ble_eq_true rfl, Nat.le_of_ble_eq_true rfl⟩) ⟨kBlind, fun U h1 h2 => ⟨rfl, hU U h1 h2⟩⟩ rfl rfl hl.1 rfl (lv_room (Nat.le_of_ble_eq_true rfl)) dX11_sign_11 ⟨Nat.zero_le _, Nat.zero_le _⟩) ((t_X11_in (va2) ((0 : Int32)) ((2 : Int32)))) (fun _ _ h => h) (fun _ _ h => h) (fun H locs hP hD hS => ?_)
    have hP : va_P (dC, dI) vwCl [(qt_past, .inl (cy.1, 3195, .inl (ft_past))), (qt, .inr (11, [.ref qt_now, .ref qt_past, .int (it_saved), .ref xt_text, .int (it_length), .ref xt_doors, .int (it_doorMany), .ref xt_label, .int (it_drawn), .ref xt_far, .ref xt_ring, .int (it_walker), .int (it_from), .ref xt_was, .int (it_steps), .int (it_faultAt), .int (it_mover)])), (qt_now, .inl (cy.1, 639, .inl (ft_now)))] H := hP
    have hD : va_D A [(qt_past, .inl (cy.1, 3195, .inl (ft_past))), (qt, .inr (11, [.ref qt_now, .ref qt_past, .int (it_saved), .ref xt_text, .int (it_length), .ref xt_doors, .int (it_doorMany), .ref xt_label, .int (it_drawn), .ref xt_far, .ref xt_ring, .int (it_walker), .int (it_from), .ref xt_was, .int (it_steps), .int (it_faultAt), .int (it_mover)])), (qt_now, .inl (cy.1, 639, .inl (ft_now)))] := hD
    refine lv_if_eq (tgt := 35) hx hb dX11_sign_14 (by decide) (fun hc_14 => ?_) (fun hc_14 => ?_)
    · rw [if_pos hc_14] at hf
      refine lv_iconst (v := (-1 : Int32)) hx hb dX11_sign_35 (by decide) ?_
      cases hf
      subst hQ
      exact kiret hx hb hr hlocks hK (hP.sub [1, 2, 0] rfl) (hD.sub [1, 2, 0] (by decide) rfl) hS rfl dX11_sign_36
    · rw [if_neg hc_14] at hf
      refine lv_iload_n hx hb dX11_sign_17 rfl (lv_at hl 3 rfl) ?_
      refine lv_iconst (v := (0 : Int32)) hx hb dX11_sign_18 (by decide) ?_
      refine lv_iload_n hx hb dX11_sign_19 rfl (lv_at hl 2 rfl) ?_
      refine lv_iconst (v := (2 : Int32)) hx hb dX11_sign_20 (by decide) ?_
      refine lv_icmp_ne (tgt := 28) hx hb dX11_sign_21 (by decide) (fun hc_21 => ?_) (fun hc_21 => ?_)
      · rw [if_neg hc_21] at hf
        refine lv_iconst (v := (0 : Int32)) hx hb dX11_sign_28 (by decide) ?_
        exact B29 (va3) ((0 : Int32)) ((0 : Int32)) (it_saved) (ft_now) (ft_past) _ _ (hP.sub [1, 2, 0] rfl) (hD.sub [1, 2, 0] (by decide) rfl) hS _ (lv_sub hl [0, 1, 2, 3] rfl) hf
      · rw [if_pos hc_21] at hf
        refine lv_iconst (v := (3 : Int32)) hx hb dX11_sign_24 (by decide) ?_
        refine lv_goto (tgt := 29) hx hb dX11_sign_25 (by decide) ?_
        exact B29 (va3) ((0 : Int32)) ((3 : Int32)) (it_saved) (ft_now) (ft_past) _ _ (hP.sub [1, 2, 0] rfl) (hD.sub [1, 2, 0] (by decide) rfl) hS _ (lv_sub hl [0, 1, 2, 3] rfl) hf
theorem hdX11_sign : yX11_sign.cls = RX11 ∧ yX11_sign.cls ≠ "java/lang/invoke/MethodHandle" ∧ yX11_sign.cls ≠ "java/lang/invoke/VarHandle" ∧ (parseMethodDescriptor yX11_sign.desc).map (fun d => d.parameters.length) = some 3 := by decide +kernel
noncomputable def f_X11_unsign (N : Nat) (it_saved : Int32) (ft_now : Nat → Int32) (ft_past : Nat → Int32) (va1 : Int32) : Option (Int32 × Int32 × (Nat → Int32) × (Nat → Int32)) :=
  bnd1 (f_X11_hasRoom (ft_now) (va1)) fun r2 =>
  if r2 = 0 then
    some ((-1 : Int32), it_saved, ft_now, ft_past)
  else
    if ((429 : Int32) + va1) < 0 ∨ 639 ≤ (((429 : Int32) + va1)).toNatClampNeg then none else
    if (ft_now (((429 : Int32) + va1)).toNatClampNeg) = 0 then
      some ((-4 : Int32), it_saved, ft_now, ft_past)
    else
      bnd2 (f_X11_records N (it_saved) (ft_now) (ft_past)) fun o27_0 o27_1 =>
      if ((429 : Int32) + va1) < 0 ∨ 639 ≤ (((429 : Int32) + va1)).toNatClampNeg then none else
      if ((429 : Int32) + va1) < 0 ∨ 639 ≤ (((429 : Int32) + va1)).toNatClampNeg then none else
      some ((((ft_now (((429 : Int32) + va1)).toNatClampNeg) - (1 : Int32)) / (4 : Int32)), o27_0, (upd ft_now (((429 : Int32) + va1)).toNatClampNeg (0 : Int32)), o27_1)
abbrev rm_X11_unsign : Room := { frames := 4, cells := 0, slots := 0, locals := 88 }
set_option maxHeartbeats 4000000 in
set_option maxRecDepth 100000 in
theorem c_X11_unsign (l : Launch) (dC : Nat → ClassId) (dI : Nat → Nat → Nat) (cy : gC) (G : gT) (sz : Nat) (qt : Nat) (qt_now : Nat) (qt_past : Nat) (xt_text : Nat) (xt_doors : Nat) (xt_label : Nat) (xt_far : Nat) (xt_ring : Nat) (xt_was : Nat) (it_length : Int32) (it_doorMany : Int32) (it_drawn : Int32) (it_walker : Int32) (it_from : Int32) (it_steps : Int32) (it_faultAt : Int32) (it_mover : Int32) (N : Nat) (it_saved : Int32) (ft_now : Nat → Int32) (ft_past : Nat → Int32) (va1 : Int32) (out : Int32 × Int32 × (Nat → Int32) × (Nat → Int32)) (hf : f_X11_unsign N it_saved ft_now ft_past va1 = some out) : Met l yX11_unsign wsX11_unsign rm_X11_unsign (va_Pc [.ref qt, .int va1] (kP (dC, dI) cy G [(qt, .inr (11, [.ref qt_now, .ref qt_past, .int (it_saved), .ref xt_text, .int (it_length), .ref xt_doors, .int (it_doorMany), .ref xt_label, .int (it_drawn), .ref xt_far, .ref xt_ring, .int (it_walker), .int (it_from), .ref xt_was, .int (it_steps), .int (it_faultAt), .int (it_mover)])), (qt_now, .inl (cy.1, 639, .inl (ft_now))), (qt_past, .inl (cy.1, 3195, .inl (ft_past)))] sz)) (va_Qi (fun r (_ : Unit) => r = out.1) (fun _ => kQ (dC, dI) cy [(qt, .inr (11, [.ref qt_now, .ref qt_past, .int (out.2.1), .ref xt_text, .int (it_length), .ref xt_doors, .int (it_doorMany), .ref xt_label, .int (it_drawn), .ref xt_far, .ref xt_ring, .int (it_walker), .int (it_from), .ref xt_was, .int (it_steps), .int (it_faultAt), .int (it_mover)])), (qt_now, .inl (cy.1, 639, .inl (out.2.2.1))), (qt_past, .inl (cy.1, 3195, .inl (out.2.2.2)))] (va_A [(qt, .inr (11, [.ref qt_now, .ref qt_past, .int (it_saved), .ref xt_text, .int (it_length), .ref xt_doors, .int (it_doorMany), .ref xt_label, .int (it_drawn), .ref xt_far, .ref xt_ring, .int (it_walker), .int (it_from), .ref xt_was, .int (it_steps), .int (it_faultAt), .int (it_mover)])), (qt_now, .inl (cy.1, 639, .inl (ft_now))), (qt_past, .inl (cy.1, 3195, .inl (ft_past)))] sz)) (va_A [(qt, .inr (11, [.ref qt_now, .ref qt_past, .int (it_saved), .ref xt_text, .int (it_length), .ref xt_doors, .int (it_doorMany), .ref xt_label, .int (it_drawn), .ref xt_far, .ref xt_ring, .int (it_walker), .int (it_from), .ref xt_was, .int (it_steps), .int (it_faultAt), .int (it_mover)])), (qt_now, .inl (cy.1, 639, .inl (ft_now))), (qt_past, .inl (cy.1, 3195, .inl (ft_past)))] sz)) 0 0 (va_A [(qt, .inr (11, [.ref qt_now, .ref qt_past, .int (it_saved), .ref xt_text, .int (it_length), .ref xt_doors, .int (it_doorMany), .ref xt_label, .int (it_drawn), .ref xt_far, .ref xt_ring, .int (it_walker), .int (it_from), .ref xt_was, .int (it_steps), .int (it_faultAt), .int (it_mover)])), (qt_now, .inl (cy.1, 639, .inl (ft_now))), (qt_past, .inl (cy.1, 3195, .inl (ft_past)))] sz) := by
  refine Met.ofW (cc := cX11_unsign) (maxL := 3) (ret := (some .int)) (by decide) rfl ?_
  intro p e s m args below meth c s₁ B hml hv
  obtain ⟨rfl, hsz, hP, hK, hD0, hG⟩ := hv
  have hx := B.exec
  have hb := B.bytes
  have hr := B.returns
  have hts := atoms_spec (ws := wsX11_unsign) B.pre
  have hown : s.vm.findClass RX11 = some m.cls := findClass_of_methodNamed B.named
  have hlocks := B.notSynchronized
  subst hsz
  have hD := hD0.self (sz := s.heap.size)
  generalize hAe : va_A [(qt, .inr (11, [.ref qt_now, .ref qt_past, .int (it_saved), .ref xt_text, .int (it_length), .ref xt_doors, .int (it_doorMany), .ref xt_label, .int (it_drawn), .ref xt_far, .ref xt_ring, .int (it_walker), .int (it_from), .ref xt_was, .int (it_steps), .int (it_faultAt), .int (it_mover)])), (qt_now, .inl (cy.1, 639, .inl (ft_now))), (qt_past, .inl (cy.1, 3195, .inl (ft_past)))] s.heap.size = A at hD hG ⊢
  have hA : ∀ q : Nat, s.heap.size ≤ q → A q := fun q h => by rw [← hAe]; exact Or.inr h
  have hS : va_S A s.heap s.heap [] := va_S.rf
  have hP : va_P (dC, dI) vwCl [(qt, .inr (11, [.ref qt_now, .ref qt_past, .int (it_saved), .ref xt_text, .int (it_length), .ref xt_doors, .int (it_doorMany), .ref xt_label, .int (it_drawn), .ref xt_far, .ref xt_ring, .int (it_walker), .int (it_from), .ref xt_was, .int (it_steps), .int (it_faultAt), .int (it_mover)])), (qt_now, .inl (cy.1, 639, .inl (ft_now))), (qt_past, .inl (cy.1, 3195, .inl (ft_past)))] s.heap := hP
  have hl := lv_entry ([.ref qt, .int va1]) (n := 3) (Nat.le_of_ble_eq_true rfl)
  rw [lg_entry_eq]
  generalize (lg_sl ([.ref qt, .int va1]) ++ List.replicate (3 - (lg_sl ([.ref qt, .int va1])).length) Slot.unset).toArray = ls at hl ⊢
  have hl : lv_has ls 3 [(0, .ref qt), (1, .int va1)] := hl
  refine kgen (fun Q hQ => ?_)
  rw [f_X11_unsign] at hf
  refine lv_aload_n hx hb dX11_unsign_0 rfl (lv_at hl 0 rfl) ?_
  refine lv_iload_n hx hb dX11_unsign_1 rfl (lv_at hl 1 rfl) ?_
  obtain ⟨r2, hq_2, hf⟩ := bnd1_s hf
  refine kcalli (wc := [(qt, .inr (11, [.ref qt_now, .ref qt_past, .int (it_saved), .ref xt_text, .int (it_length), .ref xt_doors, .int (it_doorMany), .ref xt_label, .int (it_drawn), .ref xt_far, .ref xt_ring, .int (it_walker), .int (it_from), .ref xt_was, .int (it_steps), .int (it_faultAt), .int (it_mover)])), (qt_now, .inl (cy.1, 639, .inl (ft_now)))]) (wr := [(qt_past, .inl (cy.1, 3195, .inl (ft_past)))]) (w1 := [(qt, .inr (11, [.ref qt_now, .ref qt_past, .int (it_saved), .ref xt_text, .int (it_length), .ref xt_doors, .int (it_doorMany), .ref xt_label, .int (it_drawn), .ref xt_far, .ref xt_ring, .int (it_walker), .int (it_from), .ref xt_was, .int (it_steps), .int (it_faultAt), .int (it_mover)])), (qt_now, .inl (cy.1, 639, .inl (ft_now)))]) hK hP hD hS hA hG [0, 1] [2] rfl rfl rfl rfl rfl (fun hU hPc => va_runV (As := [.int va1]) (rest := []) ⟨hx, hb, hml, hown, hts⟩ (c_X11_hasRoom l dC dI cy G s.heap.size qt qt_now qt_past xt_text xt_doors xt_label xt_far xt_ring xt_was (it_saved) (it_length) (it_doorMany) (it_drawn) (it_walker) (it_from) (it_steps) (it_faultAt) (it_mover) (ft_now) (va1) r2 hq_2) (cwV 1 hts gX11_unsign_X11_hasRoom rfl rfl rfl hdX11_hasRoom ⟨Nat.le_of_ble_eq_true rfl, Nat.le_of_ble_eq_true rfl⟩) ⟨kBlind, (va_recv hK hP (ci := 11) (q0 := 0) rfl rfl), fun U h1 h2 => ⟨rfl, hU U h1 h2⟩⟩ rfl rfl hl.1 rfl (lv_room (Nat.le_of_ble_eq_true rfl)) dX11_unsign_2 ⟨Nat.zero_le _, Nat.zero_le _⟩) (r2) (fun _ _ h => h) (fun _ _ h => h) (fun H locs hP hD hS => ?_)
  have hP : va_P (dC, dI) vwCl [(qt_past, .inl (cy.1, 3195, .inl (ft_past))), (qt, .inr (11, [.ref qt_now, .ref qt_past, .int (it_saved), .ref xt_text, .int (it_length), .ref xt_doors, .int (it_doorMany), .ref xt_label, .int (it_drawn), .ref xt_far, .ref xt_ring, .int (it_walker), .int (it_from), .ref xt_was, .int (it_steps), .int (it_faultAt), .int (it_mover)])), (qt_now, .inl (cy.1, 639, .inl (ft_now)))] H := hP
  have hD : va_D A [(qt_past, .inl (cy.1, 3195, .inl (ft_past))), (qt, .inr (11, [.ref qt_now, .ref qt_past, .int (it_saved), .ref xt_text, .int (it_length), .ref xt_doors, .int (it_doorMany), .ref xt_label, .int (it_drawn), .ref xt_far, .ref xt_ring, .int (it_walker), .int (it_from), .ref xt_was, .int (it_steps), .int (it_faultAt), .int (it_mover)])), (qt_now, .inl (cy.1, 639, .inl (ft_now)))] := hD
  refine lv_if_ne (tgt := 10) hx hb dX11_unsign_5 (by decide) (fun hc_5 => ?_) (fun hc_5 => ?_)
  · rw [if_neg hc_5] at hf
    refine lv_aload_n hx hb dX11_unsign_10 rfl (lv_at hl 0 rfl) ?_
    refine va_get (D := (dC, dI)) (ci := 11) (C := RX11) (T := TX11) (N := 17) hx hb hts (fun _ h => (List.mem_cons_of_mem _ (List.mem_append_right _ h))) hown hK hP 1 rfl rfl 0 (by decide) (hts _ (List.mem_cons_of_mem _ (List.mem_append_left _ (List.mem_append_left _ (List.mem_of_getElem? (i := 0) rfl))))) (fun _ h => h) rfl dX11_unsign_11 ?_
    refine lv_sipush (v := (429 : Int32)) hx hb dX11_unsign_14 (by decide) ?_
    refine lv_iload_n hx hb dX11_unsign_17 rfl (lv_at hl 1 rfl) ?_
    refine lv_iadd hx hb dX11_unsign_18 ?_
    obtain ⟨hk_19, hf⟩ := chk_s hf
    refine va_iald hx hb hK hP 2 0 rfl rfl hk_19 dX11_unsign_19 ?_
    refine lv_if_ne (tgt := 26) hx hb dX11_unsign_20 (by decide) (fun hc_20 => ?_) (fun hc_20 => ?_)
    · rw [if_neg hc_20] at hf
      refine lv_aload_n hx hb dX11_unsign_26 rfl (lv_at hl 0 rfl) ?_
      obtain ⟨o27_0, o27_1, hq_27, hf⟩ := bnd2_s hf
      refine kcallv (wc := [(qt, .inr (11, [.ref qt_now, .ref qt_past, .int (it_saved), .ref xt_text, .int (it_length), .ref xt_doors, .int (it_doorMany), .ref xt_label, .int (it_drawn), .ref xt_far, .ref xt_ring, .int (it_walker), .int (it_from), .ref xt_was, .int (it_steps), .int (it_faultAt), .int (it_mover)])), (qt_now, .inl (cy.1, 639, .inl (ft_now))), (qt_past, .inl (cy.1, 3195, .inl (ft_past)))]) (wr := []) (w1 := [(qt, .inr (11, [.ref qt_now, .ref qt_past, .int (o27_0), .ref xt_text, .int (it_length), .ref xt_doors, .int (it_doorMany), .ref xt_label, .int (it_drawn), .ref xt_far, .ref xt_ring, .int (it_walker), .int (it_from), .ref xt_was, .int (it_steps), .int (it_faultAt), .int (it_mover)])), (qt_now, .inl (cy.1, 639, .inl (ft_now))), (qt_past, .inl (cy.1, 3195, .inl (o27_1)))]) hK hP hD hS hA hG [1, 2, 0] [] rfl rfl rfl rfl rfl (fun hU hPc => va_runV (As := []) (rest := []) ⟨hx, hb, hml, hown, hts⟩ (c_X11_records l dC dI cy G H.size qt qt_now qt_past xt_text xt_doors xt_label xt_far xt_ring xt_was (it_length) (it_doorMany) (it_drawn) (it_walker) (it_from) (it_steps) (it_faultAt) (it_mover) N (it_saved) (ft_now) (ft_past) (o27_0, o27_1) hq_27) (cwV 0 hts gX11_unsign_X11_records rfl rfl rfl hdX11_records ⟨Nat.le_of_ble_eq_true rfl, Nat.le_of_ble_eq_true rfl⟩) ⟨kBlind, (va_recv hK hP (ci := 11) (q0 := 1) rfl rfl), fun U h1 h2 => ⟨rfl, hU U h1 h2⟩⟩ rfl rfl hl.1 rfl (lv_room (Nat.le_of_ble_eq_true rfl)) dX11_unsign_27 ⟨Nat.zero_le _, Nat.zero_le _⟩) (fun _ _ h => h) (fun H locs hP hD hS => ?_)
      have hP : va_P (dC, dI) vwCl [(qt, .inr (11, [.ref qt_now, .ref qt_past, .int (o27_0), .ref xt_text, .int (it_length), .ref xt_doors, .int (it_doorMany), .ref xt_label, .int (it_drawn), .ref xt_far, .ref xt_ring, .int (it_walker), .int (it_from), .ref xt_was, .int (it_steps), .int (it_faultAt), .int (it_mover)])), (qt_now, .inl (cy.1, 639, .inl (ft_now))), (qt_past, .inl (cy.1, 3195, .inl (o27_1)))] H := hP
      have hD : va_D A [(qt, .inr (11, [.ref qt_now, .ref qt_past, .int (o27_0), .ref xt_text, .int (it_length), .ref xt_doors, .int (it_doorMany), .ref xt_label, .int (it_drawn), .ref xt_far, .ref xt_ring, .int (it_walker), .int (it_from), .ref xt_was, .int (it_steps), .int (it_faultAt), .int (it_mover)])), (qt_now, .inl (cy.1, 639, .inl (ft_now))), (qt_past, .inl (cy.1, 3195, .inl (o27_1)))] := hD
      refine lv_aload_n hx hb dX11_unsign_30 rfl (lv_at hl 0 rfl) ?_
      refine va_get (D := (dC, dI)) (ci := 11) (C := RX11) (T := TX11) (N := 17) hx hb hts (fun _ h => (List.mem_cons_of_mem _ (List.mem_append_right _ h))) hown hK hP 0 rfl rfl 0 (by decide) (hts _ (List.mem_cons_of_mem _ (List.mem_append_left _ (List.mem_append_left _ (List.mem_of_getElem? (i := 0) rfl))))) (fun _ h => h) rfl dX11_unsign_31 ?_
      refine lv_sipush (v := (429 : Int32)) hx hb dX11_unsign_34 (by decide) ?_
      refine lv_iload_n hx hb dX11_unsign_37 rfl (lv_at hl 1 rfl) ?_
      refine lv_iadd hx hb dX11_unsign_38 ?_
      obtain ⟨hk_39, hf⟩ := chk_s hf
      refine va_iald hx hb hK hP 1 0 rfl rfl hk_39 dX11_unsign_39 ?_
      refine lv_istore_n (lv' := [(2, .int (ft_now (((429 : Int32) + va1)).toNatClampNeg)), (0, .ref qt), (1, .int va1)]) hx hb dX11_unsign_40 rfl hl (by decide) rfl (fun ls hl => ?_)
      refine lv_aload_n hx hb dX11_unsign_41 rfl (lv_at hl 1 rfl) ?_
      refine va_get (D := (dC, dI)) (ci := 11) (C := RX11) (T := TX11) (N := 17) hx hb hts (fun _ h => (List.mem_cons_of_mem _ (List.mem_append_right _ h))) hown hK hP 0 rfl rfl 0 (by decide) (hts _ (List.mem_cons_of_mem _ (List.mem_append_left _ (List.mem_append_left _ (List.mem_of_getElem? (i := 0) rfl))))) (fun _ h => h) rfl dX11_unsign_42 ?_
      refine lv_sipush (v := (429 : Int32)) hx hb dX11_unsign_45 (by decide) ?_
      refine lv_iload_n hx hb dX11_unsign_48 rfl (lv_at hl 2 rfl) ?_
      refine lv_iadd hx hb dX11_unsign_49 ?_
      refine lv_iconst (v := (0 : Int32)) hx hb dX11_unsign_50 (by decide) ?_
      obtain ⟨hk_51, hf⟩ := chk_s hf
      refine va_iast hx hb hK hP hD hS 1 0 rfl rfl hk_51 dX11_unsign_51 (fun H locs hP hD hS => ?_)
      have hP : va_P (dC, dI) vwCl [(qt, .inr (11, [.ref qt_now, .ref qt_past, .int (o27_0), .ref xt_text, .int (it_length), .ref xt_doors, .int (it_doorMany), .ref xt_label, .int (it_drawn), .ref xt_far, .ref xt_ring, .int (it_walker), .int (it_from), .ref xt_was, .int (it_steps), .int (it_faultAt), .int (it_mover)])), (qt_now, .inl (cy.1, 639, .inl ((upd ft_now (((429 : Int32) + va1)).toNatClampNeg (0 : Int32))))), (qt_past, .inl (cy.1, 3195, .inl (o27_1)))] H := hP
      have hD : va_D A [(qt, .inr (11, [.ref qt_now, .ref qt_past, .int (o27_0), .ref xt_text, .int (it_length), .ref xt_doors, .int (it_doorMany), .ref xt_label, .int (it_drawn), .ref xt_far, .ref xt_ring, .int (it_walker), .int (it_from), .ref xt_was, .int (it_steps), .int (it_faultAt), .int (it_mover)])), (qt_now, .inl (cy.1, 639, .inl ((upd ft_now (((429 : Int32) + va1)).toNatClampNeg (0 : Int32))))), (qt_past, .inl (cy.1, 3195, .inl (o27_1)))] := hD
      refine lv_iload_n hx hb dX11_unsign_52 rfl (lv_at hl 0 rfl) ?_
      refine lv_iconst (v := (1 : Int32)) hx hb dX11_unsign_53 (by decide) ?_
      refine lv_isub hx hb dX11_unsign_54 ?_
      refine lv_iconst (v := (4 : Int32)) hx hb dX11_unsign_55 (by decide) ?_
      refine lv_idiv hx hb dX11_unsign_56 (by decide) ?_
      cases hf
      subst hQ
      exact kiret hx hb hr hlocks hK (hP.sub [0, 1, 2] rfl) (hD.sub [0, 1, 2] (by decide) rfl) hS rfl dX11_unsign_57
    · rw [if_pos hc_20] at hf
      refine lv_bipush (v := (-4 : Int32)) hx hb dX11_unsign_23 (by decide) ?_
      cases hf
      subst hQ
      exact kiret hx hb hr hlocks hK (hP.sub [1, 2, 0] rfl) (hD.sub [1, 2, 0] (by decide) rfl) hS rfl dX11_unsign_25
  · rw [if_pos hc_5] at hf
    refine lv_iconst (v := (-1 : Int32)) hx hb dX11_unsign_8 (by decide) ?_
    cases hf
    subst hQ
    exact kiret hx hb hr hlocks hK (hP.sub [1, 2, 0] rfl) (hD.sub [1, 2, 0] (by decide) rfl) hS rfl dX11_unsign_9
theorem hdX11_unsign : yX11_unsign.cls = RX11 ∧ yX11_unsign.cls ≠ "java/lang/invoke/MethodHandle" ∧ yX11_unsign.cls ≠ "java/lang/invoke/VarHandle" ∧ (parseMethodDescriptor yX11_unsign.desc).map (fun d => d.parameters.length) = some 1 := by decide +kernel
noncomputable def b_X11_pointed_89 (N : Nat) (ft_now : Nat → Int32) (ft_far : Nat → Int32) (va1 : Int32) : Nat → Int32 → Option (Int32)
  | 0, _ => none
  | n + 1, l3 =>
    bnd1 (f_X11_isOpen (ft_now) (va1) (l3)) fun r92 =>
    if r92 = 0 then
      b_X11_pointed_89 N ft_now ft_far va1 n (((l3 + (1 : Int32)) - (l3 + (1 : Int32)) / (4 : Int32) * (4 : Int32)))
    else
      some (l3)
noncomputable def f_X11_pointed (N : Nat) (ft_now : Nat → Int32) (ft_far : Nat → Int32) (va1 : Int32) : Option (Int32) :=
  if ((429 : Int32) + va1) < 0 ∨ 639 ≤ (((429 : Int32) + va1)).toNatClampNeg then none else
  if (((ft_now (((429 : Int32) + va1)).toNatClampNeg) - (1 : Int32)) / (4 : Int32)) = (2 : Int32) then
    if ((429 : Int32) + va1) < 0 ∨ 639 ≤ (((429 : Int32) + va1)).toNatClampNeg then none else
    bnd1 (f_X11_isOpen (ft_now) (va1) ((((ft_now (((429 : Int32) + va1)).toNatClampNeg) - (1 : Int32)) - ((ft_now (((429 : Int32) + va1)).toNatClampNeg) - (1 : Int32)) / (4 : Int32) * (4 : Int32)))) fun r38 =>
    if r38 = 0 then
      some ((-1 : Int32))
    else
      some ((((ft_now (((429 : Int32) + va1)).toNatClampNeg) - (1 : Int32)) - ((ft_now (((429 : Int32) + va1)).toNatClampNeg) - (1 : Int32)) / (4 : Int32) * (4 : Int32)))
  else
    if va1 = (ft_now ((8 : Int32)).toNatClampNeg) then
      some ((-1 : Int32))
    else
      if va1 < 0 ∨ 210 ≤ (va1).toNatClampNeg then none else
      if 0 ≤ (ft_far (va1).toNatClampNeg) then
        bnd1 (f_X11_leads N (ft_now) (ft_far) (va1)) fun r74 =>
        if (((ft_now (((429 : Int32) + va1)).toNatClampNeg) - (1 : Int32)) / (4 : Int32)) = (1 : Int32) then
          b_X11_pointed_89 N ft_now ft_far va1 N (((r74 + (1 : Int32)) - (r74 + (1 : Int32)) / (4 : Int32) * (4 : Int32)))
        else
          some (r74)
      else
        some ((-1 : Int32))
abbrev rm_X11_pointed : Room := { frames := 7, cells := 0, slots := 0, locals := 157 }
set_option maxHeartbeats 4000000 in
set_option maxRecDepth 100000 in
theorem c_X11_pointed (l : Launch) (dC : Nat → ClassId) (dI : Nat → Nat → Nat) (cy : gC) (G : gT) (sz : Nat) (qt : Nat) (qt_now : Nat) (qt_far : Nat) (xt_past : Nat) (xt_text : Nat) (xt_doors : Nat) (xt_label : Nat) (xt_ring : Nat) (xt_was : Nat) (it_saved : Int32) (it_length : Int32) (it_doorMany : Int32) (it_drawn : Int32) (it_walker : Int32) (it_from : Int32) (it_steps : Int32) (it_faultAt : Int32) (it_mover : Int32) (N : Nat) (ft_now : Nat → Int32) (ft_far : Nat → Int32) (va1 : Int32) (out : Int32) (hf : f_X11_pointed N ft_now ft_far va1 = some out) : Met l yX11_pointed wsX11_pointed rm_X11_pointed (va_Pc [.ref qt, .int va1] (kP (dC, dI) cy G [(qt, .inr (11, [.ref qt_now, .ref xt_past, .int (it_saved), .ref xt_text, .int (it_length), .ref xt_doors, .int (it_doorMany), .ref xt_label, .int (it_drawn), .ref qt_far, .ref xt_ring, .int (it_walker), .int (it_from), .ref xt_was, .int (it_steps), .int (it_faultAt), .int (it_mover)])), (qt_now, .inl (cy.1, 639, .inl (ft_now))), (qt_far, .inl (cy.1, 210, .inl (ft_far)))] sz)) (va_Qi (fun r (_ : Unit) => r = out) (fun _ => kQ (dC, dI) cy [(qt, .inr (11, [.ref qt_now, .ref xt_past, .int (it_saved), .ref xt_text, .int (it_length), .ref xt_doors, .int (it_doorMany), .ref xt_label, .int (it_drawn), .ref qt_far, .ref xt_ring, .int (it_walker), .int (it_from), .ref xt_was, .int (it_steps), .int (it_faultAt), .int (it_mover)])), (qt_now, .inl (cy.1, 639, .inl (ft_now))), (qt_far, .inl (cy.1, 210, .inl (ft_far)))] (va_A [(qt, .inr (11, [.ref qt_now, .ref xt_past, .int (it_saved), .ref xt_text, .int (it_length), .ref xt_doors, .int (it_doorMany), .ref xt_label, .int (it_drawn), .ref qt_far, .ref xt_ring, .int (it_walker), .int (it_from), .ref xt_was, .int (it_steps), .int (it_faultAt), .int (it_mover)])), (qt_now, .inl (cy.1, 639, .inl (ft_now))), (qt_far, .inl (cy.1, 210, .inl (ft_far)))] sz)) (va_A [(qt, .inr (11, [.ref qt_now, .ref xt_past, .int (it_saved), .ref xt_text, .int (it_length), .ref xt_doors, .int (it_doorMany), .ref xt_label, .int (it_drawn), .ref qt_far, .ref xt_ring, .int (it_walker), .int (it_from), .ref xt_was, .int (it_steps), .int (it_faultAt), .int (it_mover)])), (qt_now, .inl (cy.1, 639, .inl (ft_now))), (qt_far, .inl (cy.1, 210, .inl (ft_far)))] sz)) 0 0 (va_A [(qt, .inr (11, [.ref qt_now, .ref xt_past, .int (it_saved), .ref xt_text, .int (it_length), .ref xt_doors, .int (it_doorMany), .ref xt_label, .int (it_drawn), .ref qt_far, .ref xt_ring, .int (it_walker), .int (it_from), .ref xt_was, .int (it_steps), .int (it_faultAt), .int (it_mover)])), (qt_now, .inl (cy.1, 639, .inl (ft_now))), (qt_far, .inl (cy.1, 210, .inl (ft_far)))] sz) := by
  refine Met.ofW (cc := cX11_pointed) (maxL := 4) (ret := (some .int)) (by decide) rfl ?_
  intro p e s m args below meth c s₁ B hml hv
  obtain ⟨rfl, hsz, hP, hK, hD0, hG⟩ := hv
  have hx := B.exec
  have hb := B.bytes
  have hr := B.returns
  have hts := atoms_spec (ws := wsX11_pointed) B.pre
  have hown : s.vm.findClass RX11 = some m.cls := findClass_of_methodNamed B.named
  have hlocks := B.notSynchronized
  subst hsz
  have hD := hD0.self (sz := s.heap.size)
  generalize hAe : va_A [(qt, .inr (11, [.ref qt_now, .ref xt_past, .int (it_saved), .ref xt_text, .int (it_length), .ref xt_doors, .int (it_doorMany), .ref xt_label, .int (it_drawn), .ref qt_far, .ref xt_ring, .int (it_walker), .int (it_from), .ref xt_was, .int (it_steps), .int (it_faultAt), .int (it_mover)])), (qt_now, .inl (cy.1, 639, .inl (ft_now))), (qt_far, .inl (cy.1, 210, .inl (ft_far)))] s.heap.size = A at hD hG ⊢
  have hA : ∀ q : Nat, s.heap.size ≤ q → A q := fun q h => by rw [← hAe]; exact Or.inr h
  have hS : va_S A s.heap s.heap [] := va_S.rf
  have hP : va_P (dC, dI) vwCl [(qt, .inr (11, [.ref qt_now, .ref xt_past, .int (it_saved), .ref xt_text, .int (it_length), .ref xt_doors, .int (it_doorMany), .ref xt_label, .int (it_drawn), .ref qt_far, .ref xt_ring, .int (it_walker), .int (it_from), .ref xt_was, .int (it_steps), .int (it_faultAt), .int (it_mover)])), (qt_now, .inl (cy.1, 639, .inl (ft_now))), (qt_far, .inl (cy.1, 210, .inl (ft_far)))] s.heap := hP
  have hl := lv_entry ([.ref qt, .int va1]) (n := 4) (Nat.le_of_ble_eq_true rfl)
  rw [lg_entry_eq]
  generalize (lg_sl ([.ref qt, .int va1]) ++ List.replicate (4 - (lg_sl ([.ref qt, .int va1])).length) Slot.unset).toArray = ls at hl ⊢
  have hl : lv_has ls 4 [(0, .ref qt), (1, .int va1)] := hl
  refine kgen (fun Q hQ => ?_)
  have B89 : ∀ (n89 : Nat) (l3 : Int32) (H : Heap) (locs : List Loc), va_P (dC, dI) vwCl [(qt, .inr (11, [.ref qt_now, .ref xt_past, .int (it_saved), .ref xt_text, .int (it_length), .ref xt_doors, .int (it_doorMany), .ref xt_label, .int (it_drawn), .ref qt_far, .ref xt_ring, .int (it_walker), .int (it_from), .ref xt_was, .int (it_steps), .int (it_faultAt), .int (it_mover)])), (qt_now, .inl (cy.1, 639, .inl (ft_now))), (qt_far, .inl (cy.1, 210, .inl (ft_far)))] H → va_D A [(qt, .inr (11, [.ref qt_now, .ref xt_past, .int (it_saved), .ref xt_text, .int (it_length), .ref xt_doors, .int (it_doorMany), .ref xt_label, .int (it_drawn), .ref qt_far, .ref xt_ring, .int (it_walker), .int (it_from), .ref xt_was, .int (it_steps), .int (it_faultAt), .int (it_mover)])), (qt_now, .inl (cy.1, 639, .inl (ft_now))), (qt_far, .inl (cy.1, 210, .inl (ft_far)))] → va_S A s.heap H locs → ∀ (ls : Array Slot), lv_has ls 4 [(0, .ref qt), (1, .int va1), (3, .int l3)] → b_X11_pointed_89 N ft_now ft_far va1 n89 l3 = some out → W p l e (headSpec wsX11_pointed rm_X11_pointed).room s m ([.ref qt, .int va1] : List Value).toArray below meth c H locs 0 0 Q (F0 m 89 ls []) := by
    intro n89
    induction n89 with
    | zero => intro l3 H locs hP hD hS ls hl hf; rw [b_X11_pointed_89] at hf; cases hf
    | succ n89 ih89 =>
      intro l3 H locs hP hD hS ls hl hf
      rw [b_X11_pointed_89] at hf
      refine lv_aload_n hx hb dX11_pointed_89 rfl (lv_at hl 0 rfl) ?_
      refine lv_iload_n hx hb dX11_pointed_90 rfl (lv_at hl 1 rfl) ?_
      refine lv_iload_n hx hb dX11_pointed_91 rfl (lv_at hl 2 rfl) ?_
      obtain ⟨r92, hq_92, hf⟩ := bnd1_s hf
      refine kcalli (wc := [(qt, .inr (11, [.ref qt_now, .ref xt_past, .int (it_saved), .ref xt_text, .int (it_length), .ref xt_doors, .int (it_doorMany), .ref xt_label, .int (it_drawn), .ref qt_far, .ref xt_ring, .int (it_walker), .int (it_from), .ref xt_was, .int (it_steps), .int (it_faultAt), .int (it_mover)])), (qt_now, .inl (cy.1, 639, .inl (ft_now)))]) (wr := [(qt_far, .inl (cy.1, 210, .inl (ft_far)))]) (w1 := [(qt, .inr (11, [.ref qt_now, .ref xt_past, .int (it_saved), .ref xt_text, .int (it_length), .ref xt_doors, .int (it_doorMany), .ref xt_label, .int (it_drawn), .ref qt_far, .ref xt_ring, .int (it_walker), .int (it_from), .ref xt_was, .int (it_steps), .int (it_faultAt), .int (it_mover)])), (qt_now, .inl (cy.1, 639, .inl (ft_now)))]) hK hP hD hS hA hG [0, 1] [2] rfl rfl rfl rfl rfl (fun hU hPc => va_runV (As := [.int va1, .int l3]) (rest := []) ⟨hx, hb, hml, hown, hts⟩ (c_X11_isOpen l dC dI cy G H.size qt qt_now xt_past xt_text xt_doors xt_label qt_far xt_ring xt_was (it_saved) (it_length) (it_doorMany) (it_drawn) (it_walker) (it_from) (it_steps) (it_faultAt) (it_mover) (ft_now) (va1) (l3) r92 hq_92) (cwV 2 hts gX11_pointed_X11_isOpen rfl rfl rfl hdX11_isOpen ⟨Nat.le_of_ble_eq_true rfl, Nat.le_of_ble_eq_true rfl⟩) ⟨kBlind, (va_recv hK hP (ci := 11) (q0 := 0) rfl rfl), fun U h1 h2 => ⟨rfl, hU U h1 h2⟩⟩ rfl rfl hl.1 rfl (lv_room (Nat.le_of_ble_eq_true rfl)) dX11_pointed_92 ⟨Nat.zero_le _, Nat.zero_le _⟩) (r92) (fun _ _ h => h) (fun _ _ h => h) (fun H locs hP hD hS => ?_)
      have hP : va_P (dC, dI) vwCl [(qt_far, .inl (cy.1, 210, .inl (ft_far))), (qt, .inr (11, [.ref qt_now, .ref xt_past, .int (it_saved), .ref xt_text, .int (it_length), .ref xt_doors, .int (it_doorMany), .ref xt_label, .int (it_drawn), .ref qt_far, .ref xt_ring, .int (it_walker), .int (it_from), .ref xt_was, .int (it_steps), .int (it_faultAt), .int (it_mover)])), (qt_now, .inl (cy.1, 639, .inl (ft_now)))] H := hP
      have hD : va_D A [(qt_far, .inl (cy.1, 210, .inl (ft_far))), (qt, .inr (11, [.ref qt_now, .ref xt_past, .int (it_saved), .ref xt_text, .int (it_length), .ref xt_doors, .int (it_doorMany), .ref xt_label, .int (it_drawn), .ref qt_far, .ref xt_ring, .int (it_walker), .int (it_from), .ref xt_was, .int (it_steps), .int (it_faultAt), .int (it_mover)])), (qt_now, .inl (cy.1, 639, .inl (ft_now)))] := hD
      refine lv_if_ne (tgt := 107) hx hb dX11_pointed_95 (by decide) (fun hc_95 => ?_) (fun hc_95 => ?_)
      · rw [if_neg hc_95] at hf
        refine lv_iload_n hx hb dX11_pointed_107 rfl (lv_at hl 2 rfl) ?_
        cases hf
        subst hQ
        exact kiret hx hb hr hlocks hK (hP.sub [1, 2, 0] rfl) (hD.sub [1, 2, 0] (by decide) rfl) hS rfl dX11_pointed_108
      · rw [if_pos hc_95] at hf
        refine lv_iload_n hx hb dX11_pointed_98 rfl (lv_at hl 2 rfl) ?_
        refine lv_iconst (v := (1 : Int32)) hx hb dX11_pointed_99 (by decide) ?_
        refine lv_iadd hx hb dX11_pointed_100 ?_
        refine lv_iconst (v := (4 : Int32)) hx hb dX11_pointed_101 (by decide) ?_
        refine lv_irem hx hb dX11_pointed_102 (by decide) ?_
        refine lv_istore_n (lv' := [(3, .int ((l3 + (1 : Int32)) - (l3 + (1 : Int32)) / (4 : Int32) * (4 : Int32))), (0, .ref qt), (1, .int va1)]) hx hb dX11_pointed_103 rfl hl (by decide) rfl (fun ls hl => ?_)
        refine lv_goto (tgt := 89) hx hb dX11_pointed_104 (by decide) ?_
        exact ih89 (((l3 + (1 : Int32)) - (l3 + (1 : Int32)) / (4 : Int32) * (4 : Int32))) _ _ (hP.sub [1, 2, 0] rfl) (hD.sub [1, 2, 0] (by decide) rfl) hS _ (lv_sub hl [1, 2, 0] rfl) hf
  rw [f_X11_pointed] at hf
  refine lv_aload_n hx hb dX11_pointed_0 rfl (lv_at hl 0 rfl) ?_
  refine va_get (D := (dC, dI)) (ci := 11) (C := RX11) (T := TX11) (N := 17) hx hb hts (fun _ h => (List.mem_cons_of_mem _ (List.mem_append_right _ h))) hown hK hP 0 rfl rfl 0 (by decide) (hts _ (List.mem_cons_of_mem _ (List.mem_append_left _ (List.mem_append_left _ (List.mem_of_getElem? (i := 0) rfl))))) (fun _ h => h) rfl dX11_pointed_1 ?_
  refine lv_sipush (v := (429 : Int32)) hx hb dX11_pointed_4 (by decide) ?_
  refine lv_iload_n hx hb dX11_pointed_7 rfl (lv_at hl 1 rfl) ?_
  refine lv_iadd hx hb dX11_pointed_8 ?_
  obtain ⟨hk_9, hf⟩ := chk_s hf
  refine va_iald hx hb hK hP 1 0 rfl rfl hk_9 dX11_pointed_9 ?_
  refine lv_iconst (v := (1 : Int32)) hx hb dX11_pointed_10 (by decide) ?_
  refine lv_isub hx hb dX11_pointed_11 ?_
  refine lv_iconst (v := (4 : Int32)) hx hb dX11_pointed_12 (by decide) ?_
  refine lv_idiv hx hb dX11_pointed_13 (by decide) ?_
  refine lv_istore_n (lv' := [(2, .int (((ft_now (((429 : Int32) + va1)).toNatClampNeg) - (1 : Int32)) / (4 : Int32))), (0, .ref qt), (1, .int va1)]) hx hb dX11_pointed_14 rfl hl (by decide) rfl (fun ls hl => ?_)
  refine lv_iload_n hx hb dX11_pointed_15 rfl (lv_at hl 0 rfl) ?_
  refine lv_iconst (v := (2 : Int32)) hx hb dX11_pointed_16 (by decide) ?_
  refine lv_icmp_ne (tgt := 50) hx hb dX11_pointed_17 (by decide) (fun hc_17 => ?_) (fun hc_17 => ?_)
  · rw [if_neg hc_17] at hf
    refine lv_iload_n hx hb dX11_pointed_50 rfl (lv_at hl 2 rfl) ?_
    refine lv_aload_n hx hb dX11_pointed_51 rfl (lv_at hl 1 rfl) ?_
    refine va_get (D := (dC, dI)) (ci := 11) (C := RX11) (T := TX11) (N := 17) hx hb hts (fun _ h => (List.mem_cons_of_mem _ (List.mem_append_right _ h))) hown hK hP 0 rfl rfl 0 (by decide) (hts _ (List.mem_cons_of_mem _ (List.mem_append_left _ (List.mem_append_left _ (List.mem_of_getElem? (i := 0) rfl))))) (fun _ h => h) rfl dX11_pointed_52 ?_
    refine lv_bipush (v := (8 : Int32)) hx hb dX11_pointed_55 (by decide) ?_
    refine va_iald hx hb hK hP 1 0 rfl rfl (by unfold vp_in; decide) dX11_pointed_57 ?_
    refine lv_icmp_eq (tgt := 70) hx hb dX11_pointed_58 (by decide) (fun hc_58 => ?_) (fun hc_58 => ?_)
    · rw [if_pos hc_58] at hf
      refine lv_iconst (v := (-1 : Int32)) hx hb dX11_pointed_70 (by decide) ?_
      cases hf
      subst hQ
      exact kiret hx hb hr hlocks hK (hP.sub [0, 1, 2] rfl) (hD.sub [0, 1, 2] (by decide) rfl) hS rfl dX11_pointed_71
    · rw [if_neg hc_58] at hf
      refine lv_aload_n hx hb dX11_pointed_61 rfl (lv_at hl 1 rfl) ?_
      refine va_get (D := (dC, dI)) (ci := 11) (C := RX11) (T := TX11) (N := 17) hx hb hts (fun _ h => (List.mem_cons_of_mem _ (List.mem_append_right _ h))) hown hK hP 0 rfl rfl 9 (by decide) (hts _ (List.mem_cons_of_mem _ (List.mem_append_left _ (List.mem_append_left _ (List.mem_of_getElem? (i := 1) rfl))))) (fun _ h => h) rfl dX11_pointed_62 ?_
      refine lv_iload_n hx hb dX11_pointed_65 rfl (lv_at hl 2 rfl) ?_
      obtain ⟨hk_66, hf⟩ := chk_s hf
      refine va_iald hx hb hK hP 2 0 rfl rfl hk_66 dX11_pointed_66 ?_
      refine lv_if_ge (tgt := 72) hx hb dX11_pointed_67 (by decide) (fun hc_67 => ?_) (fun hc_67 => ?_)
      · rw [if_pos hc_67] at hf
        refine lv_aload_n hx hb dX11_pointed_72 rfl (lv_at hl 1 rfl) ?_
        refine lv_iload_n hx hb dX11_pointed_73 rfl (lv_at hl 2 rfl) ?_
        obtain ⟨r74, hq_74, hf⟩ := bnd1_s hf
        refine kcalli (wc := [(qt, .inr (11, [.ref qt_now, .ref xt_past, .int (it_saved), .ref xt_text, .int (it_length), .ref xt_doors, .int (it_doorMany), .ref xt_label, .int (it_drawn), .ref qt_far, .ref xt_ring, .int (it_walker), .int (it_from), .ref xt_was, .int (it_steps), .int (it_faultAt), .int (it_mover)])), (qt_now, .inl (cy.1, 639, .inl (ft_now))), (qt_far, .inl (cy.1, 210, .inl (ft_far)))]) (wr := []) (w1 := [(qt, .inr (11, [.ref qt_now, .ref xt_past, .int (it_saved), .ref xt_text, .int (it_length), .ref xt_doors, .int (it_doorMany), .ref xt_label, .int (it_drawn), .ref qt_far, .ref xt_ring, .int (it_walker), .int (it_from), .ref xt_was, .int (it_steps), .int (it_faultAt), .int (it_mover)])), (qt_now, .inl (cy.1, 639, .inl (ft_now))), (qt_far, .inl (cy.1, 210, .inl (ft_far)))]) hK hP hD hS hA hG [0, 1, 2] [] rfl rfl rfl rfl rfl (fun hU hPc => va_runV (As := [.int va1]) (rest := []) ⟨hx, hb, hml, hown, hts⟩ (c_X11_leads l dC dI cy G s.heap.size qt qt_now qt_far xt_past xt_text xt_doors xt_label xt_ring xt_was (it_saved) (it_length) (it_doorMany) (it_drawn) (it_walker) (it_from) (it_steps) (it_faultAt) (it_mover) N (ft_now) (ft_far) (va1) r74 hq_74) (cwV 1 hts gX11_pointed_X11_leads rfl rfl rfl hdX11_leads ⟨Nat.le_of_ble_eq_true rfl, Nat.le_of_ble_eq_true rfl⟩) ⟨kBlind, (va_recv hK hP (ci := 11) (q0 := 0) rfl rfl), fun U h1 h2 => ⟨rfl, hU U h1 h2⟩⟩ rfl rfl hl.1 rfl (lv_room (Nat.le_of_ble_eq_true rfl)) dX11_pointed_74 ⟨Nat.zero_le _, Nat.zero_le _⟩) (r74) (fun _ _ h => h) (fun _ _ h => h) (fun H locs hP hD hS => ?_)
        have hP : va_P (dC, dI) vwCl [(qt, .inr (11, [.ref qt_now, .ref xt_past, .int (it_saved), .ref xt_text, .int (it_length), .ref xt_doors, .int (it_doorMany), .ref xt_label, .int (it_drawn), .ref qt_far, .ref xt_ring, .int (it_walker), .int (it_from), .ref xt_was, .int (it_steps), .int (it_faultAt), .int (it_mover)])), (qt_now, .inl (cy.1, 639, .inl (ft_now))), (qt_far, .inl (cy.1, 210, .inl (ft_far)))] H := hP
        have hD : va_D A [(qt, .inr (11, [.ref qt_now, .ref xt_past, .int (it_saved), .ref xt_text, .int (it_length), .ref xt_doors, .int (it_doorMany), .ref xt_label, .int (it_drawn), .ref qt_far, .ref xt_ring, .int (it_walker), .int (it_from), .ref xt_was, .int (it_steps), .int (it_faultAt), .int (it_mover)])), (qt_now, .inl (cy.1, 639, .inl (ft_now))), (qt_far, .inl (cy.1, 210, .inl (ft_far)))] := hD
        refine lv_istore_n (lv' := [(3, .int r74), (2, .int (((ft_now (((429 : Int32) + va1)).toNatClampNeg) - (1 : Int32)) / (4 : Int32))), (0, .ref qt), (1, .int va1)]) hx hb dX11_pointed_77 rfl hl (by decide) rfl (fun ls hl => ?_)
        refine lv_iload_n hx hb dX11_pointed_78 rfl (lv_at hl 1 rfl) ?_
        refine lv_iconst (v := (1 : Int32)) hx hb dX11_pointed_79 (by decide) ?_
        refine lv_icmp_ne (tgt := 107) hx hb dX11_pointed_80 (by decide) (fun hc_80 => ?_) (fun hc_80 => ?_)
        · rw [if_neg hc_80] at hf
          refine lv_iload_n hx hb dX11_pointed_107 rfl (lv_at hl 0 rfl) ?_
          cases hf
          subst hQ
          exact kiret hx hb hr hlocks hK (hP.sub [0, 1, 2] rfl) (hD.sub [0, 1, 2] (by decide) rfl) hS rfl dX11_pointed_108
        · rw [if_pos hc_80] at hf
          refine lv_iload_n hx hb dX11_pointed_83 rfl (lv_at hl 0 rfl) ?_
          refine lv_iconst (v := (1 : Int32)) hx hb dX11_pointed_84 (by decide) ?_
          refine lv_iadd hx hb dX11_pointed_85 ?_
          refine lv_iconst (v := (4 : Int32)) hx hb dX11_pointed_86 (by decide) ?_
          refine lv_irem hx hb dX11_pointed_87 (by decide) ?_
          refine lv_istore_n (lv' := [(3, .int ((r74 + (1 : Int32)) - (r74 + (1 : Int32)) / (4 : Int32) * (4 : Int32))), (2, .int (((ft_now (((429 : Int32) + va1)).toNatClampNeg) - (1 : Int32)) / (4 : Int32))), (0, .ref qt), (1, .int va1)]) hx hb dX11_pointed_88 rfl hl (by decide) rfl (fun ls hl => ?_)
          exact B89 N (((r74 + (1 : Int32)) - (r74 + (1 : Int32)) / (4 : Int32) * (4 : Int32))) _ _ (hP.sub [0, 1, 2] rfl) (hD.sub [0, 1, 2] (by decide) rfl) hS _ (lv_sub hl [2, 3, 0] rfl) hf
      · rw [if_neg hc_67] at hf
        refine lv_iconst (v := (-1 : Int32)) hx hb dX11_pointed_70 (by decide) ?_
        cases hf
        subst hQ
        exact kiret hx hb hr hlocks hK (hP.sub [0, 1, 2] rfl) (hD.sub [0, 1, 2] (by decide) rfl) hS rfl dX11_pointed_71
  · rw [if_pos hc_17] at hf
    refine lv_aload_n hx hb dX11_pointed_20 rfl (lv_at hl 1 rfl) ?_
    refine va_get (D := (dC, dI)) (ci := 11) (C := RX11) (T := TX11) (N := 17) hx hb hts (fun _ h => (List.mem_cons_of_mem _ (List.mem_append_right _ h))) hown hK hP 0 rfl rfl 0 (by decide) (hts _ (List.mem_cons_of_mem _ (List.mem_append_left _ (List.mem_append_left _ (List.mem_of_getElem? (i := 0) rfl))))) (fun _ h => h) rfl dX11_pointed_21 ?_
    refine lv_sipush (v := (429 : Int32)) hx hb dX11_pointed_24 (by decide) ?_
    refine lv_iload_n hx hb dX11_pointed_27 rfl (lv_at hl 2 rfl) ?_
    refine lv_iadd hx hb dX11_pointed_28 ?_
    obtain ⟨hk_29, hf⟩ := chk_s hf
    refine va_iald hx hb hK hP 1 0 rfl rfl hk_29 dX11_pointed_29 ?_
    refine lv_iconst (v := (1 : Int32)) hx hb dX11_pointed_30 (by decide) ?_
    refine lv_isub hx hb dX11_pointed_31 ?_
    refine lv_iconst (v := (4 : Int32)) hx hb dX11_pointed_32 (by decide) ?_
    refine lv_irem hx hb dX11_pointed_33 (by decide) ?_
    refine lv_istore_n (lv' := [(3, .int (((ft_now (((429 : Int32) + va1)).toNatClampNeg) - (1 : Int32)) - ((ft_now (((429 : Int32) + va1)).toNatClampNeg) - (1 : Int32)) / (4 : Int32) * (4 : Int32))), (2, .int (((ft_now (((429 : Int32) + va1)).toNatClampNeg) - (1 : Int32)) / (4 : Int32))), (0, .ref qt), (1, .int va1)]) hx hb dX11_pointed_34 rfl hl (by decide) rfl (fun ls hl => ?_)
    refine lv_aload_n hx hb dX11_pointed_35 rfl (lv_at hl 2 rfl) ?_
    refine lv_iload_n hx hb dX11_pointed_36 rfl (lv_at hl 3 rfl) ?_
    refine lv_iload_n hx hb dX11_pointed_37 rfl (lv_at hl 0 rfl) ?_
    obtain ⟨r38, hq_38, hf⟩ := bnd1_s hf
    refine kcalli (wc := [(qt, .inr (11, [.ref qt_now, .ref xt_past, .int (it_saved), .ref xt_text, .int (it_length), .ref xt_doors, .int (it_doorMany), .ref xt_label, .int (it_drawn), .ref qt_far, .ref xt_ring, .int (it_walker), .int (it_from), .ref xt_was, .int (it_steps), .int (it_faultAt), .int (it_mover)])), (qt_now, .inl (cy.1, 639, .inl (ft_now)))]) (wr := [(qt_far, .inl (cy.1, 210, .inl (ft_far)))]) (w1 := [(qt, .inr (11, [.ref qt_now, .ref xt_past, .int (it_saved), .ref xt_text, .int (it_length), .ref xt_doors, .int (it_doorMany), .ref xt_label, .int (it_drawn), .ref qt_far, .ref xt_ring, .int (it_walker), .int (it_from), .ref xt_was, .int (it_steps), .int (it_faultAt), .int (it_mover)])), (qt_now, .inl (cy.1, 639, .inl (ft_now)))]) hK hP hD hS hA hG [0, 1] [2] rfl rfl rfl rfl rfl (fun hU hPc => va_runV (As := [.int va1, .int (((ft_now (((429 : Int32) + va1)).toNatClampNeg) - (1 : Int32)) - ((ft_now (((429 : Int32) + va1)).toNatClampNeg) - (1 : Int32)) / (4 : Int32) * (4 : Int32))]) (rest := []) ⟨hx, hb, hml, hown, hts⟩ (c_X11_isOpen l dC dI cy G s.heap.size qt qt_now xt_past xt_text xt_doors xt_label qt_far xt_ring xt_was (it_saved) (it_length) (it_doorMany) (it_drawn) (it_walker) (it_from) (it_steps) (it_faultAt) (it_mover) (ft_now) (va1) ((((ft_now (((429 : Int32) + va1)).toNatClampNeg) - (1 : Int32)) - ((ft_now (((429 : Int32) + va1)).toNatClampNeg) - (1 : Int32)) / (4 : Int32) * (4 : Int32))) r38 hq_38) (cwV 2 hts gX11_pointed_X11_isOpen rfl rfl rfl hdX11_isOpen ⟨Nat.le_of_ble_eq_true rfl, Nat.le_of_ble_eq_true rfl⟩) ⟨kBlind, (va_recv hK hP (ci := 11) (q0 := 0) rfl rfl), fun U h1 h2 => ⟨rfl, hU U h1 h2⟩⟩ rfl rfl hl.1 rfl (lv_room (Nat.le_of_ble_eq_true rfl)) dX11_pointed_38 ⟨Nat.zero_le _, Nat.zero_le _⟩) (r38) (fun _ _ h => h) (fun _ _ h => h) (fun H locs hP hD hS => ?_)
    have hP : va_P (dC, dI) vwCl [(qt_far, .inl (cy.1, 210, .inl (ft_far))), (qt, .inr (11, [.ref qt_now, .ref xt_past, .int (it_saved), .ref xt_text, .int (it_length), .ref xt_doors, .int (it_doorMany), .ref xt_label, .int (it_drawn), .ref qt_far, .ref xt_ring, .int (it_walker), .int (it_from), .ref xt_was, .int (it_steps), .int (it_faultAt), .int (it_mover)])), (qt_now, .inl (cy.1, 639, .inl (ft_now)))] H := hP
    have hD : va_D A [(qt_far, .inl (cy.1, 210, .inl (ft_far))), (qt, .inr (11, [.ref qt_now, .ref xt_past, .int (it_saved), .ref xt_text, .int (it_length), .ref xt_doors, .int (it_doorMany), .ref xt_label, .int (it_drawn), .ref qt_far, .ref xt_ring, .int (it_walker), .int (it_from), .ref xt_was, .int (it_steps), .int (it_faultAt), .int (it_mover)])), (qt_now, .inl (cy.1, 639, .inl (ft_now)))] := hD
    refine lv_if_eq (tgt := 48) hx hb dX11_pointed_41 (by decide) (fun hc_41 => ?_) (fun hc_41 => ?_)
    · rw [if_pos hc_41] at hf
      refine lv_iconst (v := (-1 : Int32)) hx hb dX11_pointed_48 (by decide) ?_
      cases hf
      subst hQ
      exact kiret hx hb hr hlocks hK (hP.sub [1, 2, 0] rfl) (hD.sub [1, 2, 0] (by decide) rfl) hS rfl dX11_pointed_49
    · rw [if_neg hc_41] at hf
      refine lv_iload_n hx hb dX11_pointed_44 rfl (lv_at hl 0 rfl) ?_
      refine lv_goto (tgt := 49) hx hb dX11_pointed_45 (by decide) ?_
      cases hf
      subst hQ
      exact kiret hx hb hr hlocks hK (hP.sub [1, 2, 0] rfl) (hD.sub [1, 2, 0] (by decide) rfl) hS rfl dX11_pointed_49
theorem hdX11_pointed : yX11_pointed.cls = RX11 ∧ yX11_pointed.cls ≠ "java/lang/invoke/MethodHandle" ∧ yX11_pointed.cls ≠ "java/lang/invoke/VarHandle" ∧ (parseMethodDescriptor yX11_pointed.desc).map (fun d => d.parameters.length) = some 1 := by decide +kernel
noncomputable def f_X11_hasSign (N : Nat) (ft_now : Nat → Int32) (va1 : Int32) : Option (Int32) :=
  if ((429 : Int32) + va1) < 0 ∨ 639 ≤ (((429 : Int32) + va1)).toNatClampNeg then none else
  if (ft_now (((429 : Int32) + va1)).toNatClampNeg) ≤ 0 then
    some ((0 : Int32))
  else
    bnd1 (f_X11_isFork N (ft_now) (va1)) fun r15 =>
    if r15 = 0 then
      some ((0 : Int32))
    else
      some ((1 : Int32))
abbrev rm_X11_hasSign : Room := { frames := 8, cells := 0, slots := 0, locals := 179 }
set_option maxHeartbeats 4000000 in
set_option maxRecDepth 100000 in
theorem c_X11_hasSign (l : Launch) (dC : Nat → ClassId) (dI : Nat → Nat → Nat) (cy : gC) (G : gT) (sz : Nat) (qt : Nat) (qt_now : Nat) (xt_past : Nat) (xt_text : Nat) (xt_doors : Nat) (xt_label : Nat) (xt_far : Nat) (xt_ring : Nat) (xt_was : Nat) (it_saved : Int32) (it_length : Int32) (it_doorMany : Int32) (it_drawn : Int32) (it_walker : Int32) (it_from : Int32) (it_steps : Int32) (it_faultAt : Int32) (it_mover : Int32) (N : Nat) (ft_now : Nat → Int32) (va1 : Int32) (out : Int32) (hf : f_X11_hasSign N ft_now va1 = some out) : Met l yX11_hasSign wsX11_hasSign rm_X11_hasSign (va_Pc [.ref qt, .int va1] (kP (dC, dI) cy G [(qt, .inr (11, [.ref qt_now, .ref xt_past, .int (it_saved), .ref xt_text, .int (it_length), .ref xt_doors, .int (it_doorMany), .ref xt_label, .int (it_drawn), .ref xt_far, .ref xt_ring, .int (it_walker), .int (it_from), .ref xt_was, .int (it_steps), .int (it_faultAt), .int (it_mover)])), (qt_now, .inl (cy.1, 639, .inl (ft_now)))] sz)) (va_Qi (fun r (_ : Unit) => r = out) (fun _ => kQ (dC, dI) cy [(qt, .inr (11, [.ref qt_now, .ref xt_past, .int (it_saved), .ref xt_text, .int (it_length), .ref xt_doors, .int (it_doorMany), .ref xt_label, .int (it_drawn), .ref xt_far, .ref xt_ring, .int (it_walker), .int (it_from), .ref xt_was, .int (it_steps), .int (it_faultAt), .int (it_mover)])), (qt_now, .inl (cy.1, 639, .inl (ft_now)))] (va_A [(qt, .inr (11, [.ref qt_now, .ref xt_past, .int (it_saved), .ref xt_text, .int (it_length), .ref xt_doors, .int (it_doorMany), .ref xt_label, .int (it_drawn), .ref xt_far, .ref xt_ring, .int (it_walker), .int (it_from), .ref xt_was, .int (it_steps), .int (it_faultAt), .int (it_mover)])), (qt_now, .inl (cy.1, 639, .inl (ft_now)))] sz)) (va_A [(qt, .inr (11, [.ref qt_now, .ref xt_past, .int (it_saved), .ref xt_text, .int (it_length), .ref xt_doors, .int (it_doorMany), .ref xt_label, .int (it_drawn), .ref xt_far, .ref xt_ring, .int (it_walker), .int (it_from), .ref xt_was, .int (it_steps), .int (it_faultAt), .int (it_mover)])), (qt_now, .inl (cy.1, 639, .inl (ft_now)))] sz)) 0 0 (va_A [(qt, .inr (11, [.ref qt_now, .ref xt_past, .int (it_saved), .ref xt_text, .int (it_length), .ref xt_doors, .int (it_doorMany), .ref xt_label, .int (it_drawn), .ref xt_far, .ref xt_ring, .int (it_walker), .int (it_from), .ref xt_was, .int (it_steps), .int (it_faultAt), .int (it_mover)])), (qt_now, .inl (cy.1, 639, .inl (ft_now)))] sz) := by
  refine Met.ofW (cc := cX11_hasSign) (maxL := 2) (ret := (some .boolean)) (by decide) rfl ?_
  intro p e s m args below meth c s₁ B hml hv
  obtain ⟨rfl, hsz, hP, hK, hD0, hG⟩ := hv
  have hx := B.exec
  have hb := B.bytes
  have hr := B.returns
  have hts := atoms_spec (ws := wsX11_hasSign) B.pre
  have hown : s.vm.findClass RX11 = some m.cls := findClass_of_methodNamed B.named
  have hlocks := B.notSynchronized
  subst hsz
  have hD := hD0.self (sz := s.heap.size)
  generalize hAe : va_A [(qt, .inr (11, [.ref qt_now, .ref xt_past, .int (it_saved), .ref xt_text, .int (it_length), .ref xt_doors, .int (it_doorMany), .ref xt_label, .int (it_drawn), .ref xt_far, .ref xt_ring, .int (it_walker), .int (it_from), .ref xt_was, .int (it_steps), .int (it_faultAt), .int (it_mover)])), (qt_now, .inl (cy.1, 639, .inl (ft_now)))] s.heap.size = A at hD hG ⊢
  have hA : ∀ q : Nat, s.heap.size ≤ q → A q := fun q h => by rw [← hAe]; exact Or.inr h
  have hS : va_S A s.heap s.heap [] := va_S.rf
  have hP : va_P (dC, dI) vwCl [(qt, .inr (11, [.ref qt_now, .ref xt_past, .int (it_saved), .ref xt_text, .int (it_length), .ref xt_doors, .int (it_doorMany), .ref xt_label, .int (it_drawn), .ref xt_far, .ref xt_ring, .int (it_walker), .int (it_from), .ref xt_was, .int (it_steps), .int (it_faultAt), .int (it_mover)])), (qt_now, .inl (cy.1, 639, .inl (ft_now)))] s.heap := hP
  have hl := lv_entry ([.ref qt, .int va1]) (n := 2) (Nat.le_of_ble_eq_true rfl)
  rw [lg_entry_eq]
  generalize (lg_sl ([.ref qt, .int va1]) ++ List.replicate (2 - (lg_sl ([.ref qt, .int va1])).length) Slot.unset).toArray = ls at hl ⊢
  have hl : lv_has ls 2 [(0, .ref qt), (1, .int va1)] := hl
  refine kgen (fun Q hQ => ?_)
  rw [f_X11_hasSign] at hf
  refine lv_aload_n hx hb dX11_hasSign_0 rfl (lv_at hl 0 rfl) ?_
  refine va_get (D := (dC, dI)) (ci := 11) (C := RX11) (T := TX11) (N := 17) hx hb hts (fun _ h => (List.mem_cons_of_mem _ (List.mem_append_right _ h))) hown hK hP 0 rfl rfl 0 (by decide) (hts _ (List.mem_cons_of_mem _ (List.mem_append_left _ (List.mem_append_left _ (List.mem_of_getElem? (i := 0) rfl))))) (fun _ h => h) rfl dX11_hasSign_1 ?_
  refine lv_sipush (v := (429 : Int32)) hx hb dX11_hasSign_4 (by decide) ?_
  refine lv_iload_n hx hb dX11_hasSign_7 rfl (lv_at hl 1 rfl) ?_
  refine lv_iadd hx hb dX11_hasSign_8 ?_
  obtain ⟨hk_9, hf⟩ := chk_s hf
  refine va_iald hx hb hK hP 1 0 rfl rfl hk_9 dX11_hasSign_9 ?_
  refine lv_if_le (tgt := 25) hx hb dX11_hasSign_10 (by decide) (fun hc_10 => ?_) (fun hc_10 => ?_)
  · rw [if_pos hc_10] at hf
    refine lv_iconst (v := (0 : Int32)) hx hb dX11_hasSign_25 (by decide) ?_
    cases hf
    subst hQ
    exact kzret hx hb hr hlocks rfl hK (hP.sub [0, 1] rfl) (hD.sub [0, 1] (by decide) rfl) hS rfl dX11_hasSign_26
  · rw [if_neg hc_10] at hf
    refine lv_aload_n hx hb dX11_hasSign_13 rfl (lv_at hl 0 rfl) ?_
    refine lv_iload_n hx hb dX11_hasSign_14 rfl (lv_at hl 1 rfl) ?_
    obtain ⟨r15, hq_15, hf⟩ := bnd1_s hf
    refine kcalli (wc := [(qt, .inr (11, [.ref qt_now, .ref xt_past, .int (it_saved), .ref xt_text, .int (it_length), .ref xt_doors, .int (it_doorMany), .ref xt_label, .int (it_drawn), .ref xt_far, .ref xt_ring, .int (it_walker), .int (it_from), .ref xt_was, .int (it_steps), .int (it_faultAt), .int (it_mover)])), (qt_now, .inl (cy.1, 639, .inl (ft_now)))]) (wr := []) (w1 := [(qt, .inr (11, [.ref qt_now, .ref xt_past, .int (it_saved), .ref xt_text, .int (it_length), .ref xt_doors, .int (it_doorMany), .ref xt_label, .int (it_drawn), .ref xt_far, .ref xt_ring, .int (it_walker), .int (it_from), .ref xt_was, .int (it_steps), .int (it_faultAt), .int (it_mover)])), (qt_now, .inl (cy.1, 639, .inl (ft_now)))]) hK hP hD hS hA hG [0, 1] [] rfl rfl rfl rfl rfl (fun hU hPc => va_runV (As := [.int va1]) (rest := []) ⟨hx, hb, hml, hown, hts⟩ (c_X11_isFork l dC dI cy G s.heap.size qt qt_now xt_past xt_text xt_doors xt_label xt_far xt_ring xt_was (it_saved) (it_length) (it_doorMany) (it_drawn) (it_walker) (it_from) (it_steps) (it_faultAt) (it_mover) N (ft_now) (va1) r15 hq_15) (cwV 1 hts gX11_hasSign_X11_isFork rfl rfl rfl hdX11_isFork ⟨Nat.le_of_ble_eq_true rfl, Nat.le_of_ble_eq_true rfl⟩) ⟨kBlind, (va_recv hK hP (ci := 11) (q0 := 0) rfl rfl), fun U h1 h2 => ⟨rfl, hU U h1 h2⟩⟩ rfl rfl hl.1 rfl (lv_room (Nat.le_of_ble_eq_true rfl)) dX11_hasSign_15 ⟨Nat.zero_le _, Nat.zero_le _⟩) (r15) (fun _ _ h => h) (fun _ _ h => h) (fun H locs hP hD hS => ?_)
    have hP : va_P (dC, dI) vwCl [(qt, .inr (11, [.ref qt_now, .ref xt_past, .int (it_saved), .ref xt_text, .int (it_length), .ref xt_doors, .int (it_doorMany), .ref xt_label, .int (it_drawn), .ref xt_far, .ref xt_ring, .int (it_walker), .int (it_from), .ref xt_was, .int (it_steps), .int (it_faultAt), .int (it_mover)])), (qt_now, .inl (cy.1, 639, .inl (ft_now)))] H := hP
    have hD : va_D A [(qt, .inr (11, [.ref qt_now, .ref xt_past, .int (it_saved), .ref xt_text, .int (it_length), .ref xt_doors, .int (it_doorMany), .ref xt_label, .int (it_drawn), .ref xt_far, .ref xt_ring, .int (it_walker), .int (it_from), .ref xt_was, .int (it_steps), .int (it_faultAt), .int (it_mover)])), (qt_now, .inl (cy.1, 639, .inl (ft_now)))] := hD
    refine lv_if_eq (tgt := 25) hx hb dX11_hasSign_18 (by decide) (fun hc_18 => ?_) (fun hc_18 => ?_)
    · rw [if_pos hc_18] at hf
      refine lv_iconst (v := (0 : Int32)) hx hb dX11_hasSign_25 (by decide) ?_
      cases hf
      subst hQ
      exact kzret hx hb hr hlocks rfl hK (hP.sub [0, 1] rfl) (hD.sub [0, 1] (by decide) rfl) hS rfl dX11_hasSign_26
    · rw [if_neg hc_18] at hf
      refine lv_iconst (v := (1 : Int32)) hx hb dX11_hasSign_21 (by decide) ?_
      refine lv_goto (tgt := 26) hx hb dX11_hasSign_22 (by decide) ?_
      cases hf
      subst hQ
      exact kzret hx hb hr hlocks rfl hK (hP.sub [0, 1] rfl) (hD.sub [0, 1] (by decide) rfl) hS rfl dX11_hasSign_26
theorem hdX11_hasSign : yX11_hasSign.cls = RX11 ∧ yX11_hasSign.cls ≠ "java/lang/invoke/MethodHandle" ∧ yX11_hasSign.cls ≠ "java/lang/invoke/VarHandle" ∧ (parseMethodDescriptor yX11_hasSign.desc).map (fun d => d.parameters.length) = some 1 := by decide +kernel
noncomputable def f_X11_points (N : Nat) (ft_now : Nat → Int32) (ft_far : Nat → Int32) (ft_ring : Nat → Int32) (va1 : Int32) : Option (Int32 × (Nat → Int32) × (Nat → Int32)) :=
  bnd1 (f_X11_hasRoom (ft_now) (va1)) fun r2 =>
  if r2 = 0 then
    some ((-1 : Int32), ft_far, ft_ring)
  else
    bnd1 (f_X11_hasSign N (ft_now) (va1)) fun r12 =>
    if r12 = 0 then
      some ((-2 : Int32), ft_far, ft_ring)
    else
      bnd2 (f_X11_lays N (ft_now) (ft_far) (ft_ring) ((ft_now ((8 : Int32)).toNatClampNeg))) fun o29_0 o29_1 =>
      bnd1 (f_X11_pointed N (ft_now) (o29_0) (va1)) fun r34 =>
      if 0 ≤ r34 then
        some (r34, o29_0, o29_1)
      else
        some ((-4 : Int32), o29_0, o29_1)
abbrev rm_X11_points : Room := { frames := 9, cells := 0, slots := 0, locals := 200 }
set_option maxHeartbeats 4000000 in
set_option maxRecDepth 100000 in
theorem c_X11_points (l : Launch) (dC : Nat → ClassId) (dI : Nat → Nat → Nat) (cy : gC) (G : gT) (sz : Nat) (qt : Nat) (qt_now : Nat) (qt_far : Nat) (qt_ring : Nat) (xt_past : Nat) (xt_text : Nat) (xt_doors : Nat) (xt_label : Nat) (xt_was : Nat) (it_saved : Int32) (it_length : Int32) (it_doorMany : Int32) (it_drawn : Int32) (it_walker : Int32) (it_from : Int32) (it_steps : Int32) (it_faultAt : Int32) (it_mover : Int32) (N : Nat) (ft_now : Nat → Int32) (ft_far : Nat → Int32) (ft_ring : Nat → Int32) (va1 : Int32) (out : Int32 × (Nat → Int32) × (Nat → Int32)) (hf : f_X11_points N ft_now ft_far ft_ring va1 = some out) : Met l yX11_points wsX11_points rm_X11_points (va_Pc [.ref qt, .int va1] (kP (dC, dI) cy G [(qt, .inr (11, [.ref qt_now, .ref xt_past, .int (it_saved), .ref xt_text, .int (it_length), .ref xt_doors, .int (it_doorMany), .ref xt_label, .int (it_drawn), .ref qt_far, .ref qt_ring, .int (it_walker), .int (it_from), .ref xt_was, .int (it_steps), .int (it_faultAt), .int (it_mover)])), (qt_now, .inl (cy.1, 639, .inl (ft_now))), (qt_far, .inl (cy.1, 210, .inl (ft_far))), (qt_ring, .inl (cy.1, 210, .inl (ft_ring)))] sz)) (va_Qi (fun r (_ : Unit) => r = out.1) (fun _ => kQ (dC, dI) cy [(qt, .inr (11, [.ref qt_now, .ref xt_past, .int (it_saved), .ref xt_text, .int (it_length), .ref xt_doors, .int (it_doorMany), .ref xt_label, .int (it_drawn), .ref qt_far, .ref qt_ring, .int (it_walker), .int (it_from), .ref xt_was, .int (it_steps), .int (it_faultAt), .int (it_mover)])), (qt_now, .inl (cy.1, 639, .inl (ft_now))), (qt_far, .inl (cy.1, 210, .inl (out.2.1))), (qt_ring, .inl (cy.1, 210, .inl (out.2.2)))] (va_A [(qt, .inr (11, [.ref qt_now, .ref xt_past, .int (it_saved), .ref xt_text, .int (it_length), .ref xt_doors, .int (it_doorMany), .ref xt_label, .int (it_drawn), .ref qt_far, .ref qt_ring, .int (it_walker), .int (it_from), .ref xt_was, .int (it_steps), .int (it_faultAt), .int (it_mover)])), (qt_now, .inl (cy.1, 639, .inl (ft_now))), (qt_far, .inl (cy.1, 210, .inl (ft_far))), (qt_ring, .inl (cy.1, 210, .inl (ft_ring)))] sz)) (va_A [(qt, .inr (11, [.ref qt_now, .ref xt_past, .int (it_saved), .ref xt_text, .int (it_length), .ref xt_doors, .int (it_doorMany), .ref xt_label, .int (it_drawn), .ref qt_far, .ref qt_ring, .int (it_walker), .int (it_from), .ref xt_was, .int (it_steps), .int (it_faultAt), .int (it_mover)])), (qt_now, .inl (cy.1, 639, .inl (ft_now))), (qt_far, .inl (cy.1, 210, .inl (ft_far))), (qt_ring, .inl (cy.1, 210, .inl (ft_ring)))] sz)) 0 0 (va_A [(qt, .inr (11, [.ref qt_now, .ref xt_past, .int (it_saved), .ref xt_text, .int (it_length), .ref xt_doors, .int (it_doorMany), .ref xt_label, .int (it_drawn), .ref qt_far, .ref qt_ring, .int (it_walker), .int (it_from), .ref xt_was, .int (it_steps), .int (it_faultAt), .int (it_mover)])), (qt_now, .inl (cy.1, 639, .inl (ft_now))), (qt_far, .inl (cy.1, 210, .inl (ft_far))), (qt_ring, .inl (cy.1, 210, .inl (ft_ring)))] sz) := by
  refine Met.ofW (cc := cX11_points) (maxL := 3) (ret := (some .int)) (by decide) rfl ?_
  intro p e s m args below meth c s₁ B hml hv
  obtain ⟨rfl, hsz, hP, hK, hD0, hG⟩ := hv
  have hx := B.exec
  have hb := B.bytes
  have hr := B.returns
  have hts := atoms_spec (ws := wsX11_points) B.pre
  have hown : s.vm.findClass RX11 = some m.cls := findClass_of_methodNamed B.named
  have hlocks := B.notSynchronized
  subst hsz
  have hD := hD0.self (sz := s.heap.size)
  generalize hAe : va_A [(qt, .inr (11, [.ref qt_now, .ref xt_past, .int (it_saved), .ref xt_text, .int (it_length), .ref xt_doors, .int (it_doorMany), .ref xt_label, .int (it_drawn), .ref qt_far, .ref qt_ring, .int (it_walker), .int (it_from), .ref xt_was, .int (it_steps), .int (it_faultAt), .int (it_mover)])), (qt_now, .inl (cy.1, 639, .inl (ft_now))), (qt_far, .inl (cy.1, 210, .inl (ft_far))), (qt_ring, .inl (cy.1, 210, .inl (ft_ring)))] s.heap.size = A at hD hG ⊢
  have hA : ∀ q : Nat, s.heap.size ≤ q → A q := fun q h => by rw [← hAe]; exact Or.inr h
  have hS : va_S A s.heap s.heap [] := va_S.rf
  have hP : va_P (dC, dI) vwCl [(qt, .inr (11, [.ref qt_now, .ref xt_past, .int (it_saved), .ref xt_text, .int (it_length), .ref xt_doors, .int (it_doorMany), .ref xt_label, .int (it_drawn), .ref qt_far, .ref qt_ring, .int (it_walker), .int (it_from), .ref xt_was, .int (it_steps), .int (it_faultAt), .int (it_mover)])), (qt_now, .inl (cy.1, 639, .inl (ft_now))), (qt_far, .inl (cy.1, 210, .inl (ft_far))), (qt_ring, .inl (cy.1, 210, .inl (ft_ring)))] s.heap := hP
  have hl := lv_entry ([.ref qt, .int va1]) (n := 3) (Nat.le_of_ble_eq_true rfl)
  rw [lg_entry_eq]
  generalize (lg_sl ([.ref qt, .int va1]) ++ List.replicate (3 - (lg_sl ([.ref qt, .int va1])).length) Slot.unset).toArray = ls at hl ⊢
  have hl : lv_has ls 3 [(0, .ref qt), (1, .int va1)] := hl
  refine kgen (fun Q hQ => ?_)
  rw [f_X11_points] at hf
  refine lv_aload_n hx hb dX11_points_0 rfl (lv_at hl 0 rfl) ?_
  refine lv_iload_n hx hb dX11_points_1 rfl (lv_at hl 1 rfl) ?_
  obtain ⟨r2, hq_2, hf⟩ := bnd1_s hf
  refine kcalli (wc := [(qt, .inr (11, [.ref qt_now, .ref xt_past, .int (it_saved), .ref xt_text, .int (it_length), .ref xt_doors, .int (it_doorMany), .ref xt_label, .int (it_drawn), .ref qt_far, .ref qt_ring, .int (it_walker), .int (it_from), .ref xt_was, .int (it_steps), .int (it_faultAt), .int (it_mover)])), (qt_now, .inl (cy.1, 639, .inl (ft_now)))]) (wr := [(qt_far, .inl (cy.1, 210, .inl (ft_far))), (qt_ring, .inl (cy.1, 210, .inl (ft_ring)))]) (w1 := [(qt, .inr (11, [.ref qt_now, .ref xt_past, .int (it_saved), .ref xt_text, .int (it_length), .ref xt_doors, .int (it_doorMany), .ref xt_label, .int (it_drawn), .ref qt_far, .ref qt_ring, .int (it_walker), .int (it_from), .ref xt_was, .int (it_steps), .int (it_faultAt), .int (it_mover)])), (qt_now, .inl (cy.1, 639, .inl (ft_now)))]) hK hP hD hS hA hG [0, 1] [2, 3] rfl rfl rfl rfl rfl (fun hU hPc => va_runV (As := [.int va1]) (rest := []) ⟨hx, hb, hml, hown, hts⟩ (c_X11_hasRoom l dC dI cy G s.heap.size qt qt_now xt_past xt_text xt_doors xt_label qt_far qt_ring xt_was (it_saved) (it_length) (it_doorMany) (it_drawn) (it_walker) (it_from) (it_steps) (it_faultAt) (it_mover) (ft_now) (va1) r2 hq_2) (cwV 1 hts gX11_points_X11_hasRoom rfl rfl rfl hdX11_hasRoom ⟨Nat.le_of_ble_eq_true rfl, Nat.le_of_ble_eq_true rfl⟩) ⟨kBlind, (va_recv hK hP (ci := 11) (q0 := 0) rfl rfl), fun U h1 h2 => ⟨rfl, hU U h1 h2⟩⟩ rfl rfl hl.1 rfl (lv_room (Nat.le_of_ble_eq_true rfl)) dX11_points_2 ⟨Nat.zero_le _, Nat.zero_le _⟩) (r2) (fun _ _ h => h) (fun _ _ h => h) (fun H locs hP hD hS => ?_)
  have hP : va_P (dC, dI) vwCl [(qt_far, .inl (cy.1, 210, .inl (ft_far))), (qt_ring, .inl (cy.1, 210, .inl (ft_ring))), (qt, .inr (11, [.ref qt_now, .ref xt_past, .int (it_saved), .ref xt_text, .int (it_length), .ref xt_doors, .int (it_doorMany), .ref xt_label, .int (it_drawn), .ref qt_far, .ref qt_ring, .int (it_walker), .int (it_from), .ref xt_was, .int (it_steps), .int (it_faultAt), .int (it_mover)])), (qt_now, .inl (cy.1, 639, .inl (ft_now)))] H := hP
  have hD : va_D A [(qt_far, .inl (cy.1, 210, .inl (ft_far))), (qt_ring, .inl (cy.1, 210, .inl (ft_ring))), (qt, .inr (11, [.ref qt_now, .ref xt_past, .int (it_saved), .ref xt_text, .int (it_length), .ref xt_doors, .int (it_doorMany), .ref xt_label, .int (it_drawn), .ref qt_far, .ref qt_ring, .int (it_walker), .int (it_from), .ref xt_was, .int (it_steps), .int (it_faultAt), .int (it_mover)])), (qt_now, .inl (cy.1, 639, .inl (ft_now)))] := hD
  refine lv_if_ne (tgt := 10) hx hb dX11_points_5 (by decide) (fun hc_5 => ?_) (fun hc_5 => ?_)
  · rw [if_neg hc_5] at hf
    refine lv_aload_n hx hb dX11_points_10 rfl (lv_at hl 0 rfl) ?_
    refine lv_iload_n hx hb dX11_points_11 rfl (lv_at hl 1 rfl) ?_
    obtain ⟨r12, hq_12, hf⟩ := bnd1_s hf
    refine kcalli (wc := [(qt, .inr (11, [.ref qt_now, .ref xt_past, .int (it_saved), .ref xt_text, .int (it_length), .ref xt_doors, .int (it_doorMany), .ref xt_label, .int (it_drawn), .ref qt_far, .ref qt_ring, .int (it_walker), .int (it_from), .ref xt_was, .int (it_steps), .int (it_faultAt), .int (it_mover)])), (qt_now, .inl (cy.1, 639, .inl (ft_now)))]) (wr := [(qt_far, .inl (cy.1, 210, .inl (ft_far))), (qt_ring, .inl (cy.1, 210, .inl (ft_ring)))]) (w1 := [(qt, .inr (11, [.ref qt_now, .ref xt_past, .int (it_saved), .ref xt_text, .int (it_length), .ref xt_doors, .int (it_doorMany), .ref xt_label, .int (it_drawn), .ref qt_far, .ref qt_ring, .int (it_walker), .int (it_from), .ref xt_was, .int (it_steps), .int (it_faultAt), .int (it_mover)])), (qt_now, .inl (cy.1, 639, .inl (ft_now)))]) hK hP hD hS hA hG [2, 3] [0, 1] rfl rfl rfl rfl rfl (fun hU hPc => va_runV (As := [.int va1]) (rest := []) ⟨hx, hb, hml, hown, hts⟩ (c_X11_hasSign l dC dI cy G H.size qt qt_now xt_past xt_text xt_doors xt_label qt_far qt_ring xt_was (it_saved) (it_length) (it_doorMany) (it_drawn) (it_walker) (it_from) (it_steps) (it_faultAt) (it_mover) N (ft_now) (va1) r12 hq_12) (cwV 1 hts gX11_points_X11_hasSign rfl rfl rfl hdX11_hasSign ⟨Nat.le_of_ble_eq_true rfl, Nat.le_of_ble_eq_true rfl⟩) ⟨kBlind, (va_recv hK hP (ci := 11) (q0 := 2) rfl rfl), fun U h1 h2 => ⟨rfl, hU U h1 h2⟩⟩ rfl rfl hl.1 rfl (lv_room (Nat.le_of_ble_eq_true rfl)) dX11_points_12 ⟨Nat.zero_le _, Nat.zero_le _⟩) (r12) (fun _ _ h => h) (fun _ _ h => h) (fun H locs hP hD hS => ?_)
    have hP : va_P (dC, dI) vwCl [(qt_far, .inl (cy.1, 210, .inl (ft_far))), (qt_ring, .inl (cy.1, 210, .inl (ft_ring))), (qt, .inr (11, [.ref qt_now, .ref xt_past, .int (it_saved), .ref xt_text, .int (it_length), .ref xt_doors, .int (it_doorMany), .ref xt_label, .int (it_drawn), .ref qt_far, .ref qt_ring, .int (it_walker), .int (it_from), .ref xt_was, .int (it_steps), .int (it_faultAt), .int (it_mover)])), (qt_now, .inl (cy.1, 639, .inl (ft_now)))] H := hP
    have hD : va_D A [(qt_far, .inl (cy.1, 210, .inl (ft_far))), (qt_ring, .inl (cy.1, 210, .inl (ft_ring))), (qt, .inr (11, [.ref qt_now, .ref xt_past, .int (it_saved), .ref xt_text, .int (it_length), .ref xt_doors, .int (it_doorMany), .ref xt_label, .int (it_drawn), .ref qt_far, .ref qt_ring, .int (it_walker), .int (it_from), .ref xt_was, .int (it_steps), .int (it_faultAt), .int (it_mover)])), (qt_now, .inl (cy.1, 639, .inl (ft_now)))] := hD
    refine lv_if_ne (tgt := 21) hx hb dX11_points_15 (by decide) (fun hc_15 => ?_) (fun hc_15 => ?_)
    · rw [if_neg hc_15] at hf
      refine lv_aload_n hx hb dX11_points_21 rfl (lv_at hl 0 rfl) ?_
      refine lv_aload_n hx hb dX11_points_22 rfl (lv_at hl 0 rfl) ?_
      refine va_get (D := (dC, dI)) (ci := 11) (C := RX11) (T := TX11) (N := 17) hx hb hts (fun _ h => (List.mem_cons_of_mem _ (List.mem_append_right _ h))) hown hK hP 2 rfl rfl 0 (by decide) (hts _ (List.mem_cons_of_mem _ (List.mem_append_left _ (List.mem_append_left _ (List.mem_of_getElem? (i := 0) rfl))))) (fun _ h => h) rfl dX11_points_23 ?_
      refine lv_bipush (v := (8 : Int32)) hx hb dX11_points_26 (by decide) ?_
      refine va_iald hx hb hK hP 3 0 rfl rfl (by unfold vp_in; decide) dX11_points_28 ?_
      obtain ⟨o29_0, o29_1, hq_29, hf⟩ := bnd2_s hf
      refine kcallv (wc := [(qt, .inr (11, [.ref qt_now, .ref xt_past, .int (it_saved), .ref xt_text, .int (it_length), .ref xt_doors, .int (it_doorMany), .ref xt_label, .int (it_drawn), .ref qt_far, .ref qt_ring, .int (it_walker), .int (it_from), .ref xt_was, .int (it_steps), .int (it_faultAt), .int (it_mover)])), (qt_now, .inl (cy.1, 639, .inl (ft_now))), (qt_far, .inl (cy.1, 210, .inl (ft_far))), (qt_ring, .inl (cy.1, 210, .inl (ft_ring)))]) (wr := []) (w1 := [(qt, .inr (11, [.ref qt_now, .ref xt_past, .int (it_saved), .ref xt_text, .int (it_length), .ref xt_doors, .int (it_doorMany), .ref xt_label, .int (it_drawn), .ref qt_far, .ref qt_ring, .int (it_walker), .int (it_from), .ref xt_was, .int (it_steps), .int (it_faultAt), .int (it_mover)])), (qt_now, .inl (cy.1, 639, .inl (ft_now))), (qt_far, .inl (cy.1, 210, .inl (o29_0))), (qt_ring, .inl (cy.1, 210, .inl (o29_1)))]) hK hP hD hS hA hG [2, 3, 0, 1] [] rfl rfl rfl rfl rfl (fun hU hPc => va_runV (As := [.int (ft_now ((8 : Int32)).toNatClampNeg)]) (rest := []) ⟨hx, hb, hml, hown, hts⟩ (c_X11_lays l dC dI cy G H.size qt qt_now qt_far qt_ring xt_past xt_text xt_doors xt_label xt_was (it_saved) (it_length) (it_doorMany) (it_drawn) (it_walker) (it_from) (it_steps) (it_faultAt) (it_mover) N (ft_now) (ft_far) (ft_ring) ((ft_now ((8 : Int32)).toNatClampNeg)) (o29_0, o29_1) hq_29) (cwV 1 hts gX11_points_X11_lays rfl rfl rfl hdX11_lays ⟨Nat.le_of_ble_eq_true rfl, Nat.le_of_ble_eq_true rfl⟩) ⟨kBlind, (va_recv hK hP (ci := 11) (q0 := 2) rfl rfl), fun U h1 h2 => ⟨rfl, hU U h1 h2⟩⟩ rfl rfl hl.1 rfl (lv_room (Nat.le_of_ble_eq_true rfl)) dX11_points_29 ⟨Nat.zero_le _, Nat.zero_le _⟩) (fun _ _ h => h) (fun H locs hP hD hS => ?_)
      have hP : va_P (dC, dI) vwCl [(qt, .inr (11, [.ref qt_now, .ref xt_past, .int (it_saved), .ref xt_text, .int (it_length), .ref xt_doors, .int (it_doorMany), .ref xt_label, .int (it_drawn), .ref qt_far, .ref qt_ring, .int (it_walker), .int (it_from), .ref xt_was, .int (it_steps), .int (it_faultAt), .int (it_mover)])), (qt_now, .inl (cy.1, 639, .inl (ft_now))), (qt_far, .inl (cy.1, 210, .inl (o29_0))), (qt_ring, .inl (cy.1, 210, .inl (o29_1)))] H := hP
      have hD : va_D A [(qt, .inr (11, [.ref qt_now, .ref xt_past, .int (it_saved), .ref xt_text, .int (it_length), .ref xt_doors, .int (it_doorMany), .ref xt_label, .int (it_drawn), .ref qt_far, .ref qt_ring, .int (it_walker), .int (it_from), .ref xt_was, .int (it_steps), .int (it_faultAt), .int (it_mover)])), (qt_now, .inl (cy.1, 639, .inl (ft_now))), (qt_far, .inl (cy.1, 210, .inl (o29_0))), (qt_ring, .inl (cy.1, 210, .inl (o29_1)))] := hD
      refine lv_aload_n hx hb dX11_points_32 rfl (lv_at hl 0 rfl) ?_
      refine lv_iload_n hx hb dX11_points_33 rfl (lv_at hl 1 rfl) ?_
      obtain ⟨r34, hq_34, hf⟩ := bnd1_s hf
      refine kcalli (wc := [(qt, .inr (11, [.ref qt_now, .ref xt_past, .int (it_saved), .ref xt_text, .int (it_length), .ref xt_doors, .int (it_doorMany), .ref xt_label, .int (it_drawn), .ref qt_far, .ref qt_ring, .int (it_walker), .int (it_from), .ref xt_was, .int (it_steps), .int (it_faultAt), .int (it_mover)])), (qt_now, .inl (cy.1, 639, .inl (ft_now))), (qt_far, .inl (cy.1, 210, .inl (o29_0)))]) (wr := [(qt_ring, .inl (cy.1, 210, .inl (o29_1)))]) (w1 := [(qt, .inr (11, [.ref qt_now, .ref xt_past, .int (it_saved), .ref xt_text, .int (it_length), .ref xt_doors, .int (it_doorMany), .ref xt_label, .int (it_drawn), .ref qt_far, .ref qt_ring, .int (it_walker), .int (it_from), .ref xt_was, .int (it_steps), .int (it_faultAt), .int (it_mover)])), (qt_now, .inl (cy.1, 639, .inl (ft_now))), (qt_far, .inl (cy.1, 210, .inl (o29_0)))]) hK hP hD hS hA hG [0, 1, 2] [3] rfl rfl rfl rfl rfl (fun hU hPc => va_runV (As := [.int va1]) (rest := []) ⟨hx, hb, hml, hown, hts⟩ (c_X11_pointed l dC dI cy G H.size qt qt_now qt_far xt_past xt_text xt_doors xt_label qt_ring xt_was (it_saved) (it_length) (it_doorMany) (it_drawn) (it_walker) (it_from) (it_steps) (it_faultAt) (it_mover) N (ft_now) (o29_0) (va1) r34 hq_34) (cwV 1 hts gX11_points_X11_pointed rfl rfl rfl hdX11_pointed ⟨Nat.le_of_ble_eq_true rfl, Nat.le_of_ble_eq_true rfl⟩) ⟨kBlind, (va_recv hK hP (ci := 11) (q0 := 0) rfl rfl), fun U h1 h2 => ⟨rfl, hU U h1 h2⟩⟩ rfl rfl hl.1 rfl (lv_room (Nat.le_of_ble_eq_true rfl)) dX11_points_34 ⟨Nat.zero_le _, Nat.zero_le _⟩) (r34) (fun _ _ h => h) (fun _ _ h => h) (fun H locs hP hD hS => ?_)
      have hP : va_P (dC, dI) vwCl [(qt_ring, .inl (cy.1, 210, .inl (o29_1))), (qt, .inr (11, [.ref qt_now, .ref xt_past, .int (it_saved), .ref xt_text, .int (it_length), .ref xt_doors, .int (it_doorMany), .ref xt_label, .int (it_drawn), .ref qt_far, .ref qt_ring, .int (it_walker), .int (it_from), .ref xt_was, .int (it_steps), .int (it_faultAt), .int (it_mover)])), (qt_now, .inl (cy.1, 639, .inl (ft_now))), (qt_far, .inl (cy.1, 210, .inl (o29_0)))] H := hP
      have hD : va_D A [(qt_ring, .inl (cy.1, 210, .inl (o29_1))), (qt, .inr (11, [.ref qt_now, .ref xt_past, .int (it_saved), .ref xt_text, .int (it_length), .ref xt_doors, .int (it_doorMany), .ref xt_label, .int (it_drawn), .ref qt_far, .ref qt_ring, .int (it_walker), .int (it_from), .ref xt_was, .int (it_steps), .int (it_faultAt), .int (it_mover)])), (qt_now, .inl (cy.1, 639, .inl (ft_now))), (qt_far, .inl (cy.1, 210, .inl (o29_0)))] := hD
      refine lv_istore_n (lv' := [(2, .int r34), (0, .ref qt), (1, .int va1)]) hx hb dX11_points_37 rfl hl (by decide) rfl (fun ls hl => ?_)
      refine lv_iload_n hx hb dX11_points_38 rfl (lv_at hl 0 rfl) ?_
      refine lv_if_ge (tgt := 47) hx hb dX11_points_39 (by decide) (fun hc_39 => ?_) (fun hc_39 => ?_)
      · rw [if_pos hc_39] at hf
        refine lv_iload_n hx hb dX11_points_47 rfl (lv_at hl 0 rfl) ?_
        cases hf
        subst hQ
        exact kiret hx hb hr hlocks hK (hP.sub [1, 2, 3, 0] rfl) (hD.sub [1, 2, 3, 0] (by decide) rfl) hS rfl dX11_points_48
      · rw [if_neg hc_39] at hf
        refine lv_bipush (v := (-4 : Int32)) hx hb dX11_points_42 (by decide) ?_
        refine lv_goto (tgt := 48) hx hb dX11_points_44 (by decide) ?_
        cases hf
        subst hQ
        exact kiret hx hb hr hlocks hK (hP.sub [1, 2, 3, 0] rfl) (hD.sub [1, 2, 3, 0] (by decide) rfl) hS rfl dX11_points_48
    · rw [if_pos hc_15] at hf
      refine lv_bipush (v := (-2 : Int32)) hx hb dX11_points_18 (by decide) ?_
      cases hf
      subst hQ
      exact kiret hx hb hr hlocks hK (hP.sub [2, 3, 0, 1] rfl) (hD.sub [2, 3, 0, 1] (by decide) rfl) hS rfl dX11_points_20
  · rw [if_pos hc_5] at hf
    refine lv_iconst (v := (-1 : Int32)) hx hb dX11_points_8 (by decide) ?_
    cases hf
    subst hQ
    exact kiret hx hb hr hlocks hK (hP.sub [2, 3, 0, 1] rfl) (hD.sub [2, 3, 0, 1] (by decide) rfl) hS rfl dX11_points_9
theorem hdX11_points : yX11_points.cls = RX11 ∧ yX11_points.cls ≠ "java/lang/invoke/MethodHandle" ∧ yX11_points.cls ≠ "java/lang/invoke/VarHandle" ∧ (parseMethodDescriptor yX11_points.desc).map (fun d => d.parameters.length) = some 1 := by decide +kernel
noncomputable def b_X11_goes_26 (N : Nat) (it_walker : Int32) (it_from : Int32) (ft_now : Nat → Int32) (ft_far : Nat → Int32) : Nat → Int32 → Int32 → Option (Int32)
  | 0, _, _ => none
  | n + 1, l1, l2 =>
    if (5 : Int32) ≤ l2 then
      some (l1)
    else
      if 0 ≤ l1 then
        some (l1)
      else
        bnd1 (f_X11_isOpen (ft_now) (it_walker) (((it_from + l2) - (it_from + l2) / (4 : Int32) * (4 : Int32)))) fun r48 =>
        if r48 = 0 then
          b_X11_goes_26 N it_walker it_from ft_now ft_far n ((-1 : Int32)) ((l2 + (1 : Int32)))
        else
          b_X11_goes_26 N it_walker it_from ft_now ft_far n (((it_from + l2) - (it_from + l2) / (4 : Int32) * (4 : Int32))) ((l2 + (1 : Int32)))
noncomputable def f_X11_goes (N : Nat) (it_walker : Int32) (it_from : Int32) (ft_now : Nat → Int32) (ft_far : Nat → Int32) : Option (Int32) :=
  bnd1 (f_X11_hasSign N (ft_now) (it_walker)) fun r5 =>
  if r5 = 0 then
    b_X11_goes_26 N it_walker it_from ft_now ft_far N ((-1 : Int32)) ((1 : Int32))
  else
    bnd1 (f_X11_pointed N (ft_now) (ft_far) (it_walker)) fun r16 =>
    b_X11_goes_26 N it_walker it_from ft_now ft_far N (r16) ((1 : Int32))
abbrev rm_X11_goes : Room := { frames := 9, cells := 0, slots := 0, locals := 200 }
set_option maxHeartbeats 4000000 in
set_option maxRecDepth 100000 in
theorem c_X11_goes (l : Launch) (dC : Nat → ClassId) (dI : Nat → Nat → Nat) (cy : gC) (G : gT) (sz : Nat) (qt : Nat) (qt_now : Nat) (qt_far : Nat) (xt_past : Nat) (xt_text : Nat) (xt_doors : Nat) (xt_label : Nat) (xt_ring : Nat) (xt_was : Nat) (it_saved : Int32) (it_length : Int32) (it_doorMany : Int32) (it_drawn : Int32) (it_steps : Int32) (it_faultAt : Int32) (it_mover : Int32) (N : Nat) (it_walker : Int32) (it_from : Int32) (ft_now : Nat → Int32) (ft_far : Nat → Int32) (out : Int32) (hf : f_X11_goes N it_walker it_from ft_now ft_far = some out) : Met l yX11_goes wsX11_goes rm_X11_goes (va_Pc [.ref qt] (kP (dC, dI) cy G [(qt, .inr (11, [.ref qt_now, .ref xt_past, .int (it_saved), .ref xt_text, .int (it_length), .ref xt_doors, .int (it_doorMany), .ref xt_label, .int (it_drawn), .ref qt_far, .ref xt_ring, .int (it_walker), .int (it_from), .ref xt_was, .int (it_steps), .int (it_faultAt), .int (it_mover)])), (qt_now, .inl (cy.1, 639, .inl (ft_now))), (qt_far, .inl (cy.1, 210, .inl (ft_far)))] sz)) (va_Qi (fun r (_ : Unit) => r = out) (fun _ => kQ (dC, dI) cy [(qt, .inr (11, [.ref qt_now, .ref xt_past, .int (it_saved), .ref xt_text, .int (it_length), .ref xt_doors, .int (it_doorMany), .ref xt_label, .int (it_drawn), .ref qt_far, .ref xt_ring, .int (it_walker), .int (it_from), .ref xt_was, .int (it_steps), .int (it_faultAt), .int (it_mover)])), (qt_now, .inl (cy.1, 639, .inl (ft_now))), (qt_far, .inl (cy.1, 210, .inl (ft_far)))] (va_A [(qt, .inr (11, [.ref qt_now, .ref xt_past, .int (it_saved), .ref xt_text, .int (it_length), .ref xt_doors, .int (it_doorMany), .ref xt_label, .int (it_drawn), .ref qt_far, .ref xt_ring, .int (it_walker), .int (it_from), .ref xt_was, .int (it_steps), .int (it_faultAt), .int (it_mover)])), (qt_now, .inl (cy.1, 639, .inl (ft_now))), (qt_far, .inl (cy.1, 210, .inl (ft_far)))] sz)) (va_A [(qt, .inr (11, [.ref qt_now, .ref xt_past, .int (it_saved), .ref xt_text, .int (it_length), .ref xt_doors, .int (it_doorMany), .ref xt_label, .int (it_drawn), .ref qt_far, .ref xt_ring, .int (it_walker), .int (it_from), .ref xt_was, .int (it_steps), .int (it_faultAt), .int (it_mover)])), (qt_now, .inl (cy.1, 639, .inl (ft_now))), (qt_far, .inl (cy.1, 210, .inl (ft_far)))] sz)) 0 0 (va_A [(qt, .inr (11, [.ref qt_now, .ref xt_past, .int (it_saved), .ref xt_text, .int (it_length), .ref xt_doors, .int (it_doorMany), .ref xt_label, .int (it_drawn), .ref qt_far, .ref xt_ring, .int (it_walker), .int (it_from), .ref xt_was, .int (it_steps), .int (it_faultAt), .int (it_mover)])), (qt_now, .inl (cy.1, 639, .inl (ft_now))), (qt_far, .inl (cy.1, 210, .inl (ft_far)))] sz) := by
  refine Met.ofW (cc := cX11_goes) (maxL := 3) (ret := (some .int)) (by decide) rfl ?_
  intro p e s m args below meth c s₁ B hml hv
  obtain ⟨rfl, hsz, hP, hK, hD0, hG⟩ := hv
  have hx := B.exec
  have hb := B.bytes
  have hr := B.returns
  have hts := atoms_spec (ws := wsX11_goes) B.pre
  have hown : s.vm.findClass RX11 = some m.cls := findClass_of_methodNamed B.named
  have hlocks := B.notSynchronized
  subst hsz
  have hD := hD0.self (sz := s.heap.size)
  generalize hAe : va_A [(qt, .inr (11, [.ref qt_now, .ref xt_past, .int (it_saved), .ref xt_text, .int (it_length), .ref xt_doors, .int (it_doorMany), .ref xt_label, .int (it_drawn), .ref qt_far, .ref xt_ring, .int (it_walker), .int (it_from), .ref xt_was, .int (it_steps), .int (it_faultAt), .int (it_mover)])), (qt_now, .inl (cy.1, 639, .inl (ft_now))), (qt_far, .inl (cy.1, 210, .inl (ft_far)))] s.heap.size = A at hD hG ⊢
  have hA : ∀ q : Nat, s.heap.size ≤ q → A q := fun q h => by rw [← hAe]; exact Or.inr h
  have hS : va_S A s.heap s.heap [] := va_S.rf
  have hP : va_P (dC, dI) vwCl [(qt, .inr (11, [.ref qt_now, .ref xt_past, .int (it_saved), .ref xt_text, .int (it_length), .ref xt_doors, .int (it_doorMany), .ref xt_label, .int (it_drawn), .ref qt_far, .ref xt_ring, .int (it_walker), .int (it_from), .ref xt_was, .int (it_steps), .int (it_faultAt), .int (it_mover)])), (qt_now, .inl (cy.1, 639, .inl (ft_now))), (qt_far, .inl (cy.1, 210, .inl (ft_far)))] s.heap := hP
  have hl := lv_entry ([.ref qt]) (n := 3) (Nat.le_of_ble_eq_true rfl)
  rw [lg_entry_eq]
  generalize (lg_sl ([.ref qt]) ++ List.replicate (3 - (lg_sl ([.ref qt])).length) Slot.unset).toArray = ls at hl ⊢
  have hl : lv_has ls 3 [(0, .ref qt)] := hl
  refine kgen (fun Q hQ => ?_)
  have B26 : ∀ (n26 : Nat) (l1 : Int32) (l2 : Int32) (H : Heap) (locs : List Loc), va_P (dC, dI) vwCl [(qt, .inr (11, [.ref qt_now, .ref xt_past, .int (it_saved), .ref xt_text, .int (it_length), .ref xt_doors, .int (it_doorMany), .ref xt_label, .int (it_drawn), .ref qt_far, .ref xt_ring, .int (it_walker), .int (it_from), .ref xt_was, .int (it_steps), .int (it_faultAt), .int (it_mover)])), (qt_now, .inl (cy.1, 639, .inl (ft_now))), (qt_far, .inl (cy.1, 210, .inl (ft_far)))] H → va_D A [(qt, .inr (11, [.ref qt_now, .ref xt_past, .int (it_saved), .ref xt_text, .int (it_length), .ref xt_doors, .int (it_doorMany), .ref xt_label, .int (it_drawn), .ref qt_far, .ref xt_ring, .int (it_walker), .int (it_from), .ref xt_was, .int (it_steps), .int (it_faultAt), .int (it_mover)])), (qt_now, .inl (cy.1, 639, .inl (ft_now))), (qt_far, .inl (cy.1, 210, .inl (ft_far)))] → va_S A s.heap H locs → ∀ (ls : Array Slot), lv_has ls 3 [(0, .ref qt), (1, .int l1), (2, .int l2)] → b_X11_goes_26 N it_walker it_from ft_now ft_far n26 l1 l2 = some out → W p l e (headSpec wsX11_goes rm_X11_goes).room s m ([.ref qt] : List Value).toArray below meth c H locs 0 0 Q (F0 m 26 ls []) := by
    intro n26
    induction n26 with
    | zero => intro l1 l2 H locs hP hD hS ls hl hf; rw [b_X11_goes_26] at hf; cases hf
    | succ n26 ih26 =>
      intro l1 l2 H locs hP hD hS ls hl hf
      rw [b_X11_goes_26] at hf
      refine lv_iload_n hx hb dX11_goes_26 rfl (lv_at hl 2 rfl) ?_
      refine lv_iconst (v := (5 : Int32)) hx hb dX11_goes_27 (by decide) ?_
      refine lv_icmp_ge (tgt := 73) hx hb dX11_goes_28 (by decide) (fun hc_28 => ?_) (fun hc_28 => ?_)
      · rw [if_pos hc_28] at hf
        refine lv_iload_n hx hb dX11_goes_73 rfl (lv_at hl 1 rfl) ?_
        cases hf
        subst hQ
        exact kiret hx hb hr hlocks hK (hP.sub [0, 1, 2] rfl) (hD.sub [0, 1, 2] (by decide) rfl) hS rfl dX11_goes_74
      · rw [if_neg hc_28] at hf
        refine lv_iload_n hx hb dX11_goes_31 rfl (lv_at hl 1 rfl) ?_
        refine lv_if_ge (tgt := 73) hx hb dX11_goes_32 (by decide) (fun hc_32 => ?_) (fun hc_32 => ?_)
        · rw [if_pos hc_32] at hf
          refine lv_iload_n hx hb dX11_goes_73 rfl (lv_at hl 1 rfl) ?_
          cases hf
          subst hQ
          exact kiret hx hb hr hlocks hK (hP.sub [0, 1, 2] rfl) (hD.sub [0, 1, 2] (by decide) rfl) hS rfl dX11_goes_74
        · rw [if_neg hc_32] at hf
          refine lv_aload_n hx hb dX11_goes_35 rfl (lv_at hl 0 rfl) ?_
          refine lv_aload_n hx hb dX11_goes_36 rfl (lv_at hl 0 rfl) ?_
          refine va_get (D := (dC, dI)) (ci := 11) (C := RX11) (T := TX11) (N := 17) hx hb hts (fun _ h => (List.mem_cons_of_mem _ (List.mem_append_right _ h))) hown hK hP 0 rfl rfl 11 (by decide) (hts _ (List.mem_cons_of_mem _ (List.mem_append_left _ (List.mem_append_left _ (List.mem_of_getElem? (i := 0) rfl))))) (fun _ h => h) rfl dX11_goes_37 ?_
          refine lv_aload_n hx hb dX11_goes_40 rfl (lv_at hl 0 rfl) ?_
          refine va_get (D := (dC, dI)) (ci := 11) (C := RX11) (T := TX11) (N := 17) hx hb hts (fun _ h => (List.mem_cons_of_mem _ (List.mem_append_right _ h))) hown hK hP 0 rfl rfl 12 (by decide) (hts _ (List.mem_cons_of_mem _ (List.mem_append_left _ (List.mem_append_left _ (List.mem_of_getElem? (i := 1) rfl))))) (fun _ h => h) rfl dX11_goes_41 ?_
          refine lv_iload_n hx hb dX11_goes_44 rfl (lv_at hl 2 rfl) ?_
          refine lv_iadd hx hb dX11_goes_45 ?_
          refine lv_iconst (v := (4 : Int32)) hx hb dX11_goes_46 (by decide) ?_
          refine lv_irem hx hb dX11_goes_47 (by decide) ?_
          obtain ⟨r48, hq_48, hf⟩ := bnd1_s hf
          refine kcalli (wc := [(qt, .inr (11, [.ref qt_now, .ref xt_past, .int (it_saved), .ref xt_text, .int (it_length), .ref xt_doors, .int (it_doorMany), .ref xt_label, .int (it_drawn), .ref qt_far, .ref xt_ring, .int (it_walker), .int (it_from), .ref xt_was, .int (it_steps), .int (it_faultAt), .int (it_mover)])), (qt_now, .inl (cy.1, 639, .inl (ft_now)))]) (wr := [(qt_far, .inl (cy.1, 210, .inl (ft_far)))]) (w1 := [(qt, .inr (11, [.ref qt_now, .ref xt_past, .int (it_saved), .ref xt_text, .int (it_length), .ref xt_doors, .int (it_doorMany), .ref xt_label, .int (it_drawn), .ref qt_far, .ref xt_ring, .int (it_walker), .int (it_from), .ref xt_was, .int (it_steps), .int (it_faultAt), .int (it_mover)])), (qt_now, .inl (cy.1, 639, .inl (ft_now)))]) hK hP hD hS hA hG [0, 1] [2] rfl rfl rfl rfl rfl (fun hU hPc => va_runV (As := [.int it_walker, .int ((it_from + l2) - (it_from + l2) / (4 : Int32) * (4 : Int32))]) (rest := []) ⟨hx, hb, hml, hown, hts⟩ (c_X11_isOpen l dC dI cy G H.size qt qt_now xt_past xt_text xt_doors xt_label qt_far xt_ring xt_was (it_saved) (it_length) (it_doorMany) (it_drawn) (it_walker) (it_from) (it_steps) (it_faultAt) (it_mover) (ft_now) (it_walker) (((it_from + l2) - (it_from + l2) / (4 : Int32) * (4 : Int32))) r48 hq_48) (cwV 2 hts gX11_goes_X11_isOpen rfl rfl rfl hdX11_isOpen ⟨Nat.le_of_ble_eq_true rfl, Nat.le_of_ble_eq_true rfl⟩) ⟨kBlind, (va_recv hK hP (ci := 11) (q0 := 0) rfl rfl), fun U h1 h2 => ⟨rfl, hU U h1 h2⟩⟩ rfl rfl hl.1 rfl (lv_room (Nat.le_of_ble_eq_true rfl)) dX11_goes_48 ⟨Nat.zero_le _, Nat.zero_le _⟩) (r48) (fun _ _ h => h) (fun _ _ h => h) (fun H locs hP hD hS => ?_)
          have hP : va_P (dC, dI) vwCl [(qt_far, .inl (cy.1, 210, .inl (ft_far))), (qt, .inr (11, [.ref qt_now, .ref xt_past, .int (it_saved), .ref xt_text, .int (it_length), .ref xt_doors, .int (it_doorMany), .ref xt_label, .int (it_drawn), .ref qt_far, .ref xt_ring, .int (it_walker), .int (it_from), .ref xt_was, .int (it_steps), .int (it_faultAt), .int (it_mover)])), (qt_now, .inl (cy.1, 639, .inl (ft_now)))] H := hP
          have hD : va_D A [(qt_far, .inl (cy.1, 210, .inl (ft_far))), (qt, .inr (11, [.ref qt_now, .ref xt_past, .int (it_saved), .ref xt_text, .int (it_length), .ref xt_doors, .int (it_doorMany), .ref xt_label, .int (it_drawn), .ref qt_far, .ref xt_ring, .int (it_walker), .int (it_from), .ref xt_was, .int (it_steps), .int (it_faultAt), .int (it_mover)])), (qt_now, .inl (cy.1, 639, .inl (ft_now)))] := hD
          refine lv_if_eq (tgt := 65) hx hb dX11_goes_51 (by decide) (fun hc_51 => ?_) (fun hc_51 => ?_)
          · rw [if_pos hc_51] at hf
            refine lv_iconst (v := (-1 : Int32)) hx hb dX11_goes_65 (by decide) ?_
            refine lv_istore_n (lv' := [(1, .int (-1 : Int32)), (0, .ref qt), (2, .int l2)]) hx hb dX11_goes_66 rfl hl (by decide) rfl (fun ls hl => ?_)
            refine lv_iinc (v := (l2 + (1 : Int32))) (lv' := [(2, .int (l2 + (1 : Int32))), (1, .int (-1 : Int32)), (0, .ref qt)]) hx hb dX11_goes_67 hl (k := 2) rfl rfl (by decide) rfl (fun ls hl => ?_)
            refine lv_goto (tgt := 26) hx hb dX11_goes_70 (by decide) ?_
            exact ih26 ((-1 : Int32)) ((l2 + (1 : Int32))) _ _ (hP.sub [1, 2, 0] rfl) (hD.sub [1, 2, 0] (by decide) rfl) hS _ (lv_sub hl [2, 1, 0] rfl) hf
          · rw [if_neg hc_51] at hf
            refine lv_aload_n hx hb dX11_goes_54 rfl (lv_at hl 0 rfl) ?_
            refine va_get (D := (dC, dI)) (ci := 11) (C := RX11) (T := TX11) (N := 17) hx hb hts (fun _ h => (List.mem_cons_of_mem _ (List.mem_append_right _ h))) hown hK hP 1 rfl rfl 12 (by decide) (hts _ (List.mem_cons_of_mem _ (List.mem_append_left _ (List.mem_append_left _ (List.mem_of_getElem? (i := 1) rfl))))) (fun _ h => h) rfl dX11_goes_55 ?_
            refine lv_iload_n hx hb dX11_goes_58 rfl (lv_at hl 2 rfl) ?_
            refine lv_iadd hx hb dX11_goes_59 ?_
            refine lv_iconst (v := (4 : Int32)) hx hb dX11_goes_60 (by decide) ?_
            refine lv_irem hx hb dX11_goes_61 (by decide) ?_
            refine lv_goto (tgt := 66) hx hb dX11_goes_62 (by decide) ?_
            refine lv_istore_n (lv' := [(1, .int ((it_from + l2) - (it_from + l2) / (4 : Int32) * (4 : Int32))), (0, .ref qt), (2, .int l2)]) hx hb dX11_goes_66 rfl hl (by decide) rfl (fun ls hl => ?_)
            refine lv_iinc (v := (l2 + (1 : Int32))) (lv' := [(2, .int (l2 + (1 : Int32))), (1, .int ((it_from + l2) - (it_from + l2) / (4 : Int32) * (4 : Int32))), (0, .ref qt)]) hx hb dX11_goes_67 hl (k := 2) rfl rfl (by decide) rfl (fun ls hl => ?_)
            refine lv_goto (tgt := 26) hx hb dX11_goes_70 (by decide) ?_
            exact ih26 (((it_from + l2) - (it_from + l2) / (4 : Int32) * (4 : Int32))) ((l2 + (1 : Int32))) _ _ (hP.sub [1, 2, 0] rfl) (hD.sub [1, 2, 0] (by decide) rfl) hS _ (lv_sub hl [2, 1, 0] rfl) hf
  rw [f_X11_goes] at hf
  refine lv_aload_n hx hb dX11_goes_0 rfl (lv_at hl 0 rfl) ?_
  refine lv_aload_n hx hb dX11_goes_1 rfl (lv_at hl 0 rfl) ?_
  refine va_get (D := (dC, dI)) (ci := 11) (C := RX11) (T := TX11) (N := 17) hx hb hts (fun _ h => (List.mem_cons_of_mem _ (List.mem_append_right _ h))) hown hK hP 0 rfl rfl 11 (by decide) (hts _ (List.mem_cons_of_mem _ (List.mem_append_left _ (List.mem_append_left _ (List.mem_of_getElem? (i := 0) rfl))))) (fun _ h => h) rfl dX11_goes_2 ?_
  obtain ⟨r5, hq_5, hf⟩ := bnd1_s hf
  refine kcalli (wc := [(qt, .inr (11, [.ref qt_now, .ref xt_past, .int (it_saved), .ref xt_text, .int (it_length), .ref xt_doors, .int (it_doorMany), .ref xt_label, .int (it_drawn), .ref qt_far, .ref xt_ring, .int (it_walker), .int (it_from), .ref xt_was, .int (it_steps), .int (it_faultAt), .int (it_mover)])), (qt_now, .inl (cy.1, 639, .inl (ft_now)))]) (wr := [(qt_far, .inl (cy.1, 210, .inl (ft_far)))]) (w1 := [(qt, .inr (11, [.ref qt_now, .ref xt_past, .int (it_saved), .ref xt_text, .int (it_length), .ref xt_doors, .int (it_doorMany), .ref xt_label, .int (it_drawn), .ref qt_far, .ref xt_ring, .int (it_walker), .int (it_from), .ref xt_was, .int (it_steps), .int (it_faultAt), .int (it_mover)])), (qt_now, .inl (cy.1, 639, .inl (ft_now)))]) hK hP hD hS hA hG [0, 1] [2] rfl rfl rfl rfl rfl (fun hU hPc => va_runV (As := [.int it_walker]) (rest := []) ⟨hx, hb, hml, hown, hts⟩ (c_X11_hasSign l dC dI cy G s.heap.size qt qt_now xt_past xt_text xt_doors xt_label qt_far xt_ring xt_was (it_saved) (it_length) (it_doorMany) (it_drawn) (it_walker) (it_from) (it_steps) (it_faultAt) (it_mover) N (ft_now) (it_walker) r5 hq_5) (cwV 1 hts gX11_goes_X11_hasSign rfl rfl rfl hdX11_hasSign ⟨Nat.le_of_ble_eq_true rfl, Nat.le_of_ble_eq_true rfl⟩) ⟨kBlind, (va_recv hK hP (ci := 11) (q0 := 0) rfl rfl), fun U h1 h2 => ⟨rfl, hU U h1 h2⟩⟩ rfl rfl hl.1 rfl (lv_room (Nat.le_of_ble_eq_true rfl)) dX11_goes_5 ⟨Nat.zero_le _, Nat.zero_le _⟩) (r5) (fun _ _ h => h) (fun _ _ h => h) (fun H locs hP hD hS => ?_)
  have hP : va_P (dC, dI) vwCl [(qt_far, .inl (cy.1, 210, .inl (ft_far))), (qt, .inr (11, [.ref qt_now, .ref xt_past, .int (it_saved), .ref xt_text, .int (it_length), .ref xt_doors, .int (it_doorMany), .ref xt_label, .int (it_drawn), .ref qt_far, .ref xt_ring, .int (it_walker), .int (it_from), .ref xt_was, .int (it_steps), .int (it_faultAt), .int (it_mover)])), (qt_now, .inl (cy.1, 639, .inl (ft_now)))] H := hP
  have hD : va_D A [(qt_far, .inl (cy.1, 210, .inl (ft_far))), (qt, .inr (11, [.ref qt_now, .ref xt_past, .int (it_saved), .ref xt_text, .int (it_length), .ref xt_doors, .int (it_doorMany), .ref xt_label, .int (it_drawn), .ref qt_far, .ref xt_ring, .int (it_walker), .int (it_from), .ref xt_was, .int (it_steps), .int (it_faultAt), .int (it_mover)])), (qt_now, .inl (cy.1, 639, .inl (ft_now)))] := hD
  refine lv_if_eq (tgt := 22) hx hb dX11_goes_8 (by decide) (fun hc_8 => ?_) (fun hc_8 => ?_)
  · rw [if_pos hc_8] at hf
    refine lv_iconst (v := (-1 : Int32)) hx hb dX11_goes_22 (by decide) ?_
    refine lv_istore_n (lv' := [(1, .int (-1 : Int32)), (0, .ref qt)]) hx hb dX11_goes_23 rfl hl (by decide) rfl (fun ls hl => ?_)
    refine lv_iconst (v := (1 : Int32)) hx hb dX11_goes_24 (by decide) ?_
    refine lv_istore_n (lv' := [(2, .int (1 : Int32)), (1, .int (-1 : Int32)), (0, .ref qt)]) hx hb dX11_goes_25 rfl hl (by decide) rfl (fun ls hl => ?_)
    exact B26 N ((-1 : Int32)) ((1 : Int32)) _ _ (hP.sub [1, 2, 0] rfl) (hD.sub [1, 2, 0] (by decide) rfl) hS _ (lv_sub hl [2, 1, 0] rfl) hf
  · rw [if_neg hc_8] at hf
    refine lv_aload_n hx hb dX11_goes_11 rfl (lv_at hl 0 rfl) ?_
    refine lv_aload_n hx hb dX11_goes_12 rfl (lv_at hl 0 rfl) ?_
    refine va_get (D := (dC, dI)) (ci := 11) (C := RX11) (T := TX11) (N := 17) hx hb hts (fun _ h => (List.mem_cons_of_mem _ (List.mem_append_right _ h))) hown hK hP 1 rfl rfl 11 (by decide) (hts _ (List.mem_cons_of_mem _ (List.mem_append_left _ (List.mem_append_left _ (List.mem_of_getElem? (i := 0) rfl))))) (fun _ h => h) rfl dX11_goes_13 ?_
    obtain ⟨r16, hq_16, hf⟩ := bnd1_s hf
    refine kcalli (wc := [(qt, .inr (11, [.ref qt_now, .ref xt_past, .int (it_saved), .ref xt_text, .int (it_length), .ref xt_doors, .int (it_doorMany), .ref xt_label, .int (it_drawn), .ref qt_far, .ref xt_ring, .int (it_walker), .int (it_from), .ref xt_was, .int (it_steps), .int (it_faultAt), .int (it_mover)])), (qt_now, .inl (cy.1, 639, .inl (ft_now))), (qt_far, .inl (cy.1, 210, .inl (ft_far)))]) (wr := []) (w1 := [(qt, .inr (11, [.ref qt_now, .ref xt_past, .int (it_saved), .ref xt_text, .int (it_length), .ref xt_doors, .int (it_doorMany), .ref xt_label, .int (it_drawn), .ref qt_far, .ref xt_ring, .int (it_walker), .int (it_from), .ref xt_was, .int (it_steps), .int (it_faultAt), .int (it_mover)])), (qt_now, .inl (cy.1, 639, .inl (ft_now))), (qt_far, .inl (cy.1, 210, .inl (ft_far)))]) hK hP hD hS hA hG [1, 2, 0] [] rfl rfl rfl rfl rfl (fun hU hPc => va_runV (As := [.int it_walker]) (rest := []) ⟨hx, hb, hml, hown, hts⟩ (c_X11_pointed l dC dI cy G H.size qt qt_now qt_far xt_past xt_text xt_doors xt_label xt_ring xt_was (it_saved) (it_length) (it_doorMany) (it_drawn) (it_walker) (it_from) (it_steps) (it_faultAt) (it_mover) N (ft_now) (ft_far) (it_walker) r16 hq_16) (cwV 1 hts gX11_goes_X11_pointed rfl rfl rfl hdX11_pointed ⟨Nat.le_of_ble_eq_true rfl, Nat.le_of_ble_eq_true rfl⟩) ⟨kBlind, (va_recv hK hP (ci := 11) (q0 := 1) rfl rfl), fun U h1 h2 => ⟨rfl, hU U h1 h2⟩⟩ rfl rfl hl.1 rfl (lv_room (Nat.le_of_ble_eq_true rfl)) dX11_goes_16 ⟨Nat.zero_le _, Nat.zero_le _⟩) (r16) (fun _ _ h => h) (fun _ _ h => h) (fun H locs hP hD hS => ?_)
    have hP : va_P (dC, dI) vwCl [(qt, .inr (11, [.ref qt_now, .ref xt_past, .int (it_saved), .ref xt_text, .int (it_length), .ref xt_doors, .int (it_doorMany), .ref xt_label, .int (it_drawn), .ref qt_far, .ref xt_ring, .int (it_walker), .int (it_from), .ref xt_was, .int (it_steps), .int (it_faultAt), .int (it_mover)])), (qt_now, .inl (cy.1, 639, .inl (ft_now))), (qt_far, .inl (cy.1, 210, .inl (ft_far)))] H := hP
    have hD : va_D A [(qt, .inr (11, [.ref qt_now, .ref xt_past, .int (it_saved), .ref xt_text, .int (it_length), .ref xt_doors, .int (it_doorMany), .ref xt_label, .int (it_drawn), .ref qt_far, .ref xt_ring, .int (it_walker), .int (it_from), .ref xt_was, .int (it_steps), .int (it_faultAt), .int (it_mover)])), (qt_now, .inl (cy.1, 639, .inl (ft_now))), (qt_far, .inl (cy.1, 210, .inl (ft_far)))] := hD
    refine lv_goto (tgt := 23) hx hb dX11_goes_19 (by decide) ?_
    refine lv_istore_n (lv' := [(1, .int r16), (0, .ref qt)]) hx hb dX11_goes_23 rfl hl (by decide) rfl (fun ls hl => ?_)
    refine lv_iconst (v := (1 : Int32)) hx hb dX11_goes_24 (by decide) ?_
    refine lv_istore_n (lv' := [(2, .int (1 : Int32)), (1, .int r16), (0, .ref qt)]) hx hb dX11_goes_25 rfl hl (by decide) rfl (fun ls hl => ?_)
    exact B26 N (r16) ((1 : Int32)) _ _ (hP.sub [0, 1, 2] rfl) (hD.sub [0, 1, 2] (by decide) rfl) hS _ (lv_sub hl [2, 1, 0] rfl) hf
theorem hdX11_goes : yX11_goes.cls = RX11 ∧ yX11_goes.cls ≠ "java/lang/invoke/MethodHandle" ∧ yX11_goes.cls ≠ "java/lang/invoke/VarHandle" ∧ (parseMethodDescriptor yX11_goes.desc).map (fun d => d.parameters.length) = some 0 := by decide +kernel
noncomputable def b_X11_walks_106 (N : Nat) (ft_now : Nat → Int32) (va1 : Int32) (k66 : Int32 → Int32 → Int32 → Int32 → (Nat → Int32) → (Nat → Int32) → (Nat → Int32) → Option (Int32 × Int32 × Int32 × (Nat → Int32) × (Nat → Int32) × (Nat → Int32))) (l3 : Int32) (s0 : Int32) (cit_walker : Int32) (cit_from : Int32) (cit_steps : Int32) (cft_far : Nat → Int32) (cft_ring : Nat → Int32) (cft_was : Nat → Int32) : Option (Int32 × Int32 × Int32 × (Nat → Int32) × (Nat → Int32) × (Nat → Int32)) :=
  if s0 = 0 then
    k66 (s0) (cit_walker) (cit_from) (cit_steps) (cft_far) (cft_ring) (cft_was)
  else
    bnd1 (f_X11_beside (ft_now) (cit_walker) (l3)) fun r118 =>
    if r118 < 0 ∨ 210 ≤ (r118).toNatClampNeg then none else
    k66 (s0) (r118) (((l3 + (2 : Int32)) - (l3 + (2 : Int32)) / (4 : Int32) * (4 : Int32))) ((cit_steps + (1 : Int32))) (cft_far) (cft_ring) ((upd cft_was (r118).toNatClampNeg (1 : Int32)))
noncomputable def b_X11_walks_66 (N : Nat) (ft_now : Nat → Int32) (va1 : Int32) : Nat → Int32 → Int32 → Int32 → Int32 → (Nat → Int32) → (Nat → Int32) → (Nat → Int32) → Option (Int32 × Int32 × Int32 × (Nat → Int32) × (Nat → Int32) × (Nat → Int32))
  | 0, _, _, _, _, _, _, _ => none
  | n + 1, l2, cit_walker, cit_from, cit_steps, cft_far, cft_ring, cft_was =>
    if va1 ≤ cit_steps then
      some (cit_walker, cit_from, cit_steps, cft_far, cft_ring, cft_was)
    else
      if cit_walker = (ft_now ((8 : Int32)).toNatClampNeg) then
        some (cit_walker, cit_from, cit_steps, cft_far, cft_ring, cft_was)
      else
        if l2 = 0 then
          some (cit_walker, cit_from, cit_steps, cft_far, cft_ring, cft_was)
        else
          bnd1 (f_X11_goes N (cit_walker) (cit_from) (ft_now) (cft_far)) fun r93 =>
          if r93 < 0 then
            b_X11_walks_106 N ft_now va1 (b_X11_walks_66 N ft_now va1 n) (r93) ((0 : Int32)) (cit_walker) (cit_from) (cit_steps) (cft_far) (cft_ring) (cft_was)
          else
            b_X11_walks_106 N ft_now va1 (b_X11_walks_66 N ft_now va1 n) (r93) ((1 : Int32)) (cit_walker) (cit_from) (cit_steps) (cft_far) (cft_ring) (cft_was)
noncomputable def b_X11_walks_13 (N : Nat) (ft_now : Nat → Int32) (va1 : Int32) : Nat → Int32 → Int32 → Int32 → Int32 → (Nat → Int32) → (Nat → Int32) → (Nat → Int32) → Option (Int32 × Int32 × Int32 × (Nat → Int32) × (Nat → Int32) × (Nat → Int32))
  | 0, _, _, _, _, _, _, _ => none
  | n + 1, l2, cit_walker, cit_from, cit_steps, cft_far, cft_ring, cft_was =>
    if (210 : Int32) ≤ l2 then
      if (ft_now ((7 : Int32)).toNatClampNeg) < 0 ∨ 210 ≤ ((ft_now ((7 : Int32)).toNatClampNeg)).toNatClampNeg then none else
      b_X11_walks_66 N ft_now va1 N ((1 : Int32)) ((ft_now ((7 : Int32)).toNatClampNeg)) ((2 : Int32)) ((0 : Int32)) (cft_far) (cft_ring) ((upd cft_was ((ft_now ((7 : Int32)).toNatClampNeg)).toNatClampNeg (1 : Int32)))
    else
      if l2 < 0 ∨ 210 ≤ (l2).toNatClampNeg then none else
      b_X11_walks_13 N ft_now va1 n ((l2 + (1 : Int32))) (cit_walker) (cit_from) (cit_steps) (cft_far) (cft_ring) ((upd cft_was (l2).toNatClampNeg (0 : Int32)))
noncomputable def f_X11_walks (N : Nat) (it_walker : Int32) (it_from : Int32) (it_steps : Int32) (ft_now : Nat → Int32) (ft_far : Nat → Int32) (ft_ring : Nat → Int32) (ft_was : Nat → Int32) (va1 : Int32) : Option (Int32 × Int32 × Int32 × (Nat → Int32) × (Nat → Int32) × (Nat → Int32)) :=
  bnd2 (f_X11_lays N (ft_now) (ft_far) (ft_ring) ((ft_now ((8 : Int32)).toNatClampNeg))) fun o8_0 o8_1 =>
  b_X11_walks_13 N ft_now va1 N ((0 : Int32)) (it_walker) (it_from) (it_steps) (o8_0) (o8_1) (ft_was)
abbrev rm_X11_walks : Room := { frames := 10, cells := 0, slots := 0, locals := 222 }
set_option maxHeartbeats 4000000 in
set_option maxRecDepth 100000 in
theorem c_X11_walks (l : Launch) (dC : Nat → ClassId) (dI : Nat → Nat → Nat) (cy : gC) (G : gT) (sz : Nat) (qt : Nat) (qt_now : Nat) (qt_far : Nat) (qt_ring : Nat) (qt_was : Nat) (xt_past : Nat) (xt_text : Nat) (xt_doors : Nat) (xt_label : Nat) (it_saved : Int32) (it_length : Int32) (it_doorMany : Int32) (it_drawn : Int32) (it_faultAt : Int32) (it_mover : Int32) (N : Nat) (it_walker : Int32) (it_from : Int32) (it_steps : Int32) (ft_now : Nat → Int32) (ft_far : Nat → Int32) (ft_ring : Nat → Int32) (ft_was : Nat → Int32) (va1 : Int32) (out : Int32 × Int32 × Int32 × (Nat → Int32) × (Nat → Int32) × (Nat → Int32)) (hf : f_X11_walks N it_walker it_from it_steps ft_now ft_far ft_ring ft_was va1 = some out) : Met l yX11_walks wsX11_walks rm_X11_walks (va_Pc [.ref qt, .int va1] (kP (dC, dI) cy G [(qt, .inr (11, [.ref qt_now, .ref xt_past, .int (it_saved), .ref xt_text, .int (it_length), .ref xt_doors, .int (it_doorMany), .ref xt_label, .int (it_drawn), .ref qt_far, .ref qt_ring, .int (it_walker), .int (it_from), .ref qt_was, .int (it_steps), .int (it_faultAt), .int (it_mover)])), (qt_now, .inl (cy.1, 639, .inl (ft_now))), (qt_far, .inl (cy.1, 210, .inl (ft_far))), (qt_ring, .inl (cy.1, 210, .inl (ft_ring))), (qt_was, .inl (cy.2.1, 210, .inl (ft_was)))] sz)) (va_Qv (fun (_ : Unit) => True) (fun _ => kQ (dC, dI) cy [(qt, .inr (11, [.ref qt_now, .ref xt_past, .int (it_saved), .ref xt_text, .int (it_length), .ref xt_doors, .int (it_doorMany), .ref xt_label, .int (it_drawn), .ref qt_far, .ref qt_ring, .int (out.1), .int (out.2.1), .ref qt_was, .int (out.2.2.1), .int (it_faultAt), .int (it_mover)])), (qt_now, .inl (cy.1, 639, .inl (ft_now))), (qt_far, .inl (cy.1, 210, .inl (out.2.2.2.1))), (qt_ring, .inl (cy.1, 210, .inl (out.2.2.2.2.1))), (qt_was, .inl (cy.2.1, 210, .inl (out.2.2.2.2.2)))] (va_A [(qt, .inr (11, [.ref qt_now, .ref xt_past, .int (it_saved), .ref xt_text, .int (it_length), .ref xt_doors, .int (it_doorMany), .ref xt_label, .int (it_drawn), .ref qt_far, .ref qt_ring, .int (it_walker), .int (it_from), .ref qt_was, .int (it_steps), .int (it_faultAt), .int (it_mover)])), (qt_now, .inl (cy.1, 639, .inl (ft_now))), (qt_far, .inl (cy.1, 210, .inl (ft_far))), (qt_ring, .inl (cy.1, 210, .inl (ft_ring))), (qt_was, .inl (cy.2.1, 210, .inl (ft_was)))] sz)) (va_A [(qt, .inr (11, [.ref qt_now, .ref xt_past, .int (it_saved), .ref xt_text, .int (it_length), .ref xt_doors, .int (it_doorMany), .ref xt_label, .int (it_drawn), .ref qt_far, .ref qt_ring, .int (it_walker), .int (it_from), .ref qt_was, .int (it_steps), .int (it_faultAt), .int (it_mover)])), (qt_now, .inl (cy.1, 639, .inl (ft_now))), (qt_far, .inl (cy.1, 210, .inl (ft_far))), (qt_ring, .inl (cy.1, 210, .inl (ft_ring))), (qt_was, .inl (cy.2.1, 210, .inl (ft_was)))] sz)) 0 0 (va_A [(qt, .inr (11, [.ref qt_now, .ref xt_past, .int (it_saved), .ref xt_text, .int (it_length), .ref xt_doors, .int (it_doorMany), .ref xt_label, .int (it_drawn), .ref qt_far, .ref qt_ring, .int (it_walker), .int (it_from), .ref qt_was, .int (it_steps), .int (it_faultAt), .int (it_mover)])), (qt_now, .inl (cy.1, 639, .inl (ft_now))), (qt_far, .inl (cy.1, 210, .inl (ft_far))), (qt_ring, .inl (cy.1, 210, .inl (ft_ring))), (qt_was, .inl (cy.2.1, 210, .inl (ft_was)))] sz) := by
  refine Met.ofW (cc := cX11_walks) (maxL := 4) (ret := none) (by decide) rfl ?_
  intro p e s m args below meth c s₁ B hml hv
  obtain ⟨rfl, hsz, hP, hK, hD0, hG⟩ := hv
  have hx := B.exec
  have hb := B.bytes
  have hr := B.returns
  have hts := atoms_spec (ws := wsX11_walks) B.pre
  have hown : s.vm.findClass RX11 = some m.cls := findClass_of_methodNamed B.named
  have hlocks := B.notSynchronized
  subst hsz
  have hD := hD0.self (sz := s.heap.size)
  generalize hAe : va_A [(qt, .inr (11, [.ref qt_now, .ref xt_past, .int (it_saved), .ref xt_text, .int (it_length), .ref xt_doors, .int (it_doorMany), .ref xt_label, .int (it_drawn), .ref qt_far, .ref qt_ring, .int (it_walker), .int (it_from), .ref qt_was, .int (it_steps), .int (it_faultAt), .int (it_mover)])), (qt_now, .inl (cy.1, 639, .inl (ft_now))), (qt_far, .inl (cy.1, 210, .inl (ft_far))), (qt_ring, .inl (cy.1, 210, .inl (ft_ring))), (qt_was, .inl (cy.2.1, 210, .inl (ft_was)))] s.heap.size = A at hD hG ⊢
  have hA : ∀ q : Nat, s.heap.size ≤ q → A q := fun q h => by rw [← hAe]; exact Or.inr h
  have hS : va_S A s.heap s.heap [] := va_S.rf
  have hP : va_P (dC, dI) vwCl [(qt, .inr (11, [.ref qt_now, .ref xt_past, .int (it_saved), .ref xt_text, .int (it_length), .ref xt_doors, .int (it_doorMany), .ref xt_label, .int (it_drawn), .ref qt_far, .ref qt_ring, .int (it_walker), .int (it_from), .ref qt_was, .int (it_steps), .int (it_faultAt), .int (it_mover)])), (qt_now, .inl (cy.1, 639, .inl (ft_now))), (qt_far, .inl (cy.1, 210, .inl (ft_far))), (qt_ring, .inl (cy.1, 210, .inl (ft_ring))), (qt_was, .inl (cy.2.1, 210, .inl (ft_was)))] s.heap := hP
  have hl := lv_entry ([.ref qt, .int va1]) (n := 4) (Nat.le_of_ble_eq_true rfl)
  rw [lg_entry_eq]
  generalize (lg_sl ([.ref qt, .int va1]) ++ List.replicate (4 - (lg_sl ([.ref qt, .int va1])).length) Slot.unset).toArray = ls at hl ⊢
  have hl : lv_has ls 4 [(0, .ref qt), (1, .int va1)] := hl
  refine kgen (fun Q hQ => ?_)
  have B66 : ∀ (n66 : Nat) (l2 : Int32) (cit_walker : Int32) (cit_from : Int32) (cit_steps : Int32) (cft_far : Nat → Int32) (cft_ring : Nat → Int32) (cft_was : Nat → Int32) (H : Heap) (locs : List Loc), va_P (dC, dI) vwCl [(qt, .inr (11, [.ref qt_now, .ref xt_past, .int (it_saved), .ref xt_text, .int (it_length), .ref xt_doors, .int (it_doorMany), .ref xt_label, .int (it_drawn), .ref qt_far, .ref qt_ring, .int (cit_walker), .int (cit_from), .ref qt_was, .int (cit_steps), .int (it_faultAt), .int (it_mover)])), (qt_now, .inl (cy.1, 639, .inl (ft_now))), (qt_far, .inl (cy.1, 210, .inl (cft_far))), (qt_ring, .inl (cy.1, 210, .inl (cft_ring))), (qt_was, .inl (cy.2.1, 210, .inl (cft_was)))] H → va_D A [(qt, .inr (11, [.ref qt_now, .ref xt_past, .int (it_saved), .ref xt_text, .int (it_length), .ref xt_doors, .int (it_doorMany), .ref xt_label, .int (it_drawn), .ref qt_far, .ref qt_ring, .int (cit_walker), .int (cit_from), .ref qt_was, .int (cit_steps), .int (it_faultAt), .int (it_mover)])), (qt_now, .inl (cy.1, 639, .inl (ft_now))), (qt_far, .inl (cy.1, 210, .inl (cft_far))), (qt_ring, .inl (cy.1, 210, .inl (cft_ring))), (qt_was, .inl (cy.2.1, 210, .inl (cft_was)))] → va_S A s.heap H locs → ∀ (ls : Array Slot), lv_has ls 4 [(0, .ref qt), (1, .int va1), (2, .int l2)] → b_X11_walks_66 N ft_now va1 n66 l2 cit_walker cit_from cit_steps cft_far cft_ring cft_was = some out → W p l e (headSpec wsX11_walks rm_X11_walks).room s m ([.ref qt, .int va1] : List Value).toArray below meth c H locs 0 0 Q (F0 m 66 ls []) := by
    intro n66
    induction n66 with
    | zero => intro l2 cit_walker cit_from cit_steps cft_far cft_ring cft_was H locs hP hD hS ls hl hf; rw [b_X11_walks_66] at hf; cases hf
    | succ n66 ih66 =>
      have B106 : ∀ (l3 : Int32) (s0 : Int32) (cit_walker : Int32) (cit_from : Int32) (cit_steps : Int32) (cft_far : Nat → Int32) (cft_ring : Nat → Int32) (cft_was : Nat → Int32) (H : Heap) (locs : List Loc), va_P (dC, dI) vwCl [(qt, .inr (11, [.ref qt_now, .ref xt_past, .int (it_saved), .ref xt_text, .int (it_length), .ref xt_doors, .int (it_doorMany), .ref xt_label, .int (it_drawn), .ref qt_far, .ref qt_ring, .int (cit_walker), .int (cit_from), .ref qt_was, .int (cit_steps), .int (it_faultAt), .int (it_mover)])), (qt_now, .inl (cy.1, 639, .inl (ft_now))), (qt_far, .inl (cy.1, 210, .inl (cft_far))), (qt_ring, .inl (cy.1, 210, .inl (cft_ring))), (qt_was, .inl (cy.2.1, 210, .inl (cft_was)))] H → va_D A [(qt, .inr (11, [.ref qt_now, .ref xt_past, .int (it_saved), .ref xt_text, .int (it_length), .ref xt_doors, .int (it_doorMany), .ref xt_label, .int (it_drawn), .ref qt_far, .ref qt_ring, .int (cit_walker), .int (cit_from), .ref qt_was, .int (cit_steps), .int (it_faultAt), .int (it_mover)])), (qt_now, .inl (cy.1, 639, .inl (ft_now))), (qt_far, .inl (cy.1, 210, .inl (cft_far))), (qt_ring, .inl (cy.1, 210, .inl (cft_ring))), (qt_was, .inl (cy.2.1, 210, .inl (cft_was)))] → va_S A s.heap H locs → ∀ (ls : Array Slot), lv_has ls 4 [(0, .ref qt), (1, .int va1), (3, .int l3)] → b_X11_walks_106 N ft_now va1 (b_X11_walks_66 N ft_now va1 n66) l3 s0 cit_walker cit_from cit_steps cft_far cft_ring cft_was = some out → W p l e (headSpec wsX11_walks rm_X11_walks).room s m ([.ref qt, .int va1] : List Value).toArray below meth c H locs 0 0 Q (F0 m 106 ls [.int s0]) := by
        intro l3 s0 cit_walker cit_from cit_steps cft_far cft_ring cft_was H locs hP hD hS ls hl hf
        rw [b_X11_walks_106] at hf
        refine lv_istore_n (lv' := [(2, .int s0), (0, .ref qt), (1, .int va1), (3, .int l3)]) hx hb dX11_walks_106 rfl hl (by decide) rfl (fun ls hl => ?_)
        refine lv_iload_n hx hb dX11_walks_107 rfl (lv_at hl 0 rfl) ?_
        refine lv_if_eq (tgt := 153) hx hb dX11_walks_108 (by decide) (fun hc_108 => ?_) (fun hc_108 => ?_)
        · rw [if_pos hc_108] at hf
          refine lv_goto (tgt := 66) hx hb dX11_walks_153 (by decide) ?_
          exact ih66 (s0) (cit_walker) (cit_from) (cit_steps) (cft_far) (cft_ring) (cft_was) _ _ (hP.sub [0, 1, 2, 3, 4] rfl) (hD.sub [0, 1, 2, 3, 4] (by decide) rfl) hS _ (lv_sub hl [1, 2, 0] rfl) hf
        · rw [if_neg hc_108] at hf
          refine lv_aload_n hx hb dX11_walks_111 rfl (lv_at hl 1 rfl) ?_
          refine lv_aload_n hx hb dX11_walks_112 rfl (lv_at hl 1 rfl) ?_
          refine lv_aload_n hx hb dX11_walks_113 rfl (lv_at hl 1 rfl) ?_
          refine va_get (D := (dC, dI)) (ci := 11) (C := RX11) (T := TX11) (N := 17) hx hb hts (fun _ h => (List.mem_cons_of_mem _ (List.mem_append_right _ h))) hown hK hP 0 rfl rfl 11 (by decide) (hts _ (List.mem_cons_of_mem _ (List.mem_append_left _ (List.mem_append_left _ (List.mem_of_getElem? (i := 2) rfl))))) (fun _ h => h) rfl dX11_walks_114 ?_
          refine lv_iload_n hx hb dX11_walks_117 rfl (lv_at hl 3 rfl) ?_
          obtain ⟨r118, hq_118, hf⟩ := bnd1_s hf
          refine kcalli (wc := [(qt, .inr (11, [.ref qt_now, .ref xt_past, .int (it_saved), .ref xt_text, .int (it_length), .ref xt_doors, .int (it_doorMany), .ref xt_label, .int (it_drawn), .ref qt_far, .ref qt_ring, .int (cit_walker), .int (cit_from), .ref qt_was, .int (cit_steps), .int (it_faultAt), .int (it_mover)])), (qt_now, .inl (cy.1, 639, .inl (ft_now)))]) (wr := [(qt_far, .inl (cy.1, 210, .inl (cft_far))), (qt_ring, .inl (cy.1, 210, .inl (cft_ring))), (qt_was, .inl (cy.2.1, 210, .inl (cft_was)))]) (w1 := [(qt, .inr (11, [.ref qt_now, .ref xt_past, .int (it_saved), .ref xt_text, .int (it_length), .ref xt_doors, .int (it_doorMany), .ref xt_label, .int (it_drawn), .ref qt_far, .ref qt_ring, .int (cit_walker), .int (cit_from), .ref qt_was, .int (cit_steps), .int (it_faultAt), .int (it_mover)])), (qt_now, .inl (cy.1, 639, .inl (ft_now)))]) hK hP hD hS hA hG [0, 1] [2, 3, 4] rfl rfl rfl rfl rfl (fun hU hPc => va_runV (As := [.int cit_walker, .int l3]) (rest := [.ref qt]) ⟨hx, hb, hml, hown, hts⟩ (c_X11_beside l dC dI cy G H.size qt qt_now xt_past xt_text xt_doors xt_label qt_far qt_ring qt_was (it_saved) (it_length) (it_doorMany) (it_drawn) (cit_walker) (cit_from) (cit_steps) (it_faultAt) (it_mover) (ft_now) (cit_walker) (l3) r118 hq_118) (cwV 2 hts gX11_walks_X11_beside rfl rfl rfl hdX11_beside ⟨Nat.le_of_ble_eq_true rfl, Nat.le_of_ble_eq_true rfl⟩) ⟨kBlind, (va_recv hK hP (ci := 11) (q0 := 0) rfl rfl), fun U h1 h2 => ⟨rfl, hU U h1 h2⟩⟩ rfl rfl hl.1 rfl (lv_room (Nat.le_of_ble_eq_true rfl)) dX11_walks_118 ⟨Nat.zero_le _, Nat.zero_le _⟩) (r118) (fun _ _ h => h) (fun _ _ h => h) (fun H locs hP hD hS => ?_)
          have hP : va_P (dC, dI) vwCl [(qt_far, .inl (cy.1, 210, .inl (cft_far))), (qt_ring, .inl (cy.1, 210, .inl (cft_ring))), (qt_was, .inl (cy.2.1, 210, .inl (cft_was))), (qt, .inr (11, [.ref qt_now, .ref xt_past, .int (it_saved), .ref xt_text, .int (it_length), .ref xt_doors, .int (it_doorMany), .ref xt_label, .int (it_drawn), .ref qt_far, .ref qt_ring, .int (cit_walker), .int (cit_from), .ref qt_was, .int (cit_steps), .int (it_faultAt), .int (it_mover)])), (qt_now, .inl (cy.1, 639, .inl (ft_now)))] H := hP
          have hD : va_D A [(qt_far, .inl (cy.1, 210, .inl (cft_far))), (qt_ring, .inl (cy.1, 210, .inl (cft_ring))), (qt_was, .inl (cy.2.1, 210, .inl (cft_was))), (qt, .inr (11, [.ref qt_now, .ref xt_past, .int (it_saved), .ref xt_text, .int (it_length), .ref xt_doors, .int (it_doorMany), .ref xt_label, .int (it_drawn), .ref qt_far, .ref qt_ring, .int (cit_walker), .int (cit_from), .ref qt_was, .int (cit_steps), .int (it_faultAt), .int (it_mover)])), (qt_now, .inl (cy.1, 639, .inl (ft_now)))] := hD
          refine va_put (D := (dC, dI)) (ci := 11) (v := .int r118) (ty := .int) (C := RX11) (T := TX11) (N := 17) hx hb hts (fun _ h => (List.mem_cons_of_mem _ (List.mem_append_right _ h))) tyX11 tyX11_ok nmX11 hown hK hP hD hS 3 rfl rfl 11 (by decide) (hts _ (List.mem_cons_of_mem _ (List.mem_append_left _ (List.mem_append_left _ (List.mem_of_getElem? (i := 2) rfl))))) (fun _ h => h) rfl (by decide +kernel) rfl rfl (Nat.le_of_ble_eq_true rfl) dX11_walks_121 (fun H locs hP hD hS => ?_)
          have hP : va_P (dC, dI) vwCl [(qt_far, .inl (cy.1, 210, .inl (cft_far))), (qt_ring, .inl (cy.1, 210, .inl (cft_ring))), (qt_was, .inl (cy.2.1, 210, .inl (cft_was))), (qt, .inr (11, [.ref qt_now, .ref xt_past, .int (it_saved), .ref xt_text, .int (it_length), .ref xt_doors, .int (it_doorMany), .ref xt_label, .int (it_drawn), .ref qt_far, .ref qt_ring, .int (r118), .int (cit_from), .ref qt_was, .int (cit_steps), .int (it_faultAt), .int (it_mover)])), (qt_now, .inl (cy.1, 639, .inl (ft_now)))] H := hP
          have hD : va_D A [(qt_far, .inl (cy.1, 210, .inl (cft_far))), (qt_ring, .inl (cy.1, 210, .inl (cft_ring))), (qt_was, .inl (cy.2.1, 210, .inl (cft_was))), (qt, .inr (11, [.ref qt_now, .ref xt_past, .int (it_saved), .ref xt_text, .int (it_length), .ref xt_doors, .int (it_doorMany), .ref xt_label, .int (it_drawn), .ref qt_far, .ref qt_ring, .int (r118), .int (cit_from), .ref qt_was, .int (cit_steps), .int (it_faultAt), .int (it_mover)])), (qt_now, .inl (cy.1, 639, .inl (ft_now)))] := hD
          refine lv_aload_n hx hb dX11_walks_124 rfl (lv_at hl 1 rfl) ?_
          refine lv_iload_n hx hb dX11_walks_125 rfl (lv_at hl 3 rfl) ?_
          refine lv_iconst (v := (2 : Int32)) hx hb dX11_walks_126 (by decide) ?_
          refine lv_iadd hx hb dX11_walks_127 ?_
          refine lv_iconst (v := (4 : Int32)) hx hb dX11_walks_128 (by decide) ?_
          refine lv_irem hx hb dX11_walks_129 (by decide) ?_
          refine va_put (D := (dC, dI)) (ci := 11) (v := .int ((l3 + (2 : Int32)) - (l3 + (2 : Int32)) / (4 : Int32) * (4 : Int32))) (ty := .int) (C := RX11) (T := TX11) (N := 17) hx hb hts (fun _ h => (List.mem_cons_of_mem _ (List.mem_append_right _ h))) tyX11 tyX11_ok nmX11 hown hK hP hD hS 3 rfl rfl 12 (by decide) (hts _ (List.mem_cons_of_mem _ (List.mem_append_left _ (List.mem_append_left _ (List.mem_of_getElem? (i := 3) rfl))))) (fun _ h => h) rfl (by decide +kernel) rfl rfl (Nat.le_of_ble_eq_true rfl) dX11_walks_130 (fun H locs hP hD hS => ?_)
          have hP : va_P (dC, dI) vwCl [(qt_far, .inl (cy.1, 210, .inl (cft_far))), (qt_ring, .inl (cy.1, 210, .inl (cft_ring))), (qt_was, .inl (cy.2.1, 210, .inl (cft_was))), (qt, .inr (11, [.ref qt_now, .ref xt_past, .int (it_saved), .ref xt_text, .int (it_length), .ref xt_doors, .int (it_doorMany), .ref xt_label, .int (it_drawn), .ref qt_far, .ref qt_ring, .int (r118), .int (((l3 + (2 : Int32)) - (l3 + (2 : Int32)) / (4 : Int32) * (4 : Int32))), .ref qt_was, .int (cit_steps), .int (it_faultAt), .int (it_mover)])), (qt_now, .inl (cy.1, 639, .inl (ft_now)))] H := hP
          have hD : va_D A [(qt_far, .inl (cy.1, 210, .inl (cft_far))), (qt_ring, .inl (cy.1, 210, .inl (cft_ring))), (qt_was, .inl (cy.2.1, 210, .inl (cft_was))), (qt, .inr (11, [.ref qt_now, .ref xt_past, .int (it_saved), .ref xt_text, .int (it_length), .ref xt_doors, .int (it_doorMany), .ref xt_label, .int (it_drawn), .ref qt_far, .ref qt_ring, .int (r118), .int (((l3 + (2 : Int32)) - (l3 + (2 : Int32)) / (4 : Int32) * (4 : Int32))), .ref qt_was, .int (cit_steps), .int (it_faultAt), .int (it_mover)])), (qt_now, .inl (cy.1, 639, .inl (ft_now)))] := hD
          refine lv_aload_n hx hb dX11_walks_133 rfl (lv_at hl 1 rfl) ?_
          refine va_get (D := (dC, dI)) (ci := 11) (C := RX11) (T := TX11) (N := 17) hx hb hts (fun _ h => (List.mem_cons_of_mem _ (List.mem_append_right _ h))) hown hK hP 3 rfl rfl 13 (by decide) (hts _ (List.mem_cons_of_mem _ (List.mem_append_left _ (List.mem_append_left _ (List.mem_of_getElem? (i := 1) rfl))))) (fun _ h => h) rfl dX11_walks_134 ?_
          refine lv_aload_n hx hb dX11_walks_137 rfl (lv_at hl 1 rfl) ?_
          refine va_get (D := (dC, dI)) (ci := 11) (C := RX11) (T := TX11) (N := 17) hx hb hts (fun _ h => (List.mem_cons_of_mem _ (List.mem_append_right _ h))) hown hK hP 3 rfl rfl 11 (by decide) (hts _ (List.mem_cons_of_mem _ (List.mem_append_left _ (List.mem_append_left _ (List.mem_of_getElem? (i := 2) rfl))))) (fun _ h => h) rfl dX11_walks_138 ?_
          refine lv_iconst (v := (1 : Int32)) hx hb dX11_walks_141 (by decide) ?_
          obtain ⟨hk_142, hf⟩ := chk_s hf
          refine va_zast hx hb hK hP hD hS 2 1 rfl rfl hk_142 dX11_walks_142 (fun H locs hP hD hS => ?_)
          have hP : va_P (dC, dI) vwCl [(qt_far, .inl (cy.1, 210, .inl (cft_far))), (qt_ring, .inl (cy.1, 210, .inl (cft_ring))), (qt_was, .inl (cy.2.1, 210, .inl ((upd cft_was (r118).toNatClampNeg (1 : Int32))))), (qt, .inr (11, [.ref qt_now, .ref xt_past, .int (it_saved), .ref xt_text, .int (it_length), .ref xt_doors, .int (it_doorMany), .ref xt_label, .int (it_drawn), .ref qt_far, .ref qt_ring, .int (r118), .int (((l3 + (2 : Int32)) - (l3 + (2 : Int32)) / (4 : Int32) * (4 : Int32))), .ref qt_was, .int (cit_steps), .int (it_faultAt), .int (it_mover)])), (qt_now, .inl (cy.1, 639, .inl (ft_now)))] H := hP
          have hD : va_D A [(qt_far, .inl (cy.1, 210, .inl (cft_far))), (qt_ring, .inl (cy.1, 210, .inl (cft_ring))), (qt_was, .inl (cy.2.1, 210, .inl ((upd cft_was (r118).toNatClampNeg (1 : Int32))))), (qt, .inr (11, [.ref qt_now, .ref xt_past, .int (it_saved), .ref xt_text, .int (it_length), .ref xt_doors, .int (it_doorMany), .ref xt_label, .int (it_drawn), .ref qt_far, .ref qt_ring, .int (r118), .int (((l3 + (2 : Int32)) - (l3 + (2 : Int32)) / (4 : Int32) * (4 : Int32))), .ref qt_was, .int (cit_steps), .int (it_faultAt), .int (it_mover)])), (qt_now, .inl (cy.1, 639, .inl (ft_now)))] := hD
          refine lv_aload_n hx hb dX11_walks_143 rfl (lv_at hl 1 rfl) ?_
          refine lv_dup hx hb dX11_walks_144 rfl ?_
          refine va_get (D := (dC, dI)) (ci := 11) (C := RX11) (T := TX11) (N := 17) hx hb hts (fun _ h => (List.mem_cons_of_mem _ (List.mem_append_right _ h))) hown hK hP 3 rfl rfl 14 (by decide) (hts _ (List.mem_cons_of_mem _ (List.mem_append_left _ (List.mem_append_left _ (List.mem_of_getElem? (i := 4) rfl))))) (fun _ h => h) rfl dX11_walks_145 ?_
          refine lv_iconst (v := (1 : Int32)) hx hb dX11_walks_148 (by decide) ?_
          refine lv_iadd hx hb dX11_walks_149 ?_
          refine va_put (D := (dC, dI)) (ci := 11) (v := .int (cit_steps + (1 : Int32))) (ty := .int) (C := RX11) (T := TX11) (N := 17) hx hb hts (fun _ h => (List.mem_cons_of_mem _ (List.mem_append_right _ h))) tyX11 tyX11_ok nmX11 hown hK hP hD hS 3 rfl rfl 14 (by decide) (hts _ (List.mem_cons_of_mem _ (List.mem_append_left _ (List.mem_append_left _ (List.mem_of_getElem? (i := 4) rfl))))) (fun _ h => h) rfl (by decide +kernel) rfl rfl (Nat.le_of_ble_eq_true rfl) dX11_walks_150 (fun H locs hP hD hS => ?_)
          have hP : va_P (dC, dI) vwCl [(qt_far, .inl (cy.1, 210, .inl (cft_far))), (qt_ring, .inl (cy.1, 210, .inl (cft_ring))), (qt_was, .inl (cy.2.1, 210, .inl ((upd cft_was (r118).toNatClampNeg (1 : Int32))))), (qt, .inr (11, [.ref qt_now, .ref xt_past, .int (it_saved), .ref xt_text, .int (it_length), .ref xt_doors, .int (it_doorMany), .ref xt_label, .int (it_drawn), .ref qt_far, .ref qt_ring, .int (r118), .int (((l3 + (2 : Int32)) - (l3 + (2 : Int32)) / (4 : Int32) * (4 : Int32))), .ref qt_was, .int ((cit_steps + (1 : Int32))), .int (it_faultAt), .int (it_mover)])), (qt_now, .inl (cy.1, 639, .inl (ft_now)))] H := hP
          have hD : va_D A [(qt_far, .inl (cy.1, 210, .inl (cft_far))), (qt_ring, .inl (cy.1, 210, .inl (cft_ring))), (qt_was, .inl (cy.2.1, 210, .inl ((upd cft_was (r118).toNatClampNeg (1 : Int32))))), (qt, .inr (11, [.ref qt_now, .ref xt_past, .int (it_saved), .ref xt_text, .int (it_length), .ref xt_doors, .int (it_doorMany), .ref xt_label, .int (it_drawn), .ref qt_far, .ref qt_ring, .int (r118), .int (((l3 + (2 : Int32)) - (l3 + (2 : Int32)) / (4 : Int32) * (4 : Int32))), .ref qt_was, .int ((cit_steps + (1 : Int32))), .int (it_faultAt), .int (it_mover)])), (qt_now, .inl (cy.1, 639, .inl (ft_now)))] := hD
          refine lv_goto (tgt := 66) hx hb dX11_walks_153 (by decide) ?_
          exact ih66 (s0) (r118) (((l3 + (2 : Int32)) - (l3 + (2 : Int32)) / (4 : Int32) * (4 : Int32))) ((cit_steps + (1 : Int32))) (cft_far) (cft_ring) ((upd cft_was (r118).toNatClampNeg (1 : Int32))) _ _ (hP.sub [3, 4, 0, 1, 2] rfl) (hD.sub [3, 4, 0, 1, 2] (by decide) rfl) hS _ (lv_sub hl [1, 2, 0] rfl) hf
      intro l2 cit_walker cit_from cit_steps cft_far cft_ring cft_was H locs hP hD hS ls hl hf
      rw [b_X11_walks_66] at hf
      refine lv_aload_n hx hb dX11_walks_66 rfl (lv_at hl 0 rfl) ?_
      refine va_get (D := (dC, dI)) (ci := 11) (C := RX11) (T := TX11) (N := 17) hx hb hts (fun _ h => (List.mem_cons_of_mem _ (List.mem_append_right _ h))) hown hK hP 0 rfl rfl 14 (by decide) (hts _ (List.mem_cons_of_mem _ (List.mem_append_left _ (List.mem_append_left _ (List.mem_of_getElem? (i := 4) rfl))))) (fun _ h => h) rfl dX11_walks_67 ?_
      refine lv_iload_n hx hb dX11_walks_70 rfl (lv_at hl 1 rfl) ?_
      refine lv_icmp_ge (tgt := 156) hx hb dX11_walks_71 (by decide) (fun hc_71 => ?_) (fun hc_71 => ?_)
      · rw [if_pos hc_71] at hf
        cases hf
        subst hQ
        exact kvret hx hb hr hlocks hK (hP.sub [0, 1, 2, 3, 4] rfl) (hD.sub [0, 1, 2, 3, 4] (by decide) rfl) hS trivial dX11_walks_156
      · rw [if_neg hc_71] at hf
        refine lv_aload_n hx hb dX11_walks_74 rfl (lv_at hl 0 rfl) ?_
        refine va_get (D := (dC, dI)) (ci := 11) (C := RX11) (T := TX11) (N := 17) hx hb hts (fun _ h => (List.mem_cons_of_mem _ (List.mem_append_right _ h))) hown hK hP 0 rfl rfl 11 (by decide) (hts _ (List.mem_cons_of_mem _ (List.mem_append_left _ (List.mem_append_left _ (List.mem_of_getElem? (i := 2) rfl))))) (fun _ h => h) rfl dX11_walks_75 ?_
        refine lv_aload_n hx hb dX11_walks_78 rfl (lv_at hl 0 rfl) ?_
        refine va_get (D := (dC, dI)) (ci := 11) (C := RX11) (T := TX11) (N := 17) hx hb hts (fun _ h => (List.mem_cons_of_mem _ (List.mem_append_right _ h))) hown hK hP 0 rfl rfl 0 (by decide) (hts _ (List.mem_cons_of_mem _ (List.mem_append_left _ (List.mem_append_left _ (List.mem_of_getElem? (i := 0) rfl))))) (fun _ h => h) rfl dX11_walks_79 ?_
        refine lv_bipush (v := (8 : Int32)) hx hb dX11_walks_82 (by decide) ?_
        refine va_iald hx hb hK hP 1 0 rfl rfl (by unfold vp_in; decide) dX11_walks_84 ?_
        refine lv_icmp_eq (tgt := 156) hx hb dX11_walks_85 (by decide) (fun hc_85 => ?_) (fun hc_85 => ?_)
        · rw [if_pos hc_85] at hf
          cases hf
          subst hQ
          exact kvret hx hb hr hlocks hK (hP.sub [0, 1, 2, 3, 4] rfl) (hD.sub [0, 1, 2, 3, 4] (by decide) rfl) hS trivial dX11_walks_156
        · rw [if_neg hc_85] at hf
          refine lv_iload_n hx hb dX11_walks_88 rfl (lv_at hl 2 rfl) ?_
          refine lv_if_eq (tgt := 156) hx hb dX11_walks_89 (by decide) (fun hc_89 => ?_) (fun hc_89 => ?_)
          · rw [if_pos hc_89] at hf
            cases hf
            subst hQ
            exact kvret hx hb hr hlocks hK (hP.sub [0, 1, 2, 3, 4] rfl) (hD.sub [0, 1, 2, 3, 4] (by decide) rfl) hS trivial dX11_walks_156
          · rw [if_neg hc_89] at hf
            refine lv_aload_n hx hb dX11_walks_92 rfl (lv_at hl 0 rfl) ?_
            obtain ⟨r93, hq_93, hf⟩ := bnd1_s hf
            refine kcalli (wc := [(qt, .inr (11, [.ref qt_now, .ref xt_past, .int (it_saved), .ref xt_text, .int (it_length), .ref xt_doors, .int (it_doorMany), .ref xt_label, .int (it_drawn), .ref qt_far, .ref qt_ring, .int (cit_walker), .int (cit_from), .ref qt_was, .int (cit_steps), .int (it_faultAt), .int (it_mover)])), (qt_now, .inl (cy.1, 639, .inl (ft_now))), (qt_far, .inl (cy.1, 210, .inl (cft_far)))]) (wr := [(qt_ring, .inl (cy.1, 210, .inl (cft_ring))), (qt_was, .inl (cy.2.1, 210, .inl (cft_was)))]) (w1 := [(qt, .inr (11, [.ref qt_now, .ref xt_past, .int (it_saved), .ref xt_text, .int (it_length), .ref xt_doors, .int (it_doorMany), .ref xt_label, .int (it_drawn), .ref qt_far, .ref qt_ring, .int (cit_walker), .int (cit_from), .ref qt_was, .int (cit_steps), .int (it_faultAt), .int (it_mover)])), (qt_now, .inl (cy.1, 639, .inl (ft_now))), (qt_far, .inl (cy.1, 210, .inl (cft_far)))]) hK hP hD hS hA hG [0, 1, 2] [3, 4] rfl rfl rfl rfl rfl (fun hU hPc => va_runV (As := []) (rest := []) ⟨hx, hb, hml, hown, hts⟩ (c_X11_goes l dC dI cy G H.size qt qt_now qt_far xt_past xt_text xt_doors xt_label qt_ring qt_was (it_saved) (it_length) (it_doorMany) (it_drawn) (cit_steps) (it_faultAt) (it_mover) N (cit_walker) (cit_from) (ft_now) (cft_far) r93 hq_93) (cwV 0 hts gX11_walks_X11_goes rfl rfl rfl hdX11_goes ⟨Nat.le_of_ble_eq_true rfl, Nat.le_of_ble_eq_true rfl⟩) ⟨kBlind, (va_recv hK hP (ci := 11) (q0 := 0) rfl rfl), fun U h1 h2 => ⟨rfl, hU U h1 h2⟩⟩ rfl rfl hl.1 rfl (lv_room (Nat.le_of_ble_eq_true rfl)) dX11_walks_93 ⟨Nat.zero_le _, Nat.zero_le _⟩) (r93) (fun _ _ h => h) (fun _ _ h => h) (fun H locs hP hD hS => ?_)
            have hP : va_P (dC, dI) vwCl [(qt_ring, .inl (cy.1, 210, .inl (cft_ring))), (qt_was, .inl (cy.2.1, 210, .inl (cft_was))), (qt, .inr (11, [.ref qt_now, .ref xt_past, .int (it_saved), .ref xt_text, .int (it_length), .ref xt_doors, .int (it_doorMany), .ref xt_label, .int (it_drawn), .ref qt_far, .ref qt_ring, .int (cit_walker), .int (cit_from), .ref qt_was, .int (cit_steps), .int (it_faultAt), .int (it_mover)])), (qt_now, .inl (cy.1, 639, .inl (ft_now))), (qt_far, .inl (cy.1, 210, .inl (cft_far)))] H := hP
            have hD : va_D A [(qt_ring, .inl (cy.1, 210, .inl (cft_ring))), (qt_was, .inl (cy.2.1, 210, .inl (cft_was))), (qt, .inr (11, [.ref qt_now, .ref xt_past, .int (it_saved), .ref xt_text, .int (it_length), .ref xt_doors, .int (it_doorMany), .ref xt_label, .int (it_drawn), .ref qt_far, .ref qt_ring, .int (cit_walker), .int (cit_from), .ref qt_was, .int (cit_steps), .int (it_faultAt), .int (it_mover)])), (qt_now, .inl (cy.1, 639, .inl (ft_now))), (qt_far, .inl (cy.1, 210, .inl (cft_far)))] := hD
            refine lv_istore_n (lv' := [(3, .int r93), (0, .ref qt), (1, .int va1), (2, .int l2)]) hx hb dX11_walks_96 rfl hl (by decide) rfl (fun ls hl => ?_)
            refine lv_iload_n hx hb dX11_walks_97 rfl (lv_at hl 0 rfl) ?_
            refine lv_if_lt (tgt := 105) hx hb dX11_walks_98 (by decide) (fun hc_98 => ?_) (fun hc_98 => ?_)
            · rw [if_pos hc_98] at hf
              refine lv_iconst (v := (0 : Int32)) hx hb dX11_walks_105 (by decide) ?_
              exact B106 (r93) ((0 : Int32)) (cit_walker) (cit_from) (cit_steps) (cft_far) (cft_ring) (cft_was) _ _ (hP.sub [2, 3, 4, 0, 1] rfl) (hD.sub [2, 3, 4, 0, 1] (by decide) rfl) hS _ (lv_sub hl [1, 2, 0] rfl) hf
            · rw [if_neg hc_98] at hf
              refine lv_iconst (v := (1 : Int32)) hx hb dX11_walks_101 (by decide) ?_
              refine lv_goto (tgt := 106) hx hb dX11_walks_102 (by decide) ?_
              exact B106 (r93) ((1 : Int32)) (cit_walker) (cit_from) (cit_steps) (cft_far) (cft_ring) (cft_was) _ _ (hP.sub [2, 3, 4, 0, 1] rfl) (hD.sub [2, 3, 4, 0, 1] (by decide) rfl) hS _ (lv_sub hl [1, 2, 0] rfl) hf
  have B13 : ∀ (n13 : Nat) (l2 : Int32) (cit_walker : Int32) (cit_from : Int32) (cit_steps : Int32) (cft_far : Nat → Int32) (cft_ring : Nat → Int32) (cft_was : Nat → Int32) (H : Heap) (locs : List Loc), va_P (dC, dI) vwCl [(qt, .inr (11, [.ref qt_now, .ref xt_past, .int (it_saved), .ref xt_text, .int (it_length), .ref xt_doors, .int (it_doorMany), .ref xt_label, .int (it_drawn), .ref qt_far, .ref qt_ring, .int (cit_walker), .int (cit_from), .ref qt_was, .int (cit_steps), .int (it_faultAt), .int (it_mover)])), (qt_now, .inl (cy.1, 639, .inl (ft_now))), (qt_far, .inl (cy.1, 210, .inl (cft_far))), (qt_ring, .inl (cy.1, 210, .inl (cft_ring))), (qt_was, .inl (cy.2.1, 210, .inl (cft_was)))] H → va_D A [(qt, .inr (11, [.ref qt_now, .ref xt_past, .int (it_saved), .ref xt_text, .int (it_length), .ref xt_doors, .int (it_doorMany), .ref xt_label, .int (it_drawn), .ref qt_far, .ref qt_ring, .int (cit_walker), .int (cit_from), .ref qt_was, .int (cit_steps), .int (it_faultAt), .int (it_mover)])), (qt_now, .inl (cy.1, 639, .inl (ft_now))), (qt_far, .inl (cy.1, 210, .inl (cft_far))), (qt_ring, .inl (cy.1, 210, .inl (cft_ring))), (qt_was, .inl (cy.2.1, 210, .inl (cft_was)))] → va_S A s.heap H locs → ∀ (ls : Array Slot), lv_has ls 4 [(0, .ref qt), (1, .int va1), (2, .int l2)] → b_X11_walks_13 N ft_now va1 n13 l2 cit_walker cit_from cit_steps cft_far cft_ring cft_was = some out → W p l e (headSpec wsX11_walks rm_X11_walks).room s m ([.ref qt, .int va1] : List Value).toArray below meth c H locs 0 0 Q (F0 m 13 ls []) := by
    intro n13
    induction n13 with
    | zero => intro l2 cit_walker cit_from cit_steps cft_far cft_ring cft_was H locs hP hD hS ls hl hf; rw [b_X11_walks_13] at hf; cases hf
    | succ n13 ih13 =>
      intro l2 cit_walker cit_from cit_steps cft_far cft_ring cft_was H locs hP hD hS ls hl hf
      rw [b_X11_walks_13] at hf
      refine lv_iload_n hx hb dX11_walks_13 rfl (lv_at hl 2 rfl) ?_
      refine lv_sipush (v := (210 : Int32)) hx hb dX11_walks_14 (by decide) ?_
      refine lv_icmp_ge (tgt := 33) hx hb dX11_walks_17 (by decide) (fun hc_17 => ?_) (fun hc_17 => ?_)
      · rw [if_pos hc_17] at hf
        refine lv_aload_n hx hb dX11_walks_33 rfl (lv_at hl 0 rfl) ?_
        refine lv_aload_n hx hb dX11_walks_34 rfl (lv_at hl 0 rfl) ?_
        refine va_get (D := (dC, dI)) (ci := 11) (C := RX11) (T := TX11) (N := 17) hx hb hts (fun _ h => (List.mem_cons_of_mem _ (List.mem_append_right _ h))) hown hK hP 0 rfl rfl 0 (by decide) (hts _ (List.mem_cons_of_mem _ (List.mem_append_left _ (List.mem_append_left _ (List.mem_of_getElem? (i := 0) rfl))))) (fun _ h => h) rfl dX11_walks_35 ?_
        refine lv_bipush (v := (7 : Int32)) hx hb dX11_walks_38 (by decide) ?_
        refine va_iald hx hb hK hP 1 0 rfl rfl (by unfold vp_in; decide) dX11_walks_40 ?_
        refine va_put (D := (dC, dI)) (ci := 11) (v := .int (ft_now ((7 : Int32)).toNatClampNeg)) (ty := .int) (C := RX11) (T := TX11) (N := 17) hx hb hts (fun _ h => (List.mem_cons_of_mem _ (List.mem_append_right _ h))) tyX11 tyX11_ok nmX11 hown hK hP hD hS 0 rfl rfl 11 (by decide) (hts _ (List.mem_cons_of_mem _ (List.mem_append_left _ (List.mem_append_left _ (List.mem_of_getElem? (i := 2) rfl))))) (fun _ h => h) rfl (by decide +kernel) rfl rfl (Nat.le_of_ble_eq_true rfl) dX11_walks_41 (fun H locs hP hD hS => ?_)
        have hP : va_P (dC, dI) vwCl [(qt, .inr (11, [.ref qt_now, .ref xt_past, .int (it_saved), .ref xt_text, .int (it_length), .ref xt_doors, .int (it_doorMany), .ref xt_label, .int (it_drawn), .ref qt_far, .ref qt_ring, .int ((ft_now ((7 : Int32)).toNatClampNeg)), .int (cit_from), .ref qt_was, .int (cit_steps), .int (it_faultAt), .int (it_mover)])), (qt_now, .inl (cy.1, 639, .inl (ft_now))), (qt_far, .inl (cy.1, 210, .inl (cft_far))), (qt_ring, .inl (cy.1, 210, .inl (cft_ring))), (qt_was, .inl (cy.2.1, 210, .inl (cft_was)))] H := hP
        have hD : va_D A [(qt, .inr (11, [.ref qt_now, .ref xt_past, .int (it_saved), .ref xt_text, .int (it_length), .ref xt_doors, .int (it_doorMany), .ref xt_label, .int (it_drawn), .ref qt_far, .ref qt_ring, .int ((ft_now ((7 : Int32)).toNatClampNeg)), .int (cit_from), .ref qt_was, .int (cit_steps), .int (it_faultAt), .int (it_mover)])), (qt_now, .inl (cy.1, 639, .inl (ft_now))), (qt_far, .inl (cy.1, 210, .inl (cft_far))), (qt_ring, .inl (cy.1, 210, .inl (cft_ring))), (qt_was, .inl (cy.2.1, 210, .inl (cft_was)))] := hD
        refine lv_aload_n hx hb dX11_walks_44 rfl (lv_at hl 0 rfl) ?_
        refine lv_iconst (v := (2 : Int32)) hx hb dX11_walks_45 (by decide) ?_
        refine va_put (D := (dC, dI)) (ci := 11) (v := .int (2 : Int32)) (ty := .int) (C := RX11) (T := TX11) (N := 17) hx hb hts (fun _ h => (List.mem_cons_of_mem _ (List.mem_append_right _ h))) tyX11 tyX11_ok nmX11 hown hK hP hD hS 0 rfl rfl 12 (by decide) (hts _ (List.mem_cons_of_mem _ (List.mem_append_left _ (List.mem_append_left _ (List.mem_of_getElem? (i := 3) rfl))))) (fun _ h => h) rfl (by decide +kernel) rfl rfl (Nat.le_of_ble_eq_true rfl) dX11_walks_46 (fun H locs hP hD hS => ?_)
        have hP : va_P (dC, dI) vwCl [(qt, .inr (11, [.ref qt_now, .ref xt_past, .int (it_saved), .ref xt_text, .int (it_length), .ref xt_doors, .int (it_doorMany), .ref xt_label, .int (it_drawn), .ref qt_far, .ref qt_ring, .int ((ft_now ((7 : Int32)).toNatClampNeg)), .int ((2 : Int32)), .ref qt_was, .int (cit_steps), .int (it_faultAt), .int (it_mover)])), (qt_now, .inl (cy.1, 639, .inl (ft_now))), (qt_far, .inl (cy.1, 210, .inl (cft_far))), (qt_ring, .inl (cy.1, 210, .inl (cft_ring))), (qt_was, .inl (cy.2.1, 210, .inl (cft_was)))] H := hP
        have hD : va_D A [(qt, .inr (11, [.ref qt_now, .ref xt_past, .int (it_saved), .ref xt_text, .int (it_length), .ref xt_doors, .int (it_doorMany), .ref xt_label, .int (it_drawn), .ref qt_far, .ref qt_ring, .int ((ft_now ((7 : Int32)).toNatClampNeg)), .int ((2 : Int32)), .ref qt_was, .int (cit_steps), .int (it_faultAt), .int (it_mover)])), (qt_now, .inl (cy.1, 639, .inl (ft_now))), (qt_far, .inl (cy.1, 210, .inl (cft_far))), (qt_ring, .inl (cy.1, 210, .inl (cft_ring))), (qt_was, .inl (cy.2.1, 210, .inl (cft_was)))] := hD
        refine lv_aload_n hx hb dX11_walks_49 rfl (lv_at hl 0 rfl) ?_
        refine lv_iconst (v := (0 : Int32)) hx hb dX11_walks_50 (by decide) ?_
        refine va_put (D := (dC, dI)) (ci := 11) (v := .int (0 : Int32)) (ty := .int) (C := RX11) (T := TX11) (N := 17) hx hb hts (fun _ h => (List.mem_cons_of_mem _ (List.mem_append_right _ h))) tyX11 tyX11_ok nmX11 hown hK hP hD hS 0 rfl rfl 14 (by decide) (hts _ (List.mem_cons_of_mem _ (List.mem_append_left _ (List.mem_append_left _ (List.mem_of_getElem? (i := 4) rfl))))) (fun _ h => h) rfl (by decide +kernel) rfl rfl (Nat.le_of_ble_eq_true rfl) dX11_walks_51 (fun H locs hP hD hS => ?_)
        have hP : va_P (dC, dI) vwCl [(qt, .inr (11, [.ref qt_now, .ref xt_past, .int (it_saved), .ref xt_text, .int (it_length), .ref xt_doors, .int (it_doorMany), .ref xt_label, .int (it_drawn), .ref qt_far, .ref qt_ring, .int ((ft_now ((7 : Int32)).toNatClampNeg)), .int ((2 : Int32)), .ref qt_was, .int ((0 : Int32)), .int (it_faultAt), .int (it_mover)])), (qt_now, .inl (cy.1, 639, .inl (ft_now))), (qt_far, .inl (cy.1, 210, .inl (cft_far))), (qt_ring, .inl (cy.1, 210, .inl (cft_ring))), (qt_was, .inl (cy.2.1, 210, .inl (cft_was)))] H := hP
        have hD : va_D A [(qt, .inr (11, [.ref qt_now, .ref xt_past, .int (it_saved), .ref xt_text, .int (it_length), .ref xt_doors, .int (it_doorMany), .ref xt_label, .int (it_drawn), .ref qt_far, .ref qt_ring, .int ((ft_now ((7 : Int32)).toNatClampNeg)), .int ((2 : Int32)), .ref qt_was, .int ((0 : Int32)), .int (it_faultAt), .int (it_mover)])), (qt_now, .inl (cy.1, 639, .inl (ft_now))), (qt_far, .inl (cy.1, 210, .inl (cft_far))), (qt_ring, .inl (cy.1, 210, .inl (cft_ring))), (qt_was, .inl (cy.2.1, 210, .inl (cft_was)))] := hD
        refine lv_aload_n hx hb dX11_walks_54 rfl (lv_at hl 0 rfl) ?_
        refine va_get (D := (dC, dI)) (ci := 11) (C := RX11) (T := TX11) (N := 17) hx hb hts (fun _ h => (List.mem_cons_of_mem _ (List.mem_append_right _ h))) hown hK hP 0 rfl rfl 13 (by decide) (hts _ (List.mem_cons_of_mem _ (List.mem_append_left _ (List.mem_append_left _ (List.mem_of_getElem? (i := 1) rfl))))) (fun _ h => h) rfl dX11_walks_55 ?_
        refine lv_aload_n hx hb dX11_walks_58 rfl (lv_at hl 0 rfl) ?_
        refine va_get (D := (dC, dI)) (ci := 11) (C := RX11) (T := TX11) (N := 17) hx hb hts (fun _ h => (List.mem_cons_of_mem _ (List.mem_append_right _ h))) hown hK hP 0 rfl rfl 11 (by decide) (hts _ (List.mem_cons_of_mem _ (List.mem_append_left _ (List.mem_append_left _ (List.mem_of_getElem? (i := 2) rfl))))) (fun _ h => h) rfl dX11_walks_59 ?_
        refine lv_iconst (v := (1 : Int32)) hx hb dX11_walks_62 (by decide) ?_
        obtain ⟨hk_63, hf⟩ := chk_s hf
        refine va_zast hx hb hK hP hD hS 4 1 rfl rfl hk_63 dX11_walks_63 (fun H locs hP hD hS => ?_)
        have hP : va_P (dC, dI) vwCl [(qt, .inr (11, [.ref qt_now, .ref xt_past, .int (it_saved), .ref xt_text, .int (it_length), .ref xt_doors, .int (it_doorMany), .ref xt_label, .int (it_drawn), .ref qt_far, .ref qt_ring, .int ((ft_now ((7 : Int32)).toNatClampNeg)), .int ((2 : Int32)), .ref qt_was, .int ((0 : Int32)), .int (it_faultAt), .int (it_mover)])), (qt_now, .inl (cy.1, 639, .inl (ft_now))), (qt_far, .inl (cy.1, 210, .inl (cft_far))), (qt_ring, .inl (cy.1, 210, .inl (cft_ring))), (qt_was, .inl (cy.2.1, 210, .inl ((upd cft_was ((ft_now ((7 : Int32)).toNatClampNeg)).toNatClampNeg (1 : Int32)))))] H := hP
        have hD : va_D A [(qt, .inr (11, [.ref qt_now, .ref xt_past, .int (it_saved), .ref xt_text, .int (it_length), .ref xt_doors, .int (it_doorMany), .ref xt_label, .int (it_drawn), .ref qt_far, .ref qt_ring, .int ((ft_now ((7 : Int32)).toNatClampNeg)), .int ((2 : Int32)), .ref qt_was, .int ((0 : Int32)), .int (it_faultAt), .int (it_mover)])), (qt_now, .inl (cy.1, 639, .inl (ft_now))), (qt_far, .inl (cy.1, 210, .inl (cft_far))), (qt_ring, .inl (cy.1, 210, .inl (cft_ring))), (qt_was, .inl (cy.2.1, 210, .inl ((upd cft_was ((ft_now ((7 : Int32)).toNatClampNeg)).toNatClampNeg (1 : Int32)))))] := hD
        refine lv_iconst (v := (1 : Int32)) hx hb dX11_walks_64 (by decide) ?_
        refine lv_istore_n (lv' := [(2, .int (1 : Int32)), (0, .ref qt), (1, .int va1)]) hx hb dX11_walks_65 rfl hl (by decide) rfl (fun ls hl => ?_)
        exact B66 N ((1 : Int32)) ((ft_now ((7 : Int32)).toNatClampNeg)) ((2 : Int32)) ((0 : Int32)) (cft_far) (cft_ring) ((upd cft_was ((ft_now ((7 : Int32)).toNatClampNeg)).toNatClampNeg (1 : Int32))) _ _ (hP.sub [0, 1, 2, 3, 4] rfl) (hD.sub [0, 1, 2, 3, 4] (by decide) rfl) hS _ (lv_sub hl [1, 2, 0] rfl) hf
      · rw [if_neg hc_17] at hf
        refine lv_aload_n hx hb dX11_walks_20 rfl (lv_at hl 0 rfl) ?_
        refine va_get (D := (dC, dI)) (ci := 11) (C := RX11) (T := TX11) (N := 17) hx hb hts (fun _ h => (List.mem_cons_of_mem _ (List.mem_append_right _ h))) hown hK hP 0 rfl rfl 13 (by decide) (hts _ (List.mem_cons_of_mem _ (List.mem_append_left _ (List.mem_append_left _ (List.mem_of_getElem? (i := 1) rfl))))) (fun _ h => h) rfl dX11_walks_21 ?_
        refine lv_iload_n hx hb dX11_walks_24 rfl (lv_at hl 2 rfl) ?_
        refine lv_iconst (v := (0 : Int32)) hx hb dX11_walks_25 (by decide) ?_
        obtain ⟨hk_26, hf⟩ := chk_s hf
        refine va_zast hx hb hK hP hD hS 4 1 rfl rfl hk_26 dX11_walks_26 (fun H locs hP hD hS => ?_)
        have hP : va_P (dC, dI) vwCl [(qt, .inr (11, [.ref qt_now, .ref xt_past, .int (it_saved), .ref xt_text, .int (it_length), .ref xt_doors, .int (it_doorMany), .ref xt_label, .int (it_drawn), .ref qt_far, .ref qt_ring, .int (cit_walker), .int (cit_from), .ref qt_was, .int (cit_steps), .int (it_faultAt), .int (it_mover)])), (qt_now, .inl (cy.1, 639, .inl (ft_now))), (qt_far, .inl (cy.1, 210, .inl (cft_far))), (qt_ring, .inl (cy.1, 210, .inl (cft_ring))), (qt_was, .inl (cy.2.1, 210, .inl ((upd cft_was (l2).toNatClampNeg (0 : Int32)))))] H := hP
        have hD : va_D A [(qt, .inr (11, [.ref qt_now, .ref xt_past, .int (it_saved), .ref xt_text, .int (it_length), .ref xt_doors, .int (it_doorMany), .ref xt_label, .int (it_drawn), .ref qt_far, .ref qt_ring, .int (cit_walker), .int (cit_from), .ref qt_was, .int (cit_steps), .int (it_faultAt), .int (it_mover)])), (qt_now, .inl (cy.1, 639, .inl (ft_now))), (qt_far, .inl (cy.1, 210, .inl (cft_far))), (qt_ring, .inl (cy.1, 210, .inl (cft_ring))), (qt_was, .inl (cy.2.1, 210, .inl ((upd cft_was (l2).toNatClampNeg (0 : Int32)))))] := hD
        refine lv_iinc (v := (l2 + (1 : Int32))) (lv' := [(2, .int (l2 + (1 : Int32))), (0, .ref qt), (1, .int va1)]) hx hb dX11_walks_27 hl (k := 2) rfl rfl (by decide) rfl (fun ls hl => ?_)
        refine lv_goto (tgt := 13) hx hb dX11_walks_30 (by decide) ?_
        exact ih13 ((l2 + (1 : Int32))) (cit_walker) (cit_from) (cit_steps) (cft_far) (cft_ring) ((upd cft_was (l2).toNatClampNeg (0 : Int32))) _ _ (hP.sub [0, 1, 2, 3, 4] rfl) (hD.sub [0, 1, 2, 3, 4] (by decide) rfl) hS _ (lv_sub hl [1, 2, 0] rfl) hf
  rw [f_X11_walks] at hf
  refine lv_aload_n hx hb dX11_walks_0 rfl (lv_at hl 0 rfl) ?_
  refine lv_aload_n hx hb dX11_walks_1 rfl (lv_at hl 0 rfl) ?_
  refine va_get (D := (dC, dI)) (ci := 11) (C := RX11) (T := TX11) (N := 17) hx hb hts (fun _ h => (List.mem_cons_of_mem _ (List.mem_append_right _ h))) hown hK hP 0 rfl rfl 0 (by decide) (hts _ (List.mem_cons_of_mem _ (List.mem_append_left _ (List.mem_append_left _ (List.mem_of_getElem? (i := 0) rfl))))) (fun _ h => h) rfl dX11_walks_2 ?_
  refine lv_bipush (v := (8 : Int32)) hx hb dX11_walks_5 (by decide) ?_
  refine va_iald hx hb hK hP 1 0 rfl rfl (by unfold vp_in; decide) dX11_walks_7 ?_
  obtain ⟨o8_0, o8_1, hq_8, hf⟩ := bnd2_s hf
  refine kcallv (wc := [(qt, .inr (11, [.ref qt_now, .ref xt_past, .int (it_saved), .ref xt_text, .int (it_length), .ref xt_doors, .int (it_doorMany), .ref xt_label, .int (it_drawn), .ref qt_far, .ref qt_ring, .int (it_walker), .int (it_from), .ref qt_was, .int (it_steps), .int (it_faultAt), .int (it_mover)])), (qt_now, .inl (cy.1, 639, .inl (ft_now))), (qt_far, .inl (cy.1, 210, .inl (ft_far))), (qt_ring, .inl (cy.1, 210, .inl (ft_ring)))]) (wr := [(qt_was, .inl (cy.2.1, 210, .inl (ft_was)))]) (w1 := [(qt, .inr (11, [.ref qt_now, .ref xt_past, .int (it_saved), .ref xt_text, .int (it_length), .ref xt_doors, .int (it_doorMany), .ref xt_label, .int (it_drawn), .ref qt_far, .ref qt_ring, .int (it_walker), .int (it_from), .ref qt_was, .int (it_steps), .int (it_faultAt), .int (it_mover)])), (qt_now, .inl (cy.1, 639, .inl (ft_now))), (qt_far, .inl (cy.1, 210, .inl (o8_0))), (qt_ring, .inl (cy.1, 210, .inl (o8_1)))]) hK hP hD hS hA hG [0, 1, 2, 3] [4] rfl rfl rfl rfl rfl (fun hU hPc => va_runV (As := [.int (ft_now ((8 : Int32)).toNatClampNeg)]) (rest := []) ⟨hx, hb, hml, hown, hts⟩ (c_X11_lays l dC dI cy G s.heap.size qt qt_now qt_far qt_ring xt_past xt_text xt_doors xt_label qt_was (it_saved) (it_length) (it_doorMany) (it_drawn) (it_walker) (it_from) (it_steps) (it_faultAt) (it_mover) N (ft_now) (ft_far) (ft_ring) ((ft_now ((8 : Int32)).toNatClampNeg)) (o8_0, o8_1) hq_8) (cwV 1 hts gX11_walks_X11_lays rfl rfl rfl hdX11_lays ⟨Nat.le_of_ble_eq_true rfl, Nat.le_of_ble_eq_true rfl⟩) ⟨kBlind, (va_recv hK hP (ci := 11) (q0 := 0) rfl rfl), fun U h1 h2 => ⟨rfl, hU U h1 h2⟩⟩ rfl rfl hl.1 rfl (lv_room (Nat.le_of_ble_eq_true rfl)) dX11_walks_8 ⟨Nat.zero_le _, Nat.zero_le _⟩) (fun _ _ h => h) (fun H locs hP hD hS => ?_)
  have hP : va_P (dC, dI) vwCl [(qt_was, .inl (cy.2.1, 210, .inl (ft_was))), (qt, .inr (11, [.ref qt_now, .ref xt_past, .int (it_saved), .ref xt_text, .int (it_length), .ref xt_doors, .int (it_doorMany), .ref xt_label, .int (it_drawn), .ref qt_far, .ref qt_ring, .int (it_walker), .int (it_from), .ref qt_was, .int (it_steps), .int (it_faultAt), .int (it_mover)])), (qt_now, .inl (cy.1, 639, .inl (ft_now))), (qt_far, .inl (cy.1, 210, .inl (o8_0))), (qt_ring, .inl (cy.1, 210, .inl (o8_1)))] H := hP
  have hD : va_D A [(qt_was, .inl (cy.2.1, 210, .inl (ft_was))), (qt, .inr (11, [.ref qt_now, .ref xt_past, .int (it_saved), .ref xt_text, .int (it_length), .ref xt_doors, .int (it_doorMany), .ref xt_label, .int (it_drawn), .ref qt_far, .ref qt_ring, .int (it_walker), .int (it_from), .ref qt_was, .int (it_steps), .int (it_faultAt), .int (it_mover)])), (qt_now, .inl (cy.1, 639, .inl (ft_now))), (qt_far, .inl (cy.1, 210, .inl (o8_0))), (qt_ring, .inl (cy.1, 210, .inl (o8_1)))] := hD
  refine lv_iconst (v := (0 : Int32)) hx hb dX11_walks_11 (by decide) ?_
  refine lv_istore_n (lv' := [(2, .int (0 : Int32)), (0, .ref qt), (1, .int va1)]) hx hb dX11_walks_12 rfl hl (by decide) rfl (fun ls hl => ?_)
  exact B13 N ((0 : Int32)) (it_walker) (it_from) (it_steps) (o8_0) (o8_1) (ft_was) _ _ (hP.sub [1, 2, 3, 4, 0] rfl) (hD.sub [1, 2, 3, 4, 0] (by decide) rfl) hS _ (lv_sub hl [1, 2, 0] rfl) hf
theorem hdX11_walks : yX11_walks.cls = RX11 ∧ yX11_walks.cls ≠ "java/lang/invoke/MethodHandle" ∧ yX11_walks.cls ≠ "java/lang/invoke/VarHandle" ∧ (parseMethodDescriptor yX11_walks.desc).map (fun d => d.parameters.length) = some 1 := by decide +kernel
noncomputable def b_X11_walk_32 (N : Nat) (ft_now : Nat → Int32) (va1 : Int32) (va2 : Int32) : Nat → Int32 → Int32 → Int32 → Int32 → Int32 → (Nat → Int32) → (Nat → Int32) → (Nat → Int32) → Option (Int32 × Int32 × Int32 × Int32 × (Nat → Int32) × (Nat → Int32) × (Nat → Int32))
  | 0, _, _, _, _, _, _, _, _ => none
  | n + 1, l3, l4, cit_walker, cit_from, cit_steps, cft_far, cft_ring, cft_was =>
    if (210 : Int32) ≤ l4 then
      if va2 = 0 then
        some (cit_walker, cit_walker, cit_from, cit_steps, cft_far, cft_ring, cft_was)
      else
        if va2 = (1 : Int32) then
          some (cit_steps, cit_walker, cit_from, cit_steps, cft_far, cft_ring, cft_was)
        else
          some (l3, cit_walker, cit_from, cit_steps, cft_far, cft_ring, cft_was)
    else
      if l4 < 0 ∨ 210 ≤ (l4).toNatClampNeg then none else
      if (cft_was (l4).toNatClampNeg) = 0 then
        b_X11_walk_32 N ft_now va1 va2 n ((l3 + (0 : Int32))) ((l4 + (1 : Int32))) (cit_walker) (cit_from) (cit_steps) (cft_far) (cft_ring) (cft_was)
      else
        b_X11_walk_32 N ft_now va1 va2 n ((l3 + (1 : Int32))) ((l4 + (1 : Int32))) (cit_walker) (cit_from) (cit_steps) (cft_far) (cft_ring) (cft_was)
noncomputable def f_X11_walk (N : Nat) (it_walker : Int32) (it_from : Int32) (it_steps : Int32) (ft_now : Nat → Int32) (ft_far : Nat → Int32) (ft_ring : Nat → Int32) (ft_was : Nat → Int32) (va1 : Int32) (va2 : Int32) : Option (Int32 × Int32 × Int32 × Int32 × (Nat → Int32) × (Nat → Int32) × (Nat → Int32)) :=
  if (t_X11_in (va1) ((0 : Int32)) ((2000 : Int32))) = 0 then
    some ((-1 : Int32), it_walker, it_from, it_steps, ft_far, ft_ring, ft_was)
  else
    if (t_X11_in (va2) ((0 : Int32)) ((2 : Int32))) = 0 then
      some ((-1 : Int32), it_walker, it_from, it_steps, ft_far, ft_ring, ft_was)
    else
      bnd6 (f_X11_walks N (it_walker) (it_from) (it_steps) (ft_now) (ft_far) (ft_ring) (ft_was) (va1)) fun o24_0 o24_1 o24_2 o24_3 o24_4 o24_5 =>
      b_X11_walk_32 N ft_now va1 va2 N ((0 : Int32)) ((0 : Int32)) (o24_0) (o24_1) (o24_2) (o24_3) (o24_4) (o24_5)
abbrev rm_X11_walk : Room := { frames := 11, cells := 0, slots := 0, locals := 245 }
set_option maxHeartbeats 4000000 in
set_option maxRecDepth 100000 in
theorem c_X11_walk (l : Launch) (dC : Nat → ClassId) (dI : Nat → Nat → Nat) (cy : gC) (G : gT) (sz : Nat) (qt : Nat) (qt_now : Nat) (qt_far : Nat) (qt_ring : Nat) (qt_was : Nat) (xt_past : Nat) (xt_text : Nat) (xt_doors : Nat) (xt_label : Nat) (it_saved : Int32) (it_length : Int32) (it_doorMany : Int32) (it_drawn : Int32) (it_faultAt : Int32) (it_mover : Int32) (N : Nat) (it_walker : Int32) (it_from : Int32) (it_steps : Int32) (ft_now : Nat → Int32) (ft_far : Nat → Int32) (ft_ring : Nat → Int32) (ft_was : Nat → Int32) (va1 : Int32) (va2 : Int32) (out : Int32 × Int32 × Int32 × Int32 × (Nat → Int32) × (Nat → Int32) × (Nat → Int32)) (hf : f_X11_walk N it_walker it_from it_steps ft_now ft_far ft_ring ft_was va1 va2 = some out) : Met l yX11_walk wsX11_walk rm_X11_walk (va_Pc [.ref qt, .int va1, .int va2] (kP (dC, dI) cy G [(qt, .inr (11, [.ref qt_now, .ref xt_past, .int (it_saved), .ref xt_text, .int (it_length), .ref xt_doors, .int (it_doorMany), .ref xt_label, .int (it_drawn), .ref qt_far, .ref qt_ring, .int (it_walker), .int (it_from), .ref qt_was, .int (it_steps), .int (it_faultAt), .int (it_mover)])), (qt_now, .inl (cy.1, 639, .inl (ft_now))), (qt_far, .inl (cy.1, 210, .inl (ft_far))), (qt_ring, .inl (cy.1, 210, .inl (ft_ring))), (qt_was, .inl (cy.2.1, 210, .inl (ft_was)))] sz)) (va_Qi (fun r (_ : Unit) => r = out.1) (fun _ => kQ (dC, dI) cy [(qt, .inr (11, [.ref qt_now, .ref xt_past, .int (it_saved), .ref xt_text, .int (it_length), .ref xt_doors, .int (it_doorMany), .ref xt_label, .int (it_drawn), .ref qt_far, .ref qt_ring, .int (out.2.1), .int (out.2.2.1), .ref qt_was, .int (out.2.2.2.1), .int (it_faultAt), .int (it_mover)])), (qt_now, .inl (cy.1, 639, .inl (ft_now))), (qt_far, .inl (cy.1, 210, .inl (out.2.2.2.2.1))), (qt_ring, .inl (cy.1, 210, .inl (out.2.2.2.2.2.1))), (qt_was, .inl (cy.2.1, 210, .inl (out.2.2.2.2.2.2)))] (va_A [(qt, .inr (11, [.ref qt_now, .ref xt_past, .int (it_saved), .ref xt_text, .int (it_length), .ref xt_doors, .int (it_doorMany), .ref xt_label, .int (it_drawn), .ref qt_far, .ref qt_ring, .int (it_walker), .int (it_from), .ref qt_was, .int (it_steps), .int (it_faultAt), .int (it_mover)])), (qt_now, .inl (cy.1, 639, .inl (ft_now))), (qt_far, .inl (cy.1, 210, .inl (ft_far))), (qt_ring, .inl (cy.1, 210, .inl (ft_ring))), (qt_was, .inl (cy.2.1, 210, .inl (ft_was)))] sz)) (va_A [(qt, .inr (11, [.ref qt_now, .ref xt_past, .int (it_saved), .ref xt_text, .int (it_length), .ref xt_doors, .int (it_doorMany), .ref xt_label, .int (it_drawn), .ref qt_far, .ref qt_ring, .int (it_walker), .int (it_from), .ref qt_was, .int (it_steps), .int (it_faultAt), .int (it_mover)])), (qt_now, .inl (cy.1, 639, .inl (ft_now))), (qt_far, .inl (cy.1, 210, .inl (ft_far))), (qt_ring, .inl (cy.1, 210, .inl (ft_ring))), (qt_was, .inl (cy.2.1, 210, .inl (ft_was)))] sz)) 0 0 (va_A [(qt, .inr (11, [.ref qt_now, .ref xt_past, .int (it_saved), .ref xt_text, .int (it_length), .ref xt_doors, .int (it_doorMany), .ref xt_label, .int (it_drawn), .ref qt_far, .ref qt_ring, .int (it_walker), .int (it_from), .ref qt_was, .int (it_steps), .int (it_faultAt), .int (it_mover)])), (qt_now, .inl (cy.1, 639, .inl (ft_now))), (qt_far, .inl (cy.1, 210, .inl (ft_far))), (qt_ring, .inl (cy.1, 210, .inl (ft_ring))), (qt_was, .inl (cy.2.1, 210, .inl (ft_was)))] sz) := by
  refine Met.ofW (cc := cX11_walk) (maxL := 5) (ret := (some .int)) (by decide) rfl ?_
  intro p e s m args below meth c s₁ B hml hv
  obtain ⟨rfl, hsz, hP, hK, hD0, hG⟩ := hv
  have hx := B.exec
  have hb := B.bytes
  have hr := B.returns
  have hts := atoms_spec (ws := wsX11_walk) B.pre
  have hown : s.vm.findClass RX11 = some m.cls := findClass_of_methodNamed B.named
  have hlocks := B.notSynchronized
  subst hsz
  have hD := hD0.self (sz := s.heap.size)
  generalize hAe : va_A [(qt, .inr (11, [.ref qt_now, .ref xt_past, .int (it_saved), .ref xt_text, .int (it_length), .ref xt_doors, .int (it_doorMany), .ref xt_label, .int (it_drawn), .ref qt_far, .ref qt_ring, .int (it_walker), .int (it_from), .ref qt_was, .int (it_steps), .int (it_faultAt), .int (it_mover)])), (qt_now, .inl (cy.1, 639, .inl (ft_now))), (qt_far, .inl (cy.1, 210, .inl (ft_far))), (qt_ring, .inl (cy.1, 210, .inl (ft_ring))), (qt_was, .inl (cy.2.1, 210, .inl (ft_was)))] s.heap.size = A at hD hG ⊢
  have hA : ∀ q : Nat, s.heap.size ≤ q → A q := fun q h => by rw [← hAe]; exact Or.inr h
  have hS : va_S A s.heap s.heap [] := va_S.rf
  have hP : va_P (dC, dI) vwCl [(qt, .inr (11, [.ref qt_now, .ref xt_past, .int (it_saved), .ref xt_text, .int (it_length), .ref xt_doors, .int (it_doorMany), .ref xt_label, .int (it_drawn), .ref qt_far, .ref qt_ring, .int (it_walker), .int (it_from), .ref qt_was, .int (it_steps), .int (it_faultAt), .int (it_mover)])), (qt_now, .inl (cy.1, 639, .inl (ft_now))), (qt_far, .inl (cy.1, 210, .inl (ft_far))), (qt_ring, .inl (cy.1, 210, .inl (ft_ring))), (qt_was, .inl (cy.2.1, 210, .inl (ft_was)))] s.heap := hP
  have hl := lv_entry ([.ref qt, .int va1, .int va2]) (n := 5) (Nat.le_of_ble_eq_true rfl)
  rw [lg_entry_eq]
  generalize (lg_sl ([.ref qt, .int va1, .int va2]) ++ List.replicate (5 - (lg_sl ([.ref qt, .int va1, .int va2])).length) Slot.unset).toArray = ls at hl ⊢
  have hl : lv_has ls 5 [(0, .ref qt), (1, .int va1), (2, .int va2)] := hl
  refine kgen (fun Q hQ => ?_)
  have B32 : ∀ (n32 : Nat) (l3 : Int32) (l4 : Int32) (cit_walker : Int32) (cit_from : Int32) (cit_steps : Int32) (cft_far : Nat → Int32) (cft_ring : Nat → Int32) (cft_was : Nat → Int32) (H : Heap) (locs : List Loc), va_P (dC, dI) vwCl [(qt, .inr (11, [.ref qt_now, .ref xt_past, .int (it_saved), .ref xt_text, .int (it_length), .ref xt_doors, .int (it_doorMany), .ref xt_label, .int (it_drawn), .ref qt_far, .ref qt_ring, .int (cit_walker), .int (cit_from), .ref qt_was, .int (cit_steps), .int (it_faultAt), .int (it_mover)])), (qt_now, .inl (cy.1, 639, .inl (ft_now))), (qt_far, .inl (cy.1, 210, .inl (cft_far))), (qt_ring, .inl (cy.1, 210, .inl (cft_ring))), (qt_was, .inl (cy.2.1, 210, .inl (cft_was)))] H → va_D A [(qt, .inr (11, [.ref qt_now, .ref xt_past, .int (it_saved), .ref xt_text, .int (it_length), .ref xt_doors, .int (it_doorMany), .ref xt_label, .int (it_drawn), .ref qt_far, .ref qt_ring, .int (cit_walker), .int (cit_from), .ref qt_was, .int (cit_steps), .int (it_faultAt), .int (it_mover)])), (qt_now, .inl (cy.1, 639, .inl (ft_now))), (qt_far, .inl (cy.1, 210, .inl (cft_far))), (qt_ring, .inl (cy.1, 210, .inl (cft_ring))), (qt_was, .inl (cy.2.1, 210, .inl (cft_was)))] → va_S A s.heap H locs → ∀ (ls : Array Slot), lv_has ls 5 [(0, .ref qt), (2, .int va2), (3, .int l3), (4, .int l4)] → b_X11_walk_32 N ft_now va1 va2 n32 l3 l4 cit_walker cit_from cit_steps cft_far cft_ring cft_was = some out → W p l e (headSpec wsX11_walk rm_X11_walk).room s m ([.ref qt, .int va1, .int va2] : List Value).toArray below meth c H locs 0 0 Q (F0 m 32 ls []) := by
    intro n32
    induction n32 with
    | zero => intro l3 l4 cit_walker cit_from cit_steps cft_far cft_ring cft_was H locs hP hD hS ls hl hf; rw [b_X11_walk_32] at hf; cases hf
    | succ n32 ih32 =>
      intro l3 l4 cit_walker cit_from cit_steps cft_far cft_ring cft_was H locs hP hD hS ls hl hf
      rw [b_X11_walk_32] at hf
      refine lv_iload hx hb dX11_walk_32 (lv_at hl 3 rfl) ?_
      refine lv_sipush (v := (210 : Int32)) hx hb dX11_walk_34 (by decide) ?_
      refine lv_icmp_ge (tgt := 64) hx hb dX11_walk_37 (by decide) (fun hc_37 => ?_) (fun hc_37 => ?_)
      · rw [if_pos hc_37] at hf
        refine lv_iload_n hx hb dX11_walk_64 rfl (lv_at hl 1 rfl) ?_
        refine lv_if_ne (tgt := 75) hx hb dX11_walk_65 (by decide) (fun hc_65 => ?_) (fun hc_65 => ?_)
        · rw [if_neg hc_65] at hf
          refine lv_iload_n hx hb dX11_walk_75 rfl (lv_at hl 1 rfl) ?_
          refine lv_iconst (v := (1 : Int32)) hx hb dX11_walk_76 (by decide) ?_
          refine lv_icmp_ne (tgt := 87) hx hb dX11_walk_77 (by decide) (fun hc_77 => ?_) (fun hc_77 => ?_)
          · rw [if_neg hc_77] at hf
            refine lv_iload_n hx hb dX11_walk_87 rfl (lv_at hl 2 rfl) ?_
            cases hf
            subst hQ
            exact kiret hx hb hr hlocks hK (hP.sub [0, 1, 2, 3, 4] rfl) (hD.sub [0, 1, 2, 3, 4] (by decide) rfl) hS rfl dX11_walk_88
          · rw [if_pos hc_77] at hf
            refine lv_aload_n hx hb dX11_walk_80 rfl (lv_at hl 0 rfl) ?_
            refine va_get (D := (dC, dI)) (ci := 11) (C := RX11) (T := TX11) (N := 17) hx hb hts (fun _ h => (List.mem_cons_of_mem _ (List.mem_append_right _ h))) hown hK hP 0 rfl rfl 14 (by decide) (hts _ (List.mem_cons_of_mem _ (List.mem_append_left _ (List.mem_append_left _ (List.mem_of_getElem? (i := 2) rfl))))) (fun _ h => h) rfl dX11_walk_81 ?_
            refine lv_goto (tgt := 88) hx hb dX11_walk_84 (by decide) ?_
            cases hf
            subst hQ
            exact kiret hx hb hr hlocks hK (hP.sub [0, 1, 2, 3, 4] rfl) (hD.sub [0, 1, 2, 3, 4] (by decide) rfl) hS rfl dX11_walk_88
        · rw [if_pos hc_65] at hf
          refine lv_aload_n hx hb dX11_walk_68 rfl (lv_at hl 0 rfl) ?_
          refine va_get (D := (dC, dI)) (ci := 11) (C := RX11) (T := TX11) (N := 17) hx hb hts (fun _ h => (List.mem_cons_of_mem _ (List.mem_append_right _ h))) hown hK hP 0 rfl rfl 11 (by decide) (hts _ (List.mem_cons_of_mem _ (List.mem_append_left _ (List.mem_append_left _ (List.mem_of_getElem? (i := 1) rfl))))) (fun _ h => h) rfl dX11_walk_69 ?_
          refine lv_goto (tgt := 88) hx hb dX11_walk_72 (by decide) ?_
          cases hf
          subst hQ
          exact kiret hx hb hr hlocks hK (hP.sub [0, 1, 2, 3, 4] rfl) (hD.sub [0, 1, 2, 3, 4] (by decide) rfl) hS rfl dX11_walk_88
      · rw [if_neg hc_37] at hf
        refine lv_iload_n hx hb dX11_walk_40 rfl (lv_at hl 2 rfl) ?_
        refine lv_aload_n hx hb dX11_walk_41 rfl (lv_at hl 0 rfl) ?_
        refine va_get (D := (dC, dI)) (ci := 11) (C := RX11) (T := TX11) (N := 17) hx hb hts (fun _ h => (List.mem_cons_of_mem _ (List.mem_append_right _ h))) hown hK hP 0 rfl rfl 13 (by decide) (hts _ (List.mem_cons_of_mem _ (List.mem_append_left _ (List.mem_append_left _ (List.mem_of_getElem? (i := 0) rfl))))) (fun _ h => h) rfl dX11_walk_42 ?_
        refine lv_iload hx hb dX11_walk_45 (lv_at hl 3 rfl) ?_
        obtain ⟨hk_47, hf⟩ := chk_s hf
        refine va_zald hx hb hK hP 4 1 rfl rfl hk_47 dX11_walk_47 ?_
        refine lv_if_eq (tgt := 55) hx hb dX11_walk_48 (by decide) (fun hc_48 => ?_) (fun hc_48 => ?_)
        · rw [if_pos hc_48] at hf
          refine lv_iconst (v := (0 : Int32)) hx hb dX11_walk_55 (by decide) ?_
          refine lv_iadd hx hb dX11_walk_56 ?_
          refine lv_istore_n (lv' := [(3, .int (l3 + (0 : Int32))), (0, .ref qt), (2, .int va2), (4, .int l4)]) hx hb dX11_walk_57 rfl hl (by decide) rfl (fun ls hl => ?_)
          refine lv_iinc (v := (l4 + (1 : Int32))) (lv' := [(4, .int (l4 + (1 : Int32))), (3, .int (l3 + (0 : Int32))), (0, .ref qt), (2, .int va2)]) hx hb dX11_walk_58 hl (k := 3) rfl rfl (by decide) rfl (fun ls hl => ?_)
          refine lv_goto (tgt := 32) hx hb dX11_walk_61 (by decide) ?_
          exact ih32 ((l3 + (0 : Int32))) ((l4 + (1 : Int32))) (cit_walker) (cit_from) (cit_steps) (cft_far) (cft_ring) (cft_was) _ _ (hP.sub [0, 1, 2, 3, 4] rfl) (hD.sub [0, 1, 2, 3, 4] (by decide) rfl) hS _ (lv_sub hl [2, 3, 1, 0] rfl) hf
        · rw [if_neg hc_48] at hf
          refine lv_iconst (v := (1 : Int32)) hx hb dX11_walk_51 (by decide) ?_
          refine lv_goto (tgt := 56) hx hb dX11_walk_52 (by decide) ?_
          refine lv_iadd hx hb dX11_walk_56 ?_
          refine lv_istore_n (lv' := [(3, .int (l3 + (1 : Int32))), (0, .ref qt), (2, .int va2), (4, .int l4)]) hx hb dX11_walk_57 rfl hl (by decide) rfl (fun ls hl => ?_)
          refine lv_iinc (v := (l4 + (1 : Int32))) (lv' := [(4, .int (l4 + (1 : Int32))), (3, .int (l3 + (1 : Int32))), (0, .ref qt), (2, .int va2)]) hx hb dX11_walk_58 hl (k := 3) rfl rfl (by decide) rfl (fun ls hl => ?_)
          refine lv_goto (tgt := 32) hx hb dX11_walk_61 (by decide) ?_
          exact ih32 ((l3 + (1 : Int32))) ((l4 + (1 : Int32))) (cit_walker) (cit_from) (cit_steps) (cft_far) (cft_ring) (cft_was) _ _ (hP.sub [0, 1, 2, 3, 4] rfl) (hD.sub [0, 1, 2, 3, 4] (by decide) rfl) hS _ (lv_sub hl [2, 3, 1, 0] rfl) hf
  rw [f_X11_walk] at hf
  refine lv_iload_n hx hb dX11_walk_0 rfl (lv_at hl 1 rfl) ?_
  refine lv_iconst (v := (0 : Int32)) hx hb dX11_walk_1 (by decide) ?_
  refine lv_sipush (v := (2000 : Int32)) hx hb dX11_walk_2 (by decide) ?_
  refine kcalli (wc := []) (wr := [(qt, .inr (11, [.ref qt_now, .ref xt_past, .int (it_saved), .ref xt_text, .int (it_length), .ref xt_doors, .int (it_doorMany), .ref xt_label, .int (it_drawn), .ref qt_far, .ref qt_ring, .int (it_walker), .int (it_from), .ref qt_was, .int (it_steps), .int (it_faultAt), .int (it_mover)])), (qt_now, .inl (cy.1, 639, .inl (ft_now))), (qt_far, .inl (cy.1, 210, .inl (ft_far))), (qt_ring, .inl (cy.1, 210, .inl (ft_ring))), (qt_was, .inl (cy.2.1, 210, .inl (ft_was)))]) (w1 := []) hK hP hD hS hA hG [] [0, 1, 2, 3, 4] rfl rfl rfl rfl rfl (fun hU hPc => va_runS (As := [.int va1, .int (0 : Int32), .int (2000 : Int32)]) (rest := []) ⟨hx, hb, hml, hown, hts⟩ (c_X11_in l dC dI cy G s.heap.size (va1) ((0 : Int32)) ((2000 : Int32)) (t_X11_in (va1) ((0 : Int32)) ((2000 : Int32))) (tot_X11_in (va1) ((0 : Int32)) ((2000 : Int32)))) (va_cwS 3 hts gX11_walk_X11_in rfl rfl rfl hdX11_in.2 ⟨Nat.le_of_ble_eq_true rfl, Nat.le_of_ble_eq_true rfl⟩) ⟨kBlind, fun U h1 h2 => ⟨rfl, hU U h1 h2⟩⟩ rfl rfl hl.1 rfl (lv_room (Nat.le_of_ble_eq_true rfl)) dX11_walk_5 ⟨Nat.zero_le _, Nat.zero_le _⟩) ((t_X11_in (va1) ((0 : Int32)) ((2000 : Int32)))) (fun _ _ h => h) (fun _ _ h => h) (fun H locs hP hD hS => ?_)
  have hP : va_P (dC, dI) vwCl [(qt, .inr (11, [.ref qt_now, .ref xt_past, .int (it_saved), .ref xt_text, .int (it_length), .ref xt_doors, .int (it_doorMany), .ref xt_label, .int (it_drawn), .ref qt_far, .ref qt_ring, .int (it_walker), .int (it_from), .ref qt_was, .int (it_steps), .int (it_faultAt), .int (it_mover)])), (qt_now, .inl (cy.1, 639, .inl (ft_now))), (qt_far, .inl (cy.1, 210, .inl (ft_far))), (qt_ring, .inl (cy.1, 210, .inl (ft_ring))), (qt_was, .inl (cy.2.1, 210, .inl (ft_was)))] H := hP
  have hD : va_D A [(qt, .inr (11, [.ref qt_now, .ref xt_past, .int (it_saved), .ref xt_text, .int (it_length), .ref xt_doors, .int (it_doorMany), .ref xt_label, .int (it_drawn), .ref qt_far, .ref qt_ring, .int (it_walker), .int (it_from), .ref qt_was, .int (it_steps), .int (it_faultAt), .int (it_mover)])), (qt_now, .inl (cy.1, 639, .inl (ft_now))), (qt_far, .inl (cy.1, 210, .inl (ft_far))), (qt_ring, .inl (cy.1, 210, .inl (ft_ring))), (qt_was, .inl (cy.2.1, 210, .inl (ft_was)))] := hD
  refine lv_if_eq (tgt := 20) hx hb dX11_walk_8 (by decide) (fun hc_8 => ?_) (fun hc_8 => ?_)
  · rw [if_pos hc_8] at hf
    refine lv_iconst (v := (-1 : Int32)) hx hb dX11_walk_20 (by decide) ?_
    cases hf
    subst hQ
    exact kiret hx hb hr hlocks hK (hP.sub [0, 1, 2, 3, 4] rfl) (hD.sub [0, 1, 2, 3, 4] (by decide) rfl) hS rfl dX11_walk_21
  · rw [if_neg hc_8] at hf
    refine lv_iload_n hx hb dX11_walk_11 rfl (lv_at hl 2 rfl) ?_
    refine lv_iconst (v := (0 : Int32)) hx hb dX11_walk_12 (by decide) ?_
    refine lv_iconst (v := (2 : Int32)) hx hb dX11_walk_13 (by decide) ?_
    refine kcalli (wc := []) (wr := [(qt, .inr (11, [.ref qt_now, .ref xt_past, .int (it_saved), .ref xt_text, .int (it_length), .ref xt_doors, .int (it_doorMany), .ref xt_label, .int (it_drawn), .ref qt_far, .ref qt_ring, .int (it_walker), .int (it_from), .ref qt_was, .int (it_steps), .int (it_faultAt), .int (it_mover)])), (qt_now, .inl (cy.1, 639, .inl (ft_now))), (qt_far, .inl (cy.1, 210, .inl (ft_far))), (qt_ring, .inl (cy.1, 210, .inl (ft_ring))), (qt_was, .inl (cy.2.1, 210, .inl (ft_was)))]) (w1 := []) hK hP hD hS hA hG [] [0, 1, 2, 3, 4] rfl rfl rfl rfl rfl (fun hU hPc => va_runS (As := [.int va2, .int (0 : Int32), .int (2 : Int32)]) (rest := []) ⟨hx, hb, hml, hown, hts⟩ (c_X11_in l dC dI cy G H.size (va2) ((0 : Int32)) ((2 : Int32)) (t_X11_in (va2) ((0 : Int32)) ((2 : Int32))) (tot_X11_in (va2) ((0 : Int32)) ((2 : Int32)))) (va_cwS 3 hts gX11_walk_X11_in rfl rfl rfl hdX11_in.2 ⟨Nat.le_of_ble_eq_true rfl, Nat.le_of_ble_eq_true rfl⟩) ⟨kBlind, fun U h1 h2 => ⟨rfl, hU U h1 h2⟩⟩ rfl rfl hl.1 rfl (lv_room (Nat.le_of_ble_eq_true rfl)) dX11_walk_14 ⟨Nat.zero_le _, Nat.zero_le _⟩) ((t_X11_in (va2) ((0 : Int32)) ((2 : Int32)))) (fun _ _ h => h) (fun _ _ h => h) (fun H locs hP hD hS => ?_)
    have hP : va_P (dC, dI) vwCl [(qt, .inr (11, [.ref qt_now, .ref xt_past, .int (it_saved), .ref xt_text, .int (it_length), .ref xt_doors, .int (it_doorMany), .ref xt_label, .int (it_drawn), .ref qt_far, .ref qt_ring, .int (it_walker), .int (it_from), .ref qt_was, .int (it_steps), .int (it_faultAt), .int (it_mover)])), (qt_now, .inl (cy.1, 639, .inl (ft_now))), (qt_far, .inl (cy.1, 210, .inl (ft_far))), (qt_ring, .inl (cy.1, 210, .inl (ft_ring))), (qt_was, .inl (cy.2.1, 210, .inl (ft_was)))] H := hP
    have hD : va_D A [(qt, .inr (11, [.ref qt_now, .ref xt_past, .int (it_saved), .ref xt_text, .int (it_length), .ref xt_doors, .int (it_doorMany), .ref xt_label, .int (it_drawn), .ref qt_far, .ref qt_ring, .int (it_walker), .int (it_from), .ref qt_was, .int (it_steps), .int (it_faultAt), .int (it_mover)])), (qt_now, .inl (cy.1, 639, .inl (ft_now))), (qt_far, .inl (cy.1, 210, .inl (ft_far))), (qt_ring, .inl (cy.1, 210, .inl (ft_ring))), (qt_was, .inl (cy.2.1, 210, .inl (ft_was)))] := hD
    refine lv_if_ne (tgt := 22) hx hb dX11_walk_17 (by decide) (fun hc_17 => ?_) (fun hc_17 => ?_)
    · rw [if_neg hc_17] at hf
      refine lv_aload_n hx hb dX11_walk_22 rfl (lv_at hl 0 rfl) ?_
      refine lv_iload_n hx hb dX11_walk_23 rfl (lv_at hl 1 rfl) ?_
      obtain ⟨o24_0, o24_1, o24_2, o24_3, o24_4, o24_5, hq_24, hf⟩ := bnd6_s hf
      refine kcallv (wc := [(qt, .inr (11, [.ref qt_now, .ref xt_past, .int (it_saved), .ref xt_text, .int (it_length), .ref xt_doors, .int (it_doorMany), .ref xt_label, .int (it_drawn), .ref qt_far, .ref qt_ring, .int (it_walker), .int (it_from), .ref qt_was, .int (it_steps), .int (it_faultAt), .int (it_mover)])), (qt_now, .inl (cy.1, 639, .inl (ft_now))), (qt_far, .inl (cy.1, 210, .inl (ft_far))), (qt_ring, .inl (cy.1, 210, .inl (ft_ring))), (qt_was, .inl (cy.2.1, 210, .inl (ft_was)))]) (wr := []) (w1 := [(qt, .inr (11, [.ref qt_now, .ref xt_past, .int (it_saved), .ref xt_text, .int (it_length), .ref xt_doors, .int (it_doorMany), .ref xt_label, .int (it_drawn), .ref qt_far, .ref qt_ring, .int (o24_0), .int (o24_1), .ref qt_was, .int (o24_2), .int (it_faultAt), .int (it_mover)])), (qt_now, .inl (cy.1, 639, .inl (ft_now))), (qt_far, .inl (cy.1, 210, .inl (o24_3))), (qt_ring, .inl (cy.1, 210, .inl (o24_4))), (qt_was, .inl (cy.2.1, 210, .inl (o24_5)))]) hK hP hD hS hA hG [0, 1, 2, 3, 4] [] rfl rfl rfl rfl rfl (fun hU hPc => va_runV (As := [.int va1]) (rest := []) ⟨hx, hb, hml, hown, hts⟩ (c_X11_walks l dC dI cy G H.size qt qt_now qt_far qt_ring qt_was xt_past xt_text xt_doors xt_label (it_saved) (it_length) (it_doorMany) (it_drawn) (it_faultAt) (it_mover) N (it_walker) (it_from) (it_steps) (ft_now) (ft_far) (ft_ring) (ft_was) (va1) (o24_0, o24_1, o24_2, o24_3, o24_4, o24_5) hq_24) (cwV 1 hts gX11_walk_X11_walks rfl rfl rfl hdX11_walks ⟨Nat.le_of_ble_eq_true rfl, Nat.le_of_ble_eq_true rfl⟩) ⟨kBlind, (va_recv hK hP (ci := 11) (q0 := 0) rfl rfl), fun U h1 h2 => ⟨rfl, hU U h1 h2⟩⟩ rfl rfl hl.1 rfl (lv_room (Nat.le_of_ble_eq_true rfl)) dX11_walk_24 ⟨Nat.zero_le _, Nat.zero_le _⟩) (fun _ _ h => h) (fun H locs hP hD hS => ?_)
      have hP : va_P (dC, dI) vwCl [(qt, .inr (11, [.ref qt_now, .ref xt_past, .int (it_saved), .ref xt_text, .int (it_length), .ref xt_doors, .int (it_doorMany), .ref xt_label, .int (it_drawn), .ref qt_far, .ref qt_ring, .int (o24_0), .int (o24_1), .ref qt_was, .int (o24_2), .int (it_faultAt), .int (it_mover)])), (qt_now, .inl (cy.1, 639, .inl (ft_now))), (qt_far, .inl (cy.1, 210, .inl (o24_3))), (qt_ring, .inl (cy.1, 210, .inl (o24_4))), (qt_was, .inl (cy.2.1, 210, .inl (o24_5)))] H := hP
      have hD : va_D A [(qt, .inr (11, [.ref qt_now, .ref xt_past, .int (it_saved), .ref xt_text, .int (it_length), .ref xt_doors, .int (it_doorMany), .ref xt_label, .int (it_drawn), .ref qt_far, .ref qt_ring, .int (o24_0), .int (o24_1), .ref qt_was, .int (o24_2), .int (it_faultAt), .int (it_mover)])), (qt_now, .inl (cy.1, 639, .inl (ft_now))), (qt_far, .inl (cy.1, 210, .inl (o24_3))), (qt_ring, .inl (cy.1, 210, .inl (o24_4))), (qt_was, .inl (cy.2.1, 210, .inl (o24_5)))] := hD
      refine lv_iconst (v := (0 : Int32)) hx hb dX11_walk_27 (by decide) ?_
      refine lv_istore_n (lv' := [(3, .int (0 : Int32)), (0, .ref qt), (1, .int va1), (2, .int va2)]) hx hb dX11_walk_28 rfl hl (by decide) rfl (fun ls hl => ?_)
      refine lv_iconst (v := (0 : Int32)) hx hb dX11_walk_29 (by decide) ?_
      refine lv_istore (lv' := [(4, .int (0 : Int32)), (3, .int (0 : Int32)), (0, .ref qt), (1, .int va1), (2, .int va2)]) hx hb dX11_walk_30 hl (by decide) rfl (fun ls hl => ?_)
      exact B32 N ((0 : Int32)) ((0 : Int32)) (o24_0) (o24_1) (o24_2) (o24_3) (o24_4) (o24_5) _ _ (hP.sub [0, 1, 2, 3, 4] rfl) (hD.sub [0, 1, 2, 3, 4] (by decide) rfl) hS _ (lv_sub hl [2, 4, 1, 0] rfl) hf
    · rw [if_pos hc_17] at hf
      refine lv_iconst (v := (-1 : Int32)) hx hb dX11_walk_20 (by decide) ?_
      cases hf
      subst hQ
      exact kiret hx hb hr hlocks hK (hP.sub [0, 1, 2, 3, 4] rfl) (hD.sub [0, 1, 2, 3, 4] (by decide) rfl) hS rfl dX11_walk_21
theorem hdX11_walk : yX11_walk.cls = RX11 ∧ yX11_walk.cls ≠ "java/lang/invoke/MethodHandle" ∧ yX11_walk.cls ≠ "java/lang/invoke/VarHandle" ∧ (parseMethodDescriptor yX11_walk.desc).map (fun d => d.parameters.length) = some 2 := by decide +kernel
noncomputable def f_X11_walked (N : Nat) (it_walker : Int32) (it_from : Int32) (it_steps : Int32) (ft_now : Nat → Int32) (ft_far : Nat → Int32) (ft_ring : Nat → Int32) (ft_was : Nat → Int32) : Option (Int32 × Int32 × Int32 × Int32 × (Nat → Int32) × (Nat → Int32) × (Nat → Int32)) :=
  bnd6 (f_X11_walks N (it_walker) (it_from) (it_steps) (ft_now) (ft_far) (ft_ring) (ft_was) ((2000 : Int32))) fun o4_0 o4_1 o4_2 o4_3 o4_4 o4_5 =>
  if o4_0 = (ft_now ((8 : Int32)).toNatClampNeg) then
    some (o4_2, o4_0, o4_1, o4_2, o4_3, o4_4, o4_5)
  else
    some ((-4 : Int32), o4_0, o4_1, o4_2, o4_3, o4_4, o4_5)
abbrev rm_X11_walked : Room := { frames := 11, cells := 0, slots := 0, locals := 245 }
set_option maxHeartbeats 4000000 in
set_option maxRecDepth 100000 in
theorem c_X11_walked (l : Launch) (dC : Nat → ClassId) (dI : Nat → Nat → Nat) (cy : gC) (G : gT) (sz : Nat) (qt : Nat) (qt_now : Nat) (qt_far : Nat) (qt_ring : Nat) (qt_was : Nat) (xt_past : Nat) (xt_text : Nat) (xt_doors : Nat) (xt_label : Nat) (it_saved : Int32) (it_length : Int32) (it_doorMany : Int32) (it_drawn : Int32) (it_faultAt : Int32) (it_mover : Int32) (N : Nat) (it_walker : Int32) (it_from : Int32) (it_steps : Int32) (ft_now : Nat → Int32) (ft_far : Nat → Int32) (ft_ring : Nat → Int32) (ft_was : Nat → Int32) (out : Int32 × Int32 × Int32 × Int32 × (Nat → Int32) × (Nat → Int32) × (Nat → Int32)) (hf : f_X11_walked N it_walker it_from it_steps ft_now ft_far ft_ring ft_was = some out) : Met l yX11_walked wsX11_walked rm_X11_walked (va_Pc [.ref qt] (kP (dC, dI) cy G [(qt, .inr (11, [.ref qt_now, .ref xt_past, .int (it_saved), .ref xt_text, .int (it_length), .ref xt_doors, .int (it_doorMany), .ref xt_label, .int (it_drawn), .ref qt_far, .ref qt_ring, .int (it_walker), .int (it_from), .ref qt_was, .int (it_steps), .int (it_faultAt), .int (it_mover)])), (qt_now, .inl (cy.1, 639, .inl (ft_now))), (qt_far, .inl (cy.1, 210, .inl (ft_far))), (qt_ring, .inl (cy.1, 210, .inl (ft_ring))), (qt_was, .inl (cy.2.1, 210, .inl (ft_was)))] sz)) (va_Qi (fun r (_ : Unit) => r = out.1) (fun _ => kQ (dC, dI) cy [(qt, .inr (11, [.ref qt_now, .ref xt_past, .int (it_saved), .ref xt_text, .int (it_length), .ref xt_doors, .int (it_doorMany), .ref xt_label, .int (it_drawn), .ref qt_far, .ref qt_ring, .int (out.2.1), .int (out.2.2.1), .ref qt_was, .int (out.2.2.2.1), .int (it_faultAt), .int (it_mover)])), (qt_now, .inl (cy.1, 639, .inl (ft_now))), (qt_far, .inl (cy.1, 210, .inl (out.2.2.2.2.1))), (qt_ring, .inl (cy.1, 210, .inl (out.2.2.2.2.2.1))), (qt_was, .inl (cy.2.1, 210, .inl (out.2.2.2.2.2.2)))] (va_A [(qt, .inr (11, [.ref qt_now, .ref xt_past, .int (it_saved), .ref xt_text, .int (it_length), .ref xt_doors, .int (it_doorMany), .ref xt_label, .int (it_drawn), .ref qt_far, .ref qt_ring, .int (it_walker), .int (it_from), .ref qt_was, .int (it_steps), .int (it_faultAt), .int (it_mover)])), (qt_now, .inl (cy.1, 639, .inl (ft_now))), (qt_far, .inl (cy.1, 210, .inl (ft_far))), (qt_ring, .inl (cy.1, 210, .inl (ft_ring))), (qt_was, .inl (cy.2.1, 210, .inl (ft_was)))] sz)) (va_A [(qt, .inr (11, [.ref qt_now, .ref xt_past, .int (it_saved), .ref xt_text, .int (it_length), .ref xt_doors, .int (it_doorMany), .ref xt_label, .int (it_drawn), .ref qt_far, .ref qt_ring, .int (it_walker), .int (it_from), .ref qt_was, .int (it_steps), .int (it_faultAt), .int (it_mover)])), (qt_now, .inl (cy.1, 639, .inl (ft_now))), (qt_far, .inl (cy.1, 210, .inl (ft_far))), (qt_ring, .inl (cy.1, 210, .inl (ft_ring))), (qt_was, .inl (cy.2.1, 210, .inl (ft_was)))] sz)) 0 0 (va_A [(qt, .inr (11, [.ref qt_now, .ref xt_past, .int (it_saved), .ref xt_text, .int (it_length), .ref xt_doors, .int (it_doorMany), .ref xt_label, .int (it_drawn), .ref qt_far, .ref qt_ring, .int (it_walker), .int (it_from), .ref qt_was, .int (it_steps), .int (it_faultAt), .int (it_mover)])), (qt_now, .inl (cy.1, 639, .inl (ft_now))), (qt_far, .inl (cy.1, 210, .inl (ft_far))), (qt_ring, .inl (cy.1, 210, .inl (ft_ring))), (qt_was, .inl (cy.2.1, 210, .inl (ft_was)))] sz) := by
  refine Met.ofW (cc := cX11_walked) (maxL := 1) (ret := (some .int)) (by decide) rfl ?_
  intro p e s m args below meth c s₁ B hml hv
  obtain ⟨rfl, hsz, hP, hK, hD0, hG⟩ := hv
  have hx := B.exec
  have hb := B.bytes
  have hr := B.returns
  have hts := atoms_spec (ws := wsX11_walked) B.pre
  have hown : s.vm.findClass RX11 = some m.cls := findClass_of_methodNamed B.named
  have hlocks := B.notSynchronized
  subst hsz
  have hD := hD0.self (sz := s.heap.size)
  generalize hAe : va_A [(qt, .inr (11, [.ref qt_now, .ref xt_past, .int (it_saved), .ref xt_text, .int (it_length), .ref xt_doors, .int (it_doorMany), .ref xt_label, .int (it_drawn), .ref qt_far, .ref qt_ring, .int (it_walker), .int (it_from), .ref qt_was, .int (it_steps), .int (it_faultAt), .int (it_mover)])), (qt_now, .inl (cy.1, 639, .inl (ft_now))), (qt_far, .inl (cy.1, 210, .inl (ft_far))), (qt_ring, .inl (cy.1, 210, .inl (ft_ring))), (qt_was, .inl (cy.2.1, 210, .inl (ft_was)))] s.heap.size = A at hD hG ⊢
  have hA : ∀ q : Nat, s.heap.size ≤ q → A q := fun q h => by rw [← hAe]; exact Or.inr h
  have hS : va_S A s.heap s.heap [] := va_S.rf
  have hP : va_P (dC, dI) vwCl [(qt, .inr (11, [.ref qt_now, .ref xt_past, .int (it_saved), .ref xt_text, .int (it_length), .ref xt_doors, .int (it_doorMany), .ref xt_label, .int (it_drawn), .ref qt_far, .ref qt_ring, .int (it_walker), .int (it_from), .ref qt_was, .int (it_steps), .int (it_faultAt), .int (it_mover)])), (qt_now, .inl (cy.1, 639, .inl (ft_now))), (qt_far, .inl (cy.1, 210, .inl (ft_far))), (qt_ring, .inl (cy.1, 210, .inl (ft_ring))), (qt_was, .inl (cy.2.1, 210, .inl (ft_was)))] s.heap := hP
  have hl := lv_entry ([.ref qt]) (n := 1) (Nat.le_of_ble_eq_true rfl)
  rw [lg_entry_eq]
  generalize (lg_sl ([.ref qt]) ++ List.replicate (1 - (lg_sl ([.ref qt])).length) Slot.unset).toArray = ls at hl ⊢
  have hl : lv_has ls 1 [(0, .ref qt)] := hl
  refine kgen (fun Q hQ => ?_)
  rw [f_X11_walked] at hf
  refine lv_aload_n hx hb dX11_walked_0 rfl (lv_at hl 0 rfl) ?_
  refine lv_sipush (v := (2000 : Int32)) hx hb dX11_walked_1 (by decide) ?_
  obtain ⟨o4_0, o4_1, o4_2, o4_3, o4_4, o4_5, hq_4, hf⟩ := bnd6_s hf
  refine kcallv (wc := [(qt, .inr (11, [.ref qt_now, .ref xt_past, .int (it_saved), .ref xt_text, .int (it_length), .ref xt_doors, .int (it_doorMany), .ref xt_label, .int (it_drawn), .ref qt_far, .ref qt_ring, .int (it_walker), .int (it_from), .ref qt_was, .int (it_steps), .int (it_faultAt), .int (it_mover)])), (qt_now, .inl (cy.1, 639, .inl (ft_now))), (qt_far, .inl (cy.1, 210, .inl (ft_far))), (qt_ring, .inl (cy.1, 210, .inl (ft_ring))), (qt_was, .inl (cy.2.1, 210, .inl (ft_was)))]) (wr := []) (w1 := [(qt, .inr (11, [.ref qt_now, .ref xt_past, .int (it_saved), .ref xt_text, .int (it_length), .ref xt_doors, .int (it_doorMany), .ref xt_label, .int (it_drawn), .ref qt_far, .ref qt_ring, .int (o4_0), .int (o4_1), .ref qt_was, .int (o4_2), .int (it_faultAt), .int (it_mover)])), (qt_now, .inl (cy.1, 639, .inl (ft_now))), (qt_far, .inl (cy.1, 210, .inl (o4_3))), (qt_ring, .inl (cy.1, 210, .inl (o4_4))), (qt_was, .inl (cy.2.1, 210, .inl (o4_5)))]) hK hP hD hS hA hG [0, 1, 2, 3, 4] [] rfl rfl rfl rfl rfl (fun hU hPc => va_runV (As := [.int (2000 : Int32)]) (rest := []) ⟨hx, hb, hml, hown, hts⟩ (c_X11_walks l dC dI cy G s.heap.size qt qt_now qt_far qt_ring qt_was xt_past xt_text xt_doors xt_label (it_saved) (it_length) (it_doorMany) (it_drawn) (it_faultAt) (it_mover) N (it_walker) (it_from) (it_steps) (ft_now) (ft_far) (ft_ring) (ft_was) ((2000 : Int32)) (o4_0, o4_1, o4_2, o4_3, o4_4, o4_5) hq_4) (cwV 1 hts gX11_walked_X11_walks rfl rfl rfl hdX11_walks ⟨Nat.le_of_ble_eq_true rfl, Nat.le_of_ble_eq_true rfl⟩) ⟨kBlind, (va_recv hK hP (ci := 11) (q0 := 0) rfl rfl), fun U h1 h2 => ⟨rfl, hU U h1 h2⟩⟩ rfl rfl hl.1 rfl (lv_room (Nat.le_of_ble_eq_true rfl)) dX11_walked_4 ⟨Nat.zero_le _, Nat.zero_le _⟩) (fun _ _ h => h) (fun H locs hP hD hS => ?_)
  have hP : va_P (dC, dI) vwCl [(qt, .inr (11, [.ref qt_now, .ref xt_past, .int (it_saved), .ref xt_text, .int (it_length), .ref xt_doors, .int (it_doorMany), .ref xt_label, .int (it_drawn), .ref qt_far, .ref qt_ring, .int (o4_0), .int (o4_1), .ref qt_was, .int (o4_2), .int (it_faultAt), .int (it_mover)])), (qt_now, .inl (cy.1, 639, .inl (ft_now))), (qt_far, .inl (cy.1, 210, .inl (o4_3))), (qt_ring, .inl (cy.1, 210, .inl (o4_4))), (qt_was, .inl (cy.2.1, 210, .inl (o4_5)))] H := hP
  have hD : va_D A [(qt, .inr (11, [.ref qt_now, .ref xt_past, .int (it_saved), .ref xt_text, .int (it_length), .ref xt_doors, .int (it_doorMany), .ref xt_label, .int (it_drawn), .ref qt_far, .ref qt_ring, .int (o4_0), .int (o4_1), .ref qt_was, .int (o4_2), .int (it_faultAt), .int (it_mover)])), (qt_now, .inl (cy.1, 639, .inl (ft_now))), (qt_far, .inl (cy.1, 210, .inl (o4_3))), (qt_ring, .inl (cy.1, 210, .inl (o4_4))), (qt_was, .inl (cy.2.1, 210, .inl (o4_5)))] := hD
  refine lv_aload_n hx hb dX11_walked_7 rfl (lv_at hl 0 rfl) ?_
  refine va_get (D := (dC, dI)) (ci := 11) (C := RX11) (T := TX11) (N := 17) hx hb hts (fun _ h => (List.mem_cons_of_mem _ (List.mem_append_right _ h))) hown hK hP 0 rfl rfl 11 (by decide) (hts _ (List.mem_cons_of_mem _ (List.mem_append_left _ (List.mem_append_left _ (List.mem_of_getElem? (i := 0) rfl))))) (fun _ h => h) rfl dX11_walked_8 ?_
  refine lv_aload_n hx hb dX11_walked_11 rfl (lv_at hl 0 rfl) ?_
  refine va_get (D := (dC, dI)) (ci := 11) (C := RX11) (T := TX11) (N := 17) hx hb hts (fun _ h => (List.mem_cons_of_mem _ (List.mem_append_right _ h))) hown hK hP 0 rfl rfl 0 (by decide) (hts _ (List.mem_cons_of_mem _ (List.mem_append_left _ (List.mem_append_left _ (List.mem_of_getElem? (i := 1) rfl))))) (fun _ h => h) rfl dX11_walked_12 ?_
  refine lv_bipush (v := (8 : Int32)) hx hb dX11_walked_15 (by decide) ?_
  refine va_iald hx hb hK hP 1 0 rfl rfl (by unfold vp_in; decide) dX11_walked_17 ?_
  refine lv_icmp_ne (tgt := 28) hx hb dX11_walked_18 (by decide) (fun hc_18 => ?_) (fun hc_18 => ?_)
  · rw [if_neg hc_18] at hf
    refine lv_bipush (v := (-4 : Int32)) hx hb dX11_walked_28 (by decide) ?_
    cases hf
    subst hQ
    exact kiret hx hb hr hlocks hK (hP.sub [0, 1, 2, 3, 4] rfl) (hD.sub [0, 1, 2, 3, 4] (by decide) rfl) hS rfl dX11_walked_30
  · rw [if_pos hc_18] at hf
    refine lv_aload_n hx hb dX11_walked_21 rfl (lv_at hl 0 rfl) ?_
    refine va_get (D := (dC, dI)) (ci := 11) (C := RX11) (T := TX11) (N := 17) hx hb hts (fun _ h => (List.mem_cons_of_mem _ (List.mem_append_right _ h))) hown hK hP 0 rfl rfl 14 (by decide) (hts _ (List.mem_cons_of_mem _ (List.mem_append_left _ (List.mem_append_left _ (List.mem_of_getElem? (i := 2) rfl))))) (fun _ h => h) rfl dX11_walked_22 ?_
    refine lv_goto (tgt := 30) hx hb dX11_walked_25 (by decide) ?_
    cases hf
    subst hQ
    exact kiret hx hb hr hlocks hK (hP.sub [0, 1, 2, 3, 4] rfl) (hD.sub [0, 1, 2, 3, 4] (by decide) rfl) hS rfl dX11_walked_30
theorem hdX11_walked : yX11_walked.cls = RX11 ∧ yX11_walked.cls ≠ "java/lang/invoke/MethodHandle" ∧ yX11_walked.cls ≠ "java/lang/invoke/VarHandle" ∧ (parseMethodDescriptor yX11_walked.desc).map (fun d => d.parameters.length) = some 0 := by decide +kernel
noncomputable def f_X11_type (it_length : Int32) (ft_text : Nat → Int32) (va1 : Int32) : Option (Int32 × Int32 × (Nat → Int32)) :=
  if (t_X11_in (va1) ((32 : Int32)) ((126 : Int32))) = 0 then
    some ((-1 : Int32), it_length, ft_text)
  else
    if it_length = (200 : Int32) then
      some ((-3 : Int32), it_length, ft_text)
    else
      if it_length < 0 ∨ 200 ≤ (it_length).toNatClampNeg then none else
      some ((it_length + (1 : Int32)), (it_length + (1 : Int32)), (upd ft_text (it_length).toNatClampNeg va1))
abbrev rm_X11_type : Room := { frames := 1, cells := 0, slots := 0, locals := 22 }
set_option maxHeartbeats 4000000 in
set_option maxRecDepth 100000 in
theorem c_X11_type (l : Launch) (dC : Nat → ClassId) (dI : Nat → Nat → Nat) (cy : gC) (G : gT) (sz : Nat) (qt : Nat) (qt_text : Nat) (xt_now : Nat) (xt_past : Nat) (xt_doors : Nat) (xt_label : Nat) (xt_far : Nat) (xt_ring : Nat) (xt_was : Nat) (it_saved : Int32) (it_doorMany : Int32) (it_drawn : Int32) (it_walker : Int32) (it_from : Int32) (it_steps : Int32) (it_faultAt : Int32) (it_mover : Int32) (it_length : Int32) (ft_text : Nat → Int32) (va1 : Int32) (out : Int32 × Int32 × (Nat → Int32)) (hf : f_X11_type it_length ft_text va1 = some out) : Met l yX11_type wsX11_type rm_X11_type (va_Pc [.ref qt, .int va1] (kP (dC, dI) cy G [(qt, .inr (11, [.ref xt_now, .ref xt_past, .int (it_saved), .ref qt_text, .int (it_length), .ref xt_doors, .int (it_doorMany), .ref xt_label, .int (it_drawn), .ref xt_far, .ref xt_ring, .int (it_walker), .int (it_from), .ref xt_was, .int (it_steps), .int (it_faultAt), .int (it_mover)])), (qt_text, .inl (cy.1, 200, .inl (ft_text)))] sz)) (va_Qi (fun r (_ : Unit) => r = out.1) (fun _ => kQ (dC, dI) cy [(qt, .inr (11, [.ref xt_now, .ref xt_past, .int (it_saved), .ref qt_text, .int (out.2.1), .ref xt_doors, .int (it_doorMany), .ref xt_label, .int (it_drawn), .ref xt_far, .ref xt_ring, .int (it_walker), .int (it_from), .ref xt_was, .int (it_steps), .int (it_faultAt), .int (it_mover)])), (qt_text, .inl (cy.1, 200, .inl (out.2.2)))] (va_A [(qt, .inr (11, [.ref xt_now, .ref xt_past, .int (it_saved), .ref qt_text, .int (it_length), .ref xt_doors, .int (it_doorMany), .ref xt_label, .int (it_drawn), .ref xt_far, .ref xt_ring, .int (it_walker), .int (it_from), .ref xt_was, .int (it_steps), .int (it_faultAt), .int (it_mover)])), (qt_text, .inl (cy.1, 200, .inl (ft_text)))] sz)) (va_A [(qt, .inr (11, [.ref xt_now, .ref xt_past, .int (it_saved), .ref qt_text, .int (it_length), .ref xt_doors, .int (it_doorMany), .ref xt_label, .int (it_drawn), .ref xt_far, .ref xt_ring, .int (it_walker), .int (it_from), .ref xt_was, .int (it_steps), .int (it_faultAt), .int (it_mover)])), (qt_text, .inl (cy.1, 200, .inl (ft_text)))] sz)) 0 0 (va_A [(qt, .inr (11, [.ref xt_now, .ref xt_past, .int (it_saved), .ref qt_text, .int (it_length), .ref xt_doors, .int (it_doorMany), .ref xt_label, .int (it_drawn), .ref xt_far, .ref xt_ring, .int (it_walker), .int (it_from), .ref xt_was, .int (it_steps), .int (it_faultAt), .int (it_mover)])), (qt_text, .inl (cy.1, 200, .inl (ft_text)))] sz) := by
  refine Met.ofW (cc := cX11_type) (maxL := 2) (ret := (some .int)) (by decide) rfl ?_
  intro p e s m args below meth c s₁ B hml hv
  obtain ⟨rfl, hsz, hP, hK, hD0, hG⟩ := hv
  have hx := B.exec
  have hb := B.bytes
  have hr := B.returns
  have hts := atoms_spec (ws := wsX11_type) B.pre
  have hown : s.vm.findClass RX11 = some m.cls := findClass_of_methodNamed B.named
  have hlocks := B.notSynchronized
  subst hsz
  have hD := hD0.self (sz := s.heap.size)
  generalize hAe : va_A [(qt, .inr (11, [.ref xt_now, .ref xt_past, .int (it_saved), .ref qt_text, .int (it_length), .ref xt_doors, .int (it_doorMany), .ref xt_label, .int (it_drawn), .ref xt_far, .ref xt_ring, .int (it_walker), .int (it_from), .ref xt_was, .int (it_steps), .int (it_faultAt), .int (it_mover)])), (qt_text, .inl (cy.1, 200, .inl (ft_text)))] s.heap.size = A at hD hG ⊢
  have hA : ∀ q : Nat, s.heap.size ≤ q → A q := fun q h => by rw [← hAe]; exact Or.inr h
  have hS : va_S A s.heap s.heap [] := va_S.rf
  have hP : va_P (dC, dI) vwCl [(qt, .inr (11, [.ref xt_now, .ref xt_past, .int (it_saved), .ref qt_text, .int (it_length), .ref xt_doors, .int (it_doorMany), .ref xt_label, .int (it_drawn), .ref xt_far, .ref xt_ring, .int (it_walker), .int (it_from), .ref xt_was, .int (it_steps), .int (it_faultAt), .int (it_mover)])), (qt_text, .inl (cy.1, 200, .inl (ft_text)))] s.heap := hP
  have hl := lv_entry ([.ref qt, .int va1]) (n := 2) (Nat.le_of_ble_eq_true rfl)
  rw [lg_entry_eq]
  generalize (lg_sl ([.ref qt, .int va1]) ++ List.replicate (2 - (lg_sl ([.ref qt, .int va1])).length) Slot.unset).toArray = ls at hl ⊢
  have hl : lv_has ls 2 [(0, .ref qt), (1, .int va1)] := hl
  refine kgen (fun Q hQ => ?_)
  rw [f_X11_type] at hf
  refine lv_iload_n hx hb dX11_type_0 rfl (lv_at hl 1 rfl) ?_
  refine lv_bipush (v := (32 : Int32)) hx hb dX11_type_1 (by decide) ?_
  refine lv_bipush (v := (126 : Int32)) hx hb dX11_type_3 (by decide) ?_
  refine kcalli (wc := []) (wr := [(qt, .inr (11, [.ref xt_now, .ref xt_past, .int (it_saved), .ref qt_text, .int (it_length), .ref xt_doors, .int (it_doorMany), .ref xt_label, .int (it_drawn), .ref xt_far, .ref xt_ring, .int (it_walker), .int (it_from), .ref xt_was, .int (it_steps), .int (it_faultAt), .int (it_mover)])), (qt_text, .inl (cy.1, 200, .inl (ft_text)))]) (w1 := []) hK hP hD hS hA hG [] [0, 1] rfl rfl rfl rfl rfl (fun hU hPc => va_runS (As := [.int va1, .int (32 : Int32), .int (126 : Int32)]) (rest := []) ⟨hx, hb, hml, hown, hts⟩ (c_X11_in l dC dI cy G s.heap.size (va1) ((32 : Int32)) ((126 : Int32)) (t_X11_in (va1) ((32 : Int32)) ((126 : Int32))) (tot_X11_in (va1) ((32 : Int32)) ((126 : Int32)))) (va_cwS 3 hts gX11_type_X11_in rfl rfl rfl hdX11_in.2 ⟨Nat.le_of_ble_eq_true rfl, Nat.le_of_ble_eq_true rfl⟩) ⟨kBlind, fun U h1 h2 => ⟨rfl, hU U h1 h2⟩⟩ rfl rfl hl.1 rfl (lv_room (Nat.le_of_ble_eq_true rfl)) dX11_type_5 ⟨Nat.zero_le _, Nat.zero_le _⟩) ((t_X11_in (va1) ((32 : Int32)) ((126 : Int32)))) (fun _ _ h => h) (fun _ _ h => h) (fun H locs hP hD hS => ?_)
  have hP : va_P (dC, dI) vwCl [(qt, .inr (11, [.ref xt_now, .ref xt_past, .int (it_saved), .ref qt_text, .int (it_length), .ref xt_doors, .int (it_doorMany), .ref xt_label, .int (it_drawn), .ref xt_far, .ref xt_ring, .int (it_walker), .int (it_from), .ref xt_was, .int (it_steps), .int (it_faultAt), .int (it_mover)])), (qt_text, .inl (cy.1, 200, .inl (ft_text)))] H := hP
  have hD : va_D A [(qt, .inr (11, [.ref xt_now, .ref xt_past, .int (it_saved), .ref qt_text, .int (it_length), .ref xt_doors, .int (it_doorMany), .ref xt_label, .int (it_drawn), .ref xt_far, .ref xt_ring, .int (it_walker), .int (it_from), .ref xt_was, .int (it_steps), .int (it_faultAt), .int (it_mover)])), (qt_text, .inl (cy.1, 200, .inl (ft_text)))] := hD
  refine lv_if_ne (tgt := 13) hx hb dX11_type_8 (by decide) (fun hc_8 => ?_) (fun hc_8 => ?_)
  · rw [if_neg hc_8] at hf
    refine lv_aload_n hx hb dX11_type_13 rfl (lv_at hl 0 rfl) ?_
    refine va_get (D := (dC, dI)) (ci := 11) (C := RX11) (T := TX11) (N := 17) hx hb hts (fun _ h => (List.mem_cons_of_mem _ (List.mem_append_right _ h))) hown hK hP 0 rfl rfl 4 (by decide) (hts _ (List.mem_cons_of_mem _ (List.mem_append_left _ (List.mem_of_getElem? (i := 0) rfl)))) (fun _ h => h) rfl dX11_type_14 ?_
    refine lv_sipush (v := (200 : Int32)) hx hb dX11_type_17 (by decide) ?_
    refine lv_icmp_ne (tgt := 26) hx hb dX11_type_20 (by decide) (fun hc_20 => ?_) (fun hc_20 => ?_)
    · rw [if_neg hc_20] at hf
      refine lv_aload_n hx hb dX11_type_26 rfl (lv_at hl 0 rfl) ?_
      refine va_get (D := (dC, dI)) (ci := 11) (C := RX11) (T := TX11) (N := 17) hx hb hts (fun _ h => (List.mem_cons_of_mem _ (List.mem_append_right _ h))) hown hK hP 0 rfl rfl 3 (by decide) (hts _ (List.mem_cons_of_mem _ (List.mem_append_left _ (List.mem_of_getElem? (i := 1) rfl)))) (fun _ h => h) rfl dX11_type_27 ?_
      refine lv_aload_n hx hb dX11_type_30 rfl (lv_at hl 0 rfl) ?_
      refine va_get (D := (dC, dI)) (ci := 11) (C := RX11) (T := TX11) (N := 17) hx hb hts (fun _ h => (List.mem_cons_of_mem _ (List.mem_append_right _ h))) hown hK hP 0 rfl rfl 4 (by decide) (hts _ (List.mem_cons_of_mem _ (List.mem_append_left _ (List.mem_of_getElem? (i := 0) rfl)))) (fun _ h => h) rfl dX11_type_31 ?_
      refine lv_iload_n hx hb dX11_type_34 rfl (lv_at hl 1 rfl) ?_
      obtain ⟨hk_35, hf⟩ := chk_s hf
      refine va_iast hx hb hK hP hD hS 1 0 rfl rfl hk_35 dX11_type_35 (fun H locs hP hD hS => ?_)
      have hP : va_P (dC, dI) vwCl [(qt, .inr (11, [.ref xt_now, .ref xt_past, .int (it_saved), .ref qt_text, .int (it_length), .ref xt_doors, .int (it_doorMany), .ref xt_label, .int (it_drawn), .ref xt_far, .ref xt_ring, .int (it_walker), .int (it_from), .ref xt_was, .int (it_steps), .int (it_faultAt), .int (it_mover)])), (qt_text, .inl (cy.1, 200, .inl ((upd ft_text (it_length).toNatClampNeg va1))))] H := hP
      have hD : va_D A [(qt, .inr (11, [.ref xt_now, .ref xt_past, .int (it_saved), .ref qt_text, .int (it_length), .ref xt_doors, .int (it_doorMany), .ref xt_label, .int (it_drawn), .ref xt_far, .ref xt_ring, .int (it_walker), .int (it_from), .ref xt_was, .int (it_steps), .int (it_faultAt), .int (it_mover)])), (qt_text, .inl (cy.1, 200, .inl ((upd ft_text (it_length).toNatClampNeg va1))))] := hD
      refine lv_aload_n hx hb dX11_type_36 rfl (lv_at hl 0 rfl) ?_
      refine lv_dup hx hb dX11_type_37 rfl ?_
      refine va_get (D := (dC, dI)) (ci := 11) (C := RX11) (T := TX11) (N := 17) hx hb hts (fun _ h => (List.mem_cons_of_mem _ (List.mem_append_right _ h))) hown hK hP 0 rfl rfl 4 (by decide) (hts _ (List.mem_cons_of_mem _ (List.mem_append_left _ (List.mem_of_getElem? (i := 0) rfl)))) (fun _ h => h) rfl dX11_type_38 ?_
      refine lv_iconst (v := (1 : Int32)) hx hb dX11_type_41 (by decide) ?_
      refine lv_iadd hx hb dX11_type_42 ?_
      refine va_put (D := (dC, dI)) (ci := 11) (v := .int (it_length + (1 : Int32))) (ty := .int) (C := RX11) (T := TX11) (N := 17) hx hb hts (fun _ h => (List.mem_cons_of_mem _ (List.mem_append_right _ h))) tyX11 tyX11_ok nmX11 hown hK hP hD hS 0 rfl rfl 4 (by decide) (hts _ (List.mem_cons_of_mem _ (List.mem_append_left _ (List.mem_of_getElem? (i := 0) rfl)))) (fun _ h => h) rfl (by decide +kernel) rfl rfl (Nat.le_of_ble_eq_true rfl) dX11_type_43 (fun H locs hP hD hS => ?_)
      have hP : va_P (dC, dI) vwCl [(qt, .inr (11, [.ref xt_now, .ref xt_past, .int (it_saved), .ref qt_text, .int ((it_length + (1 : Int32))), .ref xt_doors, .int (it_doorMany), .ref xt_label, .int (it_drawn), .ref xt_far, .ref xt_ring, .int (it_walker), .int (it_from), .ref xt_was, .int (it_steps), .int (it_faultAt), .int (it_mover)])), (qt_text, .inl (cy.1, 200, .inl ((upd ft_text (it_length).toNatClampNeg va1))))] H := hP
      have hD : va_D A [(qt, .inr (11, [.ref xt_now, .ref xt_past, .int (it_saved), .ref qt_text, .int ((it_length + (1 : Int32))), .ref xt_doors, .int (it_doorMany), .ref xt_label, .int (it_drawn), .ref xt_far, .ref xt_ring, .int (it_walker), .int (it_from), .ref xt_was, .int (it_steps), .int (it_faultAt), .int (it_mover)])), (qt_text, .inl (cy.1, 200, .inl ((upd ft_text (it_length).toNatClampNeg va1))))] := hD
      refine lv_aload_n hx hb dX11_type_46 rfl (lv_at hl 0 rfl) ?_
      refine va_get (D := (dC, dI)) (ci := 11) (C := RX11) (T := TX11) (N := 17) hx hb hts (fun _ h => (List.mem_cons_of_mem _ (List.mem_append_right _ h))) hown hK hP 0 rfl rfl 4 (by decide) (hts _ (List.mem_cons_of_mem _ (List.mem_append_left _ (List.mem_of_getElem? (i := 0) rfl)))) (fun _ h => h) rfl dX11_type_47 ?_
      cases hf
      subst hQ
      exact kiret hx hb hr hlocks hK (hP.sub [0, 1] rfl) (hD.sub [0, 1] (by decide) rfl) hS rfl dX11_type_50
    · rw [if_pos hc_20] at hf
      refine lv_bipush (v := (-3 : Int32)) hx hb dX11_type_23 (by decide) ?_
      cases hf
      subst hQ
      exact kiret hx hb hr hlocks hK (hP.sub [0, 1] rfl) (hD.sub [0, 1] (by decide) rfl) hS rfl dX11_type_25
  · rw [if_pos hc_8] at hf
    refine lv_iconst (v := (-1 : Int32)) hx hb dX11_type_11 (by decide) ?_
    cases hf
    subst hQ
    exact kiret hx hb hr hlocks hK (hP.sub [0, 1] rfl) (hD.sub [0, 1] (by decide) rfl) hS rfl dX11_type_12
theorem hdX11_type : yX11_type.cls = RX11 ∧ yX11_type.cls ≠ "java/lang/invoke/MethodHandle" ∧ yX11_type.cls ≠ "java/lang/invoke/VarHandle" ∧ (parseMethodDescriptor yX11_type.desc).map (fun d => d.parameters.length) = some 1 := by decide +kernel
noncomputable def f_X11_clearText (it_length : Int32) : Option (Int32 × Int32) :=
  some (it_length, (0 : Int32))
abbrev rm_X11_clearText : Room := { frames := 0, cells := 0, slots := 0, locals := 0 }
set_option maxHeartbeats 4000000 in
set_option maxRecDepth 100000 in
theorem c_X11_clearText (l : Launch) (dC : Nat → ClassId) (dI : Nat → Nat → Nat) (cy : gC) (G : gT) (sz : Nat) (qt : Nat) (xt_now : Nat) (xt_past : Nat) (xt_text : Nat) (xt_doors : Nat) (xt_label : Nat) (xt_far : Nat) (xt_ring : Nat) (xt_was : Nat) (it_saved : Int32) (it_doorMany : Int32) (it_drawn : Int32) (it_walker : Int32) (it_from : Int32) (it_steps : Int32) (it_faultAt : Int32) (it_mover : Int32) (it_length : Int32) (out : Int32 × Int32) (hf : f_X11_clearText it_length = some out) : Met l yX11_clearText wsX11_clearText rm_X11_clearText (va_Pc [.ref qt] (kP (dC, dI) cy G [(qt, .inr (11, [.ref xt_now, .ref xt_past, .int (it_saved), .ref xt_text, .int (it_length), .ref xt_doors, .int (it_doorMany), .ref xt_label, .int (it_drawn), .ref xt_far, .ref xt_ring, .int (it_walker), .int (it_from), .ref xt_was, .int (it_steps), .int (it_faultAt), .int (it_mover)]))] sz)) (va_Qi (fun r (_ : Unit) => r = out.1) (fun _ => kQ (dC, dI) cy [(qt, .inr (11, [.ref xt_now, .ref xt_past, .int (it_saved), .ref xt_text, .int (out.2), .ref xt_doors, .int (it_doorMany), .ref xt_label, .int (it_drawn), .ref xt_far, .ref xt_ring, .int (it_walker), .int (it_from), .ref xt_was, .int (it_steps), .int (it_faultAt), .int (it_mover)]))] (va_A [(qt, .inr (11, [.ref xt_now, .ref xt_past, .int (it_saved), .ref xt_text, .int (it_length), .ref xt_doors, .int (it_doorMany), .ref xt_label, .int (it_drawn), .ref xt_far, .ref xt_ring, .int (it_walker), .int (it_from), .ref xt_was, .int (it_steps), .int (it_faultAt), .int (it_mover)]))] sz)) (va_A [(qt, .inr (11, [.ref xt_now, .ref xt_past, .int (it_saved), .ref xt_text, .int (it_length), .ref xt_doors, .int (it_doorMany), .ref xt_label, .int (it_drawn), .ref xt_far, .ref xt_ring, .int (it_walker), .int (it_from), .ref xt_was, .int (it_steps), .int (it_faultAt), .int (it_mover)]))] sz)) 0 0 (va_A [(qt, .inr (11, [.ref xt_now, .ref xt_past, .int (it_saved), .ref xt_text, .int (it_length), .ref xt_doors, .int (it_doorMany), .ref xt_label, .int (it_drawn), .ref xt_far, .ref xt_ring, .int (it_walker), .int (it_from), .ref xt_was, .int (it_steps), .int (it_faultAt), .int (it_mover)]))] sz) := by
  refine Met.ofW (cc := cX11_clearText) (maxL := 2) (ret := (some .int)) (by decide) rfl ?_
  intro p e s m args below meth c s₁ B hml hv
  obtain ⟨rfl, hsz, hP, hK, hD0, hG⟩ := hv
  have hx := B.exec
  have hb := B.bytes
  have hr := B.returns
  have hts := atoms_spec (ws := wsX11_clearText) B.pre
  have hown : s.vm.findClass RX11 = some m.cls := findClass_of_methodNamed B.named
  have hlocks := B.notSynchronized
  subst hsz
  have hD := hD0.self (sz := s.heap.size)
  generalize hAe : va_A [(qt, .inr (11, [.ref xt_now, .ref xt_past, .int (it_saved), .ref xt_text, .int (it_length), .ref xt_doors, .int (it_doorMany), .ref xt_label, .int (it_drawn), .ref xt_far, .ref xt_ring, .int (it_walker), .int (it_from), .ref xt_was, .int (it_steps), .int (it_faultAt), .int (it_mover)]))] s.heap.size = A at hD hG ⊢
  have hA : ∀ q : Nat, s.heap.size ≤ q → A q := fun q h => by rw [← hAe]; exact Or.inr h
  have hS : va_S A s.heap s.heap [] := va_S.rf
  have hP : va_P (dC, dI) vwCl [(qt, .inr (11, [.ref xt_now, .ref xt_past, .int (it_saved), .ref xt_text, .int (it_length), .ref xt_doors, .int (it_doorMany), .ref xt_label, .int (it_drawn), .ref xt_far, .ref xt_ring, .int (it_walker), .int (it_from), .ref xt_was, .int (it_steps), .int (it_faultAt), .int (it_mover)]))] s.heap := hP
  have hl := lv_entry ([.ref qt]) (n := 2) (Nat.le_of_ble_eq_true rfl)
  rw [lg_entry_eq]
  generalize (lg_sl ([.ref qt]) ++ List.replicate (2 - (lg_sl ([.ref qt])).length) Slot.unset).toArray = ls at hl ⊢
  have hl : lv_has ls 2 [(0, .ref qt)] := hl
  refine kgen (fun Q hQ => ?_)
  rw [f_X11_clearText] at hf
  refine lv_aload_n hx hb dX11_clearText_0 rfl (lv_at hl 0 rfl) ?_
  refine va_get (D := (dC, dI)) (ci := 11) (C := RX11) (T := TX11) (N := 17) hx hb hts (fun _ h => (List.mem_cons_of_mem _ (List.mem_append_right _ h))) hown hK hP 0 rfl rfl 4 (by decide) (hts _ (List.mem_cons_of_mem _ (List.mem_append_left _ (List.mem_of_getElem? (i := 0) rfl)))) (fun _ h => h) rfl dX11_clearText_1 ?_
  refine lv_istore_n (lv' := [(1, .int it_length), (0, .ref qt)]) hx hb dX11_clearText_4 rfl hl (by decide) rfl (fun ls hl => ?_)
  refine lv_aload_n hx hb dX11_clearText_5 rfl (lv_at hl 1 rfl) ?_
  refine lv_iconst (v := (0 : Int32)) hx hb dX11_clearText_6 (by decide) ?_
  refine va_put (D := (dC, dI)) (ci := 11) (v := .int (0 : Int32)) (ty := .int) (C := RX11) (T := TX11) (N := 17) hx hb hts (fun _ h => (List.mem_cons_of_mem _ (List.mem_append_right _ h))) tyX11 tyX11_ok nmX11 hown hK hP hD hS 0 rfl rfl 4 (by decide) (hts _ (List.mem_cons_of_mem _ (List.mem_append_left _ (List.mem_of_getElem? (i := 0) rfl)))) (fun _ h => h) rfl (by decide +kernel) rfl rfl (Nat.le_of_ble_eq_true rfl) dX11_clearText_7 (fun H locs hP hD hS => ?_)
  have hP : va_P (dC, dI) vwCl [(qt, .inr (11, [.ref xt_now, .ref xt_past, .int (it_saved), .ref xt_text, .int ((0 : Int32)), .ref xt_doors, .int (it_doorMany), .ref xt_label, .int (it_drawn), .ref xt_far, .ref xt_ring, .int (it_walker), .int (it_from), .ref xt_was, .int (it_steps), .int (it_faultAt), .int (it_mover)]))] H := hP
  have hD : va_D A [(qt, .inr (11, [.ref xt_now, .ref xt_past, .int (it_saved), .ref xt_text, .int ((0 : Int32)), .ref xt_doors, .int (it_doorMany), .ref xt_label, .int (it_drawn), .ref xt_far, .ref xt_ring, .int (it_walker), .int (it_from), .ref xt_was, .int (it_steps), .int (it_faultAt), .int (it_mover)]))] := hD
  refine lv_iload_n hx hb dX11_clearText_10 rfl (lv_at hl 0 rfl) ?_
  cases hf
  subst hQ
  exact kiret hx hb hr hlocks hK (hP.sub [0] rfl) (hD.sub [0] (by decide) rfl) hS rfl dX11_clearText_11
theorem hdX11_clearText : yX11_clearText.cls = RX11 ∧ yX11_clearText.cls ≠ "java/lang/invoke/MethodHandle" ∧ yX11_clearText.cls ≠ "java/lang/invoke/VarHandle" ∧ (parseMethodDescriptor yX11_clearText.desc).map (fun d => d.parameters.length) = some 0 := by decide +kernel
noncomputable def t_X11_clearText_0 (it_length : Int32) : Int32 :=
  it_length
noncomputable def t_X11_clearText_1 (it_length : Int32) : Int32 :=
  (0 : Int32)
theorem tot_X11_clearText (it_length : Int32) : f_X11_clearText it_length = some (t_X11_clearText_0 it_length, t_X11_clearText_1 it_length) := by
  simp only [f_X11_clearText, t_X11_clearText_0, t_X11_clearText_1]
noncomputable def f_X11_directionOf (va1 : Int32) : Option (Int32) :=
  if va1 = (85 : Int32) then
    some ((0 : Int32))
  else
    if va1 = (82 : Int32) then
      some ((1 : Int32))
    else
      if va1 = (68 : Int32) then
        some ((2 : Int32))
      else
        if va1 = (76 : Int32) then
          some ((3 : Int32))
        else
          some ((-1 : Int32))
abbrev rm_X11_directionOf : Room := { frames := 0, cells := 0, slots := 0, locals := 0 }
set_option maxHeartbeats 4000000 in
set_option maxRecDepth 100000 in
theorem c_X11_directionOf (l : Launch) (dC : Nat → ClassId) (dI : Nat → Nat → Nat) (cy : gC) (G : gT) (sz : Nat) (va1 : Int32) (out : Int32) (hf : f_X11_directionOf va1 = some out) : Met l yX11_directionOf wsX11_directionOf rm_X11_directionOf (va_Pc [.int va1] (kP (dC, dI) cy G [] sz)) (va_Qi (fun r (_ : Unit) => r = out) (fun _ => kQ (dC, dI) cy [] (va_A [] sz)) (va_A [] sz)) 0 0 (va_A [] sz) := by
  refine Met.ofW (cc := cX11_directionOf) (maxL := 1) (ret := (some .int)) (by decide) rfl ?_
  intro p e s m args below meth c s₁ B hml hv
  obtain ⟨rfl, hsz, hP, hK, hD0, hG⟩ := hv
  have hx := B.exec
  have hb := B.bytes
  have hr := B.returns
  have hts := atoms_spec (ws := wsX11_directionOf) B.pre
  have hown : s.vm.findClass RX11 = some m.cls := findClass_of_methodNamed B.named
  have hlocks := B.notSynchronized
  subst hsz
  have hD := hD0.self (sz := s.heap.size)
  generalize hAe : va_A [] s.heap.size = A at hD hG ⊢
  have hA : ∀ q : Nat, s.heap.size ≤ q → A q := fun q h => by rw [← hAe]; exact Or.inr h
  have hS : va_S A s.heap s.heap [] := va_S.rf
  have hP : va_P (dC, dI) vwCl [] s.heap := hP
  have hl := lv_entry ([.int va1]) (n := 1) (Nat.le_of_ble_eq_true rfl)
  rw [lg_entry_eq]
  generalize (lg_sl ([.int va1]) ++ List.replicate (1 - (lg_sl ([.int va1])).length) Slot.unset).toArray = ls at hl ⊢
  have hl : lv_has ls 1 [(0, .int va1)] := hl
  refine kgen (fun Q hQ => ?_)
  rw [f_X11_directionOf] at hf
  refine lv_iload_n hx hb dX11_directionOf_0 rfl (lv_at hl 0 rfl) ?_
  refine lv_bipush (v := (85 : Int32)) hx hb dX11_directionOf_1 (by decide) ?_
  refine lv_icmp_ne (tgt := 10) hx hb dX11_directionOf_3 (by decide) (fun hc_3 => ?_) (fun hc_3 => ?_)
  · rw [if_neg hc_3] at hf
    refine lv_iload_n hx hb dX11_directionOf_10 rfl (lv_at hl 0 rfl) ?_
    refine lv_bipush (v := (82 : Int32)) hx hb dX11_directionOf_11 (by decide) ?_
    refine lv_icmp_ne (tgt := 20) hx hb dX11_directionOf_13 (by decide) (fun hc_13 => ?_) (fun hc_13 => ?_)
    · rw [if_neg hc_13] at hf
      refine lv_iload_n hx hb dX11_directionOf_20 rfl (lv_at hl 0 rfl) ?_
      refine lv_bipush (v := (68 : Int32)) hx hb dX11_directionOf_21 (by decide) ?_
      refine lv_icmp_ne (tgt := 30) hx hb dX11_directionOf_23 (by decide) (fun hc_23 => ?_) (fun hc_23 => ?_)
      · rw [if_neg hc_23] at hf
        refine lv_iload_n hx hb dX11_directionOf_30 rfl (lv_at hl 0 rfl) ?_
        refine lv_bipush (v := (76 : Int32)) hx hb dX11_directionOf_31 (by decide) ?_
        refine lv_icmp_ne (tgt := 40) hx hb dX11_directionOf_33 (by decide) (fun hc_33 => ?_) (fun hc_33 => ?_)
        · rw [if_neg hc_33] at hf
          refine lv_iconst (v := (-1 : Int32)) hx hb dX11_directionOf_40 (by decide) ?_
          cases hf
          subst hQ
          exact kiret hx hb hr hlocks hK (hP.sub [] rfl) (hD.sub [] (by decide) rfl) hS rfl dX11_directionOf_41
        · rw [if_pos hc_33] at hf
          refine lv_iconst (v := (3 : Int32)) hx hb dX11_directionOf_36 (by decide) ?_
          refine lv_goto (tgt := 41) hx hb dX11_directionOf_37 (by decide) ?_
          cases hf
          subst hQ
          exact kiret hx hb hr hlocks hK (hP.sub [] rfl) (hD.sub [] (by decide) rfl) hS rfl dX11_directionOf_41
      · rw [if_pos hc_23] at hf
        refine lv_iconst (v := (2 : Int32)) hx hb dX11_directionOf_26 (by decide) ?_
        refine lv_goto (tgt := 41) hx hb dX11_directionOf_27 (by decide) ?_
        cases hf
        subst hQ
        exact kiret hx hb hr hlocks hK (hP.sub [] rfl) (hD.sub [] (by decide) rfl) hS rfl dX11_directionOf_41
    · rw [if_pos hc_13] at hf
      refine lv_iconst (v := (1 : Int32)) hx hb dX11_directionOf_16 (by decide) ?_
      refine lv_goto (tgt := 41) hx hb dX11_directionOf_17 (by decide) ?_
      cases hf
      subst hQ
      exact kiret hx hb hr hlocks hK (hP.sub [] rfl) (hD.sub [] (by decide) rfl) hS rfl dX11_directionOf_41
  · rw [if_pos hc_3] at hf
    refine lv_iconst (v := (0 : Int32)) hx hb dX11_directionOf_6 (by decide) ?_
    refine lv_goto (tgt := 41) hx hb dX11_directionOf_7 (by decide) ?_
    cases hf
    subst hQ
    exact kiret hx hb hr hlocks hK (hP.sub [] rfl) (hD.sub [] (by decide) rfl) hS rfl dX11_directionOf_41
theorem hdX11_directionOf : yX11_directionOf.cls = RX11 ∧ yX11_directionOf.cls ≠ "java/lang/invoke/MethodHandle" ∧ yX11_directionOf.cls ≠ "java/lang/invoke/VarHandle" ∧ (parseMethodDescriptor yX11_directionOf.desc).map (fun d => d.parameters.length) = some 1 := by decide +kernel
noncomputable def t_X11_directionOf (va1 : Int32) : Int32 :=
  if va1 = (85 : Int32) then
    (0 : Int32)
  else
    if va1 = (82 : Int32) then
      (1 : Int32)
    else
      if va1 = (68 : Int32) then
        (2 : Int32)
      else
        if va1 = (76 : Int32) then
          (3 : Int32)
        else
          (-1 : Int32)
theorem tot_X11_directionOf (va1 : Int32) : f_X11_directionOf va1 = some (t_X11_directionOf va1) := by
  by_cases hc_3 : va1 = (85 : Int32)
  · simp only [f_X11_directionOf, t_X11_directionOf, if_pos hc_3]
  · by_cases hc_13 : va1 = (82 : Int32)
    · simp only [f_X11_directionOf, t_X11_directionOf, if_neg hc_3, if_pos hc_13]
    · by_cases hc_23 : va1 = (68 : Int32)
      · simp only [f_X11_directionOf, t_X11_directionOf, if_neg hc_3, if_neg hc_13, if_pos hc_23]
      · by_cases hc_33 : va1 = (76 : Int32)
        · simp only [f_X11_directionOf, t_X11_directionOf, if_neg hc_3, if_neg hc_13, if_neg hc_23, if_pos hc_33]
        · simp only [f_X11_directionOf, t_X11_directionOf, if_neg hc_3, if_neg hc_13, if_neg hc_23, if_neg hc_33]
noncomputable def b_X11_moves_90 (N : Nat) (it_length : Int32) (ft_now : Nat → Int32) (ft_text : Nat → Int32) (k13 : Int32 → Int32 → Int32 → Option (Int32 × Int32 × Int32)) (l1 : Int32) (l2 : Int32) (s0 : Int32) (cit_faultAt : Int32) (cit_mover : Int32) : Option (Int32 × Int32 × Int32) :=
  if s0 ≤ 0 then
    bnd1 (f_X11_beside (ft_now) (cit_mover) (l2)) fun r109 =>
    k13 ((l1 + (1 : Int32))) (l1) (r109)
  else
    some (s0, l1, cit_mover)
noncomputable def b_X11_moves_13 (N : Nat) (it_length : Int32) (ft_now : Nat → Int32) (ft_text : Nat → Int32) : Nat → Int32 → Int32 → Int32 → Option (Int32 × Int32 × Int32)
  | 0, _, _, _ => none
  | n + 1, l1, cit_faultAt, cit_mover =>
    if it_length ≤ l1 then
      if cit_mover = (ft_now ((8 : Int32)).toNatClampNeg) then
        some ((0 : Int32), it_length, cit_mover)
      else
        some ((5 : Int32), it_length, cit_mover)
    else
      if l1 < 0 ∨ 200 ≤ (l1).toNatClampNeg then none else
      if 0 ≤ (t_X11_directionOf ((ft_text (l1).toNatClampNeg))) then
        bnd1 (f_X11_beside (ft_now) (cit_mover) ((t_X11_directionOf ((ft_text (l1).toNatClampNeg))))) fun r45 =>
        if 0 ≤ r45 then
          bnd1 (f_X11_isOpen (ft_now) (cit_mover) ((t_X11_directionOf ((ft_text (l1).toNatClampNeg))))) fun r61 =>
          if r61 = 0 then
            b_X11_moves_90 N it_length ft_now ft_text (b_X11_moves_13 N it_length ft_now ft_text n) (l1) ((t_X11_directionOf ((ft_text (l1).toNatClampNeg)))) ((3 : Int32)) (cit_faultAt) (cit_mover)
          else
            if cit_mover = (ft_now ((8 : Int32)).toNatClampNeg) then
              b_X11_moves_90 N it_length ft_now ft_text (b_X11_moves_13 N it_length ft_now ft_text n) (l1) ((t_X11_directionOf ((ft_text (l1).toNatClampNeg)))) ((4 : Int32)) (cit_faultAt) (cit_mover)
            else
              b_X11_moves_90 N it_length ft_now ft_text (b_X11_moves_13 N it_length ft_now ft_text n) (l1) ((t_X11_directionOf ((ft_text (l1).toNatClampNeg)))) ((0 : Int32)) (cit_faultAt) (cit_mover)
        else
          b_X11_moves_90 N it_length ft_now ft_text (b_X11_moves_13 N it_length ft_now ft_text n) (l1) ((t_X11_directionOf ((ft_text (l1).toNatClampNeg)))) ((2 : Int32)) (cit_faultAt) (cit_mover)
      else
        b_X11_moves_90 N it_length ft_now ft_text (b_X11_moves_13 N it_length ft_now ft_text n) (l1) ((t_X11_directionOf ((ft_text (l1).toNatClampNeg)))) ((1 : Int32)) (cit_faultAt) (cit_mover)
noncomputable def f_X11_moves (N : Nat) (it_length : Int32) (it_faultAt : Int32) (it_mover : Int32) (ft_now : Nat → Int32) (ft_text : Nat → Int32) : Option (Int32 × Int32 × Int32) :=
  b_X11_moves_13 N it_length ft_now ft_text N ((0 : Int32)) (it_faultAt) ((ft_now ((7 : Int32)).toNatClampNeg))
abbrev rm_X11_moves : Room := { frames := 6, cells := 0, slots := 0, locals := 135 }
set_option maxHeartbeats 4000000 in
set_option maxRecDepth 100000 in
theorem c_X11_moves (l : Launch) (dC : Nat → ClassId) (dI : Nat → Nat → Nat) (cy : gC) (G : gT) (sz : Nat) (qt : Nat) (qt_now : Nat) (qt_text : Nat) (xt_past : Nat) (xt_doors : Nat) (xt_label : Nat) (xt_far : Nat) (xt_ring : Nat) (xt_was : Nat) (it_saved : Int32) (it_doorMany : Int32) (it_drawn : Int32) (it_walker : Int32) (it_from : Int32) (it_steps : Int32) (N : Nat) (it_length : Int32) (it_faultAt : Int32) (it_mover : Int32) (ft_now : Nat → Int32) (ft_text : Nat → Int32) (out : Int32 × Int32 × Int32) (hf : f_X11_moves N it_length it_faultAt it_mover ft_now ft_text = some out) : Met l yX11_moves wsX11_moves rm_X11_moves (va_Pc [.ref qt] (kP (dC, dI) cy G [(qt, .inr (11, [.ref qt_now, .ref xt_past, .int (it_saved), .ref qt_text, .int (it_length), .ref xt_doors, .int (it_doorMany), .ref xt_label, .int (it_drawn), .ref xt_far, .ref xt_ring, .int (it_walker), .int (it_from), .ref xt_was, .int (it_steps), .int (it_faultAt), .int (it_mover)])), (qt_now, .inl (cy.1, 639, .inl (ft_now))), (qt_text, .inl (cy.1, 200, .inl (ft_text)))] sz)) (va_Qi (fun r (_ : Unit) => r = out.1) (fun _ => kQ (dC, dI) cy [(qt, .inr (11, [.ref qt_now, .ref xt_past, .int (it_saved), .ref qt_text, .int (it_length), .ref xt_doors, .int (it_doorMany), .ref xt_label, .int (it_drawn), .ref xt_far, .ref xt_ring, .int (it_walker), .int (it_from), .ref xt_was, .int (it_steps), .int (out.2.1), .int (out.2.2)])), (qt_now, .inl (cy.1, 639, .inl (ft_now))), (qt_text, .inl (cy.1, 200, .inl (ft_text)))] (va_A [(qt, .inr (11, [.ref qt_now, .ref xt_past, .int (it_saved), .ref qt_text, .int (it_length), .ref xt_doors, .int (it_doorMany), .ref xt_label, .int (it_drawn), .ref xt_far, .ref xt_ring, .int (it_walker), .int (it_from), .ref xt_was, .int (it_steps), .int (it_faultAt), .int (it_mover)])), (qt_now, .inl (cy.1, 639, .inl (ft_now))), (qt_text, .inl (cy.1, 200, .inl (ft_text)))] sz)) (va_A [(qt, .inr (11, [.ref qt_now, .ref xt_past, .int (it_saved), .ref qt_text, .int (it_length), .ref xt_doors, .int (it_doorMany), .ref xt_label, .int (it_drawn), .ref xt_far, .ref xt_ring, .int (it_walker), .int (it_from), .ref xt_was, .int (it_steps), .int (it_faultAt), .int (it_mover)])), (qt_now, .inl (cy.1, 639, .inl (ft_now))), (qt_text, .inl (cy.1, 200, .inl (ft_text)))] sz)) 0 0 (va_A [(qt, .inr (11, [.ref qt_now, .ref xt_past, .int (it_saved), .ref qt_text, .int (it_length), .ref xt_doors, .int (it_doorMany), .ref xt_label, .int (it_drawn), .ref xt_far, .ref xt_ring, .int (it_walker), .int (it_from), .ref xt_was, .int (it_steps), .int (it_faultAt), .int (it_mover)])), (qt_now, .inl (cy.1, 639, .inl (ft_now))), (qt_text, .inl (cy.1, 200, .inl (ft_text)))] sz) := by
  refine Met.ofW (cc := cX11_moves) (maxL := 4) (ret := (some .int)) (by decide) rfl ?_
  intro p e s m args below meth c s₁ B hml hv
  obtain ⟨rfl, hsz, hP, hK, hD0, hG⟩ := hv
  have hx := B.exec
  have hb := B.bytes
  have hr := B.returns
  have hts := atoms_spec (ws := wsX11_moves) B.pre
  have hown : s.vm.findClass RX11 = some m.cls := findClass_of_methodNamed B.named
  have hlocks := B.notSynchronized
  subst hsz
  have hD := hD0.self (sz := s.heap.size)
  generalize hAe : va_A [(qt, .inr (11, [.ref qt_now, .ref xt_past, .int (it_saved), .ref qt_text, .int (it_length), .ref xt_doors, .int (it_doorMany), .ref xt_label, .int (it_drawn), .ref xt_far, .ref xt_ring, .int (it_walker), .int (it_from), .ref xt_was, .int (it_steps), .int (it_faultAt), .int (it_mover)])), (qt_now, .inl (cy.1, 639, .inl (ft_now))), (qt_text, .inl (cy.1, 200, .inl (ft_text)))] s.heap.size = A at hD hG ⊢
  have hA : ∀ q : Nat, s.heap.size ≤ q → A q := fun q h => by rw [← hAe]; exact Or.inr h
  have hS : va_S A s.heap s.heap [] := va_S.rf
  have hP : va_P (dC, dI) vwCl [(qt, .inr (11, [.ref qt_now, .ref xt_past, .int (it_saved), .ref qt_text, .int (it_length), .ref xt_doors, .int (it_doorMany), .ref xt_label, .int (it_drawn), .ref xt_far, .ref xt_ring, .int (it_walker), .int (it_from), .ref xt_was, .int (it_steps), .int (it_faultAt), .int (it_mover)])), (qt_now, .inl (cy.1, 639, .inl (ft_now))), (qt_text, .inl (cy.1, 200, .inl (ft_text)))] s.heap := hP
  have hl := lv_entry ([.ref qt]) (n := 4) (Nat.le_of_ble_eq_true rfl)
  rw [lg_entry_eq]
  generalize (lg_sl ([.ref qt]) ++ List.replicate (4 - (lg_sl ([.ref qt])).length) Slot.unset).toArray = ls at hl ⊢
  have hl : lv_has ls 4 [(0, .ref qt)] := hl
  refine kgen (fun Q hQ => ?_)
  have B13 : ∀ (n13 : Nat) (l1 : Int32) (cit_faultAt : Int32) (cit_mover : Int32) (H : Heap) (locs : List Loc), va_P (dC, dI) vwCl [(qt, .inr (11, [.ref qt_now, .ref xt_past, .int (it_saved), .ref qt_text, .int (it_length), .ref xt_doors, .int (it_doorMany), .ref xt_label, .int (it_drawn), .ref xt_far, .ref xt_ring, .int (it_walker), .int (it_from), .ref xt_was, .int (it_steps), .int (cit_faultAt), .int (cit_mover)])), (qt_now, .inl (cy.1, 639, .inl (ft_now))), (qt_text, .inl (cy.1, 200, .inl (ft_text)))] H → va_D A [(qt, .inr (11, [.ref qt_now, .ref xt_past, .int (it_saved), .ref qt_text, .int (it_length), .ref xt_doors, .int (it_doorMany), .ref xt_label, .int (it_drawn), .ref xt_far, .ref xt_ring, .int (it_walker), .int (it_from), .ref xt_was, .int (it_steps), .int (cit_faultAt), .int (cit_mover)])), (qt_now, .inl (cy.1, 639, .inl (ft_now))), (qt_text, .inl (cy.1, 200, .inl (ft_text)))] → va_S A s.heap H locs → ∀ (ls : Array Slot), lv_has ls 4 [(0, .ref qt), (1, .int l1)] → b_X11_moves_13 N it_length ft_now ft_text n13 l1 cit_faultAt cit_mover = some out → W p l e (headSpec wsX11_moves rm_X11_moves).room s m ([.ref qt] : List Value).toArray below meth c H locs 0 0 Q (F0 m 13 ls []) := by
    intro n13
    induction n13 with
    | zero => intro l1 cit_faultAt cit_mover H locs hP hD hS ls hl hf; rw [b_X11_moves_13] at hf; cases hf
    | succ n13 ih13 =>
      have B90 : ∀ (l1 : Int32) (l2 : Int32) (s0 : Int32) (cit_faultAt : Int32) (cit_mover : Int32) (H : Heap) (locs : List Loc), va_P (dC, dI) vwCl [(qt, .inr (11, [.ref qt_now, .ref xt_past, .int (it_saved), .ref qt_text, .int (it_length), .ref xt_doors, .int (it_doorMany), .ref xt_label, .int (it_drawn), .ref xt_far, .ref xt_ring, .int (it_walker), .int (it_from), .ref xt_was, .int (it_steps), .int (cit_faultAt), .int (cit_mover)])), (qt_now, .inl (cy.1, 639, .inl (ft_now))), (qt_text, .inl (cy.1, 200, .inl (ft_text)))] H → va_D A [(qt, .inr (11, [.ref qt_now, .ref xt_past, .int (it_saved), .ref qt_text, .int (it_length), .ref xt_doors, .int (it_doorMany), .ref xt_label, .int (it_drawn), .ref xt_far, .ref xt_ring, .int (it_walker), .int (it_from), .ref xt_was, .int (it_steps), .int (cit_faultAt), .int (cit_mover)])), (qt_now, .inl (cy.1, 639, .inl (ft_now))), (qt_text, .inl (cy.1, 200, .inl (ft_text)))] → va_S A s.heap H locs → ∀ (ls : Array Slot), lv_has ls 4 [(0, .ref qt), (1, .int l1), (2, .int l2)] → b_X11_moves_90 N it_length ft_now ft_text (b_X11_moves_13 N it_length ft_now ft_text n13) l1 l2 s0 cit_faultAt cit_mover = some out → W p l e (headSpec wsX11_moves rm_X11_moves).room s m ([.ref qt] : List Value).toArray below meth c H locs 0 0 Q (F0 m 90 ls [.int s0]) := by
        intro l1 l2 s0 cit_faultAt cit_mover H locs hP hD hS ls hl hf
        rw [b_X11_moves_90] at hf
        refine lv_istore_n (lv' := [(3, .int s0), (0, .ref qt), (1, .int l1), (2, .int l2)]) hx hb dX11_moves_90 rfl hl (by decide) rfl (fun ls hl => ?_)
        refine lv_aload_n hx hb dX11_moves_91 rfl (lv_at hl 1 rfl) ?_
        refine lv_iload_n hx hb dX11_moves_92 rfl (lv_at hl 2 rfl) ?_
        refine va_put (D := (dC, dI)) (ci := 11) (v := .int l1) (ty := .int) (C := RX11) (T := TX11) (N := 17) hx hb hts (fun _ h => (List.mem_cons_of_mem _ (List.mem_append_right _ h))) tyX11 tyX11_ok nmX11 hown hK hP hD hS 0 rfl rfl 15 (by decide) (hts _ (List.mem_cons_of_mem _ (List.mem_append_left _ (List.mem_append_left _ (List.mem_of_getElem? (i := 4) rfl))))) (fun _ h => h) rfl (by decide +kernel) rfl rfl (Nat.le_of_ble_eq_true rfl) dX11_moves_93 (fun H locs hP hD hS => ?_)
        have hP : va_P (dC, dI) vwCl [(qt, .inr (11, [.ref qt_now, .ref xt_past, .int (it_saved), .ref qt_text, .int (it_length), .ref xt_doors, .int (it_doorMany), .ref xt_label, .int (it_drawn), .ref xt_far, .ref xt_ring, .int (it_walker), .int (it_from), .ref xt_was, .int (it_steps), .int (l1), .int (cit_mover)])), (qt_now, .inl (cy.1, 639, .inl (ft_now))), (qt_text, .inl (cy.1, 200, .inl (ft_text)))] H := hP
        have hD : va_D A [(qt, .inr (11, [.ref qt_now, .ref xt_past, .int (it_saved), .ref qt_text, .int (it_length), .ref xt_doors, .int (it_doorMany), .ref xt_label, .int (it_drawn), .ref xt_far, .ref xt_ring, .int (it_walker), .int (it_from), .ref xt_was, .int (it_steps), .int (l1), .int (cit_mover)])), (qt_now, .inl (cy.1, 639, .inl (ft_now))), (qt_text, .inl (cy.1, 200, .inl (ft_text)))] := hD
        refine lv_iload_n hx hb dX11_moves_96 rfl (lv_at hl 0 rfl) ?_
        refine lv_if_le (tgt := 102) hx hb dX11_moves_97 (by decide) (fun hc_97 => ?_) (fun hc_97 => ?_)
        · rw [if_pos hc_97] at hf
          refine lv_aload_n hx hb dX11_moves_102 rfl (lv_at hl 1 rfl) ?_
          refine lv_aload_n hx hb dX11_moves_103 rfl (lv_at hl 1 rfl) ?_
          refine lv_aload_n hx hb dX11_moves_104 rfl (lv_at hl 1 rfl) ?_
          refine va_get (D := (dC, dI)) (ci := 11) (C := RX11) (T := TX11) (N := 17) hx hb hts (fun _ h => (List.mem_cons_of_mem _ (List.mem_append_right _ h))) hown hK hP 0 rfl rfl 16 (by decide) (hts _ (List.mem_cons_of_mem _ (List.mem_append_left _ (List.mem_append_left _ (List.mem_of_getElem? (i := 1) rfl))))) (fun _ h => h) rfl dX11_moves_105 ?_
          refine lv_iload_n hx hb dX11_moves_108 rfl (lv_at hl 3 rfl) ?_
          obtain ⟨r109, hq_109, hf⟩ := bnd1_s hf
          refine kcalli (wc := [(qt, .inr (11, [.ref qt_now, .ref xt_past, .int (it_saved), .ref qt_text, .int (it_length), .ref xt_doors, .int (it_doorMany), .ref xt_label, .int (it_drawn), .ref xt_far, .ref xt_ring, .int (it_walker), .int (it_from), .ref xt_was, .int (it_steps), .int (l1), .int (cit_mover)])), (qt_now, .inl (cy.1, 639, .inl (ft_now)))]) (wr := [(qt_text, .inl (cy.1, 200, .inl (ft_text)))]) (w1 := [(qt, .inr (11, [.ref qt_now, .ref xt_past, .int (it_saved), .ref qt_text, .int (it_length), .ref xt_doors, .int (it_doorMany), .ref xt_label, .int (it_drawn), .ref xt_far, .ref xt_ring, .int (it_walker), .int (it_from), .ref xt_was, .int (it_steps), .int (l1), .int (cit_mover)])), (qt_now, .inl (cy.1, 639, .inl (ft_now)))]) hK hP hD hS hA hG [0, 1] [2] rfl rfl rfl rfl rfl (fun hU hPc => va_runV (As := [.int cit_mover, .int l2]) (rest := [.ref qt]) ⟨hx, hb, hml, hown, hts⟩ (c_X11_beside l dC dI cy G H.size qt qt_now xt_past qt_text xt_doors xt_label xt_far xt_ring xt_was (it_saved) (it_length) (it_doorMany) (it_drawn) (it_walker) (it_from) (it_steps) (l1) (cit_mover) (ft_now) (cit_mover) (l2) r109 hq_109) (cwV 2 hts gX11_moves_X11_beside rfl rfl rfl hdX11_beside ⟨Nat.le_of_ble_eq_true rfl, Nat.le_of_ble_eq_true rfl⟩) ⟨kBlind, (va_recv hK hP (ci := 11) (q0 := 0) rfl rfl), fun U h1 h2 => ⟨rfl, hU U h1 h2⟩⟩ rfl rfl hl.1 rfl (lv_room (Nat.le_of_ble_eq_true rfl)) dX11_moves_109 ⟨Nat.zero_le _, Nat.zero_le _⟩) (r109) (fun _ _ h => h) (fun _ _ h => h) (fun H locs hP hD hS => ?_)
          have hP : va_P (dC, dI) vwCl [(qt_text, .inl (cy.1, 200, .inl (ft_text))), (qt, .inr (11, [.ref qt_now, .ref xt_past, .int (it_saved), .ref qt_text, .int (it_length), .ref xt_doors, .int (it_doorMany), .ref xt_label, .int (it_drawn), .ref xt_far, .ref xt_ring, .int (it_walker), .int (it_from), .ref xt_was, .int (it_steps), .int (l1), .int (cit_mover)])), (qt_now, .inl (cy.1, 639, .inl (ft_now)))] H := hP
          have hD : va_D A [(qt_text, .inl (cy.1, 200, .inl (ft_text))), (qt, .inr (11, [.ref qt_now, .ref xt_past, .int (it_saved), .ref qt_text, .int (it_length), .ref xt_doors, .int (it_doorMany), .ref xt_label, .int (it_drawn), .ref xt_far, .ref xt_ring, .int (it_walker), .int (it_from), .ref xt_was, .int (it_steps), .int (l1), .int (cit_mover)])), (qt_now, .inl (cy.1, 639, .inl (ft_now)))] := hD
          refine va_put (D := (dC, dI)) (ci := 11) (v := .int r109) (ty := .int) (C := RX11) (T := TX11) (N := 17) hx hb hts (fun _ h => (List.mem_cons_of_mem _ (List.mem_append_right _ h))) tyX11 tyX11_ok nmX11 hown hK hP hD hS 1 rfl rfl 16 (by decide) (hts _ (List.mem_cons_of_mem _ (List.mem_append_left _ (List.mem_append_left _ (List.mem_of_getElem? (i := 1) rfl))))) (fun _ h => h) rfl (by decide +kernel) rfl rfl (Nat.le_of_ble_eq_true rfl) dX11_moves_112 (fun H locs hP hD hS => ?_)
          have hP : va_P (dC, dI) vwCl [(qt_text, .inl (cy.1, 200, .inl (ft_text))), (qt, .inr (11, [.ref qt_now, .ref xt_past, .int (it_saved), .ref qt_text, .int (it_length), .ref xt_doors, .int (it_doorMany), .ref xt_label, .int (it_drawn), .ref xt_far, .ref xt_ring, .int (it_walker), .int (it_from), .ref xt_was, .int (it_steps), .int (l1), .int (r109)])), (qt_now, .inl (cy.1, 639, .inl (ft_now)))] H := hP
          have hD : va_D A [(qt_text, .inl (cy.1, 200, .inl (ft_text))), (qt, .inr (11, [.ref qt_now, .ref xt_past, .int (it_saved), .ref qt_text, .int (it_length), .ref xt_doors, .int (it_doorMany), .ref xt_label, .int (it_drawn), .ref xt_far, .ref xt_ring, .int (it_walker), .int (it_from), .ref xt_was, .int (it_steps), .int (l1), .int (r109)])), (qt_now, .inl (cy.1, 639, .inl (ft_now)))] := hD
          refine lv_iinc (v := (l1 + (1 : Int32))) (lv' := [(1, .int (l1 + (1 : Int32))), (3, .int s0), (0, .ref qt), (2, .int l2)]) hx hb dX11_moves_115 hl (k := 2) rfl rfl (by decide) rfl (fun ls hl => ?_)
          refine lv_goto (tgt := 13) hx hb dX11_moves_118 (by decide) ?_
          exact ih13 ((l1 + (1 : Int32))) (l1) (r109) _ _ (hP.sub [1, 2, 0] rfl) (hD.sub [1, 2, 0] (by decide) rfl) hS _ (lv_sub hl [2, 0] rfl) hf
        · rw [if_neg hc_97] at hf
          refine lv_iload_n hx hb dX11_moves_100 rfl (lv_at hl 0 rfl) ?_
          cases hf
          subst hQ
          exact kiret hx hb hr hlocks hK (hP.sub [0, 1, 2] rfl) (hD.sub [0, 1, 2] (by decide) rfl) hS rfl dX11_moves_101
      intro l1 cit_faultAt cit_mover H locs hP hD hS ls hl hf
      rw [b_X11_moves_13] at hf
      refine lv_iload_n hx hb dX11_moves_13 rfl (lv_at hl 1 rfl) ?_
      refine lv_aload_n hx hb dX11_moves_14 rfl (lv_at hl 0 rfl) ?_
      refine va_get (D := (dC, dI)) (ci := 11) (C := RX11) (T := TX11) (N := 17) hx hb hts (fun _ h => (List.mem_cons_of_mem _ (List.mem_append_right _ h))) hown hK hP 0 rfl rfl 4 (by decide) (hts _ (List.mem_cons_of_mem _ (List.mem_append_left _ (List.mem_append_left _ (List.mem_of_getElem? (i := 2) rfl))))) (fun _ h => h) rfl dX11_moves_15 ?_
      refine lv_icmp_ge (tgt := 121) hx hb dX11_moves_18 (by decide) (fun hc_18 => ?_) (fun hc_18 => ?_)
      · rw [if_pos hc_18] at hf
        refine lv_aload_n hx hb dX11_moves_121 rfl (lv_at hl 0 rfl) ?_
        refine lv_aload_n hx hb dX11_moves_122 rfl (lv_at hl 0 rfl) ?_
        refine va_get (D := (dC, dI)) (ci := 11) (C := RX11) (T := TX11) (N := 17) hx hb hts (fun _ h => (List.mem_cons_of_mem _ (List.mem_append_right _ h))) hown hK hP 0 rfl rfl 4 (by decide) (hts _ (List.mem_cons_of_mem _ (List.mem_append_left _ (List.mem_append_left _ (List.mem_of_getElem? (i := 2) rfl))))) (fun _ h => h) rfl dX11_moves_123 ?_
        refine va_put (D := (dC, dI)) (ci := 11) (v := .int it_length) (ty := .int) (C := RX11) (T := TX11) (N := 17) hx hb hts (fun _ h => (List.mem_cons_of_mem _ (List.mem_append_right _ h))) tyX11 tyX11_ok nmX11 hown hK hP hD hS 0 rfl rfl 15 (by decide) (hts _ (List.mem_cons_of_mem _ (List.mem_append_left _ (List.mem_append_left _ (List.mem_of_getElem? (i := 4) rfl))))) (fun _ h => h) rfl (by decide +kernel) rfl rfl (Nat.le_of_ble_eq_true rfl) dX11_moves_126 (fun H locs hP hD hS => ?_)
        have hP : va_P (dC, dI) vwCl [(qt, .inr (11, [.ref qt_now, .ref xt_past, .int (it_saved), .ref qt_text, .int (it_length), .ref xt_doors, .int (it_doorMany), .ref xt_label, .int (it_drawn), .ref xt_far, .ref xt_ring, .int (it_walker), .int (it_from), .ref xt_was, .int (it_steps), .int (it_length), .int (cit_mover)])), (qt_now, .inl (cy.1, 639, .inl (ft_now))), (qt_text, .inl (cy.1, 200, .inl (ft_text)))] H := hP
        have hD : va_D A [(qt, .inr (11, [.ref qt_now, .ref xt_past, .int (it_saved), .ref qt_text, .int (it_length), .ref xt_doors, .int (it_doorMany), .ref xt_label, .int (it_drawn), .ref xt_far, .ref xt_ring, .int (it_walker), .int (it_from), .ref xt_was, .int (it_steps), .int (it_length), .int (cit_mover)])), (qt_now, .inl (cy.1, 639, .inl (ft_now))), (qt_text, .inl (cy.1, 200, .inl (ft_text)))] := hD
        refine lv_aload_n hx hb dX11_moves_129 rfl (lv_at hl 0 rfl) ?_
        refine va_get (D := (dC, dI)) (ci := 11) (C := RX11) (T := TX11) (N := 17) hx hb hts (fun _ h => (List.mem_cons_of_mem _ (List.mem_append_right _ h))) hown hK hP 0 rfl rfl 16 (by decide) (hts _ (List.mem_cons_of_mem _ (List.mem_append_left _ (List.mem_append_left _ (List.mem_of_getElem? (i := 1) rfl))))) (fun _ h => h) rfl dX11_moves_130 ?_
        refine lv_aload_n hx hb dX11_moves_133 rfl (lv_at hl 0 rfl) ?_
        refine va_get (D := (dC, dI)) (ci := 11) (C := RX11) (T := TX11) (N := 17) hx hb hts (fun _ h => (List.mem_cons_of_mem _ (List.mem_append_right _ h))) hown hK hP 0 rfl rfl 0 (by decide) (hts _ (List.mem_cons_of_mem _ (List.mem_append_left _ (List.mem_append_left _ (List.mem_of_getElem? (i := 0) rfl))))) (fun _ h => h) rfl dX11_moves_134 ?_
        refine lv_bipush (v := (8 : Int32)) hx hb dX11_moves_137 (by decide) ?_
        refine va_iald hx hb hK hP 1 0 rfl rfl (by unfold vp_in; decide) dX11_moves_139 ?_
        refine lv_icmp_ne (tgt := 147) hx hb dX11_moves_140 (by decide) (fun hc_140 => ?_) (fun hc_140 => ?_)
        · rw [if_neg hc_140] at hf
          refine lv_iconst (v := (5 : Int32)) hx hb dX11_moves_147 (by decide) ?_
          cases hf
          subst hQ
          exact kiret hx hb hr hlocks hK (hP.sub [0, 1, 2] rfl) (hD.sub [0, 1, 2] (by decide) rfl) hS rfl dX11_moves_148
        · rw [if_pos hc_140] at hf
          refine lv_iconst (v := (0 : Int32)) hx hb dX11_moves_143 (by decide) ?_
          refine lv_goto (tgt := 148) hx hb dX11_moves_144 (by decide) ?_
          cases hf
          subst hQ
          exact kiret hx hb hr hlocks hK (hP.sub [0, 1, 2] rfl) (hD.sub [0, 1, 2] (by decide) rfl) hS rfl dX11_moves_148
      · rw [if_neg hc_18] at hf
        refine lv_aload_n hx hb dX11_moves_21 rfl (lv_at hl 0 rfl) ?_
        refine va_get (D := (dC, dI)) (ci := 11) (C := RX11) (T := TX11) (N := 17) hx hb hts (fun _ h => (List.mem_cons_of_mem _ (List.mem_append_right _ h))) hown hK hP 0 rfl rfl 3 (by decide) (hts _ (List.mem_cons_of_mem _ (List.mem_append_left _ (List.mem_append_left _ (List.mem_of_getElem? (i := 3) rfl))))) (fun _ h => h) rfl dX11_moves_22 ?_
        refine lv_iload_n hx hb dX11_moves_25 rfl (lv_at hl 1 rfl) ?_
        obtain ⟨hk_26, hf⟩ := chk_s hf
        refine va_iald hx hb hK hP 2 0 rfl rfl hk_26 dX11_moves_26 ?_
        refine kcalli (wc := []) (wr := [(qt, .inr (11, [.ref qt_now, .ref xt_past, .int (it_saved), .ref qt_text, .int (it_length), .ref xt_doors, .int (it_doorMany), .ref xt_label, .int (it_drawn), .ref xt_far, .ref xt_ring, .int (it_walker), .int (it_from), .ref xt_was, .int (it_steps), .int (cit_faultAt), .int (cit_mover)])), (qt_now, .inl (cy.1, 639, .inl (ft_now))), (qt_text, .inl (cy.1, 200, .inl (ft_text)))]) (w1 := []) hK hP hD hS hA hG [] [0, 1, 2] rfl rfl rfl rfl rfl (fun hU hPc => va_runS (As := [.int (ft_text (l1).toNatClampNeg)]) (rest := []) ⟨hx, hb, hml, hown, hts⟩ (c_X11_directionOf l dC dI cy G H.size ((ft_text (l1).toNatClampNeg)) (t_X11_directionOf ((ft_text (l1).toNatClampNeg))) (tot_X11_directionOf ((ft_text (l1).toNatClampNeg)))) (va_cwS 1 hts gX11_moves_X11_directionOf rfl rfl rfl hdX11_directionOf.2 ⟨Nat.le_of_ble_eq_true rfl, Nat.le_of_ble_eq_true rfl⟩) ⟨kBlind, fun U h1 h2 => ⟨rfl, hU U h1 h2⟩⟩ rfl rfl hl.1 rfl (lv_room (Nat.le_of_ble_eq_true rfl)) dX11_moves_27 ⟨Nat.zero_le _, Nat.zero_le _⟩) ((t_X11_directionOf ((ft_text (l1).toNatClampNeg)))) (fun _ _ h => h) (fun _ _ h => h) (fun H locs hP hD hS => ?_)
        have hP : va_P (dC, dI) vwCl [(qt, .inr (11, [.ref qt_now, .ref xt_past, .int (it_saved), .ref qt_text, .int (it_length), .ref xt_doors, .int (it_doorMany), .ref xt_label, .int (it_drawn), .ref xt_far, .ref xt_ring, .int (it_walker), .int (it_from), .ref xt_was, .int (it_steps), .int (cit_faultAt), .int (cit_mover)])), (qt_now, .inl (cy.1, 639, .inl (ft_now))), (qt_text, .inl (cy.1, 200, .inl (ft_text)))] H := hP
        have hD : va_D A [(qt, .inr (11, [.ref qt_now, .ref xt_past, .int (it_saved), .ref qt_text, .int (it_length), .ref xt_doors, .int (it_doorMany), .ref xt_label, .int (it_drawn), .ref xt_far, .ref xt_ring, .int (it_walker), .int (it_from), .ref xt_was, .int (it_steps), .int (cit_faultAt), .int (cit_mover)])), (qt_now, .inl (cy.1, 639, .inl (ft_now))), (qt_text, .inl (cy.1, 200, .inl (ft_text)))] := hD
        refine lv_istore_n (lv' := [(2, .int (t_X11_directionOf ((ft_text (l1).toNatClampNeg)))), (0, .ref qt), (1, .int l1)]) hx hb dX11_moves_30 rfl hl (by decide) rfl (fun ls hl => ?_)
        refine lv_iload_n hx hb dX11_moves_31 rfl (lv_at hl 0 rfl) ?_
        refine lv_if_ge (tgt := 39) hx hb dX11_moves_32 (by decide) (fun hc_32 => ?_) (fun hc_32 => ?_)
        · rw [if_pos hc_32] at hf
          refine lv_aload_n hx hb dX11_moves_39 rfl (lv_at hl 1 rfl) ?_
          refine lv_aload_n hx hb dX11_moves_40 rfl (lv_at hl 1 rfl) ?_
          refine va_get (D := (dC, dI)) (ci := 11) (C := RX11) (T := TX11) (N := 17) hx hb hts (fun _ h => (List.mem_cons_of_mem _ (List.mem_append_right _ h))) hown hK hP 0 rfl rfl 16 (by decide) (hts _ (List.mem_cons_of_mem _ (List.mem_append_left _ (List.mem_append_left _ (List.mem_of_getElem? (i := 1) rfl))))) (fun _ h => h) rfl dX11_moves_41 ?_
          refine lv_iload_n hx hb dX11_moves_44 rfl (lv_at hl 0 rfl) ?_
          obtain ⟨r45, hq_45, hf⟩ := bnd1_s hf
          refine kcalli (wc := [(qt, .inr (11, [.ref qt_now, .ref xt_past, .int (it_saved), .ref qt_text, .int (it_length), .ref xt_doors, .int (it_doorMany), .ref xt_label, .int (it_drawn), .ref xt_far, .ref xt_ring, .int (it_walker), .int (it_from), .ref xt_was, .int (it_steps), .int (cit_faultAt), .int (cit_mover)])), (qt_now, .inl (cy.1, 639, .inl (ft_now)))]) (wr := [(qt_text, .inl (cy.1, 200, .inl (ft_text)))]) (w1 := [(qt, .inr (11, [.ref qt_now, .ref xt_past, .int (it_saved), .ref qt_text, .int (it_length), .ref xt_doors, .int (it_doorMany), .ref xt_label, .int (it_drawn), .ref xt_far, .ref xt_ring, .int (it_walker), .int (it_from), .ref xt_was, .int (it_steps), .int (cit_faultAt), .int (cit_mover)])), (qt_now, .inl (cy.1, 639, .inl (ft_now)))]) hK hP hD hS hA hG [0, 1] [2] rfl rfl rfl rfl rfl (fun hU hPc => va_runV (As := [.int cit_mover, .int (t_X11_directionOf ((ft_text (l1).toNatClampNeg)))]) (rest := []) ⟨hx, hb, hml, hown, hts⟩ (c_X11_beside l dC dI cy G H.size qt qt_now xt_past qt_text xt_doors xt_label xt_far xt_ring xt_was (it_saved) (it_length) (it_doorMany) (it_drawn) (it_walker) (it_from) (it_steps) (cit_faultAt) (cit_mover) (ft_now) (cit_mover) ((t_X11_directionOf ((ft_text (l1).toNatClampNeg)))) r45 hq_45) (cwV 2 hts gX11_moves_X11_beside rfl rfl rfl hdX11_beside ⟨Nat.le_of_ble_eq_true rfl, Nat.le_of_ble_eq_true rfl⟩) ⟨kBlind, (va_recv hK hP (ci := 11) (q0 := 0) rfl rfl), fun U h1 h2 => ⟨rfl, hU U h1 h2⟩⟩ rfl rfl hl.1 rfl (lv_room (Nat.le_of_ble_eq_true rfl)) dX11_moves_45 ⟨Nat.zero_le _, Nat.zero_le _⟩) (r45) (fun _ _ h => h) (fun _ _ h => h) (fun H locs hP hD hS => ?_)
          have hP : va_P (dC, dI) vwCl [(qt_text, .inl (cy.1, 200, .inl (ft_text))), (qt, .inr (11, [.ref qt_now, .ref xt_past, .int (it_saved), .ref qt_text, .int (it_length), .ref xt_doors, .int (it_doorMany), .ref xt_label, .int (it_drawn), .ref xt_far, .ref xt_ring, .int (it_walker), .int (it_from), .ref xt_was, .int (it_steps), .int (cit_faultAt), .int (cit_mover)])), (qt_now, .inl (cy.1, 639, .inl (ft_now)))] H := hP
          have hD : va_D A [(qt_text, .inl (cy.1, 200, .inl (ft_text))), (qt, .inr (11, [.ref qt_now, .ref xt_past, .int (it_saved), .ref qt_text, .int (it_length), .ref xt_doors, .int (it_doorMany), .ref xt_label, .int (it_drawn), .ref xt_far, .ref xt_ring, .int (it_walker), .int (it_from), .ref xt_was, .int (it_steps), .int (cit_faultAt), .int (cit_mover)])), (qt_now, .inl (cy.1, 639, .inl (ft_now)))] := hD
          refine lv_if_ge (tgt := 55) hx hb dX11_moves_48 (by decide) (fun hc_48 => ?_) (fun hc_48 => ?_)
          · rw [if_pos hc_48] at hf
            refine lv_aload_n hx hb dX11_moves_55 rfl (lv_at hl 1 rfl) ?_
            refine lv_aload_n hx hb dX11_moves_56 rfl (lv_at hl 1 rfl) ?_
            refine va_get (D := (dC, dI)) (ci := 11) (C := RX11) (T := TX11) (N := 17) hx hb hts (fun _ h => (List.mem_cons_of_mem _ (List.mem_append_right _ h))) hown hK hP 1 rfl rfl 16 (by decide) (hts _ (List.mem_cons_of_mem _ (List.mem_append_left _ (List.mem_append_left _ (List.mem_of_getElem? (i := 1) rfl))))) (fun _ h => h) rfl dX11_moves_57 ?_
            refine lv_iload_n hx hb dX11_moves_60 rfl (lv_at hl 0 rfl) ?_
            obtain ⟨r61, hq_61, hf⟩ := bnd1_s hf
            refine kcalli (wc := [(qt, .inr (11, [.ref qt_now, .ref xt_past, .int (it_saved), .ref qt_text, .int (it_length), .ref xt_doors, .int (it_doorMany), .ref xt_label, .int (it_drawn), .ref xt_far, .ref xt_ring, .int (it_walker), .int (it_from), .ref xt_was, .int (it_steps), .int (cit_faultAt), .int (cit_mover)])), (qt_now, .inl (cy.1, 639, .inl (ft_now)))]) (wr := [(qt_text, .inl (cy.1, 200, .inl (ft_text)))]) (w1 := [(qt, .inr (11, [.ref qt_now, .ref xt_past, .int (it_saved), .ref qt_text, .int (it_length), .ref xt_doors, .int (it_doorMany), .ref xt_label, .int (it_drawn), .ref xt_far, .ref xt_ring, .int (it_walker), .int (it_from), .ref xt_was, .int (it_steps), .int (cit_faultAt), .int (cit_mover)])), (qt_now, .inl (cy.1, 639, .inl (ft_now)))]) hK hP hD hS hA hG [1, 2] [0] rfl rfl rfl rfl rfl (fun hU hPc => va_runV (As := [.int cit_mover, .int (t_X11_directionOf ((ft_text (l1).toNatClampNeg)))]) (rest := []) ⟨hx, hb, hml, hown, hts⟩ (c_X11_isOpen l dC dI cy G H.size qt qt_now xt_past qt_text xt_doors xt_label xt_far xt_ring xt_was (it_saved) (it_length) (it_doorMany) (it_drawn) (it_walker) (it_from) (it_steps) (cit_faultAt) (cit_mover) (ft_now) (cit_mover) ((t_X11_directionOf ((ft_text (l1).toNatClampNeg)))) r61 hq_61) (cwV 2 hts gX11_moves_X11_isOpen rfl rfl rfl hdX11_isOpen ⟨Nat.le_of_ble_eq_true rfl, Nat.le_of_ble_eq_true rfl⟩) ⟨kBlind, (va_recv hK hP (ci := 11) (q0 := 1) rfl rfl), fun U h1 h2 => ⟨rfl, hU U h1 h2⟩⟩ rfl rfl hl.1 rfl (lv_room (Nat.le_of_ble_eq_true rfl)) dX11_moves_61 ⟨Nat.zero_le _, Nat.zero_le _⟩) (r61) (fun _ _ h => h) (fun _ _ h => h) (fun H locs hP hD hS => ?_)
            have hP : va_P (dC, dI) vwCl [(qt_text, .inl (cy.1, 200, .inl (ft_text))), (qt, .inr (11, [.ref qt_now, .ref xt_past, .int (it_saved), .ref qt_text, .int (it_length), .ref xt_doors, .int (it_doorMany), .ref xt_label, .int (it_drawn), .ref xt_far, .ref xt_ring, .int (it_walker), .int (it_from), .ref xt_was, .int (it_steps), .int (cit_faultAt), .int (cit_mover)])), (qt_now, .inl (cy.1, 639, .inl (ft_now)))] H := hP
            have hD : va_D A [(qt_text, .inl (cy.1, 200, .inl (ft_text))), (qt, .inr (11, [.ref qt_now, .ref xt_past, .int (it_saved), .ref qt_text, .int (it_length), .ref xt_doors, .int (it_doorMany), .ref xt_label, .int (it_drawn), .ref xt_far, .ref xt_ring, .int (it_walker), .int (it_from), .ref xt_was, .int (it_steps), .int (cit_faultAt), .int (cit_mover)])), (qt_now, .inl (cy.1, 639, .inl (ft_now)))] := hD
            refine lv_if_ne (tgt := 71) hx hb dX11_moves_64 (by decide) (fun hc_64 => ?_) (fun hc_64 => ?_)
            · rw [if_neg hc_64] at hf
              refine lv_aload_n hx hb dX11_moves_71 rfl (lv_at hl 1 rfl) ?_
              refine va_get (D := (dC, dI)) (ci := 11) (C := RX11) (T := TX11) (N := 17) hx hb hts (fun _ h => (List.mem_cons_of_mem _ (List.mem_append_right _ h))) hown hK hP 1 rfl rfl 16 (by decide) (hts _ (List.mem_cons_of_mem _ (List.mem_append_left _ (List.mem_append_left _ (List.mem_of_getElem? (i := 1) rfl))))) (fun _ h => h) rfl dX11_moves_72 ?_
              refine lv_aload_n hx hb dX11_moves_75 rfl (lv_at hl 1 rfl) ?_
              refine va_get (D := (dC, dI)) (ci := 11) (C := RX11) (T := TX11) (N := 17) hx hb hts (fun _ h => (List.mem_cons_of_mem _ (List.mem_append_right _ h))) hown hK hP 1 rfl rfl 0 (by decide) (hts _ (List.mem_cons_of_mem _ (List.mem_append_left _ (List.mem_append_left _ (List.mem_of_getElem? (i := 0) rfl))))) (fun _ h => h) rfl dX11_moves_76 ?_
              refine lv_bipush (v := (8 : Int32)) hx hb dX11_moves_79 (by decide) ?_
              refine va_iald hx hb hK hP 2 0 rfl rfl (by unfold vp_in; decide) dX11_moves_81 ?_
              refine lv_icmp_ne (tgt := 89) hx hb dX11_moves_82 (by decide) (fun hc_82 => ?_) (fun hc_82 => ?_)
              · rw [if_neg hc_82] at hf
                refine lv_iconst (v := (0 : Int32)) hx hb dX11_moves_89 (by decide) ?_
                exact B90 (l1) ((t_X11_directionOf ((ft_text (l1).toNatClampNeg)))) ((0 : Int32)) (cit_faultAt) (cit_mover) _ _ (hP.sub [1, 2, 0] rfl) (hD.sub [1, 2, 0] (by decide) rfl) hS _ (lv_sub hl [1, 2, 0] rfl) hf
              · rw [if_pos hc_82] at hf
                refine lv_iconst (v := (4 : Int32)) hx hb dX11_moves_85 (by decide) ?_
                refine lv_goto (tgt := 90) hx hb dX11_moves_86 (by decide) ?_
                exact B90 (l1) ((t_X11_directionOf ((ft_text (l1).toNatClampNeg)))) ((4 : Int32)) (cit_faultAt) (cit_mover) _ _ (hP.sub [1, 2, 0] rfl) (hD.sub [1, 2, 0] (by decide) rfl) hS _ (lv_sub hl [1, 2, 0] rfl) hf
            · rw [if_pos hc_64] at hf
              refine lv_iconst (v := (3 : Int32)) hx hb dX11_moves_67 (by decide) ?_
              refine lv_goto (tgt := 90) hx hb dX11_moves_68 (by decide) ?_
              exact B90 (l1) ((t_X11_directionOf ((ft_text (l1).toNatClampNeg)))) ((3 : Int32)) (cit_faultAt) (cit_mover) _ _ (hP.sub [1, 2, 0] rfl) (hD.sub [1, 2, 0] (by decide) rfl) hS _ (lv_sub hl [1, 2, 0] rfl) hf
          · rw [if_neg hc_48] at hf
            refine lv_iconst (v := (2 : Int32)) hx hb dX11_moves_51 (by decide) ?_
            refine lv_goto (tgt := 90) hx hb dX11_moves_52 (by decide) ?_
            exact B90 (l1) ((t_X11_directionOf ((ft_text (l1).toNatClampNeg)))) ((2 : Int32)) (cit_faultAt) (cit_mover) _ _ (hP.sub [1, 2, 0] rfl) (hD.sub [1, 2, 0] (by decide) rfl) hS _ (lv_sub hl [1, 2, 0] rfl) hf
        · rw [if_neg hc_32] at hf
          refine lv_iconst (v := (1 : Int32)) hx hb dX11_moves_35 (by decide) ?_
          refine lv_goto (tgt := 90) hx hb dX11_moves_36 (by decide) ?_
          exact B90 (l1) ((t_X11_directionOf ((ft_text (l1).toNatClampNeg)))) ((1 : Int32)) (cit_faultAt) (cit_mover) _ _ (hP.sub [0, 1, 2] rfl) (hD.sub [0, 1, 2] (by decide) rfl) hS _ (lv_sub hl [1, 2, 0] rfl) hf
  rw [f_X11_moves] at hf
  refine lv_aload_n hx hb dX11_moves_0 rfl (lv_at hl 0 rfl) ?_
  refine lv_aload_n hx hb dX11_moves_1 rfl (lv_at hl 0 rfl) ?_
  refine va_get (D := (dC, dI)) (ci := 11) (C := RX11) (T := TX11) (N := 17) hx hb hts (fun _ h => (List.mem_cons_of_mem _ (List.mem_append_right _ h))) hown hK hP 0 rfl rfl 0 (by decide) (hts _ (List.mem_cons_of_mem _ (List.mem_append_left _ (List.mem_append_left _ (List.mem_of_getElem? (i := 0) rfl))))) (fun _ h => h) rfl dX11_moves_2 ?_
  refine lv_bipush (v := (7 : Int32)) hx hb dX11_moves_5 (by decide) ?_
  refine va_iald hx hb hK hP 1 0 rfl rfl (by unfold vp_in; decide) dX11_moves_7 ?_
  refine va_put (D := (dC, dI)) (ci := 11) (v := .int (ft_now ((7 : Int32)).toNatClampNeg)) (ty := .int) (C := RX11) (T := TX11) (N := 17) hx hb hts (fun _ h => (List.mem_cons_of_mem _ (List.mem_append_right _ h))) tyX11 tyX11_ok nmX11 hown hK hP hD hS 0 rfl rfl 16 (by decide) (hts _ (List.mem_cons_of_mem _ (List.mem_append_left _ (List.mem_append_left _ (List.mem_of_getElem? (i := 1) rfl))))) (fun _ h => h) rfl (by decide +kernel) rfl rfl (Nat.le_of_ble_eq_true rfl) dX11_moves_8 (fun H locs hP hD hS => ?_)
  have hP : va_P (dC, dI) vwCl [(qt, .inr (11, [.ref qt_now, .ref xt_past, .int (it_saved), .ref qt_text, .int (it_length), .ref xt_doors, .int (it_doorMany), .ref xt_label, .int (it_drawn), .ref xt_far, .ref xt_ring, .int (it_walker), .int (it_from), .ref xt_was, .int (it_steps), .int (it_faultAt), .int ((ft_now ((7 : Int32)).toNatClampNeg))])), (qt_now, .inl (cy.1, 639, .inl (ft_now))), (qt_text, .inl (cy.1, 200, .inl (ft_text)))] H := hP
  have hD : va_D A [(qt, .inr (11, [.ref qt_now, .ref xt_past, .int (it_saved), .ref qt_text, .int (it_length), .ref xt_doors, .int (it_doorMany), .ref xt_label, .int (it_drawn), .ref xt_far, .ref xt_ring, .int (it_walker), .int (it_from), .ref xt_was, .int (it_steps), .int (it_faultAt), .int ((ft_now ((7 : Int32)).toNatClampNeg))])), (qt_now, .inl (cy.1, 639, .inl (ft_now))), (qt_text, .inl (cy.1, 200, .inl (ft_text)))] := hD
  refine lv_iconst (v := (0 : Int32)) hx hb dX11_moves_11 (by decide) ?_
  refine lv_istore_n (lv' := [(1, .int (0 : Int32)), (0, .ref qt)]) hx hb dX11_moves_12 rfl hl (by decide) rfl (fun ls hl => ?_)
  exact B13 N ((0 : Int32)) (it_faultAt) ((ft_now ((7 : Int32)).toNatClampNeg)) _ _ (hP.sub [0, 1, 2] rfl) (hD.sub [0, 1, 2] (by decide) rfl) hS _ (lv_sub hl [1, 0] rfl) hf
theorem hdX11_moves : yX11_moves.cls = RX11 ∧ yX11_moves.cls ≠ "java/lang/invoke/MethodHandle" ∧ yX11_moves.cls ≠ "java/lang/invoke/VarHandle" ∧ (parseMethodDescriptor yX11_moves.desc).map (fun d => d.parameters.length) = some 0 := by decide +kernel
noncomputable def f_X11_fault (N : Nat) (it_length : Int32) (it_faultAt : Int32) (it_mover : Int32) (ft_now : Nat → Int32) (ft_text : Nat → Int32) (va1 : Int32) : Option (Int32 × Int32 × Int32) :=
  if (t_X11_in (va1) ((0 : Int32)) ((1 : Int32))) = 0 then
    some ((-1 : Int32), it_faultAt, it_mover)
  else
    bnd3 (f_X11_moves N (it_length) (it_faultAt) (it_mover) (ft_now) (ft_text)) fun r12 o12_0 o12_1 =>
    if r12 = 0 then
      some ((-4 : Int32), o12_0, o12_1)
    else
      if va1 = 0 then
        some (o12_0, o12_0, o12_1)
      else
        some (r12, o12_0, o12_1)
abbrev rm_X11_fault : Room := { frames := 7, cells := 0, slots := 0, locals := 158 }
set_option maxHeartbeats 4000000 in
set_option maxRecDepth 100000 in
theorem c_X11_fault (l : Launch) (dC : Nat → ClassId) (dI : Nat → Nat → Nat) (cy : gC) (G : gT) (sz : Nat) (qt : Nat) (qt_now : Nat) (qt_text : Nat) (xt_past : Nat) (xt_doors : Nat) (xt_label : Nat) (xt_far : Nat) (xt_ring : Nat) (xt_was : Nat) (it_saved : Int32) (it_doorMany : Int32) (it_drawn : Int32) (it_walker : Int32) (it_from : Int32) (it_steps : Int32) (N : Nat) (it_length : Int32) (it_faultAt : Int32) (it_mover : Int32) (ft_now : Nat → Int32) (ft_text : Nat → Int32) (va1 : Int32) (out : Int32 × Int32 × Int32) (hf : f_X11_fault N it_length it_faultAt it_mover ft_now ft_text va1 = some out) : Met l yX11_fault wsX11_fault rm_X11_fault (va_Pc [.ref qt, .int va1] (kP (dC, dI) cy G [(qt, .inr (11, [.ref qt_now, .ref xt_past, .int (it_saved), .ref qt_text, .int (it_length), .ref xt_doors, .int (it_doorMany), .ref xt_label, .int (it_drawn), .ref xt_far, .ref xt_ring, .int (it_walker), .int (it_from), .ref xt_was, .int (it_steps), .int (it_faultAt), .int (it_mover)])), (qt_now, .inl (cy.1, 639, .inl (ft_now))), (qt_text, .inl (cy.1, 200, .inl (ft_text)))] sz)) (va_Qi (fun r (_ : Unit) => r = out.1) (fun _ => kQ (dC, dI) cy [(qt, .inr (11, [.ref qt_now, .ref xt_past, .int (it_saved), .ref qt_text, .int (it_length), .ref xt_doors, .int (it_doorMany), .ref xt_label, .int (it_drawn), .ref xt_far, .ref xt_ring, .int (it_walker), .int (it_from), .ref xt_was, .int (it_steps), .int (out.2.1), .int (out.2.2)])), (qt_now, .inl (cy.1, 639, .inl (ft_now))), (qt_text, .inl (cy.1, 200, .inl (ft_text)))] (va_A [(qt, .inr (11, [.ref qt_now, .ref xt_past, .int (it_saved), .ref qt_text, .int (it_length), .ref xt_doors, .int (it_doorMany), .ref xt_label, .int (it_drawn), .ref xt_far, .ref xt_ring, .int (it_walker), .int (it_from), .ref xt_was, .int (it_steps), .int (it_faultAt), .int (it_mover)])), (qt_now, .inl (cy.1, 639, .inl (ft_now))), (qt_text, .inl (cy.1, 200, .inl (ft_text)))] sz)) (va_A [(qt, .inr (11, [.ref qt_now, .ref xt_past, .int (it_saved), .ref qt_text, .int (it_length), .ref xt_doors, .int (it_doorMany), .ref xt_label, .int (it_drawn), .ref xt_far, .ref xt_ring, .int (it_walker), .int (it_from), .ref xt_was, .int (it_steps), .int (it_faultAt), .int (it_mover)])), (qt_now, .inl (cy.1, 639, .inl (ft_now))), (qt_text, .inl (cy.1, 200, .inl (ft_text)))] sz)) 0 0 (va_A [(qt, .inr (11, [.ref qt_now, .ref xt_past, .int (it_saved), .ref qt_text, .int (it_length), .ref xt_doors, .int (it_doorMany), .ref xt_label, .int (it_drawn), .ref xt_far, .ref xt_ring, .int (it_walker), .int (it_from), .ref xt_was, .int (it_steps), .int (it_faultAt), .int (it_mover)])), (qt_now, .inl (cy.1, 639, .inl (ft_now))), (qt_text, .inl (cy.1, 200, .inl (ft_text)))] sz) := by
  refine Met.ofW (cc := cX11_fault) (maxL := 3) (ret := (some .int)) (by decide) rfl ?_
  intro p e s m args below meth c s₁ B hml hv
  obtain ⟨rfl, hsz, hP, hK, hD0, hG⟩ := hv
  have hx := B.exec
  have hb := B.bytes
  have hr := B.returns
  have hts := atoms_spec (ws := wsX11_fault) B.pre
  have hown : s.vm.findClass RX11 = some m.cls := findClass_of_methodNamed B.named
  have hlocks := B.notSynchronized
  subst hsz
  have hD := hD0.self (sz := s.heap.size)
  generalize hAe : va_A [(qt, .inr (11, [.ref qt_now, .ref xt_past, .int (it_saved), .ref qt_text, .int (it_length), .ref xt_doors, .int (it_doorMany), .ref xt_label, .int (it_drawn), .ref xt_far, .ref xt_ring, .int (it_walker), .int (it_from), .ref xt_was, .int (it_steps), .int (it_faultAt), .int (it_mover)])), (qt_now, .inl (cy.1, 639, .inl (ft_now))), (qt_text, .inl (cy.1, 200, .inl (ft_text)))] s.heap.size = A at hD hG ⊢
  have hA : ∀ q : Nat, s.heap.size ≤ q → A q := fun q h => by rw [← hAe]; exact Or.inr h
  have hS : va_S A s.heap s.heap [] := va_S.rf
  have hP : va_P (dC, dI) vwCl [(qt, .inr (11, [.ref qt_now, .ref xt_past, .int (it_saved), .ref qt_text, .int (it_length), .ref xt_doors, .int (it_doorMany), .ref xt_label, .int (it_drawn), .ref xt_far, .ref xt_ring, .int (it_walker), .int (it_from), .ref xt_was, .int (it_steps), .int (it_faultAt), .int (it_mover)])), (qt_now, .inl (cy.1, 639, .inl (ft_now))), (qt_text, .inl (cy.1, 200, .inl (ft_text)))] s.heap := hP
  have hl := lv_entry ([.ref qt, .int va1]) (n := 3) (Nat.le_of_ble_eq_true rfl)
  rw [lg_entry_eq]
  generalize (lg_sl ([.ref qt, .int va1]) ++ List.replicate (3 - (lg_sl ([.ref qt, .int va1])).length) Slot.unset).toArray = ls at hl ⊢
  have hl : lv_has ls 3 [(0, .ref qt), (1, .int va1)] := hl
  refine kgen (fun Q hQ => ?_)
  rw [f_X11_fault] at hf
  refine lv_iload_n hx hb dX11_fault_0 rfl (lv_at hl 1 rfl) ?_
  refine lv_iconst (v := (0 : Int32)) hx hb dX11_fault_1 (by decide) ?_
  refine lv_iconst (v := (1 : Int32)) hx hb dX11_fault_2 (by decide) ?_
  refine kcalli (wc := []) (wr := [(qt, .inr (11, [.ref qt_now, .ref xt_past, .int (it_saved), .ref qt_text, .int (it_length), .ref xt_doors, .int (it_doorMany), .ref xt_label, .int (it_drawn), .ref xt_far, .ref xt_ring, .int (it_walker), .int (it_from), .ref xt_was, .int (it_steps), .int (it_faultAt), .int (it_mover)])), (qt_now, .inl (cy.1, 639, .inl (ft_now))), (qt_text, .inl (cy.1, 200, .inl (ft_text)))]) (w1 := []) hK hP hD hS hA hG [] [0, 1, 2] rfl rfl rfl rfl rfl (fun hU hPc => va_runS (As := [.int va1, .int (0 : Int32), .int (1 : Int32)]) (rest := []) ⟨hx, hb, hml, hown, hts⟩ (c_X11_in l dC dI cy G s.heap.size (va1) ((0 : Int32)) ((1 : Int32)) (t_X11_in (va1) ((0 : Int32)) ((1 : Int32))) (tot_X11_in (va1) ((0 : Int32)) ((1 : Int32)))) (va_cwS 3 hts gX11_fault_X11_in rfl rfl rfl hdX11_in.2 ⟨Nat.le_of_ble_eq_true rfl, Nat.le_of_ble_eq_true rfl⟩) ⟨kBlind, fun U h1 h2 => ⟨rfl, hU U h1 h2⟩⟩ rfl rfl hl.1 rfl (lv_room (Nat.le_of_ble_eq_true rfl)) dX11_fault_3 ⟨Nat.zero_le _, Nat.zero_le _⟩) ((t_X11_in (va1) ((0 : Int32)) ((1 : Int32)))) (fun _ _ h => h) (fun _ _ h => h) (fun H locs hP hD hS => ?_)
  have hP : va_P (dC, dI) vwCl [(qt, .inr (11, [.ref qt_now, .ref xt_past, .int (it_saved), .ref qt_text, .int (it_length), .ref xt_doors, .int (it_doorMany), .ref xt_label, .int (it_drawn), .ref xt_far, .ref xt_ring, .int (it_walker), .int (it_from), .ref xt_was, .int (it_steps), .int (it_faultAt), .int (it_mover)])), (qt_now, .inl (cy.1, 639, .inl (ft_now))), (qt_text, .inl (cy.1, 200, .inl (ft_text)))] H := hP
  have hD : va_D A [(qt, .inr (11, [.ref qt_now, .ref xt_past, .int (it_saved), .ref qt_text, .int (it_length), .ref xt_doors, .int (it_doorMany), .ref xt_label, .int (it_drawn), .ref xt_far, .ref xt_ring, .int (it_walker), .int (it_from), .ref xt_was, .int (it_steps), .int (it_faultAt), .int (it_mover)])), (qt_now, .inl (cy.1, 639, .inl (ft_now))), (qt_text, .inl (cy.1, 200, .inl (ft_text)))] := hD
  refine lv_if_ne (tgt := 11) hx hb dX11_fault_6 (by decide) (fun hc_6 => ?_) (fun hc_6 => ?_)
  · rw [if_neg hc_6] at hf
    refine lv_aload_n hx hb dX11_fault_11 rfl (lv_at hl 0 rfl) ?_
    obtain ⟨r12, o12_0, o12_1, hq_12, hf⟩ := bnd3_s hf
    refine kcalli (wc := [(qt, .inr (11, [.ref qt_now, .ref xt_past, .int (it_saved), .ref qt_text, .int (it_length), .ref xt_doors, .int (it_doorMany), .ref xt_label, .int (it_drawn), .ref xt_far, .ref xt_ring, .int (it_walker), .int (it_from), .ref xt_was, .int (it_steps), .int (it_faultAt), .int (it_mover)])), (qt_now, .inl (cy.1, 639, .inl (ft_now))), (qt_text, .inl (cy.1, 200, .inl (ft_text)))]) (wr := []) (w1 := [(qt, .inr (11, [.ref qt_now, .ref xt_past, .int (it_saved), .ref qt_text, .int (it_length), .ref xt_doors, .int (it_doorMany), .ref xt_label, .int (it_drawn), .ref xt_far, .ref xt_ring, .int (it_walker), .int (it_from), .ref xt_was, .int (it_steps), .int (o12_0), .int (o12_1)])), (qt_now, .inl (cy.1, 639, .inl (ft_now))), (qt_text, .inl (cy.1, 200, .inl (ft_text)))]) hK hP hD hS hA hG [0, 1, 2] [] rfl rfl rfl rfl rfl (fun hU hPc => va_runV (As := []) (rest := []) ⟨hx, hb, hml, hown, hts⟩ (c_X11_moves l dC dI cy G H.size qt qt_now qt_text xt_past xt_doors xt_label xt_far xt_ring xt_was (it_saved) (it_doorMany) (it_drawn) (it_walker) (it_from) (it_steps) N (it_length) (it_faultAt) (it_mover) (ft_now) (ft_text) (r12, o12_0, o12_1) hq_12) (cwV 0 hts gX11_fault_X11_moves rfl rfl rfl hdX11_moves ⟨Nat.le_of_ble_eq_true rfl, Nat.le_of_ble_eq_true rfl⟩) ⟨kBlind, (va_recv hK hP (ci := 11) (q0 := 0) rfl rfl), fun U h1 h2 => ⟨rfl, hU U h1 h2⟩⟩ rfl rfl hl.1 rfl (lv_room (Nat.le_of_ble_eq_true rfl)) dX11_fault_12 ⟨Nat.zero_le _, Nat.zero_le _⟩) (r12) (fun _ _ h => h) (fun _ _ h => h) (fun H locs hP hD hS => ?_)
    have hP : va_P (dC, dI) vwCl [(qt, .inr (11, [.ref qt_now, .ref xt_past, .int (it_saved), .ref qt_text, .int (it_length), .ref xt_doors, .int (it_doorMany), .ref xt_label, .int (it_drawn), .ref xt_far, .ref xt_ring, .int (it_walker), .int (it_from), .ref xt_was, .int (it_steps), .int (o12_0), .int (o12_1)])), (qt_now, .inl (cy.1, 639, .inl (ft_now))), (qt_text, .inl (cy.1, 200, .inl (ft_text)))] H := hP
    have hD : va_D A [(qt, .inr (11, [.ref qt_now, .ref xt_past, .int (it_saved), .ref qt_text, .int (it_length), .ref xt_doors, .int (it_doorMany), .ref xt_label, .int (it_drawn), .ref xt_far, .ref xt_ring, .int (it_walker), .int (it_from), .ref xt_was, .int (it_steps), .int (o12_0), .int (o12_1)])), (qt_now, .inl (cy.1, 639, .inl (ft_now))), (qt_text, .inl (cy.1, 200, .inl (ft_text)))] := hD
    refine lv_istore_n (lv' := [(2, .int r12), (0, .ref qt), (1, .int va1)]) hx hb dX11_fault_15 rfl hl (by decide) rfl (fun ls hl => ?_)
    refine lv_iload_n hx hb dX11_fault_16 rfl (lv_at hl 0 rfl) ?_
    refine lv_if_ne (tgt := 25) hx hb dX11_fault_17 (by decide) (fun hc_17 => ?_) (fun hc_17 => ?_)
    · rw [if_neg hc_17] at hf
      refine lv_iload_n hx hb dX11_fault_25 rfl (lv_at hl 2 rfl) ?_
      refine lv_if_ne (tgt := 36) hx hb dX11_fault_26 (by decide) (fun hc_26 => ?_) (fun hc_26 => ?_)
      · rw [if_neg hc_26] at hf
        refine lv_iload_n hx hb dX11_fault_36 rfl (lv_at hl 0 rfl) ?_
        cases hf
        subst hQ
        exact kiret hx hb hr hlocks hK (hP.sub [0, 1, 2] rfl) (hD.sub [0, 1, 2] (by decide) rfl) hS rfl dX11_fault_37
      · rw [if_pos hc_26] at hf
        refine lv_aload_n hx hb dX11_fault_29 rfl (lv_at hl 1 rfl) ?_
        refine va_get (D := (dC, dI)) (ci := 11) (C := RX11) (T := TX11) (N := 17) hx hb hts (fun _ h => (List.mem_cons_of_mem _ (List.mem_append_right _ h))) hown hK hP 0 rfl rfl 15 (by decide) (hts _ (List.mem_cons_of_mem _ (List.mem_append_left _ (List.mem_append_left _ (List.mem_of_getElem? (i := 0) rfl))))) (fun _ h => h) rfl dX11_fault_30 ?_
        refine lv_goto (tgt := 37) hx hb dX11_fault_33 (by decide) ?_
        cases hf
        subst hQ
        exact kiret hx hb hr hlocks hK (hP.sub [0, 1, 2] rfl) (hD.sub [0, 1, 2] (by decide) rfl) hS rfl dX11_fault_37
    · rw [if_pos hc_17] at hf
      refine lv_bipush (v := (-4 : Int32)) hx hb dX11_fault_20 (by decide) ?_
      refine lv_goto (tgt := 37) hx hb dX11_fault_22 (by decide) ?_
      cases hf
      subst hQ
      exact kiret hx hb hr hlocks hK (hP.sub [0, 1, 2] rfl) (hD.sub [0, 1, 2] (by decide) rfl) hS rfl dX11_fault_37
  · rw [if_pos hc_6] at hf
    refine lv_iconst (v := (-1 : Int32)) hx hb dX11_fault_9 (by decide) ?_
    cases hf
    subst hQ
    exact kiret hx hb hr hlocks hK (hP.sub [0, 1, 2] rfl) (hD.sub [0, 1, 2] (by decide) rfl) hS rfl dX11_fault_10
theorem hdX11_fault : yX11_fault.cls = RX11 ∧ yX11_fault.cls ≠ "java/lang/invoke/MethodHandle" ∧ yX11_fault.cls ≠ "java/lang/invoke/VarHandle" ∧ (parseMethodDescriptor yX11_fault.desc).map (fun d => d.parameters.length) = some 1 := by decide +kernel
noncomputable def f_X11_moved (N : Nat) (it_length : Int32) (it_faultAt : Int32) (it_mover : Int32) (ft_now : Nat → Int32) (ft_text : Nat → Int32) : Option (Int32 × Int32 × Int32) :=
  bnd3 (f_X11_moves N (it_length) (it_faultAt) (it_mover) (ft_now) (ft_text)) fun r1 o1_0 o1_1 =>
  some (o1_1, o1_0, o1_1)
abbrev rm_X11_moved : Room := { frames := 7, cells := 0, slots := 0, locals := 158 }
set_option maxHeartbeats 4000000 in
set_option maxRecDepth 100000 in
theorem c_X11_moved (l : Launch) (dC : Nat → ClassId) (dI : Nat → Nat → Nat) (cy : gC) (G : gT) (sz : Nat) (qt : Nat) (qt_now : Nat) (qt_text : Nat) (xt_past : Nat) (xt_doors : Nat) (xt_label : Nat) (xt_far : Nat) (xt_ring : Nat) (xt_was : Nat) (it_saved : Int32) (it_doorMany : Int32) (it_drawn : Int32) (it_walker : Int32) (it_from : Int32) (it_steps : Int32) (N : Nat) (it_length : Int32) (it_faultAt : Int32) (it_mover : Int32) (ft_now : Nat → Int32) (ft_text : Nat → Int32) (out : Int32 × Int32 × Int32) (hf : f_X11_moved N it_length it_faultAt it_mover ft_now ft_text = some out) : Met l yX11_moved wsX11_moved rm_X11_moved (va_Pc [.ref qt] (kP (dC, dI) cy G [(qt, .inr (11, [.ref qt_now, .ref xt_past, .int (it_saved), .ref qt_text, .int (it_length), .ref xt_doors, .int (it_doorMany), .ref xt_label, .int (it_drawn), .ref xt_far, .ref xt_ring, .int (it_walker), .int (it_from), .ref xt_was, .int (it_steps), .int (it_faultAt), .int (it_mover)])), (qt_now, .inl (cy.1, 639, .inl (ft_now))), (qt_text, .inl (cy.1, 200, .inl (ft_text)))] sz)) (va_Qi (fun r (_ : Unit) => r = out.1) (fun _ => kQ (dC, dI) cy [(qt, .inr (11, [.ref qt_now, .ref xt_past, .int (it_saved), .ref qt_text, .int (it_length), .ref xt_doors, .int (it_doorMany), .ref xt_label, .int (it_drawn), .ref xt_far, .ref xt_ring, .int (it_walker), .int (it_from), .ref xt_was, .int (it_steps), .int (out.2.1), .int (out.2.2)])), (qt_now, .inl (cy.1, 639, .inl (ft_now))), (qt_text, .inl (cy.1, 200, .inl (ft_text)))] (va_A [(qt, .inr (11, [.ref qt_now, .ref xt_past, .int (it_saved), .ref qt_text, .int (it_length), .ref xt_doors, .int (it_doorMany), .ref xt_label, .int (it_drawn), .ref xt_far, .ref xt_ring, .int (it_walker), .int (it_from), .ref xt_was, .int (it_steps), .int (it_faultAt), .int (it_mover)])), (qt_now, .inl (cy.1, 639, .inl (ft_now))), (qt_text, .inl (cy.1, 200, .inl (ft_text)))] sz)) (va_A [(qt, .inr (11, [.ref qt_now, .ref xt_past, .int (it_saved), .ref qt_text, .int (it_length), .ref xt_doors, .int (it_doorMany), .ref xt_label, .int (it_drawn), .ref xt_far, .ref xt_ring, .int (it_walker), .int (it_from), .ref xt_was, .int (it_steps), .int (it_faultAt), .int (it_mover)])), (qt_now, .inl (cy.1, 639, .inl (ft_now))), (qt_text, .inl (cy.1, 200, .inl (ft_text)))] sz)) 0 0 (va_A [(qt, .inr (11, [.ref qt_now, .ref xt_past, .int (it_saved), .ref qt_text, .int (it_length), .ref xt_doors, .int (it_doorMany), .ref xt_label, .int (it_drawn), .ref xt_far, .ref xt_ring, .int (it_walker), .int (it_from), .ref xt_was, .int (it_steps), .int (it_faultAt), .int (it_mover)])), (qt_now, .inl (cy.1, 639, .inl (ft_now))), (qt_text, .inl (cy.1, 200, .inl (ft_text)))] sz) := by
  refine Met.ofW (cc := cX11_moved) (maxL := 2) (ret := (some .int)) (by decide) rfl ?_
  intro p e s m args below meth c s₁ B hml hv
  obtain ⟨rfl, hsz, hP, hK, hD0, hG⟩ := hv
  have hx := B.exec
  have hb := B.bytes
  have hr := B.returns
  have hts := atoms_spec (ws := wsX11_moved) B.pre
  have hown : s.vm.findClass RX11 = some m.cls := findClass_of_methodNamed B.named
  have hlocks := B.notSynchronized
  subst hsz
  have hD := hD0.self (sz := s.heap.size)
  generalize hAe : va_A [(qt, .inr (11, [.ref qt_now, .ref xt_past, .int (it_saved), .ref qt_text, .int (it_length), .ref xt_doors, .int (it_doorMany), .ref xt_label, .int (it_drawn), .ref xt_far, .ref xt_ring, .int (it_walker), .int (it_from), .ref xt_was, .int (it_steps), .int (it_faultAt), .int (it_mover)])), (qt_now, .inl (cy.1, 639, .inl (ft_now))), (qt_text, .inl (cy.1, 200, .inl (ft_text)))] s.heap.size = A at hD hG ⊢
  have hA : ∀ q : Nat, s.heap.size ≤ q → A q := fun q h => by rw [← hAe]; exact Or.inr h
  have hS : va_S A s.heap s.heap [] := va_S.rf
  have hP : va_P (dC, dI) vwCl [(qt, .inr (11, [.ref qt_now, .ref xt_past, .int (it_saved), .ref qt_text, .int (it_length), .ref xt_doors, .int (it_doorMany), .ref xt_label, .int (it_drawn), .ref xt_far, .ref xt_ring, .int (it_walker), .int (it_from), .ref xt_was, .int (it_steps), .int (it_faultAt), .int (it_mover)])), (qt_now, .inl (cy.1, 639, .inl (ft_now))), (qt_text, .inl (cy.1, 200, .inl (ft_text)))] s.heap := hP
  have hl := lv_entry ([.ref qt]) (n := 2) (Nat.le_of_ble_eq_true rfl)
  rw [lg_entry_eq]
  generalize (lg_sl ([.ref qt]) ++ List.replicate (2 - (lg_sl ([.ref qt])).length) Slot.unset).toArray = ls at hl ⊢
  have hl : lv_has ls 2 [(0, .ref qt)] := hl
  refine kgen (fun Q hQ => ?_)
  rw [f_X11_moved] at hf
  refine lv_aload_n hx hb dX11_moved_0 rfl (lv_at hl 0 rfl) ?_
  obtain ⟨r1, o1_0, o1_1, hq_1, hf⟩ := bnd3_s hf
  refine kcalli (wc := [(qt, .inr (11, [.ref qt_now, .ref xt_past, .int (it_saved), .ref qt_text, .int (it_length), .ref xt_doors, .int (it_doorMany), .ref xt_label, .int (it_drawn), .ref xt_far, .ref xt_ring, .int (it_walker), .int (it_from), .ref xt_was, .int (it_steps), .int (it_faultAt), .int (it_mover)])), (qt_now, .inl (cy.1, 639, .inl (ft_now))), (qt_text, .inl (cy.1, 200, .inl (ft_text)))]) (wr := []) (w1 := [(qt, .inr (11, [.ref qt_now, .ref xt_past, .int (it_saved), .ref qt_text, .int (it_length), .ref xt_doors, .int (it_doorMany), .ref xt_label, .int (it_drawn), .ref xt_far, .ref xt_ring, .int (it_walker), .int (it_from), .ref xt_was, .int (it_steps), .int (o1_0), .int (o1_1)])), (qt_now, .inl (cy.1, 639, .inl (ft_now))), (qt_text, .inl (cy.1, 200, .inl (ft_text)))]) hK hP hD hS hA hG [0, 1, 2] [] rfl rfl rfl rfl rfl (fun hU hPc => va_runV (As := []) (rest := []) ⟨hx, hb, hml, hown, hts⟩ (c_X11_moves l dC dI cy G s.heap.size qt qt_now qt_text xt_past xt_doors xt_label xt_far xt_ring xt_was (it_saved) (it_doorMany) (it_drawn) (it_walker) (it_from) (it_steps) N (it_length) (it_faultAt) (it_mover) (ft_now) (ft_text) (r1, o1_0, o1_1) hq_1) (cwV 0 hts gX11_moved_X11_moves rfl rfl rfl hdX11_moves ⟨Nat.le_of_ble_eq_true rfl, Nat.le_of_ble_eq_true rfl⟩) ⟨kBlind, (va_recv hK hP (ci := 11) (q0 := 0) rfl rfl), fun U h1 h2 => ⟨rfl, hU U h1 h2⟩⟩ rfl rfl hl.1 rfl (lv_room (Nat.le_of_ble_eq_true rfl)) dX11_moved_1 ⟨Nat.zero_le _, Nat.zero_le _⟩) (r1) (fun _ _ h => h) (fun _ _ h => h) (fun H locs hP hD hS => ?_)
  have hP : va_P (dC, dI) vwCl [(qt, .inr (11, [.ref qt_now, .ref xt_past, .int (it_saved), .ref qt_text, .int (it_length), .ref xt_doors, .int (it_doorMany), .ref xt_label, .int (it_drawn), .ref xt_far, .ref xt_ring, .int (it_walker), .int (it_from), .ref xt_was, .int (it_steps), .int (o1_0), .int (o1_1)])), (qt_now, .inl (cy.1, 639, .inl (ft_now))), (qt_text, .inl (cy.1, 200, .inl (ft_text)))] H := hP
  have hD : va_D A [(qt, .inr (11, [.ref qt_now, .ref xt_past, .int (it_saved), .ref qt_text, .int (it_length), .ref xt_doors, .int (it_doorMany), .ref xt_label, .int (it_drawn), .ref xt_far, .ref xt_ring, .int (it_walker), .int (it_from), .ref xt_was, .int (it_steps), .int (o1_0), .int (o1_1)])), (qt_now, .inl (cy.1, 639, .inl (ft_now))), (qt_text, .inl (cy.1, 200, .inl (ft_text)))] := hD
  refine lv_istore_n (lv' := [(1, .int r1), (0, .ref qt)]) hx hb dX11_moved_4 rfl hl (by decide) rfl (fun ls hl => ?_)
  refine lv_aload_n hx hb dX11_moved_5 rfl (lv_at hl 1 rfl) ?_
  refine va_get (D := (dC, dI)) (ci := 11) (C := RX11) (T := TX11) (N := 17) hx hb hts (fun _ h => (List.mem_cons_of_mem _ (List.mem_append_right _ h))) hown hK hP 0 rfl rfl 16 (by decide) (hts _ (List.mem_cons_of_mem _ (List.mem_append_left _ (List.mem_append_left _ (List.mem_of_getElem? (i := 0) rfl))))) (fun _ h => h) rfl dX11_moved_6 ?_
  cases hf
  subst hQ
  exact kiret hx hb hr hlocks hK (hP.sub [0, 1, 2] rfl) (hD.sub [0, 1, 2] (by decide) rfl) hS rfl dX11_moved_9
theorem hdX11_moved : yX11_moved.cls = RX11 ∧ yX11_moved.cls ≠ "java/lang/invoke/MethodHandle" ∧ yX11_moved.cls ≠ "java/lang/invoke/VarHandle" ∧ (parseMethodDescriptor yX11_moved.desc).map (fun d => d.parameters.length) = some 0 := by decide +kernel

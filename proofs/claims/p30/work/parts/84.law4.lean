-- contracts of the law's methods (written by wip/p30/genL.py)
abbrev rm_L_anyRoom : Room := { frames := 7, cells := 0, slots := 0, locals := 157 }
set_option maxHeartbeats 8000000 in
set_option maxRecDepth 100000 in
theorem c_L_anyRoom (l : Launch) (dC : Nat → ClassId) (dI : Nat → Nat → Nat) (cy : gC) (G : gT) (sz qc : Nat) (ws : va_W) (N : Nat) (g : gS) (va2 : Int32) (out : Int32 × gS) (hI : IsW cy qc g ws) (hf : f_L_anyRoom N g va2 = some out) : Met l yL_anyRoom wsL_anyRoom rm_L_anyRoom (va_Pc [.ref qc, .int va2] (kP (dC, dI) cy G ws sz)) (va_Qi (fun r (_ : Unit) => r = out.1) (fun _ => kQX (dC, dI) cy qc out.2 (va_A ws sz)) (va_A ws sz)) 0 0 (va_A ws sz) := by
  refine Met.ofW (cc := cL_anyRoom) (maxL := 4) (ret := (some .int)) (by decide) rfl ?_
  intro p e s m args below meth c s₁ B hml hv
  obtain ⟨rfl, hsz, hP, hK, hD0, hG⟩ := hv
  have hx := B.exec
  have hb := B.bytes
  have hr := B.returns
  have hts := atoms_spec (ws := wsL_anyRoom) B.pre
  have hown : s.vm.findClass RL = some m.cls := findClass_of_methodNamed B.named
  have hlocks := B.notSynchronized
  subst hsz
  have hD := hD0.self (sz := s.heap.size)
  generalize hAe : va_A ws s.heap.size = A at hD hG ⊢
  have hA : ∀ q : Nat, s.heap.size ≤ q → A q := fun q h => by rw [← hAe]; exact Or.inr h
  have hX : WX dC dI cy qc A s g s.heap [] := ⟨ws, hI, hP, hD, va_S.rf⟩
  have C : CX p s m c ([.ref qc, .int va2] : List Value).toArray cL_anyRoom wsL_anyRoom 4 A dC dI cy G := ⟨hx, hb, hml, hown, hts, hK, hG, hA⟩
  have hcs : 0 ≤ (headSpec wsL_anyRoom rm_L_anyRoom).room.cells ∧ 0 ≤ (headSpec wsL_anyRoom rm_L_anyRoom).room.slots := ⟨Nat.zero_le _, Nat.zero_le _⟩
  have hl := lv_entry ([.ref qc, .int va2]) (n := 4) (Nat.le_of_ble_eq_true rfl)
  rw [lg_entry_eq]
  generalize (lg_sl ([.ref qc, .int va2]) ++ List.replicate (4 - (lg_sl ([.ref qc, .int va2])).length) Slot.unset).toArray = ls at hl ⊢
  have hl : lv_has ls 4 [(0, .ref qc), (1, .int va2)] := hl
  refine kgen (fun Q hQ => ?_)
  have hX0 := hX
  have B13 : ∀ (n13 : Nat) (l2 : Int32) (l3 : Int32) (cg : gS) (H : Heap) (locs : List Loc), WX dC dI cy qc A s cg H locs → ∀ (ls : Array Slot), lv_has ls 4 [(0, .ref qc), (2, .int l2), (3, .int l3)] → b_L_anyRoom_13 N va2 n13 l2 l3 cg = some out → W p l e (headSpec wsL_anyRoom rm_L_anyRoom).room s m ([.ref qc, .int va2] : List Value).toArray below meth c H locs 0 0 Q (F0 m 13 ls []) := by
    intro n13
    induction n13 with
    | zero => intro l2 l3 cg H locs hX ls hl hf; rw [b_L_anyRoom_13] at hf; cases hf
    | succ n13 ih13 =>
      intro l2 l3 cg H locs hX ls hl hf
      rw [b_L_anyRoom_13] at hf
      refine lv_aload_n hx hb dL_anyRoom_13 rfl (lv_at hl 0 rfl) ?_
      refine lv_iload_n hx hb dL_anyRoom_14 rfl (lv_at hl 2 rfl) ?_
      obtain ⟨v15, hv_15, hf⟩ := bV_s hf
      refine q_isRoom C hcs ⟨Nat.le_of_ble_eq_true rfl, Nat.le_of_ble_eq_true rfl⟩ hl hX gL_anyRoom_X10_isRoom dL_anyRoom_15 hv_15 (Nat.le_of_ble_eq_true rfl) (fun H locs hX => ?_)
      refine lv_if_ne (tgt := 30) hx hb dL_anyRoom_18 (by decide) (fun hc_18 => ?_) (fun hc_18 => ?_)
      · have hf := kneg hc_18 hf
        refine lv_iload_n hx hb dL_anyRoom_30 rfl (lv_at hl 2 rfl) ?_
        cases hf
        subst hQ
        exact kiretX C hr hlocks hX rfl dL_anyRoom_31
      · have hf := kpos hc_18 hf
        refine lv_iload_n hx hb dL_anyRoom_21 rfl (lv_at hl 2 rfl) ?_
        refine lv_iconst (v := (1 : Int32)) hx hb dL_anyRoom_22 (by decide) ?_
        refine lv_iadd hx hb dL_anyRoom_23 ?_
        refine lv_iload_n hx hb dL_anyRoom_24 rfl (lv_at hl 1 rfl) ?_
        obtain ⟨hk_25, hf⟩ := chk_s hf
        refine lv_irem hx hb dL_anyRoom_25 hk_25 ?_
        refine lv_istore_n (lv' := [(3, .int ((l3 + (1 : Int32)) - (l3 + (1 : Int32)) / l2 * l2)), (0, .ref qc), (2, .int l2)]) hx hb dL_anyRoom_26 rfl hl (by decide) rfl (fun ls hl => ?_)
        refine lv_goto (tgt := 13) hx hb dL_anyRoom_27 (by decide) ?_
        exact ih13 (l2) (((l3 + (1 : Int32)) - (l3 + (1 : Int32)) / l2 * l2)) (cg) _ _ hX ls (lv_sub hl [1, 2, 0] rfl) hf
  rw [f_L_anyRoom] at hf
  refine lv_bipush (v := (6 : Int32)) hx hb dL_anyRoom_0 (by decide) ?_
  refine lv_aload_n hx hb dL_anyRoom_2 rfl (lv_at hl 0 rfl) ?_
  refine lv_iconst (v := (1 : Int32)) hx hb dL_anyRoom_3 (by decide) ?_
  obtain ⟨v4, hv_4, hf⟩ := bV_s hf
  refine q_count C hcs ⟨Nat.le_of_ble_eq_true rfl, Nat.le_of_ble_eq_true rfl⟩ hl hX gL_anyRoom_X10_count dL_anyRoom_4 hv_4 (Nat.le_of_ble_eq_true rfl) (fun H locs hX => ?_)
  refine lv_imul hx hb dL_anyRoom_7 ?_
  refine lv_istore_n (lv' := [(2, .int ((6 : Int32) * v4)), (0, .ref qc), (1, .int va2)]) hx hb dL_anyRoom_8 rfl hl (by decide) rfl (fun ls hl => ?_)
  refine lv_iload_n hx hb dL_anyRoom_9 rfl (lv_at hl 2 rfl) ?_
  refine lv_iload_n hx hb dL_anyRoom_10 rfl (lv_at hl 0 rfl) ?_
  obtain ⟨hk_11, hf⟩ := chk_s hf
  refine lv_irem hx hb dL_anyRoom_11 hk_11 ?_
  refine lv_istore_n (lv' := [(3, .int (va2 - va2 / ((6 : Int32) * v4) * ((6 : Int32) * v4))), (2, .int ((6 : Int32) * v4)), (0, .ref qc), (1, .int va2)]) hx hb dL_anyRoom_12 rfl hl (by decide) rfl (fun ls hl => ?_)
  exact B13 N (((6 : Int32) * v4)) ((va2 - va2 / ((6 : Int32) * v4) * ((6 : Int32) * v4))) (g) _ _ hX ls (lv_sub hl [2, 1, 0] rfl) hf
theorem hdL_anyRoom : yL_anyRoom.cls = RL ∧ yL_anyRoom.cls ≠ "java/lang/invoke/MethodHandle" ∧ yL_anyRoom.cls ≠ "java/lang/invoke/VarHandle" ∧ (parseMethodDescriptor yL_anyRoom.desc).map (fun d => d.parameters.length) = some 2 := by decide +kernel
abbrev rm_L_areWays : Room := { frames := 7, cells := 0, slots := 0, locals := 159 }
set_option maxHeartbeats 8000000 in
set_option maxRecDepth 100000 in
theorem c_L_areWays (l : Launch) (dC : Nat → ClassId) (dI : Nat → Nat → Nat) (cy : gC) (G : gT) (sz qc : Nat) (ws : va_W) (N : Nat) (g : gS) (va2 : Int32) (va3 : Int32) (out : Int32 × gS) (hI : IsW cy qc g ws) (hf : f_L_areWays N g va2 va3 = some out) : Met l yL_areWays wsL_areWays rm_L_areWays (va_Pc [.ref qc, .int va2, .int va3] (kP (dC, dI) cy G ws sz)) (va_Qi (fun r (_ : Unit) => r = out.1) (fun _ => kQX (dC, dI) cy qc out.2 (va_A ws sz)) (va_A ws sz)) 0 0 (va_A ws sz) := by
  refine Met.ofW (cc := cL_areWays) (maxL := 11) (ret := (some .boolean)) (by decide) rfl ?_
  intro p e s m args below meth c s₁ B hml hv
  obtain ⟨rfl, hsz, hP, hK, hD0, hG⟩ := hv
  have hx := B.exec
  have hb := B.bytes
  have hr := B.returns
  have hts := atoms_spec (ws := wsL_areWays) B.pre
  have hown : s.vm.findClass RL = some m.cls := findClass_of_methodNamed B.named
  have hlocks := B.notSynchronized
  subst hsz
  have hD := hD0.self (sz := s.heap.size)
  generalize hAe : va_A ws s.heap.size = A at hD hG ⊢
  have hA : ∀ q : Nat, s.heap.size ≤ q → A q := fun q h => by rw [← hAe]; exact Or.inr h
  have hX : WX dC dI cy qc A s g s.heap [] := ⟨ws, hI, hP, hD, va_S.rf⟩
  have C : CX p s m c ([.ref qc, .int va2, .int va3] : List Value).toArray cL_areWays wsL_areWays 11 A dC dI cy G := ⟨hx, hb, hml, hown, hts, hK, hG, hA⟩
  have hcs : 0 ≤ (headSpec wsL_areWays rm_L_areWays).room.cells ∧ 0 ≤ (headSpec wsL_areWays rm_L_areWays).room.slots := ⟨Nat.zero_le _, Nat.zero_le _⟩
  have hl := lv_entry ([.ref qc, .int va2, .int va3]) (n := 11) (Nat.le_of_ble_eq_true rfl)
  rw [lg_entry_eq]
  generalize (lg_sl ([.ref qc, .int va2, .int va3]) ++ List.replicate (11 - (lg_sl ([.ref qc, .int va2, .int va3])).length) Slot.unset).toArray = ls at hl ⊢
  have hl : lv_has ls 11 [(0, .ref qc), (1, .int va2), (2, .int va3)] := hl
  refine kgen (fun Q hQ => ?_)
  have hX0 := hX
  have B506 : ∀ (l8 : Int32) (l9 : Int32) (s0 : Int32) (s1 : Int32) (cg : gS) (H : Heap) (locs : List Loc), WX dC dI cy qc A s cg H locs → ∀ (ls : Array Slot), lv_has ls 11 [(8, .int l8), (9, .int l9)] → b_L_areWays_506 N va2 va3 l8 l9 s0 s1 cg = some out → W p l e (headSpec wsL_areWays rm_L_areWays).room s m ([.ref qc, .int va2, .int va3] : List Value).toArray below meth c H locs 0 0 Q (F0 m 506 ls [.int s1, .int s0]) := by
    intro l8 l9 s0 s1 cg H locs hX ls hl hf
    rw [b_L_areWays_506] at hf
    refine lv_icmp_ne (tgt := 547) hx hb dL_areWays_506 (by decide) (fun hc_506 => ?_) (fun hc_506 => ?_)
    · have hf := kneg hc_506 hf
      refine lv_iconst (v := (0 : Int32)) hx hb dL_areWays_547 (by decide) ?_
      cases hf
      subst hQ
      exact kzretX C hr hlocks rfl hX rfl dL_areWays_548
    · have hf := kpos hc_506 hf
      refine lv_iload hx hb dL_areWays_509 (lv_at hl 0 rfl) ?_
      refine lv_bipush (v := (9 : Int32)) hx hb dL_areWays_511 (by decide) ?_
      refine lv_icmp_gt (tgt := 547) hx hb dL_areWays_513 (by decide) (fun hc_513 => ?_) (fun hc_513 => ?_)
      · have hf := kpos hc_513 hf
        refine lv_iconst (v := (0 : Int32)) hx hb dL_areWays_547 (by decide) ?_
        cases hf
        subst hQ
        exact kzretX C hr hlocks rfl hX rfl dL_areWays_548
      · have hf := kneg hc_513 hf
        refine lv_iload hx hb dL_areWays_516 (lv_at hl 1 rfl) ?_
        refine lv_if_lt (tgt := 543) hx hb dL_areWays_518 (by decide) (fun hc_518 => ?_) (fun hc_518 => ?_)
        · have hf := kpos hc_518 hf
          refine lv_iconst (v := (1 : Int32)) hx hb dL_areWays_543 (by decide) ?_
          refine lv_goto (tgt := 548) hx hb dL_areWays_544 (by decide) ?_
          cases hf
          subst hQ
          exact kzretX C hr hlocks rfl hX rfl dL_areWays_548
        · have hf := kneg hc_518 hf
          refine lv_iload hx hb dL_areWays_521 (lv_at hl 0 rfl) ?_
          refine lv_iload hx hb dL_areWays_523 (lv_at hl 1 rfl) ?_
          refine lv_bipush (v := (99 : Int32)) hx hb dL_areWays_525 (by decide) ?_
          refine lv_icmp_le (tgt := 535) hx hb dL_areWays_527 (by decide) (fun hc_527 => ?_) (fun hc_527 => ?_)
          · have hf := kpos hc_527 hf
            refine lv_iload hx hb dL_areWays_535 (lv_at hl 1 rfl) ?_
            refine lv_bipush (v := (10 : Int32)) hx hb dL_areWays_537 (by decide) ?_
            refine lv_idiv hx hb dL_areWays_539 (by decide) ?_
            refine lv_icmp_lt (tgt := 547) hx hb dL_areWays_540 (by decide) (fun hc_540 => ?_) (fun hc_540 => ?_)
            · have hf := kpos hc_540 hf
              refine lv_iconst (v := (0 : Int32)) hx hb dL_areWays_547 (by decide) ?_
              cases hf
              subst hQ
              exact kzretX C hr hlocks rfl hX rfl dL_areWays_548
            · have hf := kneg hc_540 hf
              refine lv_iconst (v := (1 : Int32)) hx hb dL_areWays_543 (by decide) ?_
              refine lv_goto (tgt := 548) hx hb dL_areWays_544 (by decide) ?_
              cases hf
              subst hQ
              exact kzretX C hr hlocks rfl hX rfl dL_areWays_548
          · have hf := kneg hc_527 hf
            refine lv_bipush (v := (9 : Int32)) hx hb dL_areWays_530 (by decide) ?_
            refine lv_goto (tgt := 540) hx hb dL_areWays_532 (by decide) ?_
            refine lv_icmp_lt (tgt := 547) hx hb dL_areWays_540 (by decide) (fun hc_540 => ?_) (fun hc_540 => ?_)
            · have hf := kpos hc_540 hf
              refine lv_iconst (v := (0 : Int32)) hx hb dL_areWays_547 (by decide) ?_
              cases hf
              subst hQ
              exact kzretX C hr hlocks rfl hX rfl dL_areWays_548
            · have hf := kneg hc_540 hf
              refine lv_iconst (v := (1 : Int32)) hx hb dL_areWays_543 (by decide) ?_
              refine lv_goto (tgt := 548) hx hb dL_areWays_544 (by decide) ?_
              cases hf
              subst hQ
              exact kzretX C hr hlocks rfl hX rfl dL_areWays_548
  have B494 : ∀ (l8 : Int32) (l9 : Int32) (s0 : Int32) (cg : gS) (H : Heap) (locs : List Loc), WX dC dI cy qc A s cg H locs → ∀ (ls : Array Slot), lv_has ls 11 [(8, .int l8), (9, .int l9)] → b_L_areWays_494 N va2 va3 l8 l9 s0 cg = some out → W p l e (headSpec wsL_areWays rm_L_areWays).room s m ([.ref qc, .int va2, .int va3] : List Value).toArray below meth c H locs 0 0 Q (F0 m 494 ls [.int s0]) := by
    intro l8 l9 s0 cg H locs hX ls hl hf
    rw [b_L_areWays_494] at hf
    refine lv_iload hx hb dL_areWays_494 (lv_at hl 1 rfl) ?_
    refine lv_bipush (v := (-4 : Int32)) hx hb dL_areWays_496 (by decide) ?_
    refine lv_icmp_ne (tgt := 505) hx hb dL_areWays_498 (by decide) (fun hc_498 => ?_) (fun hc_498 => ?_)
    · have hf := kneg hc_498 hf
      refine lv_iconst (v := (0 : Int32)) hx hb dL_areWays_505 (by decide) ?_
      exact B506 (l8) (l9) (s0) ((0 : Int32)) (cg) _ _ hX ls (lv_sub hl [0, 1] rfl) hf
    · have hf := kpos hc_498 hf
      refine lv_iconst (v := (1 : Int32)) hx hb dL_areWays_501 (by decide) ?_
      refine lv_goto (tgt := 506) hx hb dL_areWays_502 (by decide) ?_
      exact B506 (l8) (l9) (s0) ((1 : Int32)) (cg) _ _ hX ls (lv_sub hl [0, 1] rfl) hf
  have B451 : ∀ (s0 : Int32) (cg : gS) (H : Heap) (locs : List Loc), WX dC dI cy qc A s cg H locs → ∀ (ls : Array Slot), lv_has ls 11 [(0, .ref qc)] → b_L_areWays_451 N va2 va3 s0 cg = some out → W p l e (headSpec wsL_areWays rm_L_areWays).room s m ([.ref qc, .int va2, .int va3] : List Value).toArray below meth c H locs 0 0 Q (F0 m 451 ls [.int s0]) := by
    intro s0 cg H locs hX ls hl hf
    rw [b_L_areWays_451] at hf
    refine lv_istore (lv' := [(5, .int s0), (0, .ref qc)]) hx hb dL_areWays_451 hl (by decide) rfl (fun ls hl => ?_)
    refine lv_aload_n hx hb dL_areWays_453 rfl (lv_at hl 1 rfl) ?_
    obtain ⟨v454, hv_454, hf⟩ := bV_s hf
    refine q_grade C hcs ⟨Nat.le_of_ble_eq_true rfl, Nat.le_of_ble_eq_true rfl⟩ hl hX gL_areWays_X10_grade dL_areWays_454 hv_454 (Nat.le_of_ble_eq_true rfl) (fun H locs hX => ?_)
    refine lv_istore (lv' := [(8, .int v454), (5, .int s0), (0, .ref qc)]) hx hb dL_areWays_457 hl (by decide) rfl (fun ls hl => ?_)
    refine lv_aload_n hx hb dL_areWays_459 rfl (lv_at hl 2 rfl) ?_
    refine lv_aload_n hx hb dL_areWays_460 rfl (lv_at hl 2 rfl) ?_
    refine lv_bipush (v := (10 : Int32)) hx hb dL_areWays_461 (by decide) ?_
    obtain ⟨v463, hv_463, hf⟩ := bV_s hf
    refine q_count C hcs ⟨Nat.le_of_ble_eq_true rfl, Nat.le_of_ble_eq_true rfl⟩ hl hX gL_areWays_X10_count dL_areWays_463 hv_463 (Nat.le_of_ble_eq_true rfl) (fun H locs hX => ?_)
    refine lv_aload_n hx hb dL_areWays_466 rfl (lv_at hl 2 rfl) ?_
    refine lv_bipush (v := (11 : Int32)) hx hb dL_areWays_467 (by decide) ?_
    obtain ⟨v469, hv_469, hf⟩ := bV_s hf
    refine q_count C hcs ⟨Nat.le_of_ble_eq_true rfl, Nat.le_of_ble_eq_true rfl⟩ hl hX gL_areWays_X10_count dL_areWays_469 hv_469 (Nat.le_of_ble_eq_true rfl) (fun H locs hX => ?_)
    obtain ⟨v472, hv_472, hf⟩ := bV_s hf
    refine q_distance C hcs ⟨Nat.le_of_ble_eq_true rfl, Nat.le_of_ble_eq_true rfl⟩ hl hX gL_areWays_X10_distance dL_areWays_472 hv_472 (Nat.le_of_ble_eq_true rfl) (fun H locs hX => ?_)
    refine lv_istore (lv' := [(9, .int v472), (8, .int v454), (5, .int s0), (0, .ref qc)]) hx hb dL_areWays_475 hl (by decide) rfl (fun ls hl => ?_)
    refine lv_iload hx hb dL_areWays_477 (lv_at hl 2 rfl) ?_
    refine lv_if_eq (tgt := 547) hx hb dL_areWays_479 (by decide) (fun hc_479 => ?_) (fun hc_479 => ?_)
    · have hf := kpos hc_479 hf
      refine lv_iconst (v := (0 : Int32)) hx hb dL_areWays_547 (by decide) ?_
      cases hf
      subst hQ
      exact kzretX C hr hlocks rfl hX rfl dL_areWays_548
    · have hf := kneg hc_479 hf
      refine lv_iload hx hb dL_areWays_482 (lv_at hl 1 rfl) ?_
      refine lv_bipush (v := (-4 : Int32)) hx hb dL_areWays_484 (by decide) ?_
      refine lv_icmp_ne (tgt := 493) hx hb dL_areWays_486 (by decide) (fun hc_486 => ?_) (fun hc_486 => ?_)
      · have hf := kneg hc_486 hf
        refine lv_iconst (v := (0 : Int32)) hx hb dL_areWays_493 (by decide) ?_
        exact B494 (v454) (v472) ((0 : Int32)) (cg) _ _ hX ls (lv_sub hl [1, 0] rfl) hf
      · have hf := kpos hc_486 hf
        refine lv_iconst (v := (1 : Int32)) hx hb dL_areWays_489 (by decide) ?_
        refine lv_goto (tgt := 494) hx hb dL_areWays_490 (by decide) ?_
        exact B494 (v454) (v472) ((1 : Int32)) (cg) _ _ hX ls (lv_sub hl [1, 0] rfl) hf
  have B450 : ∀ (cg : gS) (H : Heap) (locs : List Loc), WX dC dI cy qc A s cg H locs → ∀ (ls : Array Slot), lv_has ls 11 [(0, .ref qc)] → b_L_areWays_450 N va2 va3 cg = some out → W p l e (headSpec wsL_areWays rm_L_areWays).room s m ([.ref qc, .int va2, .int va3] : List Value).toArray below meth c H locs 0 0 Q (F0 m 450 ls []) := by
    intro cg H locs hX ls hl hf
    rw [b_L_areWays_450] at hf
    refine lv_iconst (v := (0 : Int32)) hx hb dL_areWays_450 (by decide) ?_
    exact B451 ((0 : Int32)) (cg) _ _ hX ls (lv_sub hl [0] rfl) hf
  have B446 : ∀ (cg : gS) (H : Heap) (locs : List Loc), WX dC dI cy qc A s cg H locs → ∀ (ls : Array Slot), lv_has ls 11 [(0, .ref qc)] → b_L_areWays_446 N va2 va3 cg = some out → W p l e (headSpec wsL_areWays rm_L_areWays).room s m ([.ref qc, .int va2, .int va3] : List Value).toArray below meth c H locs 0 0 Q (F0 m 446 ls []) := by
    intro cg H locs hX ls hl hf
    rw [b_L_areWays_446] at hf
    refine lv_iconst (v := (1 : Int32)) hx hb dL_areWays_446 (by decide) ?_
    refine lv_goto (tgt := 451) hx hb dL_areWays_447 (by decide) ?_
    exact B451 ((1 : Int32)) (cg) _ _ hX ls (lv_sub hl [0] rfl) hf
  have B374 : ∀ (l4 : Int32) (l6 : Int32) (l7 : Int32) (cg : gS) (H : Heap) (locs : List Loc), WX dC dI cy qc A s cg H locs → ∀ (ls : Array Slot), lv_has ls 11 [(0, .ref qc), (1, .int va2), (4, .int l4), (6, .int l6), (7, .int l7)] → b_L_areWays_374 N va2 va3 l4 l6 l7 cg = some out → W p l e (headSpec wsL_areWays rm_L_areWays).room s m ([.ref qc, .int va2, .int va3] : List Value).toArray below meth c H locs 0 0 Q (F0 m 374 ls []) := by
    intro l4 l6 l7 cg H locs hX ls hl hf
    rw [b_L_areWays_374] at hf
    refine lv_aload_n hx hb dL_areWays_374 rfl (lv_at hl 0 rfl) ?_
    refine lv_iload_n hx hb dL_areWays_375 rfl (lv_at hl 1 rfl) ?_
    refine lv_iload hx hb dL_areWays_376 (lv_at hl 3 rfl) ?_
    obtain ⟨v378, hv_378, hf⟩ := bV_s hf
    refine q_distance C hcs ⟨Nat.le_of_ble_eq_true rfl, Nat.le_of_ble_eq_true rfl⟩ hl hX gL_areWays_X10_distance dL_areWays_378 hv_378 (Nat.le_of_ble_eq_true rfl) (fun H locs hX => ?_)
    refine lv_iload hx hb dL_areWays_381 (lv_at hl 4 rfl) ?_
    refine lv_icmp_ne (tgt := 450) hx hb dL_areWays_383 (by decide) (fun hc_383 => ?_) (fun hc_383 => ?_)
    · have hf := kneg hc_383 hf
      exact B450 (cg) _ _ hX ls (lv_sub hl [0] rfl) hf
    · have hf := kpos hc_383 hf
      refine lv_iload hx hb dL_areWays_386 (lv_at hl 4 rfl) ?_
      refine lv_iload hx hb dL_areWays_388 (lv_at hl 2 rfl) ?_
      refine lv_icmp_lt (tgt := 450) hx hb dL_areWays_390 (by decide) (fun hc_390 => ?_) (fun hc_390 => ?_)
      · have hf := kpos hc_390 hf
        exact B450 (cg) _ _ hX ls (lv_sub hl [0] rfl) hf
      · have hf := kneg hc_390 hf
        refine lv_aload_n hx hb dL_areWays_393 rfl (lv_at hl 0 rfl) ?_
        refine lv_iconst (v := (0 : Int32)) hx hb dL_areWays_394 (by decide) ?_
        obtain ⟨v395, hv_395, hf⟩ := bV_s hf
        refine q_longest C hcs ⟨Nat.le_of_ble_eq_true rfl, Nat.le_of_ble_eq_true rfl⟩ hl hX gL_areWays_X10_longest dL_areWays_395 hv_395 (Nat.le_of_ble_eq_true rfl) (fun H locs hX => ?_)
        refine lv_iload hx hb dL_areWays_398 (lv_at hl 4 rfl) ?_
        refine lv_icmp_lt (tgt := 450) hx hb dL_areWays_400 (by decide) (fun hc_400 => ?_) (fun hc_400 => ?_)
        · have hf := kpos hc_400 hf
          exact B450 (cg) _ _ hX ls (lv_sub hl [0] rfl) hf
        · have hf := kneg hc_400 hf
          refine lv_aload_n hx hb dL_areWays_403 rfl (lv_at hl 0 rfl) ?_
          refine lv_aload_n hx hb dL_areWays_404 rfl (lv_at hl 0 rfl) ?_
          refine lv_iconst (v := (1 : Int32)) hx hb dL_areWays_405 (by decide) ?_
          obtain ⟨v406, hv_406, hf⟩ := bV_s hf
          refine q_longest C hcs ⟨Nat.le_of_ble_eq_true rfl, Nat.le_of_ble_eq_true rfl⟩ hl hX gL_areWays_X10_longest dL_areWays_406 hv_406 (Nat.le_of_ble_eq_true rfl) (fun H locs hX => ?_)
          refine lv_aload_n hx hb dL_areWays_409 rfl (lv_at hl 0 rfl) ?_
          refine lv_iconst (v := (2 : Int32)) hx hb dL_areWays_410 (by decide) ?_
          obtain ⟨v411, hv_411, hf⟩ := bV_s hf
          refine q_longest C hcs ⟨Nat.le_of_ble_eq_true rfl, Nat.le_of_ble_eq_true rfl⟩ hl hX gL_areWays_X10_longest dL_areWays_411 hv_411 (Nat.le_of_ble_eq_true rfl) (fun H locs hX => ?_)
          obtain ⟨v414, hv_414, hf⟩ := bV_s hf
          refine q_distance C hcs ⟨Nat.le_of_ble_eq_true rfl, Nat.le_of_ble_eq_true rfl⟩ hl hX gL_areWays_X10_distance dL_areWays_414 hv_414 (Nat.le_of_ble_eq_true rfl) (fun H locs hX => ?_)
          refine lv_aload_n hx hb dL_areWays_417 rfl (lv_at hl 0 rfl) ?_
          refine lv_iconst (v := (0 : Int32)) hx hb dL_areWays_418 (by decide) ?_
          obtain ⟨v419, hv_419, hf⟩ := bV_s hf
          refine q_longest C hcs ⟨Nat.le_of_ble_eq_true rfl, Nat.le_of_ble_eq_true rfl⟩ hl hX gL_areWays_X10_longest dL_areWays_419 hv_419 (Nat.le_of_ble_eq_true rfl) (fun H locs hX => ?_)
          refine lv_icmp_ne (tgt := 450) hx hb dL_areWays_422 (by decide) (fun hc_422 => ?_) (fun hc_422 => ?_)
          · have hf := kneg hc_422 hf
            exact B450 (cg) _ _ hX ls (lv_sub hl [0] rfl) hf
          · have hf := kpos hc_422 hf
            refine lv_aload_n hx hb dL_areWays_425 rfl (lv_at hl 0 rfl) ?_
            refine lv_iconst (v := (0 : Int32)) hx hb dL_areWays_426 (by decide) ?_
            obtain ⟨v427, hv_427, hf⟩ := bV_s hf
            refine q_longest C hcs ⟨Nat.le_of_ble_eq_true rfl, Nat.le_of_ble_eq_true rfl⟩ hl hX gL_areWays_X10_longest dL_areWays_427 hv_427 (Nat.le_of_ble_eq_true rfl) (fun H locs hX => ?_)
            refine lv_if_eq (tgt := 446) hx hb dL_areWays_430 (by decide) (fun hc_430 => ?_) (fun hc_430 => ?_)
            · have hf := kpos hc_430 hf
              exact B446 (cg) _ _ hX ls (lv_sub hl [0] rfl) hf
            · have hf := kneg hc_430 hf
              refine lv_aload_n hx hb dL_areWays_433 rfl (lv_at hl 0 rfl) ?_
              refine lv_iconst (v := (1 : Int32)) hx hb dL_areWays_434 (by decide) ?_
              obtain ⟨v435, hv_435, hf⟩ := bV_s hf
              refine q_longest C hcs ⟨Nat.le_of_ble_eq_true rfl, Nat.le_of_ble_eq_true rfl⟩ hl hX gL_areWays_X10_longest dL_areWays_435 hv_435 (Nat.le_of_ble_eq_true rfl) (fun H locs hX => ?_)
              refine lv_aload_n hx hb dL_areWays_438 rfl (lv_at hl 0 rfl) ?_
              refine lv_iconst (v := (2 : Int32)) hx hb dL_areWays_439 (by decide) ?_
              obtain ⟨v440, hv_440, hf⟩ := bV_s hf
              refine q_longest C hcs ⟨Nat.le_of_ble_eq_true rfl, Nat.le_of_ble_eq_true rfl⟩ hl hX gL_areWays_X10_longest dL_areWays_440 hv_440 (Nat.le_of_ble_eq_true rfl) (fun H locs hX => ?_)
              refine lv_icmp_ge (tgt := 450) hx hb dL_areWays_443 (by decide) (fun hc_443 => ?_) (fun hc_443 => ?_)
              · have hf := kpos hc_443 hf
                exact B450 (cg) _ _ hX ls (lv_sub hl [0] rfl) hf
              · have hf := kneg hc_443 hf
                exact B446 (cg) _ _ hX ls (lv_sub hl [0] rfl) hf
  have B336 : ∀ (l4 : Int32) (l5 : Int32) (cg : gS) (H : Heap) (locs : List Loc), WX dC dI cy qc A s cg H locs → ∀ (ls : Array Slot), lv_has ls 11 [(0, .ref qc), (1, .int va2), (2, .int va3), (4, .int l4), (5, .int l5)] → b_L_areWays_336 N va2 va3 l4 l5 cg = some out → W p l e (headSpec wsL_areWays rm_L_areWays).room s m ([.ref qc, .int va2, .int va3] : List Value).toArray below meth c H locs 0 0 Q (F0 m 336 ls []) := by
    intro l4 l5 cg H locs hX ls hl hf
    rw [b_L_areWays_336] at hf
    refine lv_aload_n hx hb dL_areWays_336 rfl (lv_at hl 0 rfl) ?_
    refine lv_iload_n hx hb dL_areWays_337 rfl (lv_at hl 1 rfl) ?_
    refine lv_iconst (v := (0 : Int32)) hx hb dL_areWays_338 (by decide) ?_
    obtain ⟨v339, hv_339, hf⟩ := bV_s hf
    refine q_farthest C hcs ⟨Nat.le_of_ble_eq_true rfl, Nat.le_of_ble_eq_true rfl⟩ hl hX gL_areWays_X10_farthest dL_areWays_339 hv_339 (Nat.le_of_ble_eq_true rfl) (fun H locs hX => ?_)
    refine lv_istore (lv' := [(6, .int v339), (0, .ref qc), (1, .int va2), (2, .int va3), (4, .int l4), (5, .int l5)]) hx hb dL_areWays_342 hl (by decide) rfl (fun ls hl => ?_)
    refine lv_aload_n hx hb dL_areWays_344 rfl (lv_at hl 1 rfl) ?_
    refine lv_iload_n hx hb dL_areWays_345 rfl (lv_at hl 2 rfl) ?_
    refine lv_iconst (v := (1 : Int32)) hx hb dL_areWays_346 (by decide) ?_
    obtain ⟨v347, hv_347, hf⟩ := bV_s hf
    refine q_farthest C hcs ⟨Nat.le_of_ble_eq_true rfl, Nat.le_of_ble_eq_true rfl⟩ hl hX gL_areWays_X10_farthest dL_areWays_347 hv_347 (Nat.le_of_ble_eq_true rfl) (fun H locs hX => ?_)
    refine lv_istore (lv' := [(7, .int v347), (6, .int v339), (0, .ref qc), (1, .int va2), (2, .int va3), (4, .int l4), (5, .int l5)]) hx hb dL_areWays_350 hl (by decide) rfl (fun ls hl => ?_)
    refine lv_iload hx hb dL_areWays_352 (lv_at hl 6 rfl) ?_
    refine lv_if_eq (tgt := 450) hx hb dL_areWays_354 (by decide) (fun hc_354 => ?_) (fun hc_354 => ?_)
    · have hf := kpos hc_354 hf
      exact B450 (cg) _ _ hX ls (lv_sub hl [2] rfl) hf
    · have hf := kneg hc_354 hf
      refine lv_iload hx hb dL_areWays_357 (lv_at hl 5 rfl) ?_
      refine lv_if_lt (tgt := 374) hx hb dL_areWays_359 (by decide) (fun hc_359 => ?_) (fun hc_359 => ?_)
      · have hf := kpos hc_359 hf
        exact B374 (l4) (v339) (v347) (cg) _ _ hX ls (lv_sub hl [2, 3, 5, 1, 0] rfl) hf
      · have hf := kneg hc_359 hf
        refine lv_aload_n hx hb dL_areWays_362 rfl (lv_at hl 2 rfl) ?_
        refine lv_iload_n hx hb dL_areWays_363 rfl (lv_at hl 3 rfl) ?_
        refine lv_iload_n hx hb dL_areWays_364 rfl (lv_at hl 4 rfl) ?_
        refine lv_iload hx hb dL_areWays_365 (lv_at hl 5 rfl) ?_
        obtain ⟨v367, hv_367, hf⟩ := bV_s hf
        refine q_way C hcs ⟨Nat.le_of_ble_eq_true rfl, Nat.le_of_ble_eq_true rfl⟩ hl hX gL_areWays_X10_way dL_areWays_367 hv_367 (Nat.le_of_ble_eq_true rfl) (fun H locs hX => ?_)
        refine lv_iload_n hx hb dL_areWays_370 rfl (lv_at hl 4 rfl) ?_
        refine lv_icmp_ne (tgt := 450) hx hb dL_areWays_371 (by decide) (fun hc_371 => ?_) (fun hc_371 => ?_)
        · have hf := kneg hc_371 hf
          exact B450 (cg) _ _ hX ls (lv_sub hl [2] rfl) hf
        · have hf := kpos hc_371 hf
          exact B374 (l4) (v339) (v347) (cg) _ _ hX ls (lv_sub hl [2, 3, 5, 1, 0] rfl) hf
  have B141 : ∀ (n141 : Nat) (l3 : Int32) (l4 : Int32) (l5 : Int32) (l6 : Int32) (cg : gS) (H : Heap) (locs : List Loc), WX dC dI cy qc A s cg H locs → ∀ (ls : Array Slot), lv_has ls 11 [(0, .ref qc), (1, .int va2), (2, .int va3), (3, .int l3), (4, .int l4), (5, .int l5), (6, .int l6)] → b_L_areWays_141 N va2 va3 n141 l3 l4 l5 l6 cg = some out → W p l e (headSpec wsL_areWays rm_L_areWays).room s m ([.ref qc, .int va2, .int va3] : List Value).toArray below meth c H locs 0 0 Q (F0 m 141 ls []) := by
    intro n141
    induction n141 with
    | zero => intro l3 l4 l5 l6 cg H locs hX ls hl hf; rw [b_L_areWays_141] at hf; cases hf
    | succ n141 ih141 =>
      have B270 : ∀ (n270 : Nat) (l3 : Int32) (l4 : Int32) (l5 : Int32) (l6 : Int32) (l7 : Int32) (l9 : Int32) (l10 : Int32) (cg : gS) (H : Heap) (locs : List Loc), WX dC dI cy qc A s cg H locs → ∀ (ls : Array Slot), lv_has ls 11 [(0, .ref qc), (1, .int va2), (2, .int va3), (3, .int l3), (4, .int l4), (5, .int l5), (6, .int l6), (7, .int l7), (9, .int l9), (10, .int l10)] → b_L_areWays_270 N va2 va3 (b_L_areWays_141 N va2 va3 n141) n270 l3 l4 l5 l6 l7 l9 l10 cg = some out → W p l e (headSpec wsL_areWays rm_L_areWays).room s m ([.ref qc, .int va2, .int va3] : List Value).toArray below meth c H locs 0 0 Q (F0 m 270 ls []) := by
        intro n270
        induction n270 with
        | zero => intro l3 l4 l5 l6 l7 l9 l10 cg H locs hX ls hl hf; rw [b_L_areWays_270] at hf; cases hf
        | succ n270 ih270 =>
          intro l3 l4 l5 l6 l7 l9 l10 cg H locs hX ls hl hf
          rw [b_L_areWays_270] at hf
          refine lv_iload hx hb dL_areWays_270 (lv_at hl 9 rfl) ?_
          refine lv_iload hx hb dL_areWays_272 (lv_at hl 8 rfl) ?_
          refine lv_icmp_ge (tgt := 330) hx hb dL_areWays_274 (by decide) (fun hc_274 => ?_) (fun hc_274 => ?_)
          · have hf := kpos hc_274 hf
            refine lv_iinc (v := (l6 + (1 : Int32))) (lv' := [(6, .int (l6 + (1 : Int32))), (0, .ref qc), (1, .int va2), (2, .int va3), (3, .int l3), (4, .int l4), (5, .int l5), (7, .int l7), (9, .int l9), (10, .int l10)]) hx hb dL_areWays_330 hl (k := 6) rfl rfl (by decide) rfl (fun ls hl => ?_)
            refine lv_goto (tgt := 141) hx hb dL_areWays_333 (by decide) ?_
            exact ih141 (l3) (l4) (l5) ((l6 + (1 : Int32))) (cg) _ _ hX ls (lv_sub hl [1, 2, 3, 4, 5, 6, 0] rfl) hf
          · have hf := kneg hc_274 hf
            refine lv_iload hx hb dL_areWays_277 (lv_at hl 5 rfl) ?_
            refine lv_if_eq (tgt := 330) hx hb dL_areWays_279 (by decide) (fun hc_279 => ?_) (fun hc_279 => ?_)
            · have hf := kpos hc_279 hf
              refine lv_iinc (v := (l6 + (1 : Int32))) (lv' := [(6, .int (l6 + (1 : Int32))), (0, .ref qc), (1, .int va2), (2, .int va3), (3, .int l3), (4, .int l4), (5, .int l5), (7, .int l7), (9, .int l9), (10, .int l10)]) hx hb dL_areWays_330 hl (k := 6) rfl rfl (by decide) rfl (fun ls hl => ?_)
              refine lv_goto (tgt := 141) hx hb dL_areWays_333 (by decide) ?_
              exact ih141 (l3) (l4) (l5) ((l6 + (1 : Int32))) (cg) _ _ hX ls (lv_sub hl [1, 2, 3, 4, 5, 6, 0] rfl) hf
            · have hf := kneg hc_279 hf
              refine lv_aload_n hx hb dL_areWays_282 rfl (lv_at hl 0 rfl) ?_
              refine lv_iload hx hb dL_areWays_283 (lv_at hl 7 rfl) ?_
              obtain ⟨v285, hv_285, hf⟩ := bV_s hf
              refine q_doors C hcs ⟨Nat.le_of_ble_eq_true rfl, Nat.le_of_ble_eq_true rfl⟩ hl hX gL_areWays_X10_doors dL_areWays_285 hv_285 (Nat.le_of_ble_eq_true rfl) (fun H locs hX => ?_)
              refine lv_iload hx hb dL_areWays_288 (lv_at hl 9 rfl) ?_
              refine lv_ishr hx hb dL_areWays_290 ?_
              refine lv_iconst (v := (1 : Int32)) hx hb dL_areWays_291 (by decide) ?_
              refine lv_iand hx hb dL_areWays_292 ?_
              refine lv_if_eq (tgt := 317) hx hb dL_areWays_293 (by decide) (fun hc_293 => ?_) (fun hc_293 => ?_)
              · have hf := kpos hc_293 hf
                refine lv_iconst (v := (1 : Int32)) hx hb dL_areWays_317 (by decide) ?_
                refine lv_goto (tgt := 322) hx hb dL_areWays_318 (by decide) ?_
                refine lv_istore (lv' := [(5, .int (1 : Int32)), (0, .ref qc), (1, .int va2), (2, .int va3), (3, .int l3), (4, .int l4), (6, .int l6), (7, .int l7), (9, .int l9), (10, .int l10)]) hx hb dL_areWays_322 hl (by decide) rfl (fun ls hl => ?_)
                refine lv_iinc (v := (l10 + (1 : Int32))) (lv' := [(10, .int (l10 + (1 : Int32))), (5, .int (1 : Int32)), (0, .ref qc), (1, .int va2), (2, .int va3), (3, .int l3), (4, .int l4), (6, .int l6), (7, .int l7), (9, .int l9)]) hx hb dL_areWays_324 hl (k := 9) rfl rfl (by decide) rfl (fun ls hl => ?_)
                refine lv_goto (tgt := 270) hx hb dL_areWays_327 (by decide) ?_
                exact ih270 (l3) (l4) ((1 : Int32)) (l6) (l7) (l9) ((l10 + (1 : Int32))) (cg) _ _ hX ls (lv_sub hl [2, 3, 4, 5, 6, 1, 7, 8, 9, 0] rfl) hf
              · have hf := kneg hc_293 hf
                refine lv_aload_n hx hb dL_areWays_296 rfl (lv_at hl 0 rfl) ?_
                refine lv_iload_n hx hb dL_areWays_297 rfl (lv_at hl 3 rfl) ?_
                refine lv_iload hx hb dL_areWays_298 (lv_at hl 7 rfl) ?_
                refine lv_iload hx hb dL_areWays_300 (lv_at hl 9 rfl) ?_
                obtain ⟨v302, hv_302, hf⟩ := bV_s hf
                refine kLn C hX (r := v302) (fun hU => va_runS (As := [.int l3, .int l7, .int l10]) (rest := [.ref qc]) ⟨hx, hb, hml, hown, hts⟩ (c_L_beside l dC dI cy G H.size l3 l7 l10 v302 ((tot_L_beside l3 l7 l10).trans (congrArg some hv_302))) (va_cwS 3 hts gL_areWays_L_beside rfl rfl rfl hdL_beside.2 ⟨Nat.le_of_ble_eq_true rfl, Nat.le_of_ble_eq_true rfl⟩) ⟨kBlind, fun U h1 h2 => ⟨rfl, hU U h1 h2⟩⟩ rfl rfl hl.1 rfl (lv_room (Nat.le_of_ble_eq_true rfl)) dL_areWays_302 ⟨hcs.1, hcs.2⟩) (fun H locs hX => ?_)
                refine lv_iload_n hx hb dL_areWays_305 rfl (lv_at hl 2 rfl) ?_
                obtain ⟨v306, hv_306, hf⟩ := bV_s hf
                refine q_distance C hcs ⟨Nat.le_of_ble_eq_true rfl, Nat.le_of_ble_eq_true rfl⟩ hl hX gL_areWays_X10_distance dL_areWays_306 hv_306 (Nat.le_of_ble_eq_true rfl) (fun H locs hX => ?_)
                refine lv_iload hx hb dL_areWays_309 (lv_at hl 4 rfl) ?_
                refine lv_iload hx hb dL_areWays_311 (lv_at hl 6 rfl) ?_
                refine lv_isub hx hb dL_areWays_313 ?_
                refine lv_icmp_lt (tgt := 321) hx hb dL_areWays_314 (by decide) (fun hc_314 => ?_) (fun hc_314 => ?_)
                · have hf := kpos hc_314 hf
                  refine lv_iconst (v := (0 : Int32)) hx hb dL_areWays_321 (by decide) ?_
                  refine lv_istore (lv' := [(5, .int (0 : Int32)), (0, .ref qc), (1, .int va2), (2, .int va3), (3, .int l3), (4, .int l4), (6, .int l6), (7, .int l7), (9, .int l9), (10, .int l10)]) hx hb dL_areWays_322 hl (by decide) rfl (fun ls hl => ?_)
                  refine lv_iinc (v := (l10 + (1 : Int32))) (lv' := [(10, .int (l10 + (1 : Int32))), (5, .int (0 : Int32)), (0, .ref qc), (1, .int va2), (2, .int va3), (3, .int l3), (4, .int l4), (6, .int l6), (7, .int l7), (9, .int l9)]) hx hb dL_areWays_324 hl (k := 9) rfl rfl (by decide) rfl (fun ls hl => ?_)
                  refine lv_goto (tgt := 270) hx hb dL_areWays_327 (by decide) ?_
                  exact ih270 (l3) (l4) ((0 : Int32)) (l6) (l7) (l9) ((l10 + (1 : Int32))) (cg) _ _ hX ls (lv_sub hl [2, 3, 4, 5, 6, 1, 7, 8, 9, 0] rfl) hf
                · have hf := kneg hc_314 hf
                  refine lv_iconst (v := (1 : Int32)) hx hb dL_areWays_317 (by decide) ?_
                  refine lv_goto (tgt := 322) hx hb dL_areWays_318 (by decide) ?_
                  refine lv_istore (lv' := [(5, .int (1 : Int32)), (0, .ref qc), (1, .int va2), (2, .int va3), (3, .int l3), (4, .int l4), (6, .int l6), (7, .int l7), (9, .int l9), (10, .int l10)]) hx hb dL_areWays_322 hl (by decide) rfl (fun ls hl => ?_)
                  refine lv_iinc (v := (l10 + (1 : Int32))) (lv' := [(10, .int (l10 + (1 : Int32))), (5, .int (1 : Int32)), (0, .ref qc), (1, .int va2), (2, .int va3), (3, .int l3), (4, .int l4), (6, .int l6), (7, .int l7), (9, .int l9)]) hx hb dL_areWays_324 hl (k := 9) rfl rfl (by decide) rfl (fun ls hl => ?_)
                  refine lv_goto (tgt := 270) hx hb dL_areWays_327 (by decide) ?_
                  exact ih270 (l3) (l4) ((1 : Int32)) (l6) (l7) (l9) ((l10 + (1 : Int32))) (cg) _ _ hX ls (lv_sub hl [2, 3, 4, 5, 6, 1, 7, 8, 9, 0] rfl) hf
      have B215 : ∀ (l3 : Int32) (l4 : Int32) (l6 : Int32) (l7 : Int32) (l8 : Int32) (s0 : Int32) (cg : gS) (H : Heap) (locs : List Loc), WX dC dI cy qc A s cg H locs → ∀ (ls : Array Slot), lv_has ls 11 [(0, .ref qc), (1, .int va2), (2, .int va3), (3, .int l3), (4, .int l4), (6, .int l6), (7, .int l7), (8, .int l8)] → b_L_areWays_215 N va2 va3 (b_L_areWays_141 N va2 va3 n141) l3 l4 l6 l7 l8 s0 cg = some out → W p l e (headSpec wsL_areWays rm_L_areWays).room s m ([.ref qc, .int va2, .int va3] : List Value).toArray below meth c H locs 0 0 Q (F0 m 215 ls [.int s0]) := by
        intro l3 l4 l6 l7 l8 s0 cg H locs hX ls hl hf
        rw [b_L_areWays_215] at hf
        refine lv_istore (lv' := [(9, .int s0), (0, .ref qc), (1, .int va2), (2, .int va3), (3, .int l3), (4, .int l4), (6, .int l6), (7, .int l7), (8, .int l8)]) hx hb dL_areWays_215 hl (by decide) rfl (fun ls hl => ?_)
        refine lv_aload_n hx hb dL_areWays_217 rfl (lv_at hl 1 rfl) ?_
        refine lv_iload hx hb dL_areWays_218 (lv_at hl 7 rfl) ?_
        refine lv_iload_n hx hb dL_areWays_220 rfl (lv_at hl 3 rfl) ?_
        obtain ⟨v221, hv_221, hf⟩ := bV_s hf
        refine q_distance C hcs ⟨Nat.le_of_ble_eq_true rfl, Nat.le_of_ble_eq_true rfl⟩ hl hX gL_areWays_X10_distance dL_areWays_221 hv_221 (Nat.le_of_ble_eq_true rfl) (fun H locs hX => ?_)
        refine lv_iload hx hb dL_areWays_224 (lv_at hl 5 rfl) ?_
        refine lv_iload hx hb dL_areWays_226 (lv_at hl 6 rfl) ?_
        refine lv_isub hx hb dL_areWays_228 ?_
        refine lv_icmp_ne (tgt := 264) hx hb dL_areWays_229 (by decide) (fun hc_229 => ?_) (fun hc_229 => ?_)
        · have hf := kneg hc_229 hf
          refine lv_iconst (v := (0 : Int32)) hx hb dL_areWays_264 (by decide) ?_
          refine lv_istore (lv' := [(5, .int (0 : Int32)), (9, .int s0), (0, .ref qc), (1, .int va2), (2, .int va3), (3, .int l3), (4, .int l4), (6, .int l6), (7, .int l7), (8, .int l8)]) hx hb dL_areWays_265 hl (by decide) rfl (fun ls hl => ?_)
          refine lv_iconst (v := (0 : Int32)) hx hb dL_areWays_267 (by decide) ?_
          refine lv_istore (lv' := [(10, .int (0 : Int32)), (5, .int (0 : Int32)), (9, .int s0), (0, .ref qc), (1, .int va2), (2, .int va3), (3, .int l3), (4, .int l4), (6, .int l6), (7, .int l7), (8, .int l8)]) hx hb dL_areWays_268 hl (by decide) rfl (fun ls hl => ?_)
          exact B270 N (l3) (l4) ((0 : Int32)) (l6) (l7) (s0) ((0 : Int32)) (cg) _ _ hX ls (lv_sub hl [3, 4, 5, 6, 7, 1, 8, 9, 2, 0] rfl) hf
        · have hf := kpos hc_229 hf
          refine lv_iload_n hx hb dL_areWays_232 rfl (lv_at hl 4 rfl) ?_
          refine lv_iload hx hb dL_areWays_233 (lv_at hl 7 rfl) ?_
          refine lv_iload hx hb dL_areWays_235 (lv_at hl 0 rfl) ?_
          obtain ⟨v237, hv_237, hf⟩ := bV_s hf
          refine kLn C hX (r := v237) (fun hU => va_runS (As := [.int l3, .int l7, .int s0]) (rest := []) ⟨hx, hb, hml, hown, hts⟩ (c_L_beside l dC dI cy G H.size l3 l7 s0 v237 ((tot_L_beside l3 l7 s0).trans (congrArg some hv_237))) (va_cwS 3 hts gL_areWays_L_beside rfl rfl rfl hdL_beside.2 ⟨Nat.le_of_ble_eq_true rfl, Nat.le_of_ble_eq_true rfl⟩) ⟨kBlind, fun U h1 h2 => ⟨rfl, hU U h1 h2⟩⟩ rfl rfl hl.1 rfl (lv_room (Nat.le_of_ble_eq_true rfl)) dL_areWays_237 ⟨hcs.1, hcs.2⟩) (fun H locs hX => ?_)
          refine lv_iload hx hb dL_areWays_240 (lv_at hl 8 rfl) ?_
          refine lv_icmp_ne (tgt := 264) hx hb dL_areWays_242 (by decide) (fun hc_242 => ?_) (fun hc_242 => ?_)
          · have hf := kneg hc_242 hf
            refine lv_iconst (v := (0 : Int32)) hx hb dL_areWays_264 (by decide) ?_
            refine lv_istore (lv' := [(5, .int (0 : Int32)), (9, .int s0), (0, .ref qc), (1, .int va2), (2, .int va3), (3, .int l3), (4, .int l4), (6, .int l6), (7, .int l7), (8, .int l8)]) hx hb dL_areWays_265 hl (by decide) rfl (fun ls hl => ?_)
            refine lv_iconst (v := (0 : Int32)) hx hb dL_areWays_267 (by decide) ?_
            refine lv_istore (lv' := [(10, .int (0 : Int32)), (5, .int (0 : Int32)), (9, .int s0), (0, .ref qc), (1, .int va2), (2, .int va3), (3, .int l3), (4, .int l4), (6, .int l6), (7, .int l7), (8, .int l8)]) hx hb dL_areWays_268 hl (by decide) rfl (fun ls hl => ?_)
            exact B270 N (l3) (l4) ((0 : Int32)) (l6) (l7) (s0) ((0 : Int32)) (cg) _ _ hX ls (lv_sub hl [3, 4, 5, 6, 7, 1, 8, 9, 2, 0] rfl) hf
          · have hf := kpos hc_242 hf
            refine lv_aload_n hx hb dL_areWays_245 rfl (lv_at hl 1 rfl) ?_
            refine lv_iload hx hb dL_areWays_246 (lv_at hl 7 rfl) ?_
            obtain ⟨v248, hv_248, hf⟩ := bV_s hf
            refine q_doors C hcs ⟨Nat.le_of_ble_eq_true rfl, Nat.le_of_ble_eq_true rfl⟩ hl hX gL_areWays_X10_doors dL_areWays_248 hv_248 (Nat.le_of_ble_eq_true rfl) (fun H locs hX => ?_)
            refine lv_iload hx hb dL_areWays_251 (lv_at hl 0 rfl) ?_
            refine lv_ishr hx hb dL_areWays_253 ?_
            refine lv_iconst (v := (1 : Int32)) hx hb dL_areWays_254 (by decide) ?_
            refine lv_iand hx hb dL_areWays_255 ?_
            refine lv_iconst (v := (1 : Int32)) hx hb dL_areWays_256 (by decide) ?_
            refine lv_icmp_ne (tgt := 264) hx hb dL_areWays_257 (by decide) (fun hc_257 => ?_) (fun hc_257 => ?_)
            · have hf := kneg hc_257 hf
              refine lv_iconst (v := (0 : Int32)) hx hb dL_areWays_264 (by decide) ?_
              refine lv_istore (lv' := [(5, .int (0 : Int32)), (9, .int s0), (0, .ref qc), (1, .int va2), (2, .int va3), (3, .int l3), (4, .int l4), (6, .int l6), (7, .int l7), (8, .int l8)]) hx hb dL_areWays_265 hl (by decide) rfl (fun ls hl => ?_)
              refine lv_iconst (v := (0 : Int32)) hx hb dL_areWays_267 (by decide) ?_
              refine lv_istore (lv' := [(10, .int (0 : Int32)), (5, .int (0 : Int32)), (9, .int s0), (0, .ref qc), (1, .int va2), (2, .int va3), (3, .int l3), (4, .int l4), (6, .int l6), (7, .int l7), (8, .int l8)]) hx hb dL_areWays_268 hl (by decide) rfl (fun ls hl => ?_)
              exact B270 N (l3) (l4) ((0 : Int32)) (l6) (l7) (s0) ((0 : Int32)) (cg) _ _ hX ls (lv_sub hl [3, 4, 5, 6, 7, 1, 8, 9, 2, 0] rfl) hf
            · have hf := kpos hc_257 hf
              refine lv_iconst (v := (1 : Int32)) hx hb dL_areWays_260 (by decide) ?_
              refine lv_goto (tgt := 265) hx hb dL_areWays_261 (by decide) ?_
              refine lv_istore (lv' := [(5, .int (1 : Int32)), (9, .int s0), (0, .ref qc), (1, .int va2), (2, .int va3), (3, .int l3), (4, .int l4), (6, .int l6), (7, .int l7), (8, .int l8)]) hx hb dL_areWays_265 hl (by decide) rfl (fun ls hl => ?_)
              refine lv_iconst (v := (0 : Int32)) hx hb dL_areWays_267 (by decide) ?_
              refine lv_istore (lv' := [(10, .int (0 : Int32)), (5, .int (1 : Int32)), (9, .int s0), (0, .ref qc), (1, .int va2), (2, .int va3), (3, .int l3), (4, .int l4), (6, .int l6), (7, .int l7), (8, .int l8)]) hx hb dL_areWays_268 hl (by decide) rfl (fun ls hl => ?_)
              exact B270 N (l3) (l4) ((1 : Int32)) (l6) (l7) (s0) ((0 : Int32)) (cg) _ _ hX ls (lv_sub hl [3, 4, 5, 6, 7, 1, 8, 9, 2, 0] rfl) hf
      intro l3 l4 l5 l6 cg H locs hX ls hl hf
      rw [b_L_areWays_141] at hf
      refine lv_iload hx hb dL_areWays_141 (lv_at hl 6 rfl) ?_
      refine lv_iload hx hb dL_areWays_143 (lv_at hl 4 rfl) ?_
      refine lv_icmp_ge (tgt := 336) hx hb dL_areWays_145 (by decide) (fun hc_145 => ?_) (fun hc_145 => ?_)
      · have hf := kpos hc_145 hf
        exact B336 (l4) (l5) (cg) _ _ hX ls (lv_sub hl [0, 1, 2, 4, 5] rfl) hf
      · have hf := kneg hc_145 hf
        refine lv_iload hx hb dL_areWays_148 (lv_at hl 5 rfl) ?_
        refine lv_if_eq (tgt := 336) hx hb dL_areWays_150 (by decide) (fun hc_150 => ?_) (fun hc_150 => ?_)
        · have hf := kpos hc_150 hf
          exact B336 (l4) (l5) (cg) _ _ hX ls (lv_sub hl [0, 1, 2, 4, 5] rfl) hf
        · have hf := kneg hc_150 hf
          refine lv_aload_n hx hb dL_areWays_153 rfl (lv_at hl 0 rfl) ?_
          refine lv_iload_n hx hb dL_areWays_154 rfl (lv_at hl 1 rfl) ?_
          refine lv_iload_n hx hb dL_areWays_155 rfl (lv_at hl 2 rfl) ?_
          refine lv_iload hx hb dL_areWays_156 (lv_at hl 6 rfl) ?_
          obtain ⟨v158, hv_158, hf⟩ := bV_s hf
          refine q_way C hcs ⟨Nat.le_of_ble_eq_true rfl, Nat.le_of_ble_eq_true rfl⟩ hl hX gL_areWays_X10_way dL_areWays_158 hv_158 (Nat.le_of_ble_eq_true rfl) (fun H locs hX => ?_)
          refine lv_istore (lv' := [(7, .int v158), (0, .ref qc), (1, .int va2), (2, .int va3), (3, .int l3), (4, .int l4), (5, .int l5), (6, .int l6)]) hx hb dL_areWays_161 hl (by decide) rfl (fun ls hl => ?_)
          refine lv_aload_n hx hb dL_areWays_163 rfl (lv_at hl 1 rfl) ?_
          refine lv_iload_n hx hb dL_areWays_164 rfl (lv_at hl 2 rfl) ?_
          refine lv_iload_n hx hb dL_areWays_165 rfl (lv_at hl 3 rfl) ?_
          refine lv_iload hx hb dL_areWays_166 (lv_at hl 7 rfl) ?_
          refine lv_iconst (v := (1 : Int32)) hx hb dL_areWays_168 (by decide) ?_
          refine lv_iadd hx hb dL_areWays_169 ?_
          obtain ⟨v170, hv_170, hf⟩ := bV_s hf
          refine q_way C hcs ⟨Nat.le_of_ble_eq_true rfl, Nat.le_of_ble_eq_true rfl⟩ hl hX gL_areWays_X10_way dL_areWays_170 hv_170 (Nat.le_of_ble_eq_true rfl) (fun H locs hX => ?_)
          refine lv_istore (lv' := [(8, .int v170), (7, .int v158), (0, .ref qc), (1, .int va2), (2, .int va3), (3, .int l3), (4, .int l4), (5, .int l5), (6, .int l6)]) hx hb dL_areWays_173 hl (by decide) rfl (fun ls hl => ?_)
          refine lv_iload hx hb dL_areWays_175 (lv_at hl 0 rfl) ?_
          refine lv_iload hx hb dL_areWays_177 (lv_at hl 1 rfl) ?_
          refine lv_iload_n hx hb dL_areWays_179 rfl (lv_at hl 5 rfl) ?_
          refine lv_isub hx hb dL_areWays_180 ?_
          refine lv_icmp_ne (tgt := 188) hx hb dL_areWays_181 (by decide) (fun hc_181 => ?_) (fun hc_181 => ?_)
          · have hf := kneg hc_181 hf
            refine lv_iload hx hb dL_areWays_188 (lv_at hl 0 rfl) ?_
            refine lv_iload hx hb dL_areWays_190 (lv_at hl 1 rfl) ?_
            refine lv_iconst (v := (1 : Int32)) hx hb dL_areWays_192 (by decide) ?_
            refine lv_iadd hx hb dL_areWays_193 ?_
            refine lv_icmp_ne (tgt := 201) hx hb dL_areWays_194 (by decide) (fun hc_194 => ?_) (fun hc_194 => ?_)
            · have hf := kneg hc_194 hf
              refine lv_iload hx hb dL_areWays_201 (lv_at hl 0 rfl) ?_
              refine lv_iload hx hb dL_areWays_203 (lv_at hl 1 rfl) ?_
              refine lv_iload_n hx hb dL_areWays_205 rfl (lv_at hl 5 rfl) ?_
              refine lv_iadd hx hb dL_areWays_206 ?_
              refine lv_icmp_ne (tgt := 214) hx hb dL_areWays_207 (by decide) (fun hc_207 => ?_) (fun hc_207 => ?_)
              · have hf := kneg hc_207 hf
                refine lv_iconst (v := (3 : Int32)) hx hb dL_areWays_214 (by decide) ?_
                exact B215 (l3) (l4) (l6) (v158) (v170) ((3 : Int32)) (cg) _ _ hX ls (lv_sub hl [2, 3, 4, 5, 6, 8, 1, 0] rfl) hf
              · have hf := kpos hc_207 hf
                refine lv_iconst (v := (2 : Int32)) hx hb dL_areWays_210 (by decide) ?_
                refine lv_goto (tgt := 215) hx hb dL_areWays_211 (by decide) ?_
                exact B215 (l3) (l4) (l6) (v158) (v170) ((2 : Int32)) (cg) _ _ hX ls (lv_sub hl [2, 3, 4, 5, 6, 8, 1, 0] rfl) hf
            · have hf := kpos hc_194 hf
              refine lv_iconst (v := (1 : Int32)) hx hb dL_areWays_197 (by decide) ?_
              refine lv_goto (tgt := 215) hx hb dL_areWays_198 (by decide) ?_
              exact B215 (l3) (l4) (l6) (v158) (v170) ((1 : Int32)) (cg) _ _ hX ls (lv_sub hl [2, 3, 4, 5, 6, 8, 1, 0] rfl) hf
          · have hf := kpos hc_181 hf
            refine lv_iconst (v := (0 : Int32)) hx hb dL_areWays_184 (by decide) ?_
            refine lv_goto (tgt := 215) hx hb dL_areWays_185 (by decide) ?_
            exact B215 (l3) (l4) (l6) (v158) (v170) ((0 : Int32)) (cg) _ _ hX ls (lv_sub hl [2, 3, 4, 5, 6, 8, 1, 0] rfl) hf
  have B128 : ∀ (l3 : Int32) (l4 : Int32) (s0 : Int32) (s1 : Int32) (cg : gS) (H : Heap) (locs : List Loc), WX dC dI cy qc A s cg H locs → ∀ (ls : Array Slot), lv_has ls 11 [(0, .ref qc), (1, .int va2), (2, .int va3), (3, .int l3), (4, .int l4)] → b_L_areWays_128 N va2 va3 l3 l4 s0 s1 cg = some out → W p l e (headSpec wsL_areWays rm_L_areWays).room s m ([.ref qc, .int va2, .int va3] : List Value).toArray below meth c H locs 0 0 Q (F0 m 128 ls [.int s1, .int s0]) := by
    intro l3 l4 s0 s1 cg H locs hX ls hl hf
    rw [b_L_areWays_128] at hf
    refine lv_icmp_ne (tgt := 135) hx hb dL_areWays_128 (by decide) (fun hc_128 => ?_) (fun hc_128 => ?_)
    · have hf := kneg hc_128 hf
      refine lv_iconst (v := (0 : Int32)) hx hb dL_areWays_135 (by decide) ?_
      refine lv_istore (lv' := [(5, .int (0 : Int32)), (0, .ref qc), (1, .int va2), (2, .int va3), (3, .int l3), (4, .int l4)]) hx hb dL_areWays_136 hl (by decide) rfl (fun ls hl => ?_)
      refine lv_iconst (v := (0 : Int32)) hx hb dL_areWays_138 (by decide) ?_
      refine lv_istore (lv' := [(6, .int (0 : Int32)), (5, .int (0 : Int32)), (0, .ref qc), (1, .int va2), (2, .int va3), (3, .int l3), (4, .int l4)]) hx hb dL_areWays_139 hl (by decide) rfl (fun ls hl => ?_)
      exact B141 N (l3) (l4) ((0 : Int32)) ((0 : Int32)) (cg) _ _ hX ls (lv_sub hl [2, 3, 4, 5, 6, 1, 0] rfl) hf
    · have hf := kpos hc_128 hf
      refine lv_iconst (v := (1 : Int32)) hx hb dL_areWays_131 (by decide) ?_
      refine lv_goto (tgt := 136) hx hb dL_areWays_132 (by decide) ?_
      refine lv_istore (lv' := [(5, .int (1 : Int32)), (0, .ref qc), (1, .int va2), (2, .int va3), (3, .int l3), (4, .int l4)]) hx hb dL_areWays_136 hl (by decide) rfl (fun ls hl => ?_)
      refine lv_iconst (v := (0 : Int32)) hx hb dL_areWays_138 (by decide) ?_
      refine lv_istore (lv' := [(6, .int (0 : Int32)), (5, .int (1 : Int32)), (0, .ref qc), (1, .int va2), (2, .int va3), (3, .int l3), (4, .int l4)]) hx hb dL_areWays_139 hl (by decide) rfl (fun ls hl => ?_)
      exact B141 N (l3) (l4) ((1 : Int32)) ((0 : Int32)) (cg) _ _ hX ls (lv_sub hl [2, 3, 4, 5, 6, 1, 0] rfl) hf
  have B97 : ∀ (l3 : Int32) (l4 : Int32) (s1 : Int32) (s2 : Int32) (s3 : Int32) (cg : gS) (H : Heap) (locs : List Loc), WX dC dI cy qc A s cg H locs → ∀ (ls : Array Slot), lv_has ls 11 [(0, .ref qc), (1, .int va2), (2, .int va3), (3, .int l3), (4, .int l4)] → b_L_areWays_97 N va2 va3 l3 l4 s1 s2 s3 cg = some out → W p l e (headSpec wsL_areWays rm_L_areWays).room s m ([.ref qc, .int va2, .int va3] : List Value).toArray below meth c H locs 0 0 Q (F0 m 97 ls [.int s3, .int s2, .int s1, .ref qc]) := by
    intro l3 l4 s1 s2 s3 cg H locs hX ls hl hf
    rw [b_L_areWays_97] at hf
    obtain ⟨v97, hv_97, hf⟩ := bV_s hf
    refine q_way C hcs ⟨Nat.le_of_ble_eq_true rfl, Nat.le_of_ble_eq_true rfl⟩ hl hX gL_areWays_X10_way dL_areWays_97 hv_97 (Nat.le_of_ble_eq_true rfl) (fun H locs hX => ?_)
    refine lv_bipush (v := (-4 : Int32)) hx hb dL_areWays_100 (by decide) ?_
    refine lv_icmp_ne (tgt := 135) hx hb dL_areWays_102 (by decide) (fun hc_102 => ?_) (fun hc_102 => ?_)
    · have hf := kneg hc_102 hf
      refine lv_iconst (v := (0 : Int32)) hx hb dL_areWays_135 (by decide) ?_
      refine lv_istore (lv' := [(5, .int (0 : Int32)), (0, .ref qc), (1, .int va2), (2, .int va3), (3, .int l3), (4, .int l4)]) hx hb dL_areWays_136 hl (by decide) rfl (fun ls hl => ?_)
      refine lv_iconst (v := (0 : Int32)) hx hb dL_areWays_138 (by decide) ?_
      refine lv_istore (lv' := [(6, .int (0 : Int32)), (5, .int (0 : Int32)), (0, .ref qc), (1, .int va2), (2, .int va3), (3, .int l3), (4, .int l4)]) hx hb dL_areWays_139 hl (by decide) rfl (fun ls hl => ?_)
      exact B141 N (l3) (l4) ((0 : Int32)) ((0 : Int32)) (cg) _ _ hX ls (lv_sub hl [2, 3, 4, 5, 6, 1, 0] rfl) hf
    · have hf := kpos hc_102 hf
      refine lv_aload_n hx hb dL_areWays_105 rfl (lv_at hl 0 rfl) ?_
      refine lv_iload_n hx hb dL_areWays_106 rfl (lv_at hl 1 rfl) ?_
      refine lv_iload_n hx hb dL_areWays_107 rfl (lv_at hl 2 rfl) ?_
      obtain ⟨v108, hv_108, hf⟩ := bV_s hf
      refine q_again C hcs ⟨Nat.le_of_ble_eq_true rfl, Nat.le_of_ble_eq_true rfl⟩ hl hX gL_areWays_X10_again dL_areWays_108 hv_108 (Nat.le_of_ble_eq_true rfl) (fun H locs hX => ?_)
      refine lv_aload_n hx hb dL_areWays_111 rfl (lv_at hl 0 rfl) ?_
      refine lv_bipush (v := (7 : Int32)) hx hb dL_areWays_112 (by decide) ?_
      obtain ⟨v114, hv_114, hf⟩ := bV_s hf
      refine q_count C hcs ⟨Nat.le_of_ble_eq_true rfl, Nat.le_of_ble_eq_true rfl⟩ hl hX gL_areWays_X10_count dL_areWays_114 hv_114 (Nat.le_of_ble_eq_true rfl) (fun H locs hX => ?_)
      refine lv_iconst (v := (1 : Int32)) hx hb dL_areWays_117 (by decide) ?_
      refine lv_icmp_ne (tgt := 126) hx hb dL_areWays_118 (by decide) (fun hc_118 => ?_) (fun hc_118 => ?_)
      · have hf := kneg hc_118 hf
        refine lv_bipush (v := (-2 : Int32)) hx hb dL_areWays_126 (by decide) ?_
        exact B128 (l3) (l4) (v108) ((-2 : Int32)) (cg) _ _ hX ls (lv_sub hl [0, 1, 2, 3, 4] rfl) hf
      · have hf := kpos hc_118 hf
        refine lv_iload hx hb dL_areWays_121 (lv_at hl 4 rfl) ?_
        refine lv_goto (tgt := 128) hx hb dL_areWays_123 (by decide) ?_
        exact B128 (l3) (l4) (v108) (l4) (cg) _ _ hX ls (lv_sub hl [0, 1, 2, 3, 4] rfl) hf
  have B78 : ∀ (l3 : Int32) (l4 : Int32) (s0 : Int32) (s1 : Int32) (cg : gS) (H : Heap) (locs : List Loc), WX dC dI cy qc A s cg H locs → ∀ (ls : Array Slot), lv_has ls 11 [(0, .ref qc), (1, .int va2), (2, .int va3), (3, .int l3), (4, .int l4)] → b_L_areWays_78 N va2 va3 l3 l4 s0 s1 cg = some out → W p l e (headSpec wsL_areWays rm_L_areWays).room s m ([.ref qc, .int va2, .int va3] : List Value).toArray below meth c H locs 0 0 Q (F0 m 78 ls [.int s1, .int s0]) := by
    intro l3 l4 s0 s1 cg H locs hX ls hl hf
    rw [b_L_areWays_78] at hf
    refine lv_icmp_ne (tgt := 135) hx hb dL_areWays_78 (by decide) (fun hc_78 => ?_) (fun hc_78 => ?_)
    · have hf := kneg hc_78 hf
      refine lv_iconst (v := (0 : Int32)) hx hb dL_areWays_135 (by decide) ?_
      refine lv_istore (lv' := [(5, .int (0 : Int32)), (0, .ref qc), (1, .int va2), (2, .int va3), (3, .int l3), (4, .int l4)]) hx hb dL_areWays_136 hl (by decide) rfl (fun ls hl => ?_)
      refine lv_iconst (v := (0 : Int32)) hx hb dL_areWays_138 (by decide) ?_
      refine lv_istore (lv' := [(6, .int (0 : Int32)), (5, .int (0 : Int32)), (0, .ref qc), (1, .int va2), (2, .int va3), (3, .int l3), (4, .int l4)]) hx hb dL_areWays_139 hl (by decide) rfl (fun ls hl => ?_)
      exact B141 N (l3) (l4) ((0 : Int32)) ((0 : Int32)) (cg) _ _ hX ls (lv_sub hl [2, 3, 4, 5, 6, 1, 0] rfl) hf
    · have hf := kpos hc_78 hf
      refine lv_aload_n hx hb dL_areWays_81 rfl (lv_at hl 0 rfl) ?_
      refine lv_iload_n hx hb dL_areWays_82 rfl (lv_at hl 1 rfl) ?_
      refine lv_iload_n hx hb dL_areWays_83 rfl (lv_at hl 2 rfl) ?_
      refine lv_iload hx hb dL_areWays_84 (lv_at hl 4 rfl) ?_
      refine lv_if_ge (tgt := 93) hx hb dL_areWays_86 (by decide) (fun hc_86 => ?_) (fun hc_86 => ?_)
      · have hf := kpos hc_86 hf
        refine lv_iload hx hb dL_areWays_93 (lv_at hl 4 rfl) ?_
        refine lv_iconst (v := (1 : Int32)) hx hb dL_areWays_95 (by decide) ?_
        refine lv_iadd hx hb dL_areWays_96 ?_
        exact B97 (l3) (l4) (va2) (va3) ((l4 + (1 : Int32))) (cg) _ _ hX ls (lv_sub hl [0, 1, 2, 3, 4] rfl) hf
      · have hf := kneg hc_86 hf
        refine lv_iconst (v := (0 : Int32)) hx hb dL_areWays_89 (by decide) ?_
        refine lv_goto (tgt := 97) hx hb dL_areWays_90 (by decide) ?_
        exact B97 (l3) (l4) (va2) (va3) ((0 : Int32)) (cg) _ _ hX ls (lv_sub hl [0, 1, 2, 3, 4] rfl) hf
  have B68 : ∀ (l3 : Int32) (l4 : Int32) (s0 : Int32) (cg : gS) (H : Heap) (locs : List Loc), WX dC dI cy qc A s cg H locs → ∀ (ls : Array Slot), lv_has ls 11 [(0, .ref qc), (1, .int va2), (2, .int va3), (3, .int l3), (4, .int l4)] → b_L_areWays_68 N va2 va3 l3 l4 s0 cg = some out → W p l e (headSpec wsL_areWays rm_L_areWays).room s m ([.ref qc, .int va2, .int va3] : List Value).toArray below meth c H locs 0 0 Q (F0 m 68 ls [.int s0]) := by
    intro l3 l4 s0 cg H locs hX ls hl hf
    rw [b_L_areWays_68] at hf
    refine lv_iload_n hx hb dL_areWays_68 rfl (lv_at hl 1 rfl) ?_
    refine lv_iload_n hx hb dL_areWays_69 rfl (lv_at hl 2 rfl) ?_
    refine lv_icmp_ne (tgt := 77) hx hb dL_areWays_70 (by decide) (fun hc_70 => ?_) (fun hc_70 => ?_)
    · have hf := kneg hc_70 hf
      refine lv_iconst (v := (0 : Int32)) hx hb dL_areWays_77 (by decide) ?_
      exact B78 (l3) (l4) (s0) ((0 : Int32)) (cg) _ _ hX ls (lv_sub hl [0, 1, 2, 3, 4] rfl) hf
    · have hf := kpos hc_70 hf
      refine lv_iconst (v := (1 : Int32)) hx hb dL_areWays_73 (by decide) ?_
      refine lv_goto (tgt := 78) hx hb dL_areWays_74 (by decide) ?_
      exact B78 (l3) (l4) (s0) ((1 : Int32)) (cg) _ _ hX ls (lv_sub hl [0, 1, 2, 3, 4] rfl) hf
  have B55 : ∀ (l3 : Int32) (l4 : Int32) (s0 : Int32) (s1 : Int32) (cg : gS) (H : Heap) (locs : List Loc), WX dC dI cy qc A s cg H locs → ∀ (ls : Array Slot), lv_has ls 11 [(0, .ref qc), (1, .int va2), (2, .int va3), (3, .int l3), (4, .int l4)] → b_L_areWays_55 N va2 va3 l3 l4 s0 s1 cg = some out → W p l e (headSpec wsL_areWays rm_L_areWays).room s m ([.ref qc, .int va2, .int va3] : List Value).toArray below meth c H locs 0 0 Q (F0 m 55 ls [.int s1, .int s0]) := by
    intro l3 l4 s0 s1 cg H locs hX ls hl hf
    rw [b_L_areWays_55] at hf
    refine lv_icmp_ne (tgt := 135) hx hb dL_areWays_55 (by decide) (fun hc_55 => ?_) (fun hc_55 => ?_)
    · have hf := kneg hc_55 hf
      refine lv_iconst (v := (0 : Int32)) hx hb dL_areWays_135 (by decide) ?_
      refine lv_istore (lv' := [(5, .int (0 : Int32)), (0, .ref qc), (1, .int va2), (2, .int va3), (3, .int l3), (4, .int l4)]) hx hb dL_areWays_136 hl (by decide) rfl (fun ls hl => ?_)
      refine lv_iconst (v := (0 : Int32)) hx hb dL_areWays_138 (by decide) ?_
      refine lv_istore (lv' := [(6, .int (0 : Int32)), (5, .int (0 : Int32)), (0, .ref qc), (1, .int va2), (2, .int va3), (3, .int l3), (4, .int l4)]) hx hb dL_areWays_139 hl (by decide) rfl (fun ls hl => ?_)
      exact B141 N (l3) (l4) ((0 : Int32)) ((0 : Int32)) (cg) _ _ hX ls (lv_sub hl [2, 3, 4, 5, 6, 1, 0] rfl) hf
    · have hf := kpos hc_55 hf
      refine lv_iload hx hb dL_areWays_58 (lv_at hl 4 rfl) ?_
      refine lv_if_ne (tgt := 67) hx hb dL_areWays_60 (by decide) (fun hc_60 => ?_) (fun hc_60 => ?_)
      · have hf := kneg hc_60 hf
        refine lv_iconst (v := (0 : Int32)) hx hb dL_areWays_67 (by decide) ?_
        exact B68 (l3) (l4) ((0 : Int32)) (cg) _ _ hX ls (lv_sub hl [0, 1, 2, 3, 4] rfl) hf
      · have hf := kpos hc_60 hf
        refine lv_iconst (v := (1 : Int32)) hx hb dL_areWays_63 (by decide) ?_
        refine lv_goto (tgt := 68) hx hb dL_areWays_64 (by decide) ?_
        exact B68 (l3) (l4) ((1 : Int32)) (cg) _ _ hX ls (lv_sub hl [0, 1, 2, 3, 4] rfl) hf
  have B37 : ∀ (l3 : Int32) (l4 : Int32) (s0 : Int32) (cg : gS) (H : Heap) (locs : List Loc), WX dC dI cy qc A s cg H locs → ∀ (ls : Array Slot), lv_has ls 11 [(0, .ref qc), (1, .int va2), (2, .int va3), (3, .int l3), (4, .int l4)] → b_L_areWays_37 N va2 va3 l3 l4 s0 cg = some out → W p l e (headSpec wsL_areWays rm_L_areWays).room s m ([.ref qc, .int va2, .int va3] : List Value).toArray below meth c H locs 0 0 Q (F0 m 37 ls [.int s0]) := by
    intro l3 l4 s0 cg H locs hX ls hl hf
    rw [b_L_areWays_37] at hf
    refine lv_aload_n hx hb dL_areWays_37 rfl (lv_at hl 0 rfl) ?_
    refine lv_iload_n hx hb dL_areWays_38 rfl (lv_at hl 1 rfl) ?_
    obtain ⟨v39, hv_39, hf⟩ := bV_s hf
    refine q_part C hcs ⟨Nat.le_of_ble_eq_true rfl, Nat.le_of_ble_eq_true rfl⟩ hl hX gL_areWays_X10_part dL_areWays_39 hv_39 (Nat.le_of_ble_eq_true rfl) (fun H locs hX => ?_)
    refine lv_aload_n hx hb dL_areWays_42 rfl (lv_at hl 0 rfl) ?_
    refine lv_iload_n hx hb dL_areWays_43 rfl (lv_at hl 2 rfl) ?_
    obtain ⟨v44, hv_44, hf⟩ := bV_s hf
    refine q_part C hcs ⟨Nat.le_of_ble_eq_true rfl, Nat.le_of_ble_eq_true rfl⟩ hl hX gL_areWays_X10_part dL_areWays_44 hv_44 (Nat.le_of_ble_eq_true rfl) (fun H locs hX => ?_)
    refine lv_icmp_eq (tgt := 54) hx hb dL_areWays_47 (by decide) (fun hc_47 => ?_) (fun hc_47 => ?_)
    · have hf := kpos hc_47 hf
      refine lv_iconst (v := (0 : Int32)) hx hb dL_areWays_54 (by decide) ?_
      exact B55 (l3) (l4) (s0) ((0 : Int32)) (cg) _ _ hX ls (lv_sub hl [0, 1, 2, 3, 4] rfl) hf
    · have hf := kneg hc_47 hf
      refine lv_iconst (v := (1 : Int32)) hx hb dL_areWays_50 (by decide) ?_
      refine lv_goto (tgt := 55) hx hb dL_areWays_51 (by decide) ?_
      exact B55 (l3) (l4) (s0) ((1 : Int32)) (cg) _ _ hX ls (lv_sub hl [0, 1, 2, 3, 4] rfl) hf
  rw [f_L_areWays] at hf
  refine lv_aload_n hx hb dL_areWays_0 rfl (lv_at hl 0 rfl) ?_
  refine lv_iconst (v := (1 : Int32)) hx hb dL_areWays_1 (by decide) ?_
  obtain ⟨v2, hv_2, hf⟩ := bV_s hf
  refine q_count C hcs ⟨Nat.le_of_ble_eq_true rfl, Nat.le_of_ble_eq_true rfl⟩ hl hX gL_areWays_X10_count dL_areWays_2 hv_2 (Nat.le_of_ble_eq_true rfl) (fun H locs hX => ?_)
  refine lv_istore_n (lv' := [(3, .int v2), (0, .ref qc), (1, .int va2), (2, .int va3)]) hx hb dL_areWays_5 rfl hl (by decide) rfl (fun ls hl => ?_)
  refine lv_aload_n hx hb dL_areWays_6 rfl (lv_at hl 1 rfl) ?_
  refine lv_iload_n hx hb dL_areWays_7 rfl (lv_at hl 2 rfl) ?_
  refine lv_iload_n hx hb dL_areWays_8 rfl (lv_at hl 3 rfl) ?_
  obtain ⟨v9, hv_9, hf⟩ := bV_s hf
  refine q_distance C hcs ⟨Nat.le_of_ble_eq_true rfl, Nat.le_of_ble_eq_true rfl⟩ hl hX gL_areWays_X10_distance dL_areWays_9 hv_9 (Nat.le_of_ble_eq_true rfl) (fun H locs hX => ?_)
  refine lv_istore (lv' := [(4, .int v9), (3, .int v2), (0, .ref qc), (1, .int va2), (2, .int va3)]) hx hb dL_areWays_12 hl (by decide) rfl (fun ls hl => ?_)
  refine lv_aload_n hx hb dL_areWays_14 rfl (lv_at hl 2 rfl) ?_
  refine lv_iload_n hx hb dL_areWays_15 rfl (lv_at hl 4 rfl) ?_
  refine lv_iload_n hx hb dL_areWays_16 rfl (lv_at hl 3 rfl) ?_
  obtain ⟨v17, hv_17, hf⟩ := bV_s hf
  refine q_distance C hcs ⟨Nat.le_of_ble_eq_true rfl, Nat.le_of_ble_eq_true rfl⟩ hl hX gL_areWays_X10_distance dL_areWays_17 hv_17 (Nat.le_of_ble_eq_true rfl) (fun H locs hX => ?_)
  refine lv_iload hx hb dL_areWays_20 (lv_at hl 0 rfl) ?_
  refine lv_icmp_ne (tgt := 135) hx hb dL_areWays_22 (by decide) (fun hc_22 => ?_) (fun hc_22 => ?_)
  · have hf := kneg hc_22 hf
    refine lv_iconst (v := (0 : Int32)) hx hb dL_areWays_135 (by decide) ?_
    refine lv_istore (lv' := [(5, .int (0 : Int32)), (4, .int v9), (3, .int v2), (0, .ref qc), (1, .int va2), (2, .int va3)]) hx hb dL_areWays_136 hl (by decide) rfl (fun ls hl => ?_)
    refine lv_iconst (v := (0 : Int32)) hx hb dL_areWays_138 (by decide) ?_
    refine lv_istore (lv' := [(6, .int (0 : Int32)), (5, .int (0 : Int32)), (4, .int v9), (3, .int v2), (0, .ref qc), (1, .int va2), (2, .int va3)]) hx hb dL_areWays_139 hl (by decide) rfl (fun ls hl => ?_)
    exact B141 N (v2) (v9) ((0 : Int32)) ((0 : Int32)) (g) _ _ hX ls (lv_sub hl [4, 5, 6, 3, 2, 1, 0] rfl) hf
  · have hf := kpos hc_22 hf
    refine lv_iload hx hb dL_areWays_25 (lv_at hl 0 rfl) ?_
    refine lv_bipush (v := (-4 : Int32)) hx hb dL_areWays_27 (by decide) ?_
    refine lv_icmp_ne (tgt := 36) hx hb dL_areWays_29 (by decide) (fun hc_29 => ?_) (fun hc_29 => ?_)
    · have hf := kneg hc_29 hf
      refine lv_iconst (v := (0 : Int32)) hx hb dL_areWays_36 (by decide) ?_
      exact B37 (v2) (v9) ((0 : Int32)) (g) _ _ hX ls (lv_sub hl [2, 3, 4, 1, 0] rfl) hf
    · have hf := kpos hc_29 hf
      refine lv_iconst (v := (1 : Int32)) hx hb dL_areWays_32 (by decide) ?_
      refine lv_goto (tgt := 37) hx hb dL_areWays_33 (by decide) ?_
      exact B37 (v2) (v9) ((1 : Int32)) (g) _ _ hX ls (lv_sub hl [2, 3, 4, 1, 0] rfl) hf
theorem hdL_areWays : yL_areWays.cls = RL ∧ yL_areWays.cls ≠ "java/lang/invoke/MethodHandle" ∧ yL_areWays.cls ≠ "java/lang/invoke/VarHandle" ∧ (parseMethodDescriptor yL_areWays.desc).map (fun d => d.parameters.length) = some 3 := by decide +kernel

-- contracts of the law's methods (written by wip/p30/genL.py)
set_option maxHeartbeats 8000000 in
set_option maxRecDepth 100000 in
theorem z_law (l : Launch) {p : Program} {e : Env} {s : State} {m : MethodId} {below : List Frame} {meth : Method} {c : Code} {b : Nat} {A : Nat → Prop} {dC : Nat → ClassId} {dI : Nat → Nat → Nat} {cy : gC} {G : gT} {qc cells slots : Nat} {Q : State → Prop} {L : Nat} {xs : Nat → Int32} (N : Nat) (g : gS) (out : Int32 × gS) (hf : f_L_law N xs L g = some out) (C : CX p s m c #[Value.ref b] cL_law wsL_law 12 A dC dI cy G) (hcs : cells ≤ room_1.cells ∧ slots ≤ room_1.slots) (hXs : va_X b L xs s s.heap) (hbl : b < s.heap.size) (hbA : ¬ A b) (hL : L < 2 ^ 31) (hret : ∀ (H : Heap) (locs : List Loc), WX dC dI cy qc A s out.2 H locs → ∀ (ls : Array Slot), W p l e room_1 s m #[Value.ref b] below meth c H locs cells slots Q (F0 m 467 ls [.int out.1])) (H : Heap) (locs : List Loc) (hX : WX dC dI cy qc A s g H locs) (ls : Array Slot) (hl : lv_has ls 12 [(0, .ref b)]) : W p l e room_1 s m #[Value.ref b] below meth c H locs cells slots Q (F0 m 7 ls [.ref qc]) := by
  obtain ⟨hx, hb, hml, hown, hts, hK, hG, hA⟩ := id C
  have B444 : ∀ (l2 : Int32) (cg : gS) (H : Heap) (locs : List Loc), WX dC dI cy qc A s cg H locs → ∀ (ls : Array Slot), lv_has ls 12 [(1, .ref qc), (2, .int l2)] → b_L_law_444 N xs L l2 cg = some out → W p l e room_1 s m #[Value.ref b] below meth c H locs cells slots Q (F0 m 444 ls []) := by
    intro l2 cg H locs hX ls hl hf
    rw [b_L_law_444] at hf
    refine lv_iload_n hx hb dL_law_444 rfl (lv_at hl 1 rfl) ?_
    refine lv_if_eq (tgt := 466) hx hb dL_law_445 (by decide) (fun hc_445 => ?_) (fun hc_445 => ?_)
    · have hf := kpos hc_445 hf
      refine lv_iconst (v := (0 : Int32)) hx hb dL_law_466 (by decide) ?_
      cases hf
      exact hret H locs hX ls
    · have hf := kneg hc_445 hf
      refine lv_aload_n hx hb dL_law_448 rfl (lv_at hl 0 rfl) ?_
      obtain ⟨v449, g449, hv_449, hf⟩ := bnd2_s hf
      refine kLi C hX (r := v449) (g1 := g449) (fun ws hI hP hU => va_runS (As := [.ref qc]) (rest := []) ⟨hx, hb, hml, hown, hts⟩ (c_L_refused l dC dI cy G H.size qc ws N cg  (v449, g449) hI hv_449) (va_cwS 1 hts gL_law_L_refused rfl rfl rfl hdL_refused.2 ⟨Nat.le_of_ble_eq_true rfl, Nat.le_of_ble_eq_true rfl⟩) ⟨kBlind, fun U h1 h2 => ⟨rfl, hU U h1 h2⟩⟩ rfl rfl hl.1 rfl (lv_room (Nat.le_of_ble_eq_true rfl)) dL_law_449 ⟨hcs.1, hcs.2⟩) (fun H locs hX => ?_)
      refine lv_if_eq (tgt := 466) hx hb dL_law_452 (by decide) (fun hc_452 => ?_) (fun hc_452 => ?_)
      · have hf := kpos hc_452 hf
        refine lv_iconst (v := (0 : Int32)) hx hb dL_law_466 (by decide) ?_
        cases hf
        exact hret H locs hX ls
      · have hf := kneg hc_452 hf
        refine lv_aload_n hx hb dL_law_455 rfl (lv_at hl 0 rfl) ?_
        obtain ⟨v456, g456, hv_456, hf⟩ := bnd2_s hf
        refine kLi C hX (r := v456) (g1 := g456) (fun ws hI hP hU => va_runS (As := [.ref qc]) (rest := []) ⟨hx, hb, hml, hown, hts⟩ (c_L_areDoors l dC dI cy G H.size qc ws N g449  (v456, g456) hI hv_456) (va_cwS 1 hts gL_law_L_areDoors rfl rfl rfl hdL_areDoors.2 ⟨Nat.le_of_ble_eq_true rfl, Nat.le_of_ble_eq_true rfl⟩) ⟨kBlind, fun U h1 h2 => ⟨rfl, hU U h1 h2⟩⟩ rfl rfl hl.1 rfl (lv_room (Nat.le_of_ble_eq_true rfl)) dL_law_456 ⟨hcs.1, hcs.2⟩) (fun H locs hX => ?_)
        refine lv_if_eq (tgt := 466) hx hb dL_law_459 (by decide) (fun hc_459 => ?_) (fun hc_459 => ?_)
        · have hf := kpos hc_459 hf
          refine lv_iconst (v := (0 : Int32)) hx hb dL_law_466 (by decide) ?_
          cases hf
          exact hret H locs hX ls
        · have hf := kneg hc_459 hf
          refine lv_iconst (v := (1 : Int32)) hx hb dL_law_462 (by decide) ?_
          refine lv_goto (tgt := 467) hx hb dL_law_463 (by decide) ?_
          cases hf
          exact hret H locs hX ls
  have B49 : ∀ (n49 : Nat) (l2 : Int32) (l3 : Int32) (cg : gS) (H : Heap) (locs : List Loc), WX dC dI cy qc A s cg H locs → ∀ (ls : Array Slot), lv_has ls 12 [(0, .ref b), (1, .ref qc), (2, .int l2), (3, .int l3)] → b_L_law_49 N xs L n49 l2 l3 cg = some out → W p l e room_1 s m #[Value.ref b] below meth c H locs cells slots Q (F0 m 49 ls []) := by
    intro n49
    induction n49 with
    | zero => intro l2 l3 cg H locs hX ls hl hf; rw [b_L_law_49] at hf; cases hf
    | succ n49 ih49 =>
      have B416 : ∀ (l3 : Int32) (cg : gS) (H : Heap) (locs : List Loc), WX dC dI cy qc A s cg H locs → ∀ (ls : Array Slot), lv_has ls 12 [(0, .ref b), (1, .ref qc), (3, .int l3)] → b_L_law_416 N xs L (b_L_law_49 N xs L n49) l3 cg = some out → W p l e room_1 s m #[Value.ref b] below meth c H locs cells slots Q (F0 m 416 ls []) := by
        intro l3 cg H locs hX ls hl hf
        rw [b_L_law_416] at hf
        refine lv_iload_n hx hb dL_law_416 rfl (lv_at hl 2 rfl) ?_
        refine lv_bipush (v := (10 : Int32)) hx hb dL_law_417 (by decide) ?_
        refine lv_irem hx hb dL_law_419 (by decide) ?_
        refine lv_bipush (v := (6 : Int32)) hx hb dL_law_420 (by decide) ?_
        refine lv_icmp_ne (tgt := 432) hx hb dL_law_422 (by decide) (fun hc_422 => ?_) (fun hc_422 => ?_)
        · have hf := kneg hc_422 hf
          refine lv_iconst (v := (1 : Int32)) hx hb dL_law_432 (by decide) ?_
          refine lv_goto (tgt := 437) hx hb dL_law_433 (by decide) ?_
          refine lv_istore_n (lv' := [(2, .int (1 : Int32)), (0, .ref b), (1, .ref qc), (3, .int l3)]) hx hb dL_law_437 rfl hl (by decide) rfl (fun ls hl => ?_)
          refine lv_iinc (v := (l3 + (1 : Int32))) (lv' := [(3, .int (l3 + (1 : Int32))), (2, .int (1 : Int32)), (0, .ref b), (1, .ref qc)]) hx hb dL_law_438 hl (k := 3) rfl rfl (by decide) rfl (fun ls hl => ?_)
          refine lv_goto (tgt := 49) hx hb dL_law_441 (by decide) ?_
          exact ih49 ((1 : Int32)) ((l3 + (1 : Int32))) (cg) _ _ hX ls (lv_sub hl [2, 3, 1, 0] rfl) hf
        · have hf := kpos hc_422 hf
          refine lv_aload_n hx hb dL_law_425 rfl (lv_at hl 1 rfl) ?_
          obtain ⟨v426, g426, hv_426, hf⟩ := bnd2_s hf
          refine kLi C hX (r := v426) (g1 := g426) (fun ws hI hP hU => va_runS (As := [.ref qc]) (rest := []) ⟨hx, hb, hml, hown, hts⟩ (c_L_refused l dC dI cy G H.size qc ws N cg  (v426, g426) hI hv_426) (va_cwS 1 hts gL_law_L_refused rfl rfl rfl hdL_refused.2 ⟨Nat.le_of_ble_eq_true rfl, Nat.le_of_ble_eq_true rfl⟩) ⟨kBlind, fun U h1 h2 => ⟨rfl, hU U h1 h2⟩⟩ rfl rfl hl.1 rfl (lv_room (Nat.le_of_ble_eq_true rfl)) dL_law_426 ⟨hcs.1, hcs.2⟩) (fun H locs hX => ?_)
          refine lv_if_eq (tgt := 436) hx hb dL_law_429 (by decide) (fun hc_429 => ?_) (fun hc_429 => ?_)
          · have hf := kpos hc_429 hf
            refine lv_iconst (v := (0 : Int32)) hx hb dL_law_436 (by decide) ?_
            refine lv_istore_n (lv' := [(2, .int (0 : Int32)), (0, .ref b), (1, .ref qc), (3, .int l3)]) hx hb dL_law_437 rfl hl (by decide) rfl (fun ls hl => ?_)
            refine lv_iinc (v := (l3 + (1 : Int32))) (lv' := [(3, .int (l3 + (1 : Int32))), (2, .int (0 : Int32)), (0, .ref b), (1, .ref qc)]) hx hb dL_law_438 hl (k := 3) rfl rfl (by decide) rfl (fun ls hl => ?_)
            refine lv_goto (tgt := 49) hx hb dL_law_441 (by decide) ?_
            exact ih49 ((0 : Int32)) ((l3 + (1 : Int32))) (g426) _ _ hX ls (lv_sub hl [2, 3, 1, 0] rfl) hf
          · have hf := kneg hc_429 hf
            refine lv_iconst (v := (1 : Int32)) hx hb dL_law_432 (by decide) ?_
            refine lv_goto (tgt := 437) hx hb dL_law_433 (by decide) ?_
            refine lv_istore_n (lv' := [(2, .int (1 : Int32)), (0, .ref b), (1, .ref qc), (3, .int l3)]) hx hb dL_law_437 rfl hl (by decide) rfl (fun ls hl => ?_)
            refine lv_iinc (v := (l3 + (1 : Int32))) (lv' := [(3, .int (l3 + (1 : Int32))), (2, .int (1 : Int32)), (0, .ref b), (1, .ref qc)]) hx hb dL_law_438 hl (k := 3) rfl rfl (by decide) rfl (fun ls hl => ?_)
            refine lv_goto (tgt := 49) hx hb dL_law_441 (by decide) ?_
            exact ih49 ((1 : Int32)) ((l3 + (1 : Int32))) (g426) _ _ hX ls (lv_sub hl [2, 3, 1, 0] rfl) hf
      have B388 : ∀ (l3 : Int32) (l5 : Int32) (cg : gS) (H : Heap) (locs : List Loc), WX dC dI cy qc A s cg H locs → ∀ (ls : Array Slot), lv_has ls 12 [(0, .ref b), (1, .ref qc), (3, .int l3), (5, .int l5)] → b_L_law_388 N xs L (b_L_law_49 N xs L n49) l3 l5 cg = some out → W p l e room_1 s m #[Value.ref b] below meth c H locs cells slots Q (F0 m 388 ls []) := by
        intro l3 l5 cg H locs hX ls hl hf
        rw [b_L_law_388] at hf
        refine lv_aload_n hx hb dL_law_388 rfl (lv_at hl 1 rfl) ?_
        obtain ⟨v389, g389, hv_389, hf⟩ := bnd2_s hf
        refine kLi C hX (r := v389) (g1 := g389) (fun ws hI hP hU => va_runS (As := [.ref qc]) (rest := []) ⟨hx, hb, hml, hown, hts⟩ (c_L_areSigns l dC dI cy G H.size qc ws N cg  (v389, g389) hI hv_389) (va_cwS 1 hts gL_law_L_areSigns rfl rfl rfl hdL_areSigns.2 ⟨Nat.le_of_ble_eq_true rfl, Nat.le_of_ble_eq_true rfl⟩) ⟨kBlind, fun U h1 h2 => ⟨rfl, hU U h1 h2⟩⟩ rfl rfl hl.1 rfl (lv_room (Nat.le_of_ble_eq_true rfl)) dL_law_389 ⟨hcs.1, hcs.2⟩) (fun H locs hX => ?_)
        refine lv_if_eq (tgt := 436) hx hb dL_law_392 (by decide) (fun hc_392 => ?_) (fun hc_392 => ?_)
        · have hf := kpos hc_392 hf
          refine lv_iconst (v := (0 : Int32)) hx hb dL_law_436 (by decide) ?_
          refine lv_istore_n (lv' := [(2, .int (0 : Int32)), (0, .ref b), (1, .ref qc), (3, .int l3), (5, .int l5)]) hx hb dL_law_437 rfl hl (by decide) rfl (fun ls hl => ?_)
          refine lv_iinc (v := (l3 + (1 : Int32))) (lv' := [(3, .int (l3 + (1 : Int32))), (2, .int (0 : Int32)), (0, .ref b), (1, .ref qc), (5, .int l5)]) hx hb dL_law_438 hl (k := 3) rfl rfl (by decide) rfl (fun ls hl => ?_)
          refine lv_goto (tgt := 49) hx hb dL_law_441 (by decide) ?_
          exact ih49 ((0 : Int32)) ((l3 + (1 : Int32))) (g389) _ _ hX ls (lv_sub hl [2, 3, 1, 0] rfl) hf
        · have hf := kneg hc_392 hf
          refine lv_iload_n hx hb dL_law_395 rfl (lv_at hl 2 rfl) ?_
          refine lv_iconst (v := (4 : Int32)) hx hb dL_law_396 (by decide) ?_
          refine lv_irem hx hb dL_law_397 (by decide) ?_
          refine lv_iconst (v := (1 : Int32)) hx hb dL_law_398 (by decide) ?_
          refine lv_icmp_ne (tgt := 416) hx hb dL_law_399 (by decide) (fun hc_399 => ?_) (fun hc_399 => ?_)
          · have hf := kneg hc_399 hf
            exact B416 (l3) (g389) _ _ hX ls (lv_sub hl [0, 1, 2] rfl) hf
          · have hf := kpos hc_399 hf
            refine lv_aload_n hx hb dL_law_402 rfl (lv_at hl 1 rfl) ?_
            refine lv_iconst (v := (1 : Int32)) hx hb dL_law_403 (by decide) ?_
            refine lv_iload hx hb dL_law_404 (lv_at hl 3 rfl) ?_
            refine lv_bipush (v := (40 : Int32)) hx hb dL_law_406 (by decide) ?_
            refine lv_irem hx hb dL_law_408 (by decide) ?_
            refine lv_iadd hx hb dL_law_409 ?_
            obtain ⟨v410, g410, hv_410, hf⟩ := bnd2_s hf
            refine kLi C hX (r := v410) (g1 := g410) (fun ws hI hP hU => va_runS (As := [.ref qc, .int ((1 : Int32) + (l5 - l5 / (40 : Int32) * (40 : Int32)))]) (rest := []) ⟨hx, hb, hml, hown, hts⟩ (c_L_isWalk l dC dI cy G H.size qc ws N g389 ((1 : Int32) + (l5 - l5 / (40 : Int32) * (40 : Int32))) (v410, g410) hI hv_410) (va_cwS 2 hts gL_law_L_isWalk rfl rfl rfl hdL_isWalk.2 ⟨Nat.le_of_ble_eq_true rfl, Nat.le_of_ble_eq_true rfl⟩) ⟨kBlind, fun U h1 h2 => ⟨rfl, hU U h1 h2⟩⟩ rfl rfl hl.1 rfl (lv_room (Nat.le_of_ble_eq_true rfl)) dL_law_410 ⟨hcs.1, hcs.2⟩) (fun H locs hX => ?_)
            refine lv_if_eq (tgt := 436) hx hb dL_law_413 (by decide) (fun hc_413 => ?_) (fun hc_413 => ?_)
            · have hf := kpos hc_413 hf
              refine lv_iconst (v := (0 : Int32)) hx hb dL_law_436 (by decide) ?_
              refine lv_istore_n (lv' := [(2, .int (0 : Int32)), (0, .ref b), (1, .ref qc), (3, .int l3), (5, .int l5)]) hx hb dL_law_437 rfl hl (by decide) rfl (fun ls hl => ?_)
              refine lv_iinc (v := (l3 + (1 : Int32))) (lv' := [(3, .int (l3 + (1 : Int32))), (2, .int (0 : Int32)), (0, .ref b), (1, .ref qc), (5, .int l5)]) hx hb dL_law_438 hl (k := 3) rfl rfl (by decide) rfl (fun ls hl => ?_)
              refine lv_goto (tgt := 49) hx hb dL_law_441 (by decide) ?_
              exact ih49 ((0 : Int32)) ((l3 + (1 : Int32))) (g410) _ _ hX ls (lv_sub hl [2, 3, 1, 0] rfl) hf
            · have hf := kneg hc_413 hf
              exact B416 (l3) (g410) _ _ hX ls (lv_sub hl [0, 1, 2] rfl) hf
      have B357 : ∀ (l3 : Int32) (l5 : Int32) (cg : gS) (H : Heap) (locs : List Loc), WX dC dI cy qc A s cg H locs → ∀ (ls : Array Slot), lv_has ls 12 [(0, .ref b), (1, .ref qc), (3, .int l3), (5, .int l5)] → b_L_law_357 N xs L (b_L_law_49 N xs L n49) l3 l5 cg = some out → W p l e room_1 s m #[Value.ref b] below meth c H locs cells slots Q (F0 m 357 ls []) := by
        intro l3 l5 cg H locs hX ls hl hf
        rw [b_L_law_357] at hf
        refine lv_iload_n hx hb dL_law_357 rfl (lv_at hl 2 rfl) ?_
        refine lv_iconst (v := (3 : Int32)) hx hb dL_law_358 (by decide) ?_
        refine lv_irem hx hb dL_law_359 (by decide) ?_
        refine lv_iconst (v := (2 : Int32)) hx hb dL_law_360 (by decide) ?_
        refine lv_icmp_ne (tgt := 388) hx hb dL_law_361 (by decide) (fun hc_361 => ?_) (fun hc_361 => ?_)
        · have hf := kneg hc_361 hf
          exact B388 (l3) (l5) (cg) _ _ hX ls (lv_sub hl [0, 1, 2, 3] rfl) hf
        · have hf := kpos hc_361 hf
          refine lv_aload_n hx hb dL_law_364 rfl (lv_at hl 1 rfl) ?_
          refine lv_aload_n hx hb dL_law_365 rfl (lv_at hl 1 rfl) ?_
          refine lv_iload hx hb dL_law_366 (lv_at hl 3 rfl) ?_
          refine lv_iconst (v := (3 : Int32)) hx hb dL_law_368 (by decide) ?_
          refine lv_idiv hx hb dL_law_369 (by decide) ?_
          obtain ⟨v370, g370, hv_370, hf⟩ := bnd2_s hf
          refine kLi C hX (r := v370) (g1 := g370) (fun ws hI hP hU => va_runS (As := [.ref qc, .int (l5 / (3 : Int32))]) (rest := [.ref qc]) ⟨hx, hb, hml, hown, hts⟩ (c_L_anyRoom l dC dI cy G H.size qc ws N cg (l5 / (3 : Int32)) (v370, g370) hI hv_370) (va_cwS 2 hts gL_law_L_anyRoom rfl rfl rfl hdL_anyRoom.2 ⟨Nat.le_of_ble_eq_true rfl, Nat.le_of_ble_eq_true rfl⟩) ⟨kBlind, fun U h1 h2 => ⟨rfl, hU U h1 h2⟩⟩ rfl rfl hl.1 rfl (lv_room (Nat.le_of_ble_eq_true rfl)) dL_law_370 ⟨hcs.1, hcs.2⟩) (fun H locs hX => ?_)
          refine lv_aload_n hx hb dL_law_373 rfl (lv_at hl 1 rfl) ?_
          refine lv_iload hx hb dL_law_374 (lv_at hl 3 rfl) ?_
          refine lv_bipush (v := (11 : Int32)) hx hb dL_law_376 (by decide) ?_
          refine lv_idiv hx hb dL_law_378 (by decide) ?_
          obtain ⟨v379, g379, hv_379, hf⟩ := bnd2_s hf
          refine kLi C hX (r := v379) (g1 := g379) (fun ws hI hP hU => va_runS (As := [.ref qc, .int (l5 / (11 : Int32))]) (rest := [.int v370, .ref qc]) ⟨hx, hb, hml, hown, hts⟩ (c_L_anyRoom l dC dI cy G H.size qc ws N g370 (l5 / (11 : Int32)) (v379, g379) hI hv_379) (va_cwS 2 hts gL_law_L_anyRoom rfl rfl rfl hdL_anyRoom.2 ⟨Nat.le_of_ble_eq_true rfl, Nat.le_of_ble_eq_true rfl⟩) ⟨kBlind, fun U h1 h2 => ⟨rfl, hU U h1 h2⟩⟩ rfl rfl hl.1 rfl (lv_room (Nat.le_of_ble_eq_true rfl)) dL_law_379 ⟨hcs.1, hcs.2⟩) (fun H locs hX => ?_)
          obtain ⟨v382, g382, hv_382, hf⟩ := bnd2_s hf
          refine kLi C hX (r := v382) (g1 := g382) (fun ws hI hP hU => va_runS (As := [.ref qc, .int v370, .int v379]) (rest := []) ⟨hx, hb, hml, hown, hts⟩ (c_L_areWays l dC dI cy G H.size qc ws N g379 v370 v379 (v382, g382) hI hv_382) (va_cwS 3 hts gL_law_L_areWays rfl rfl rfl hdL_areWays.2 ⟨Nat.le_of_ble_eq_true rfl, Nat.le_of_ble_eq_true rfl⟩) ⟨kBlind, fun U h1 h2 => ⟨rfl, hU U h1 h2⟩⟩ rfl rfl hl.1 rfl (lv_room (Nat.le_of_ble_eq_true rfl)) dL_law_382 ⟨hcs.1, hcs.2⟩) (fun H locs hX => ?_)
          refine lv_if_eq (tgt := 436) hx hb dL_law_385 (by decide) (fun hc_385 => ?_) (fun hc_385 => ?_)
          · have hf := kpos hc_385 hf
            refine lv_iconst (v := (0 : Int32)) hx hb dL_law_436 (by decide) ?_
            refine lv_istore_n (lv' := [(2, .int (0 : Int32)), (0, .ref b), (1, .ref qc), (3, .int l3), (5, .int l5)]) hx hb dL_law_437 rfl hl (by decide) rfl (fun ls hl => ?_)
            refine lv_iinc (v := (l3 + (1 : Int32))) (lv' := [(3, .int (l3 + (1 : Int32))), (2, .int (0 : Int32)), (0, .ref b), (1, .ref qc), (5, .int l5)]) hx hb dL_law_438 hl (k := 3) rfl rfl (by decide) rfl (fun ls hl => ?_)
            refine lv_goto (tgt := 49) hx hb dL_law_441 (by decide) ?_
            exact ih49 ((0 : Int32)) ((l3 + (1 : Int32))) (g382) _ _ hX ls (lv_sub hl [2, 3, 1, 0] rfl) hf
          · have hf := kneg hc_385 hf
            exact B388 (l3) (l5) (g382) _ _ hX ls (lv_sub hl [0, 1, 2, 3] rfl) hf
      have B339 : ∀ (l2 : Int32) (l3 : Int32) (l5 : Int32) (cg : gS) (H : Heap) (locs : List Loc), WX dC dI cy qc A s cg H locs → ∀ (ls : Array Slot), lv_has ls 12 [(0, .ref b), (1, .ref qc), (2, .int l2), (3, .int l3), (5, .int l5)] → b_L_law_339 N xs L (b_L_law_49 N xs L n49) l2 l3 l5 cg = some out → W p l e room_1 s m #[Value.ref b] below meth c H locs cells slots Q (F0 m 339 ls []) := by
        intro l2 l3 l5 cg H locs hX ls hl hf
        rw [b_L_law_339] at hf
        refine lv_iload_n hx hb dL_law_339 rfl (lv_at hl 2 rfl) ?_
        refine lv_if_eq (tgt := 436) hx hb dL_law_340 (by decide) (fun hc_340 => ?_) (fun hc_340 => ?_)
        · have hf := kpos hc_340 hf
          refine lv_iconst (v := (0 : Int32)) hx hb dL_law_436 (by decide) ?_
          refine lv_istore_n (lv' := [(2, .int (0 : Int32)), (0, .ref b), (1, .ref qc), (3, .int l3), (5, .int l5)]) hx hb dL_law_437 rfl hl (by decide) rfl (fun ls hl => ?_)
          refine lv_iinc (v := (l3 + (1 : Int32))) (lv' := [(3, .int (l3 + (1 : Int32))), (2, .int (0 : Int32)), (0, .ref b), (1, .ref qc), (5, .int l5)]) hx hb dL_law_438 hl (k := 3) rfl rfl (by decide) rfl (fun ls hl => ?_)
          refine lv_goto (tgt := 49) hx hb dL_law_441 (by decide) ?_
          exact ih49 ((0 : Int32)) ((l3 + (1 : Int32))) (cg) _ _ hX ls (lv_sub hl [2, 3, 1, 0] rfl) hf
        · have hf := kneg hc_340 hf
          refine lv_iload_n hx hb dL_law_343 rfl (lv_at hl 3 rfl) ?_
          refine lv_iconst (v := (2 : Int32)) hx hb dL_law_344 (by decide) ?_
          refine lv_irem hx hb dL_law_345 (by decide) ?_
          refine lv_iconst (v := (1 : Int32)) hx hb dL_law_346 (by decide) ?_
          refine lv_icmp_eq (tgt := 357) hx hb dL_law_347 (by decide) (fun hc_347 => ?_) (fun hc_347 => ?_)
          · have hf := kpos hc_347 hf
            exact B357 (l3) (l5) (cg) _ _ hX ls (lv_sub hl [0, 1, 3, 4] rfl) hf
          · have hf := kneg hc_347 hf
            refine lv_aload_n hx hb dL_law_350 rfl (lv_at hl 1 rfl) ?_
            obtain ⟨v351, g351, hv_351, hf⟩ := bnd2_s hf
            refine kLi C hX (r := v351) (g1 := g351) (fun ws hI hP hU => va_runS (As := [.ref qc]) (rest := []) ⟨hx, hb, hml, hown, hts⟩ (c_L_areDoors l dC dI cy G H.size qc ws N cg  (v351, g351) hI hv_351) (va_cwS 1 hts gL_law_L_areDoors rfl rfl rfl hdL_areDoors.2 ⟨Nat.le_of_ble_eq_true rfl, Nat.le_of_ble_eq_true rfl⟩) ⟨kBlind, fun U h1 h2 => ⟨rfl, hU U h1 h2⟩⟩ rfl rfl hl.1 rfl (lv_room (Nat.le_of_ble_eq_true rfl)) dL_law_351 ⟨hcs.1, hcs.2⟩) (fun H locs hX => ?_)
            refine lv_if_eq (tgt := 436) hx hb dL_law_354 (by decide) (fun hc_354 => ?_) (fun hc_354 => ?_)
            · have hf := kpos hc_354 hf
              refine lv_iconst (v := (0 : Int32)) hx hb dL_law_436 (by decide) ?_
              refine lv_istore_n (lv' := [(2, .int (0 : Int32)), (0, .ref b), (1, .ref qc), (3, .int l3), (5, .int l5)]) hx hb dL_law_437 rfl hl (by decide) rfl (fun ls hl => ?_)
              refine lv_iinc (v := (l3 + (1 : Int32))) (lv' := [(3, .int (l3 + (1 : Int32))), (2, .int (0 : Int32)), (0, .ref b), (1, .ref qc), (5, .int l5)]) hx hb dL_law_438 hl (k := 3) rfl rfl (by decide) rfl (fun ls hl => ?_)
              refine lv_goto (tgt := 49) hx hb dL_law_441 (by decide) ?_
              exact ih49 ((0 : Int32)) ((l3 + (1 : Int32))) (g351) _ _ hX ls (lv_sub hl [2, 3, 1, 0] rfl) hf
            · have hf := kneg hc_354 hf
              exact B357 (l3) (l5) (g351) _ _ hX ls (lv_sub hl [0, 1, 3, 4] rfl) hf
      have B338 : ∀ (l3 : Int32) (l5 : Int32) (s0 : Int32) (cg : gS) (H : Heap) (locs : List Loc), WX dC dI cy qc A s cg H locs → ∀ (ls : Array Slot), lv_has ls 12 [(0, .ref b), (1, .ref qc), (3, .int l3), (5, .int l5)] → b_L_law_338 N xs L (b_L_law_49 N xs L n49) l3 l5 s0 cg = some out → W p l e room_1 s m #[Value.ref b] below meth c H locs cells slots Q (F0 m 338 ls [.int s0]) := by
        intro l3 l5 s0 cg H locs hX ls hl hf
        rw [b_L_law_338] at hf
        refine lv_istore_n (lv' := [(2, .int s0), (0, .ref b), (1, .ref qc), (3, .int l3), (5, .int l5)]) hx hb dL_law_338 rfl hl (by decide) rfl (fun ls hl => ?_)
        exact B339 (s0) (l3) (l5) (cg) _ _ hX ls (lv_sub hl [1, 2, 0, 3, 4] rfl) hf
      have B337 : ∀ (l3 : Int32) (l5 : Int32) (cg : gS) (H : Heap) (locs : List Loc), WX dC dI cy qc A s cg H locs → ∀ (ls : Array Slot), lv_has ls 12 [(0, .ref b), (1, .ref qc), (3, .int l3), (5, .int l5)] → b_L_law_337 N xs L (b_L_law_49 N xs L n49) l3 l5 cg = some out → W p l e room_1 s m #[Value.ref b] below meth c H locs cells slots Q (F0 m 337 ls []) := by
        intro l3 l5 cg H locs hX ls hl hf
        rw [b_L_law_337] at hf
        refine lv_iconst (v := (0 : Int32)) hx hb dL_law_337 (by decide) ?_
        exact B338 (l3) (l5) ((0 : Int32)) (cg) _ _ hX ls (lv_sub hl [0, 1, 2, 3] rfl) hf
      have B320 : ∀ (l3 : Int32) (l5 : Int32) (l6 : Int64) (s0 : Int32) (s1 : Int32) (cg : gS) (H : Heap) (locs : List Loc), WX dC dI cy qc A s cg H locs → ∀ (ls : Array Slot), lv_has ls 12 [(0, .ref b), (1, .ref qc), (3, .int l3), (5, .int l5), (6, .long l6)] → b_L_law_320 N xs L (b_L_law_49 N xs L n49) l3 l5 l6 s0 s1 cg = some out → W p l e room_1 s m #[Value.ref b] below meth c H locs cells slots Q (F0 m 320 ls [.int s1, .int s0]) := by
        intro l3 l5 l6 s0 s1 cg H locs hX ls hl hf
        rw [b_L_law_320] at hf
        refine lv_icmp_ne (tgt := 337) hx hb dL_law_320 (by decide) (fun hc_320 => ?_) (fun hc_320 => ?_)
        · have hf := kneg hc_320 hf
          exact B337 (l3) (l5) (cg) _ _ hX ls (lv_sub hl [0, 1, 2, 3] rfl) hf
        · have hf := kpos hc_320 hf
          refine lv_aload_n hx hb dL_law_323 rfl (lv_at hl 1 rfl) ?_
          obtain ⟨v324, g324, hv_324, hf⟩ := bnd2_s hf
          refine kLl C hX (r := v324) (g1 := g324) (fun ws hI hP hU => va_runS (As := [.ref qc]) (rest := []) ⟨hx, hb, hml, hown, hts⟩ (c_L_print l dC dI cy G H.size qc ws N cg  (v324, g324) hI hv_324) (va_cwS 1 hts gL_law_L_print rfl rfl rfl hdL_print.2 ⟨Nat.le_of_ble_eq_true rfl, Nat.le_of_ble_eq_true rfl⟩) ⟨kBlind, fun U h1 h2 => ⟨rfl, hU U h1 h2⟩⟩ rfl rfl hl.1 rfl (lv_room (Nat.le_of_ble_eq_true rfl)) dL_law_324 ⟨hcs.1, hcs.2⟩) (fun H locs hX => ?_)
          refine lv_lload hx hb dL_law_327 (lv_at hl 4 rfl) ?_
          refine W.lcmp hx hb dL_law_329 ?_
          refine lv_if_ne (tgt := 337) hx hb dL_law_330 (by decide) (fun hc_330 => ?_) (fun hc_330 => ?_)
          · have hf := kneg hc_330 hf
            exact B337 (l3) (l5) (g324) _ _ hX ls (lv_sub hl [0, 1, 2, 3] rfl) hf
          · have hf := kpos hc_330 hf
            refine lv_iconst (v := (1 : Int32)) hx hb dL_law_333 (by decide) ?_
            refine lv_goto (tgt := 338) hx hb dL_law_334 (by decide) ?_
            exact B338 (l3) (l5) ((1 : Int32)) (g324) _ _ hX ls (lv_sub hl [0, 1, 2, 3] rfl) hf
      have B284 : ∀ (l3 : Int32) (l4 : Int32) (l5 : Int32) (l6 : Int64) (l8 : Int32) (l11 : Int32) (s0 : Int32) (cg : gS) (H : Heap) (locs : List Loc), WX dC dI cy qc A s cg H locs → ∀ (ls : Array Slot), lv_has ls 12 [(0, .ref b), (1, .ref qc), (3, .int l3), (4, .int l4), (5, .int l5), (6, .long l6), (8, .int l8), (11, .int l11)] → b_L_law_284 N xs L (b_L_law_49 N xs L n49) l3 l4 l5 l6 l8 l11 s0 cg = some out → W p l e room_1 s m #[Value.ref b] below meth c H locs cells slots Q (F0 m 284 ls [.int s0]) := by
        intro l3 l4 l5 l6 l8 l11 s0 cg H locs hX ls hl hf
        rw [b_L_law_284] at hf
        refine lv_istore_n (lv' := [(2, .int s0), (0, .ref b), (1, .ref qc), (3, .int l3), (4, .int l4), (5, .int l5), (6, .long l6), (8, .int l8), (11, .int l11)]) hx hb dL_law_284 rfl hl (by decide) rfl (fun ls hl => ?_)
        refine lv_iload_n hx hb dL_law_285 rfl (lv_at hl 0 rfl) ?_
        refine lv_if_eq (tgt := 339) hx hb dL_law_286 (by decide) (fun hc_286 => ?_) (fun hc_286 => ?_)
        · have hf := kpos hc_286 hf
          exact B339 (s0) (l3) (l5) (cg) _ _ hX ls (lv_sub hl [1, 2, 0, 3, 5] rfl) hf
        · have hf := kneg hc_286 hf
          refine lv_iload hx hb dL_law_289 (lv_at hl 8 rfl) ?_
          refine lv_if_lt (tgt := 339) hx hb dL_law_291 (by decide) (fun hc_291 => ?_) (fun hc_291 => ?_)
          · have hf := kpos hc_291 hf
            exact B339 (s0) (l3) (l5) (cg) _ _ hX ls (lv_sub hl [1, 2, 0, 3, 5] rfl) hf
          · have hf := kneg hc_291 hf
            refine lv_iload hx hb dL_law_294 (lv_at hl 4 rfl) ?_
            refine lv_bipush (v := (25 : Int32)) hx hb dL_law_296 (by decide) ?_
            refine lv_ishr hx hb dL_law_298 ?_
            refine lv_iconst (v := (3 : Int32)) hx hb dL_law_299 (by decide) ?_
            refine lv_iand hx hb dL_law_300 ?_
            refine lv_if_ne (tgt := 339) hx hb dL_law_301 (by decide) (fun hc_301 => ?_) (fun hc_301 => ?_)
            · have hf := kneg hc_301 hf
              exact B339 (s0) (l3) (l5) (cg) _ _ hX ls (lv_sub hl [1, 2, 0, 3, 5] rfl) hf
            · have hf := kpos hc_301 hf
              refine lv_aload_n hx hb dL_law_304 rfl (lv_at hl 2 rfl) ?_
              obtain ⟨v305, hv_305, hf⟩ := bV_s hf
              refine q_undo C hcs ⟨Nat.le_of_ble_eq_true rfl, Nat.le_of_ble_eq_true rfl⟩ hl hX gL_law_X10_undo dL_law_305 hv_305 (Nat.le_of_ble_eq_true rfl) (fun H locs hX => ?_)
              refine lv_iload hx hb dL_law_308 (lv_at hl 7 rfl) ?_
              refine lv_iconst (v := (5 : Int32)) hx hb dL_law_310 (by decide) ?_
              refine lv_icmp_ne (tgt := 318) hx hb dL_law_311 (by decide) (fun hc_311 => ?_) (fun hc_311 => ?_)
              · have hf := kneg hc_311 hf
                refine lv_iload hx hb dL_law_318 (lv_at hl 7 rfl) ?_
                exact B320 (l3) (l5) (l6) (v305.1) (l8) (v305.2) _ _ hX ls (lv_sub hl [1, 2, 3, 5, 6] rfl) hf
              · have hf := kpos hc_311 hf
                refine lv_iconst (v := (4 : Int32)) hx hb dL_law_314 (by decide) ?_
                refine lv_goto (tgt := 320) hx hb dL_law_315 (by decide) ?_
                exact B320 (l3) (l5) (l6) (v305.1) ((4 : Int32)) (v305.2) _ _ hX ls (lv_sub hl [1, 2, 3, 5, 6] rfl) hf
      have B279 : ∀ (l3 : Int32) (l4 : Int32) (l5 : Int32) (l6 : Int64) (l8 : Int32) (l11 : Int32) (cg : gS) (H : Heap) (locs : List Loc), WX dC dI cy qc A s cg H locs → ∀ (ls : Array Slot), lv_has ls 12 [(0, .ref b), (1, .ref qc), (3, .int l3), (4, .int l4), (5, .int l5), (6, .long l6), (8, .int l8), (11, .int l11)] → b_L_law_279 N xs L (b_L_law_49 N xs L n49) l3 l4 l5 l6 l8 l11 cg = some out → W p l e room_1 s m #[Value.ref b] below meth c H locs cells slots Q (F0 m 279 ls []) := by
        intro l3 l4 l5 l6 l8 l11 cg H locs hX ls hl hf
        rw [b_L_law_279] at hf
        refine lv_iconst (v := (1 : Int32)) hx hb dL_law_279 (by decide) ?_
        refine lv_goto (tgt := 284) hx hb dL_law_280 (by decide) ?_
        exact B284 (l3) (l4) (l5) (l6) (l8) (l11) ((1 : Int32)) (cg) _ _ hX ls (lv_sub hl [0, 1, 2, 3, 4, 5, 6, 7] rfl) hf
      have B283 : ∀ (l3 : Int32) (l4 : Int32) (l5 : Int32) (l6 : Int64) (l8 : Int32) (l11 : Int32) (cg : gS) (H : Heap) (locs : List Loc), WX dC dI cy qc A s cg H locs → ∀ (ls : Array Slot), lv_has ls 12 [(0, .ref b), (1, .ref qc), (3, .int l3), (4, .int l4), (5, .int l5), (6, .long l6), (8, .int l8), (11, .int l11)] → b_L_law_283 N xs L (b_L_law_49 N xs L n49) l3 l4 l5 l6 l8 l11 cg = some out → W p l e room_1 s m #[Value.ref b] below meth c H locs cells slots Q (F0 m 283 ls []) := by
        intro l3 l4 l5 l6 l8 l11 cg H locs hX ls hl hf
        rw [b_L_law_283] at hf
        refine lv_iconst (v := (0 : Int32)) hx hb dL_law_283 (by decide) ?_
        exact B284 (l3) (l4) (l5) (l6) (l8) (l11) ((0 : Int32)) (cg) _ _ hX ls (lv_sub hl [0, 1, 2, 3, 4, 5, 6, 7] rfl) hf
      have B246 : ∀ (l3 : Int32) (l4 : Int32) (l5 : Int32) (l6 : Int64) (l8 : Int32) (l9 : Int32) (l11 : Int32) (cg : gS) (H : Heap) (locs : List Loc), WX dC dI cy qc A s cg H locs → ∀ (ls : Array Slot), lv_has ls 12 [(0, .ref b), (1, .ref qc), (3, .int l3), (4, .int l4), (5, .int l5), (6, .long l6), (8, .int l8), (9, .int l9), (11, .int l11)] → b_L_law_246 N xs L (b_L_law_49 N xs L n49) l3 l4 l5 l6 l8 l9 l11 cg = some out → W p l e room_1 s m #[Value.ref b] below meth c H locs cells slots Q (F0 m 246 ls []) := by
        intro l3 l4 l5 l6 l8 l9 l11 cg H locs hX ls hl hf
        rw [b_L_law_246] at hf
        refine lv_iload hx hb dL_law_246 (lv_at hl 8 rfl) ?_
        refine lv_aload_n hx hb dL_law_248 rfl (lv_at hl 1 rfl) ?_
        refine lv_iconst (v := (2 : Int32)) hx hb dL_law_249 (by decide) ?_
        obtain ⟨v250, hv_250, hf⟩ := bV_s hf
        refine q_count C hcs ⟨Nat.le_of_ble_eq_true rfl, Nat.le_of_ble_eq_true rfl⟩ hl hX gL_law_X10_count dL_law_250 hv_250 (Nat.le_of_ble_eq_true rfl) (fun H locs hX => ?_)
        refine lv_iconst (v := (1 : Int32)) hx hb dL_law_253 (by decide) ?_
        refine lv_isub hx hb dL_law_254 ?_
        refine lv_icmp_ne (tgt := 283) hx hb dL_law_255 (by decide) (fun hc_255 => ?_) (fun hc_255 => ?_)
        · have hf := kneg hc_255 hf
          exact B283 (l3) (l4) (l5) (l6) (l8) (l11) (cg) _ _ hX ls (lv_sub hl [0, 1, 2, 3, 4, 5, 6, 8] rfl) hf
        · have hf := kpos hc_255 hf
          refine lv_aload_n hx hb dL_law_258 rfl (lv_at hl 1 rfl) ?_
          refine lv_bipush (v := (7 : Int32)) hx hb dL_law_259 (by decide) ?_
          obtain ⟨v261, hv_261, hf⟩ := bV_s hf
          refine q_count C hcs ⟨Nat.le_of_ble_eq_true rfl, Nat.le_of_ble_eq_true rfl⟩ hl hX gL_law_X10_count dL_law_261 hv_261 (Nat.le_of_ble_eq_true rfl) (fun H locs hX => ?_)
          refine lv_iconst (v := (1 : Int32)) hx hb dL_law_264 (by decide) ?_
          refine lv_icmp_ne (tgt := 283) hx hb dL_law_265 (by decide) (fun hc_265 => ?_) (fun hc_265 => ?_)
          · have hf := kneg hc_265 hf
            exact B283 (l3) (l4) (l5) (l6) (l8) (l11) (cg) _ _ hX ls (lv_sub hl [0, 1, 2, 3, 4, 5, 6, 8] rfl) hf
          · have hf := kpos hc_265 hf
            refine lv_aload_n hx hb dL_law_268 rfl (lv_at hl 1 rfl) ?_
            refine lv_bipush (v := (12 : Int32)) hx hb dL_law_269 (by decide) ?_
            obtain ⟨v271, hv_271, hf⟩ := bV_s hf
            refine q_count C hcs ⟨Nat.le_of_ble_eq_true rfl, Nat.le_of_ble_eq_true rfl⟩ hl hX gL_law_X10_count dL_law_271 hv_271 (Nat.le_of_ble_eq_true rfl) (fun H locs hX => ?_)
            refine lv_iload hx hb dL_law_274 (lv_at hl 7 rfl) ?_
            refine lv_icmp_ne (tgt := 283) hx hb dL_law_276 (by decide) (fun hc_276 => ?_) (fun hc_276 => ?_)
            · have hf := kneg hc_276 hf
              exact B283 (l3) (l4) (l5) (l6) (l8) (l11) (cg) _ _ hX ls (lv_sub hl [0, 1, 2, 3, 4, 5, 6, 8] rfl) hf
            · have hf := kpos hc_276 hf
              exact B279 (l3) (l4) (l5) (l6) (l8) (l11) (cg) _ _ hX ls (lv_sub hl [0, 1, 2, 3, 4, 5, 6, 8] rfl) hf
      have B234 : ∀ (l3 : Int32) (l4 : Int32) (l5 : Int32) (l6 : Int64) (l8 : Int32) (l9 : Int32) (l10 : Int32) (l11 : Int32) (cg : gS) (H : Heap) (locs : List Loc), WX dC dI cy qc A s cg H locs → ∀ (ls : Array Slot), lv_has ls 12 [(0, .ref b), (1, .ref qc), (3, .int l3), (4, .int l4), (5, .int l5), (6, .long l6), (8, .int l8), (9, .int l9), (10, .int l10), (11, .int l11)] → b_L_law_234 N xs L (b_L_law_49 N xs L n49) l3 l4 l5 l6 l8 l9 l10 l11 cg = some out → W p l e room_1 s m #[Value.ref b] below meth c H locs cells slots Q (F0 m 234 ls []) := by
        intro l3 l4 l5 l6 l8 l9 l10 l11 cg H locs hX ls hl hf
        rw [b_L_law_234] at hf
        refine lv_iload hx hb dL_law_234 (lv_at hl 8 rfl) ?_
        refine lv_iconst (v := (1 : Int32)) hx hb dL_law_236 (by decide) ?_
        refine lv_icmp_eq (tgt := 246) hx hb dL_law_237 (by decide) (fun hc_237 => ?_) (fun hc_237 => ?_)
        · have hf := kpos hc_237 hf
          exact B246 (l3) (l4) (l5) (l6) (l8) (l9) (l11) (cg) _ _ hX ls (lv_sub hl [0, 1, 2, 3, 4, 5, 6, 7, 9] rfl) hf
        · have hf := kneg hc_237 hf
          refine lv_iload hx hb dL_law_240 (lv_at hl 8 rfl) ?_
          refine lv_iconst (v := (2 : Int32)) hx hb dL_law_242 (by decide) ?_
          refine lv_icmp_ne (tgt := 279) hx hb dL_law_243 (by decide) (fun hc_243 => ?_) (fun hc_243 => ?_)
          · have hf := kneg hc_243 hf
            exact B279 (l3) (l4) (l5) (l6) (l8) (l11) (cg) _ _ hX ls (lv_sub hl [0, 1, 2, 3, 4, 5, 6, 9] rfl) hf
          · have hf := kpos hc_243 hf
            exact B246 (l3) (l4) (l5) (l6) (l8) (l9) (l11) (cg) _ _ hX ls (lv_sub hl [0, 1, 2, 3, 4, 5, 6, 7, 9] rfl) hf
      have B207 : ∀ (l3 : Int32) (l4 : Int32) (l5 : Int32) (l6 : Int64) (l8 : Int32) (l9 : Int32) (l10 : Int32) (l11 : Int32) (s0 : Int32) (s1 : Int32) (cg : gS) (H : Heap) (locs : List Loc), WX dC dI cy qc A s cg H locs → ∀ (ls : Array Slot), lv_has ls 12 [(0, .ref b), (1, .ref qc), (3, .int l3), (4, .int l4), (5, .int l5), (6, .long l6), (8, .int l8), (9, .int l9), (10, .int l10), (11, .int l11)] → b_L_law_207 N xs L (b_L_law_49 N xs L n49) l3 l4 l5 l6 l8 l9 l10 l11 s0 s1 cg = some out → W p l e room_1 s m #[Value.ref b] below meth c H locs cells slots Q (F0 m 207 ls [.int s1, .int s0]) := by
        intro l3 l4 l5 l6 l8 l9 l10 l11 s0 s1 cg H locs hX ls hl hf
        rw [b_L_law_207] at hf
        refine lv_icmp_ne (tgt := 283) hx hb dL_law_207 (by decide) (fun hc_207 => ?_) (fun hc_207 => ?_)
        · have hf := kneg hc_207 hf
          exact B283 (l3) (l4) (l5) (l6) (l8) (l11) (cg) _ _ hX ls (lv_sub hl [0, 1, 2, 3, 4, 5, 6, 9] rfl) hf
        · have hf := kpos hc_207 hf
          refine lv_goto (tgt := 234) hx hb dL_law_210 (by decide) ?_
          exact B234 (l3) (l4) (l5) (l6) (l8) (l9) (l10) (l11) (cg) _ _ hX ls (lv_sub hl [0, 1, 2, 3, 4, 5, 6, 7, 8, 9] rfl) hf
      have B150 : ∀ (l3 : Int32) (l4 : Int32) (l5 : Int32) (l6 : Int64) (l8 : Int32) (l9 : Int32) (s0 : Int32) (cg : gS) (H : Heap) (locs : List Loc), WX dC dI cy qc A s cg H locs → ∀ (ls : Array Slot), lv_has ls 12 [(0, .ref b), (1, .ref qc), (3, .int l3), (4, .int l4), (5, .int l5), (6, .long l6), (8, .int l8), (9, .int l9)] → b_L_law_150 N xs L (b_L_law_49 N xs L n49) l3 l4 l5 l6 l8 l9 s0 cg = some out → W p l e room_1 s m #[Value.ref b] below meth c H locs cells slots Q (F0 m 150 ls [.int s0]) := by
        intro l3 l4 l5 l6 l8 l9 s0 cg H locs hX ls hl hf
        rw [b_L_law_150] at hf
        refine lv_istore (lv' := [(10, .int s0), (0, .ref b), (1, .ref qc), (3, .int l3), (4, .int l4), (5, .int l5), (6, .long l6), (8, .int l8), (9, .int l9)]) hx hb dL_law_150 hl (by decide) rfl (fun ls hl => ?_)
        refine lv_aload_n hx hb dL_law_152 rfl (lv_at hl 2 rfl) ?_
        refine lv_bipush (v := (12 : Int32)) hx hb dL_law_153 (by decide) ?_
        refine lv_iload hx hb dL_law_155 (lv_at hl 4 rfl) ?_
        refine lv_iconst (v := (4 : Int32)) hx hb dL_law_157 (by decide) ?_
        refine lv_ishr hx hb dL_law_158 ?_
        refine lv_ldc (v := (99999 : Int32)) hx hb hown (hts _ (List.mem_append_left _ (List.mem_append_left _ (List.mem_append_left _ (List.mem_append_left _ (List.mem_append_left _ (List.mem_append_left _ (List.mem_append_left _ (List.mem_append_left _ (List.mem_append_left _ (List.mem_append_left _ (List.mem_append_left _ (List.mem_append_left _ (List.mem_append_left _ (List.mem_of_getElem? (i := 4) rfl))))))))))))))) dL_law_159 ?_
        obtain ⟨v161, hv_161, hf⟩ := bnd1_s hf
        refine kLn C hX (r := v161) (fun hU => va_runS (As := [.int (l4 >>> ((4 : Int32) &&& 31)), .int (99999 : Int32)]) (rest := [.int (12 : Int32), .ref qc]) ⟨hx, hb, hml, hown, hts⟩ (c_L_low l dC dI cy G H.size (l4 >>> ((4 : Int32) &&& 31)) (99999 : Int32) v161 hv_161) (va_cwS 2 hts gL_law_L_low rfl rfl rfl hdL_low.2 ⟨Nat.le_of_ble_eq_true rfl, Nat.le_of_ble_eq_true rfl⟩) ⟨kBlind, fun U h1 h2 => ⟨rfl, hU U h1 h2⟩⟩ rfl rfl hl.1 rfl (lv_room (Nat.le_of_ble_eq_true rfl)) dL_law_161 ⟨hcs.1, hcs.2⟩) (fun H locs hX => ?_)
        refine lv_imul hx hb dL_law_164 ?_
        refine lv_iload hx hb dL_law_165 (lv_at hl 0 rfl) ?_
        refine lv_iadd hx hb dL_law_167 ?_
        refine lv_iload hx hb dL_law_168 (lv_at hl 5 rfl) ?_
        obtain ⟨v170, g170, hv_170, hf⟩ := bnd2_s hf
        refine kLi C hX (r := v170) (g1 := g170) (fun ws hI hP hU => va_runS (As := [.ref qc, .int (((12 : Int32) * v161) + s0), .int l5]) (rest := []) ⟨hx, hb, hml, hown, hts⟩ (c_L_acts l dC dI cy G H.size qc ws N cg (((12 : Int32) * v161) + s0) l5 (v170, g170) hI hv_170) (va_cwS 3 hts gL_law_L_acts rfl rfl rfl hdL_acts.2 ⟨Nat.le_of_ble_eq_true rfl, Nat.le_of_ble_eq_true rfl⟩) ⟨kBlind, fun U h1 h2 => ⟨rfl, hU U h1 h2⟩⟩ rfl rfl hl.1 rfl (lv_room (Nat.le_of_ble_eq_true rfl)) dL_law_170 ⟨hcs.1, hcs.2⟩) (fun H locs hX => ?_)
        refine lv_istore (lv' := [(11, .int v170), (10, .int s0), (0, .ref b), (1, .ref qc), (3, .int l3), (4, .int l4), (5, .int l5), (6, .long l6), (8, .int l8), (9, .int l9)]) hx hb dL_law_173 hl (by decide) rfl (fun ls hl => ?_)
        refine lv_iload hx hb dL_law_175 (lv_at hl 0 rfl) ?_
        refine lv_bipush (v := (-4 : Int32)) hx hb dL_law_177 (by decide) ?_
        refine lv_icmp_lt (tgt := 283) hx hb dL_law_179 (by decide) (fun hc_179 => ?_) (fun hc_179 => ?_)
        · have hf := kpos hc_179 hf
          exact B283 (l3) (l4) (l5) (l6) (l8) (v170) (g170) _ _ hX ls (lv_sub hl [2, 3, 4, 5, 6, 7, 8, 0] rfl) hf
        · have hf := kneg hc_179 hf
          refine lv_iload hx hb dL_law_182 (lv_at hl 0 rfl) ?_
          refine lv_if_lt (tgt := 213) hx hb dL_law_184 (by decide) (fun hc_184 => ?_) (fun hc_184 => ?_)
          · have hf := kpos hc_184 hf
            refine lv_aload_n hx hb dL_law_213 rfl (lv_at hl 3 rfl) ?_
            refine lv_bipush (v := (14 : Int32)) hx hb dL_law_214 (by decide) ?_
            obtain ⟨v216, hv_216, hf⟩ := bV_s hf
            refine q_count C hcs ⟨Nat.le_of_ble_eq_true rfl, Nat.le_of_ble_eq_true rfl⟩ hl hX gL_law_X10_count dL_law_216 hv_216 (Nat.le_of_ble_eq_true rfl) (fun H locs hX => ?_)
            refine lv_iload hx hb dL_law_219 (lv_at hl 8 rfl) ?_
            refine lv_icmp_ne (tgt := 283) hx hb dL_law_221 (by decide) (fun hc_221 => ?_) (fun hc_221 => ?_)
            · have hf := kneg hc_221 hf
              exact B283 (l3) (l4) (l5) (l6) (l8) (v170) (g170) _ _ hX ls (lv_sub hl [2, 3, 4, 5, 6, 7, 8, 0] rfl) hf
            · have hf := kpos hc_221 hf
              refine lv_aload_n hx hb dL_law_224 rfl (lv_at hl 3 rfl) ?_
              obtain ⟨v225, g225, hv_225, hf⟩ := bnd2_s hf
              refine kLl C hX (r := v225) (g1 := g225) (fun ws hI hP hU => va_runS (As := [.ref qc]) (rest := []) ⟨hx, hb, hml, hown, hts⟩ (c_L_print l dC dI cy G H.size qc ws N g170  (v225, g225) hI hv_225) (va_cwS 1 hts gL_law_L_print rfl rfl rfl hdL_print.2 ⟨Nat.le_of_ble_eq_true rfl, Nat.le_of_ble_eq_true rfl⟩) ⟨kBlind, fun U h1 h2 => ⟨rfl, hU U h1 h2⟩⟩ rfl rfl hl.1 rfl (lv_room (Nat.le_of_ble_eq_true rfl)) dL_law_225 ⟨hcs.1, hcs.2⟩) (fun H locs hX => ?_)
              refine lv_lload hx hb dL_law_228 (lv_at hl 7 rfl) ?_
              refine W.lcmp hx hb dL_law_230 ?_
              refine lv_if_ne (tgt := 283) hx hb dL_law_231 (by decide) (fun hc_231 => ?_) (fun hc_231 => ?_)
              · have hf := kneg hc_231 hf
                exact B283 (l3) (l4) (l5) (l6) (l8) (v170) (g225) _ _ hX ls (lv_sub hl [2, 3, 4, 5, 6, 7, 8, 0] rfl) hf
              · have hf := kpos hc_231 hf
                exact B234 (l3) (l4) (l5) (l6) (l8) (l9) (s0) (v170) (g225) _ _ hX ls (lv_sub hl [2, 3, 4, 5, 6, 7, 8, 9, 1, 0] rfl) hf
          · have hf := kneg hc_184 hf
            refine lv_aload_n hx hb dL_law_187 rfl (lv_at hl 3 rfl) ?_
            refine lv_bipush (v := (14 : Int32)) hx hb dL_law_188 (by decide) ?_
            obtain ⟨v190, hv_190, hf⟩ := bV_s hf
            refine q_count C hcs ⟨Nat.le_of_ble_eq_true rfl, Nat.le_of_ble_eq_true rfl⟩ hl hX gL_law_X10_count dL_law_190 hv_190 (Nat.le_of_ble_eq_true rfl) (fun H locs hX => ?_)
            refine lv_iload hx hb dL_law_193 (lv_at hl 8 rfl) ?_
            refine lv_iconst (v := (5 : Int32)) hx hb dL_law_195 (by decide) ?_
            refine lv_icmp_ne (tgt := 203) hx hb dL_law_196 (by decide) (fun hc_196 => ?_) (fun hc_196 => ?_)
            · have hf := kneg hc_196 hf
              refine lv_iload hx hb dL_law_203 (lv_at hl 8 rfl) ?_
              refine lv_iconst (v := (1 : Int32)) hx hb dL_law_205 (by decide) ?_
              refine lv_iadd hx hb dL_law_206 ?_
              exact B207 (l3) (l4) (l5) (l6) (l8) (l9) (s0) (v170) (v190) ((l8 + (1 : Int32))) (g170) _ _ hX ls (lv_sub hl [2, 3, 4, 5, 6, 7, 8, 9, 1, 0] rfl) hf
            · have hf := kpos hc_196 hf
              refine lv_iconst (v := (5 : Int32)) hx hb dL_law_199 (by decide) ?_
              refine lv_goto (tgt := 207) hx hb dL_law_200 (by decide) ?_
              exact B207 (l3) (l4) (l5) (l6) (l8) (l9) (s0) (v170) (v190) ((5 : Int32)) (g170) _ _ hX ls (lv_sub hl [2, 3, 4, 5, 6, 7, 8, 9, 1, 0] rfl) hf
      have B128 : ∀ (l3 : Int32) (l4 : Int32) (l5 : Int32) (l6 : Int64) (l8 : Int32) (l9 : Int32) (cg : gS) (H : Heap) (locs : List Loc), WX dC dI cy qc A s cg H locs → ∀ (ls : Array Slot), lv_has ls 12 [(0, .ref b), (1, .ref qc), (3, .int l3), (4, .int l4), (5, .int l5), (6, .long l6), (8, .int l8), (9, .int l9)] → b_L_law_128 N xs L (b_L_law_49 N xs L n49) l3 l4 l5 l6 l8 l9 cg = some out → W p l e room_1 s m #[Value.ref b] below meth c H locs cells slots Q (F0 m 128 ls []) := by
        intro l3 l4 l5 l6 l8 l9 cg H locs hX ls hl hf
        rw [b_L_law_128] at hf
        refine lv_iconst (v := (1 : Int32)) hx hb dL_law_128 (by decide) ?_
        refine lv_goto (tgt := 150) hx hb dL_law_129 (by decide) ?_
        exact B150 (l3) (l4) (l5) (l6) (l8) (l9) ((1 : Int32)) (cg) _ _ hX ls (lv_sub hl [0, 1, 2, 3, 4, 5, 6, 7] rfl) hf
      intro l2 l3 cg H locs hX ls hl hf
      rw [b_L_law_49] at hf
      refine lv_iload_n hx hb dL_law_49 rfl (lv_at hl 3 rfl) ?_
      refine lv_bipush (v := (34 : Int32)) hx hb dL_law_50 (by decide) ?_
      refine lv_icmp_ge (tgt := 444) hx hb dL_law_52 (by decide) (fun hc_52 => ?_) (fun hc_52 => ?_)
      · have hf := kpos hc_52 hf
        exact B444 (l2) (cg) _ _ hX ls (lv_sub hl [1, 2] rfl) hf
      · have hf := kneg hc_52 hf
        refine lv_iload_n hx hb dL_law_55 rfl (lv_at hl 2 rfl) ?_
        refine lv_if_eq (tgt := 444) hx hb dL_law_56 (by decide) (fun hc_56 => ?_) (fun hc_56 => ?_)
        · have hf := kpos hc_56 hf
          exact B444 (l2) (cg) _ _ hX ls (lv_sub hl [1, 2] rfl) hf
        · have hf := kneg hc_56 hf
          refine lv_aload_n hx hb dL_law_59 rfl (lv_at hl 0 rfl) ?_
          refine lv_iconst (v := (2 : Int32)) hx hb dL_law_60 (by decide) ?_
          refine lv_iload_n hx hb dL_law_61 rfl (lv_at hl 3 rfl) ?_
          refine lv_imul hx hb dL_law_62 ?_
          obtain ⟨hk_63, hf⟩ := chk_s hf
          obtain ⟨v63, hv_63, hf⟩ := bV_s hf
          refine kLcell C hX hXs hbl hbA hL hk_63 hv_63 (rest := []) hl.1 (Nat.le_of_ble_eq_true rfl) gL_law_L_cell dL_law_63 hcs ⟨Nat.le_of_ble_eq_true rfl, Nat.le_of_ble_eq_true rfl⟩ (fun H locs hX => ?_)
          refine lv_istore (lv' := [(4, .int v63), (0, .ref b), (1, .ref qc), (2, .int l2), (3, .int l3)]) hx hb dL_law_66 hl (by decide) rfl (fun ls hl => ?_)
          refine lv_aload_n hx hb dL_law_68 rfl (lv_at hl 1 rfl) ?_
          refine lv_iconst (v := (2 : Int32)) hx hb dL_law_69 (by decide) ?_
          refine lv_iload_n hx hb dL_law_70 rfl (lv_at hl 4 rfl) ?_
          refine lv_imul hx hb dL_law_71 ?_
          refine lv_iconst (v := (1 : Int32)) hx hb dL_law_72 (by decide) ?_
          refine lv_iadd hx hb dL_law_73 ?_
          obtain ⟨hk_74, hf⟩ := chk_s hf
          obtain ⟨v74, hv_74, hf⟩ := bV_s hf
          refine kLcell C hX hXs hbl hbA hL hk_74 hv_74 (rest := []) hl.1 (Nat.le_of_ble_eq_true rfl) gL_law_L_cell dL_law_74 hcs ⟨Nat.le_of_ble_eq_true rfl, Nat.le_of_ble_eq_true rfl⟩ (fun H locs hX => ?_)
          refine lv_ldc (v := (1000000 : Int32)) hx hb hown (hts _ (List.mem_append_left _ (List.mem_append_left _ (List.mem_append_left _ (List.mem_append_left _ (List.mem_append_left _ (List.mem_append_left _ (List.mem_append_left _ (List.mem_append_left _ (List.mem_append_left _ (List.mem_append_left _ (List.mem_append_left _ (List.mem_append_left _ (List.mem_append_left _ (List.mem_of_getElem? (i := 3) rfl))))))))))))))) dL_law_77 ?_
          obtain ⟨v79, hv_79, hf⟩ := bnd1_s hf
          refine kLn C hX (r := v79) (fun hU => va_runS (As := [.int v74, .int (1000000 : Int32)]) (rest := []) ⟨hx, hb, hml, hown, hts⟩ (c_L_low l dC dI cy G H.size v74 (1000000 : Int32) v79 hv_79) (va_cwS 2 hts gL_law_L_low rfl rfl rfl hdL_low.2 ⟨Nat.le_of_ble_eq_true rfl, Nat.le_of_ble_eq_true rfl⟩) ⟨kBlind, fun U h1 h2 => ⟨rfl, hU U h1 h2⟩⟩ rfl rfl hl.1 rfl (lv_room (Nat.le_of_ble_eq_true rfl)) dL_law_79 ⟨hcs.1, hcs.2⟩) (fun H locs hX => ?_)
          refine lv_istore (lv' := [(5, .int v79), (4, .int v63), (0, .ref b), (1, .ref qc), (2, .int l2), (3, .int l3)]) hx hb dL_law_82 hl (by decide) rfl (fun ls hl => ?_)
          refine lv_aload_n hx hb dL_law_84 rfl (lv_at hl 3 rfl) ?_
          obtain ⟨v85, g85, hv_85, hf⟩ := bnd2_s hf
          refine kLl C hX (r := v85) (g1 := g85) (fun ws hI hP hU => va_runS (As := [.ref qc]) (rest := []) ⟨hx, hb, hml, hown, hts⟩ (c_L_print l dC dI cy G H.size qc ws N cg  (v85, g85) hI hv_85) (va_cwS 1 hts gL_law_L_print rfl rfl rfl hdL_print.2 ⟨Nat.le_of_ble_eq_true rfl, Nat.le_of_ble_eq_true rfl⟩) ⟨kBlind, fun U h1 h2 => ⟨rfl, hU U h1 h2⟩⟩ rfl rfl hl.1 rfl (lv_room (Nat.le_of_ble_eq_true rfl)) dL_law_85 ⟨hcs.1, hcs.2⟩) (fun H locs hX => ?_)
          refine lv_lstore (lv' := [(6, .long v85), (5, .int v79), (4, .int v63), (0, .ref b), (1, .ref qc), (2, .int l2), (3, .int l3)]) hx hb dL_law_88 hl (by decide) rfl (fun ls hl => ?_)
          refine lv_aload_n hx hb dL_law_90 rfl (lv_at hl 4 rfl) ?_
          refine lv_bipush (v := (14 : Int32)) hx hb dL_law_91 (by decide) ?_
          obtain ⟨v93, hv_93, hf⟩ := bV_s hf
          refine q_count C hcs ⟨Nat.le_of_ble_eq_true rfl, Nat.le_of_ble_eq_true rfl⟩ hl hX gL_law_X10_count dL_law_93 hv_93 (Nat.le_of_ble_eq_true rfl) (fun H locs hX => ?_)
          refine lv_istore (lv' := [(8, .int v93), (6, .long v85), (5, .int v79), (4, .int v63), (0, .ref b), (1, .ref qc), (2, .int l2), (3, .int l3)]) hx hb dL_law_96 hl (by decide) rfl (fun ls hl => ?_)
          refine lv_aload_n hx hb dL_law_98 rfl (lv_at hl 5 rfl) ?_
          refine lv_bipush (v := (12 : Int32)) hx hb dL_law_99 (by decide) ?_
          obtain ⟨v101, hv_101, hf⟩ := bV_s hf
          refine q_count C hcs ⟨Nat.le_of_ble_eq_true rfl, Nat.le_of_ble_eq_true rfl⟩ hl hX gL_law_X10_count dL_law_101 hv_101 (Nat.le_of_ble_eq_true rfl) (fun H locs hX => ?_)
          refine lv_istore (lv' := [(9, .int v101), (8, .int v93), (6, .long v85), (5, .int v79), (4, .int v63), (0, .ref b), (1, .ref qc), (2, .int l2), (3, .int l3)]) hx hb dL_law_104 hl (by decide) rfl (fun ls hl => ?_)
          refine lv_iload_n hx hb dL_law_106 rfl (lv_at hl 8 rfl) ?_
          refine lv_if_ne (tgt := 114) hx hb dL_law_107 (by decide) (fun hc_107 => ?_) (fun hc_107 => ?_)
          · have hf := kneg hc_107 hf
            refine lv_iload_n hx hb dL_law_114 rfl (lv_at hl 8 rfl) ?_
            refine lv_iconst (v := (1 : Int32)) hx hb dL_law_115 (by decide) ?_
            refine lv_icmp_eq (tgt := 128) hx hb dL_law_116 (by decide) (fun hc_116 => ?_) (fun hc_116 => ?_)
            · have hf := kpos hc_116 hf
              exact B128 (l3) (v63) (v79) (v85) (v93) (v101) (g85) _ _ hX ls (lv_sub hl [5, 6, 8, 4, 3, 2, 1, 0] rfl) hf
            · have hf := kneg hc_116 hf
              refine lv_iload_n hx hb dL_law_119 rfl (lv_at hl 8 rfl) ?_
              refine lv_bipush (v := (9 : Int32)) hx hb dL_law_120 (by decide) ?_
              refine lv_irem hx hb dL_law_122 (by decide) ?_
              refine lv_bipush (v := (8 : Int32)) hx hb dL_law_123 (by decide) ?_
              refine lv_icmp_ne (tgt := 132) hx hb dL_law_125 (by decide) (fun hc_125 => ?_) (fun hc_125 => ?_)
              · have hf := kneg hc_125 hf
                refine lv_iload_n hx hb dL_law_132 rfl (lv_at hl 8 rfl) ?_
                refine lv_iconst (v := (3 : Int32)) hx hb dL_law_133 (by decide) ?_
                refine lv_irem hx hb dL_law_134 (by decide) ?_
                refine lv_if_ne (tgt := 143) hx hb dL_law_135 (by decide) (fun hc_135 => ?_) (fun hc_135 => ?_)
                · have hf := kneg hc_135 hf
                  refine lv_iload hx hb dL_law_143 (lv_at hl 4 rfl) ?_
                  refine lv_bipush (v := (12 : Int32)) hx hb dL_law_145 (by decide) ?_
                  obtain ⟨v147, hv_147, hf⟩ := bnd1_s hf
                  refine kLn C hX (r := v147) (fun hU => va_runS (As := [.int v63, .int (12 : Int32)]) (rest := []) ⟨hx, hb, hml, hown, hts⟩ (c_L_low l dC dI cy G H.size v63 (12 : Int32) v147 hv_147) (va_cwS 2 hts gL_law_L_low rfl rfl rfl hdL_low.2 ⟨Nat.le_of_ble_eq_true rfl, Nat.le_of_ble_eq_true rfl⟩) ⟨kBlind, fun U h1 h2 => ⟨rfl, hU U h1 h2⟩⟩ rfl rfl hl.1 rfl (lv_room (Nat.le_of_ble_eq_true rfl)) dL_law_147 ⟨hcs.1, hcs.2⟩) (fun H locs hX => ?_)
                  exact B150 (l3) (v63) (v79) (v85) (v93) (v101) (v147) (g85) _ _ hX ls (lv_sub hl [5, 6, 8, 4, 3, 2, 1, 0] rfl) hf
                · have hf := kpos hc_135 hf
                  refine lv_bipush (v := (9 : Int32)) hx hb dL_law_138 (by decide) ?_
                  refine lv_goto (tgt := 150) hx hb dL_law_140 (by decide) ?_
                  exact B150 (l3) (v63) (v79) (v85) (v93) (v101) ((9 : Int32)) (g85) _ _ hX ls (lv_sub hl [5, 6, 8, 4, 3, 2, 1, 0] rfl) hf
              · have hf := kpos hc_125 hf
                exact B128 (l3) (v63) (v79) (v85) (v93) (v101) (g85) _ _ hX ls (lv_sub hl [5, 6, 8, 4, 3, 2, 1, 0] rfl) hf
          · have hf := kpos hc_107 hf
            refine lv_iconst (v := (0 : Int32)) hx hb dL_law_110 (by decide) ?_
            refine lv_goto (tgt := 150) hx hb dL_law_111 (by decide) ?_
            exact B150 (l3) (v63) (v79) (v85) (v93) (v101) ((0 : Int32)) (g85) _ _ hX ls (lv_sub hl [5, 6, 8, 4, 3, 2, 1, 0] rfl) hf
  rw [f_L_law] at hf
  refine lv_astore_n (lv' := [(1, .ref qc), (0, .ref b)]) hx hb dL_law_7 rfl hl (by decide) rfl (fun ls hl => ?_)
  refine lv_aload_n hx hb dL_law_8 rfl (lv_at hl 0 rfl) ?_
  obtain ⟨v9, hv_9, hf⟩ := bV_s hf
  refine q_undo C hcs ⟨Nat.le_of_ble_eq_true rfl, Nat.le_of_ble_eq_true rfl⟩ hl hX gL_law_X10_undo dL_law_9 hv_9 (Nat.le_of_ble_eq_true rfl) (fun H locs hX => ?_)
  refine lv_bipush (v := (-2 : Int32)) hx hb dL_law_12 (by decide) ?_
  refine lv_icmp_ne (tgt := 45) hx hb dL_law_14 (by decide) (fun hc_14 => ?_) (fun hc_14 => ?_)
  · have hf := kneg hc_14 hf
    refine lv_iconst (v := (0 : Int32)) hx hb dL_law_45 (by decide) ?_
    refine lv_istore_n (lv' := [(2, .int (0 : Int32)), (1, .ref qc), (0, .ref b)]) hx hb dL_law_46 rfl hl (by decide) rfl (fun ls hl => ?_)
    refine lv_iconst (v := (0 : Int32)) hx hb dL_law_47 (by decide) ?_
    refine lv_istore_n (lv' := [(3, .int (0 : Int32)), (2, .int (0 : Int32)), (1, .ref qc), (0, .ref b)]) hx hb dL_law_48 rfl hl (by decide) rfl (fun ls hl => ?_)
    exact B49 N ((0 : Int32)) ((0 : Int32)) (v9.2) _ _ hX ls (lv_sub hl [3, 2, 1, 0] rfl) hf
  · have hf := kpos hc_14 hf
    refine lv_aload_n hx hb dL_law_17 rfl (lv_at hl 0 rfl) ?_
    obtain ⟨v18, g18, hv_18, hf⟩ := bnd2_s hf
    refine kLi C hX (r := v18) (g1 := g18) (fun ws hI hP hU => va_runS (As := [.ref qc]) (rest := []) ⟨hx, hb, hml, hown, hts⟩ (c_L_refused l dC dI cy G H.size qc ws N (v9.2)  (v18, g18) hI hv_18) (va_cwS 1 hts gL_law_L_refused rfl rfl rfl hdL_refused.2 ⟨Nat.le_of_ble_eq_true rfl, Nat.le_of_ble_eq_true rfl⟩) ⟨kBlind, fun U h1 h2 => ⟨rfl, hU U h1 h2⟩⟩ rfl rfl hl.1 rfl (lv_room (Nat.le_of_ble_eq_true rfl)) dL_law_18 ⟨hcs.1, hcs.2⟩) (fun H locs hX => ?_)
    refine lv_if_eq (tgt := 45) hx hb dL_law_21 (by decide) (fun hc_21 => ?_) (fun hc_21 => ?_)
    · have hf := kpos hc_21 hf
      refine lv_iconst (v := (0 : Int32)) hx hb dL_law_45 (by decide) ?_
      refine lv_istore_n (lv' := [(2, .int (0 : Int32)), (1, .ref qc), (0, .ref b)]) hx hb dL_law_46 rfl hl (by decide) rfl (fun ls hl => ?_)
      refine lv_iconst (v := (0 : Int32)) hx hb dL_law_47 (by decide) ?_
      refine lv_istore_n (lv' := [(3, .int (0 : Int32)), (2, .int (0 : Int32)), (1, .ref qc), (0, .ref b)]) hx hb dL_law_48 rfl hl (by decide) rfl (fun ls hl => ?_)
      exact B49 N ((0 : Int32)) ((0 : Int32)) (g18) _ _ hX ls (lv_sub hl [3, 2, 1, 0] rfl) hf
    · have hf := kneg hc_21 hf
      refine lv_aload_n hx hb dL_law_24 rfl (lv_at hl 0 rfl) ?_
      obtain ⟨v25, g25, hv_25, hf⟩ := bnd2_s hf
      refine kLi C hX (r := v25) (g1 := g25) (fun ws hI hP hU => va_runS (As := [.ref qc]) (rest := []) ⟨hx, hb, hml, hown, hts⟩ (c_L_areDoors l dC dI cy G H.size qc ws N g18  (v25, g25) hI hv_25) (va_cwS 1 hts gL_law_L_areDoors rfl rfl rfl hdL_areDoors.2 ⟨Nat.le_of_ble_eq_true rfl, Nat.le_of_ble_eq_true rfl⟩) ⟨kBlind, fun U h1 h2 => ⟨rfl, hU U h1 h2⟩⟩ rfl rfl hl.1 rfl (lv_room (Nat.le_of_ble_eq_true rfl)) dL_law_25 ⟨hcs.1, hcs.2⟩) (fun H locs hX => ?_)
      refine lv_if_eq (tgt := 45) hx hb dL_law_28 (by decide) (fun hc_28 => ?_) (fun hc_28 => ?_)
      · have hf := kpos hc_28 hf
        refine lv_iconst (v := (0 : Int32)) hx hb dL_law_45 (by decide) ?_
        refine lv_istore_n (lv' := [(2, .int (0 : Int32)), (1, .ref qc), (0, .ref b)]) hx hb dL_law_46 rfl hl (by decide) rfl (fun ls hl => ?_)
        refine lv_iconst (v := (0 : Int32)) hx hb dL_law_47 (by decide) ?_
        refine lv_istore_n (lv' := [(3, .int (0 : Int32)), (2, .int (0 : Int32)), (1, .ref qc), (0, .ref b)]) hx hb dL_law_48 rfl hl (by decide) rfl (fun ls hl => ?_)
        exact B49 N ((0 : Int32)) ((0 : Int32)) (g25) _ _ hX ls (lv_sub hl [3, 2, 1, 0] rfl) hf
      · have hf := kneg hc_28 hf
        refine lv_aload_n hx hb dL_law_31 rfl (lv_at hl 0 rfl) ?_
        refine lv_iconst (v := (0 : Int32)) hx hb dL_law_32 (by decide) ?_
        refine lv_bipush (v := (55 : Int32)) hx hb dL_law_33 (by decide) ?_
        obtain ⟨v35, g35, hv_35, hf⟩ := bnd2_s hf
        refine kLi C hX (r := v35) (g1 := g35) (fun ws hI hP hU => va_runS (As := [.ref qc, .int (0 : Int32), .int (55 : Int32)]) (rest := []) ⟨hx, hb, hml, hown, hts⟩ (c_L_areWays l dC dI cy G H.size qc ws N g25 (0 : Int32) (55 : Int32) (v35, g35) hI hv_35) (va_cwS 3 hts gL_law_L_areWays rfl rfl rfl hdL_areWays.2 ⟨Nat.le_of_ble_eq_true rfl, Nat.le_of_ble_eq_true rfl⟩) ⟨kBlind, fun U h1 h2 => ⟨rfl, hU U h1 h2⟩⟩ rfl rfl hl.1 rfl (lv_room (Nat.le_of_ble_eq_true rfl)) dL_law_35 ⟨hcs.1, hcs.2⟩) (fun H locs hX => ?_)
        refine lv_if_eq (tgt := 45) hx hb dL_law_38 (by decide) (fun hc_38 => ?_) (fun hc_38 => ?_)
        · have hf := kpos hc_38 hf
          refine lv_iconst (v := (0 : Int32)) hx hb dL_law_45 (by decide) ?_
          refine lv_istore_n (lv' := [(2, .int (0 : Int32)), (1, .ref qc), (0, .ref b)]) hx hb dL_law_46 rfl hl (by decide) rfl (fun ls hl => ?_)
          refine lv_iconst (v := (0 : Int32)) hx hb dL_law_47 (by decide) ?_
          refine lv_istore_n (lv' := [(3, .int (0 : Int32)), (2, .int (0 : Int32)), (1, .ref qc), (0, .ref b)]) hx hb dL_law_48 rfl hl (by decide) rfl (fun ls hl => ?_)
          exact B49 N ((0 : Int32)) ((0 : Int32)) (g35) _ _ hX ls (lv_sub hl [3, 2, 1, 0] rfl) hf
        · have hf := kneg hc_38 hf
          refine lv_iconst (v := (1 : Int32)) hx hb dL_law_41 (by decide) ?_
          refine lv_goto (tgt := 46) hx hb dL_law_42 (by decide) ?_
          refine lv_istore_n (lv' := [(2, .int (1 : Int32)), (1, .ref qc), (0, .ref b)]) hx hb dL_law_46 rfl hl (by decide) rfl (fun ls hl => ?_)
          refine lv_iconst (v := (0 : Int32)) hx hb dL_law_47 (by decide) ?_
          refine lv_istore_n (lv' := [(3, .int (0 : Int32)), (2, .int (1 : Int32)), (1, .ref qc), (0, .ref b)]) hx hb dL_law_48 rfl hl (by decide) rfl (fun ls hl => ?_)
          exact B49 N ((1 : Int32)) ((0 : Int32)) (g35) _ _ hX ls (lv_sub hl [3, 2, 1, 0] rfl) hf

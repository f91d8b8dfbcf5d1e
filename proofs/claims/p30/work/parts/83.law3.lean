-- contracts of the law's methods (written by wip/p30/genL.py)
abbrev rm_L_areDoors : Room := { frames := 7, cells := 0, slots := 0, locals := 157 }
set_option maxHeartbeats 8000000 in
set_option maxRecDepth 100000 in
theorem c_L_areDoors (l : Launch) (dC : Nat → ClassId) (dI : Nat → Nat → Nat) (cy : gC) (G : gT) (sz qc : Nat) (ws : va_W) (N : Nat) (g : gS) (out : Int32 × gS) (hI : IsW cy qc g ws) (hf : f_L_areDoors N g = some out) : Met l yL_areDoors wsL_areDoors rm_L_areDoors (va_Pc [.ref qc] (kP (dC, dI) cy G ws sz)) (va_Qi (fun r (_ : Unit) => r = out.1) (fun _ => kQX (dC, dI) cy qc out.2 (va_A ws sz)) (va_A ws sz)) 0 0 (va_A ws sz) := by
  refine Met.ofW (cc := cL_areDoors) (maxL := 14) (ret := (some .boolean)) (by decide) rfl ?_
  intro p e s m args below meth c s₁ B hml hv
  obtain ⟨rfl, hsz, hP, hK, hD0, hG⟩ := hv
  have hx := B.exec
  have hb := B.bytes
  have hr := B.returns
  have hts := atoms_spec (ws := wsL_areDoors) B.pre
  have hown : s.vm.findClass RL = some m.cls := findClass_of_methodNamed B.named
  have hlocks := B.notSynchronized
  subst hsz
  have hD := hD0.self (sz := s.heap.size)
  generalize hAe : va_A ws s.heap.size = A at hD hG ⊢
  have hA : ∀ q : Nat, s.heap.size ≤ q → A q := fun q h => by rw [← hAe]; exact Or.inr h
  have hX : WX dC dI cy qc A s g s.heap [] := ⟨ws, hI, hP, hD, va_S.rf⟩
  have C : CX p s m c ([.ref qc] : List Value).toArray cL_areDoors wsL_areDoors 14 A dC dI cy G := ⟨hx, hb, hml, hown, hts, hK, hG, hA⟩
  have hcs : 0 ≤ (headSpec wsL_areDoors rm_L_areDoors).room.cells ∧ 0 ≤ (headSpec wsL_areDoors rm_L_areDoors).room.slots := ⟨Nat.zero_le _, Nat.zero_le _⟩
  have hl := lv_entry ([.ref qc]) (n := 14) (Nat.le_of_ble_eq_true rfl)
  rw [lg_entry_eq]
  generalize (lg_sl ([.ref qc]) ++ List.replicate (14 - (lg_sl ([.ref qc])).length) Slot.unset).toArray = ls at hl ⊢
  have hl : lv_has ls 14 [(0, .ref qc)] := hl
  refine kgen (fun Q hQ => ?_)
  have hX0 := hX
  have B317 : ∀ (n317 : Nat) (l1 : Int32) (l2 : Int32) (l3 : Int32) (l4 : Int32) (l5 : Int32) (l6 : Int32) (l7 : Int32) (l8 : Int32) (l9 : Int32) (cg : gS) (H : Heap) (locs : List Loc), WX dC dI cy qc A s cg H locs → ∀ (ls : Array Slot), lv_has ls 14 [(0, .ref qc), (1, .int l1), (2, .int l2), (3, .int l3), (4, .int l4), (5, .int l5), (6, .int l6), (7, .int l7), (8, .int l8), (9, .int l9)] → b_L_areDoors_317 N n317 l1 l2 l3 l4 l5 l6 l7 l8 l9 cg = some out → W p l e (headSpec wsL_areDoors rm_L_areDoors).room s m ([.ref qc] : List Value).toArray below meth c H locs 0 0 Q (F0 m 317 ls []) := by
    intro n317
    induction n317 with
    | zero => intro l1 l2 l3 l4 l5 l6 l7 l8 l9 cg H locs hX ls hl hf; rw [b_L_areDoors_317] at hf; cases hf
    | succ n317 ih317 =>
      intro l1 l2 l3 l4 l5 l6 l7 l8 l9 cg H locs hX ls hl hf
      rw [b_L_areDoors_317] at hf
      refine lv_iload hx hb dL_areDoors_317 (lv_at hl 9 rfl) ?_
      refine lv_aload_n hx hb dL_areDoors_319 rfl (lv_at hl 0 rfl) ?_
      refine lv_iconst (v := (0 : Int32)) hx hb dL_areDoors_320 (by decide) ?_
      obtain ⟨v321, hv_321, hf⟩ := bV_s hf
      refine q_count C hcs ⟨Nat.le_of_ble_eq_true rfl, Nat.le_of_ble_eq_true rfl⟩ hl hX gL_areDoors_X10_count dL_areDoors_321 hv_321 (Nat.le_of_ble_eq_true rfl) (fun H locs hX => ?_)
      refine lv_icmp_ge (tgt := 395) hx hb dL_areDoors_324 (by decide) (fun hc_324 => ?_) (fun hc_324 => ?_)
      · have hf := kpos hc_324 hf
        refine lv_iload hx hb dL_areDoors_395 (lv_at hl 8 rfl) ?_
        refine lv_if_eq (tgt := 525) hx hb dL_areDoors_397 (by decide) (fun hc_397 => ?_) (fun hc_397 => ?_)
        · have hf := kpos hc_397 hf
          refine lv_iconst (v := (0 : Int32)) hx hb dL_areDoors_525 (by decide) ?_
          cases hf
          subst hQ
          exact kzretX C hr hlocks rfl hX rfl dL_areDoors_526
        · have hf := kneg hc_397 hf
          refine lv_iload_n hx hb dL_areDoors_400 rfl (lv_at hl 2 rfl) ?_
          refine lv_aload_n hx hb dL_areDoors_401 rfl (lv_at hl 0 rfl) ?_
          refine lv_iconst (v := (2 : Int32)) hx hb dL_areDoors_402 (by decide) ?_
          obtain ⟨v403, hv_403, hf⟩ := bV_s hf
          refine q_count C hcs ⟨Nat.le_of_ble_eq_true rfl, Nat.le_of_ble_eq_true rfl⟩ hl hX gL_areDoors_X10_count dL_areDoors_403 hv_403 (Nat.le_of_ble_eq_true rfl) (fun H locs hX => ?_)
          refine lv_icmp_ne (tgt := 525) hx hb dL_areDoors_406 (by decide) (fun hc_406 => ?_) (fun hc_406 => ?_)
          · have hf := kneg hc_406 hf
            refine lv_iconst (v := (0 : Int32)) hx hb dL_areDoors_525 (by decide) ?_
            cases hf
            subst hQ
            exact kzretX C hr hlocks rfl hX rfl dL_areDoors_526
          · have hf := kpos hc_406 hf
            refine lv_iload hx hb dL_areDoors_409 (lv_at hl 6 rfl) ?_
            refine lv_iload_n hx hb dL_areDoors_411 rfl (lv_at hl 1 rfl) ?_
            refine lv_iadd hx hb dL_areDoors_412 ?_
            refine lv_iload_n hx hb dL_areDoors_413 rfl (lv_at hl 2 rfl) ?_
            refine lv_icmp_ne (tgt := 525) hx hb dL_areDoors_414 (by decide) (fun hc_414 => ?_) (fun hc_414 => ?_)
            · have hf := kneg hc_414 hf
              refine lv_iconst (v := (0 : Int32)) hx hb dL_areDoors_525 (by decide) ?_
              cases hf
              subst hQ
              exact kzretX C hr hlocks rfl hX rfl dL_areDoors_526
            · have hf := kpos hc_414 hf
              refine lv_iload_n hx hb dL_areDoors_417 rfl (lv_at hl 3 rfl) ?_
              refine lv_iconst (v := (2 : Int32)) hx hb dL_areDoors_418 (by decide) ?_
              refine lv_aload_n hx hb dL_areDoors_419 rfl (lv_at hl 0 rfl) ?_
              refine lv_iconst (v := (4 : Int32)) hx hb dL_areDoors_420 (by decide) ?_
              obtain ⟨v421, hv_421, hf⟩ := bV_s hf
              refine q_count C hcs ⟨Nat.le_of_ble_eq_true rfl, Nat.le_of_ble_eq_true rfl⟩ hl hX gL_areDoors_X10_count dL_areDoors_421 hv_421 (Nat.le_of_ble_eq_true rfl) (fun H locs hX => ?_)
              refine lv_imul hx hb dL_areDoors_424 ?_
              refine lv_icmp_ne (tgt := 525) hx hb dL_areDoors_425 (by decide) (fun hc_425 => ?_) (fun hc_425 => ?_)
              · have hf := kneg hc_425 hf
                refine lv_iconst (v := (0 : Int32)) hx hb dL_areDoors_525 (by decide) ?_
                cases hf
                subst hQ
                exact kzretX C hr hlocks rfl hX rfl dL_areDoors_526
              · have hf := kpos hc_425 hf
                refine lv_aload_n hx hb dL_areDoors_428 rfl (lv_at hl 0 rfl) ?_
                refine lv_iconst (v := (4 : Int32)) hx hb dL_areDoors_429 (by decide) ?_
                obtain ⟨v430, hv_430, hf⟩ := bV_s hf
                refine q_count C hcs ⟨Nat.le_of_ble_eq_true rfl, Nat.le_of_ble_eq_true rfl⟩ hl hX gL_areDoors_X10_count dL_areDoors_430 hv_430 (Nat.le_of_ble_eq_true rfl) (fun H locs hX => ?_)
                refine lv_aload_n hx hb dL_areDoors_433 rfl (lv_at hl 0 rfl) ?_
                refine lv_iconst (v := (3 : Int32)) hx hb dL_areDoors_434 (by decide) ?_
                obtain ⟨v435, hv_435, hf⟩ := bV_s hf
                refine q_count C hcs ⟨Nat.le_of_ble_eq_true rfl, Nat.le_of_ble_eq_true rfl⟩ hl hX gL_areDoors_X10_count dL_areDoors_435 hv_435 (Nat.le_of_ble_eq_true rfl) (fun H locs hX => ?_)
                refine lv_icmp_gt (tgt := 525) hx hb dL_areDoors_438 (by decide) (fun hc_438 => ?_) (fun hc_438 => ?_)
                · have hf := kpos hc_438 hf
                  refine lv_iconst (v := (0 : Int32)) hx hb dL_areDoors_525 (by decide) ?_
                  cases hf
                  subst hQ
                  exact kzretX C hr hlocks rfl hX rfl dL_areDoors_526
                · have hf := kneg hc_438 hf
                  refine lv_iload hx hb dL_areDoors_441 (lv_at hl 4 rfl) ?_
                  refine lv_aload_n hx hb dL_areDoors_443 rfl (lv_at hl 0 rfl) ?_
                  refine lv_bipush (v := (8 : Int32)) hx hb dL_areDoors_444 (by decide) ?_
                  obtain ⟨v446, hv_446, hf⟩ := bV_s hf
                  refine q_count C hcs ⟨Nat.le_of_ble_eq_true rfl, Nat.le_of_ble_eq_true rfl⟩ hl hX gL_areDoors_X10_count dL_areDoors_446 hv_446 (Nat.le_of_ble_eq_true rfl) (fun H locs hX => ?_)
                  refine lv_icmp_ne (tgt := 525) hx hb dL_areDoors_449 (by decide) (fun hc_449 => ?_) (fun hc_449 => ?_)
                  · have hf := kneg hc_449 hf
                    refine lv_iconst (v := (0 : Int32)) hx hb dL_areDoors_525 (by decide) ?_
                    cases hf
                    subst hQ
                    exact kzretX C hr hlocks rfl hX rfl dL_areDoors_526
                  · have hf := kpos hc_449 hf
                    refine lv_iload hx hb dL_areDoors_452 (lv_at hl 5 rfl) ?_
                    refine lv_aload_n hx hb dL_areDoors_454 rfl (lv_at hl 0 rfl) ?_
                    refine lv_bipush (v := (9 : Int32)) hx hb dL_areDoors_455 (by decide) ?_
                    obtain ⟨v457, hv_457, hf⟩ := bV_s hf
                    refine q_count C hcs ⟨Nat.le_of_ble_eq_true rfl, Nat.le_of_ble_eq_true rfl⟩ hl hX gL_areDoors_X10_count dL_areDoors_457 hv_457 (Nat.le_of_ble_eq_true rfl) (fun H locs hX => ?_)
                    refine lv_icmp_ne (tgt := 525) hx hb dL_areDoors_460 (by decide) (fun hc_460 => ?_) (fun hc_460 => ?_)
                    · have hf := kneg hc_460 hf
                      refine lv_iconst (v := (0 : Int32)) hx hb dL_areDoors_525 (by decide) ?_
                      cases hf
                      subst hQ
                      exact kzretX C hr hlocks rfl hX rfl dL_areDoors_526
                    · have hf := kpos hc_460 hf
                      refine lv_iload hx hb dL_areDoors_463 (lv_at hl 7 rfl) ?_
                      refine lv_aload_n hx hb dL_areDoors_465 rfl (lv_at hl 0 rfl) ?_
                      refine lv_iconst (v := (5 : Int32)) hx hb dL_areDoors_466 (by decide) ?_
                      obtain ⟨v467, hv_467, hf⟩ := bV_s hf
                      refine q_count C hcs ⟨Nat.le_of_ble_eq_true rfl, Nat.le_of_ble_eq_true rfl⟩ hl hX gL_areDoors_X10_count dL_areDoors_467 hv_467 (Nat.le_of_ble_eq_true rfl) (fun H locs hX => ?_)
                      refine lv_icmp_ne (tgt := 525) hx hb dL_areDoors_470 (by decide) (fun hc_470 => ?_) (fun hc_470 => ?_)
                      · have hf := kneg hc_470 hf
                        refine lv_iconst (v := (0 : Int32)) hx hb dL_areDoors_525 (by decide) ?_
                        cases hf
                        subst hQ
                        exact kzretX C hr hlocks rfl hX rfl dL_areDoors_526
                      · have hf := kpos hc_470 hf
                        refine lv_aload_n hx hb dL_areDoors_473 rfl (lv_at hl 0 rfl) ?_
                        refine lv_bipush (v := (6 : Int32)) hx hb dL_areDoors_474 (by decide) ?_
                        obtain ⟨v476, hv_476, hf⟩ := bV_s hf
                        refine q_count C hcs ⟨Nat.le_of_ble_eq_true rfl, Nat.le_of_ble_eq_true rfl⟩ hl hX gL_areDoors_X10_count dL_areDoors_476 hv_476 (Nat.le_of_ble_eq_true rfl) (fun H locs hX => ?_)
                        refine lv_aload_n hx hb dL_areDoors_479 rfl (lv_at hl 0 rfl) ?_
                        refine lv_iconst (v := (4 : Int32)) hx hb dL_areDoors_480 (by decide) ?_
                        obtain ⟨v481, hv_481, hf⟩ := bV_s hf
                        refine q_count C hcs ⟨Nat.le_of_ble_eq_true rfl, Nat.le_of_ble_eq_true rfl⟩ hl hX gL_areDoors_X10_count dL_areDoors_481 hv_481 (Nat.le_of_ble_eq_true rfl) (fun H locs hX => ?_)
                        refine lv_iload_n hx hb dL_areDoors_484 rfl (lv_at hl 2 rfl) ?_
                        refine lv_isub hx hb dL_areDoors_485 ?_
                        refine lv_iload hx hb dL_areDoors_486 (lv_at hl 7 rfl) ?_
                        refine lv_iadd hx hb dL_areDoors_488 ?_
                        refine lv_icmp_ne (tgt := 525) hx hb dL_areDoors_489 (by decide) (fun hc_489 => ?_) (fun hc_489 => ?_)
                        · have hf := kneg hc_489 hf
                          refine lv_iconst (v := (0 : Int32)) hx hb dL_areDoors_525 (by decide) ?_
                          cases hf
                          subst hQ
                          exact kzretX C hr hlocks rfl hX rfl dL_areDoors_526
                        · have hf := kpos hc_489 hf
                          refine lv_aload_n hx hb dL_areDoors_492 rfl (lv_at hl 0 rfl) ?_
                          refine lv_bipush (v := (7 : Int32)) hx hb dL_areDoors_493 (by decide) ?_
                          obtain ⟨v495, hv_495, hf⟩ := bV_s hf
                          refine q_count C hcs ⟨Nat.le_of_ble_eq_true rfl, Nat.le_of_ble_eq_true rfl⟩ hl hX gL_areDoors_X10_count dL_areDoors_495 hv_495 (Nat.le_of_ble_eq_true rfl) (fun H locs hX => ?_)
                          refine lv_iload hx hb dL_areDoors_498 (lv_at hl 7 rfl) ?_
                          refine lv_iconst (v := (1 : Int32)) hx hb dL_areDoors_500 (by decide) ?_
                          refine lv_icmp_ne (tgt := 517) hx hb dL_areDoors_501 (by decide) (fun hc_501 => ?_) (fun hc_501 => ?_)
                          · have hf := kneg hc_501 hf
                            refine lv_iconst (v := (0 : Int32)) hx hb dL_areDoors_517 (by decide) ?_
                            refine lv_icmp_ne (tgt := 525) hx hb dL_areDoors_518 (by decide) (fun hc_518 => ?_) (fun hc_518 => ?_)
                            · have hf := kneg hc_518 hf
                              refine lv_iconst (v := (0 : Int32)) hx hb dL_areDoors_525 (by decide) ?_
                              cases hf
                              subst hQ
                              exact kzretX C hr hlocks rfl hX rfl dL_areDoors_526
                            · have hf := kpos hc_518 hf
                              refine lv_iconst (v := (1 : Int32)) hx hb dL_areDoors_521 (by decide) ?_
                              refine lv_goto (tgt := 526) hx hb dL_areDoors_522 (by decide) ?_
                              cases hf
                              subst hQ
                              exact kzretX C hr hlocks rfl hX rfl dL_areDoors_526
                          · have hf := kpos hc_501 hf
                            refine lv_aload_n hx hb dL_areDoors_504 rfl (lv_at hl 0 rfl) ?_
                            refine lv_bipush (v := (6 : Int32)) hx hb dL_areDoors_505 (by decide) ?_
                            obtain ⟨v507, hv_507, hf⟩ := bV_s hf
                            refine q_count C hcs ⟨Nat.le_of_ble_eq_true rfl, Nat.le_of_ble_eq_true rfl⟩ hl hX gL_areDoors_X10_count dL_areDoors_507 hv_507 (Nat.le_of_ble_eq_true rfl) (fun H locs hX => ?_)
                            refine lv_if_ne (tgt := 517) hx hb dL_areDoors_510 (by decide) (fun hc_510 => ?_) (fun hc_510 => ?_)
                            · have hf := kneg hc_510 hf
                              refine lv_iconst (v := (0 : Int32)) hx hb dL_areDoors_517 (by decide) ?_
                              refine lv_icmp_ne (tgt := 525) hx hb dL_areDoors_518 (by decide) (fun hc_518 => ?_) (fun hc_518 => ?_)
                              · have hf := kneg hc_518 hf
                                refine lv_iconst (v := (0 : Int32)) hx hb dL_areDoors_525 (by decide) ?_
                                cases hf
                                subst hQ
                                exact kzretX C hr hlocks rfl hX rfl dL_areDoors_526
                              · have hf := kpos hc_518 hf
                                refine lv_iconst (v := (1 : Int32)) hx hb dL_areDoors_521 (by decide) ?_
                                refine lv_goto (tgt := 526) hx hb dL_areDoors_522 (by decide) ?_
                                cases hf
                                subst hQ
                                exact kzretX C hr hlocks rfl hX rfl dL_areDoors_526
                            · have hf := kpos hc_510 hf
                              refine lv_iconst (v := (1 : Int32)) hx hb dL_areDoors_513 (by decide) ?_
                              refine lv_goto (tgt := 518) hx hb dL_areDoors_514 (by decide) ?_
                              refine lv_icmp_ne (tgt := 525) hx hb dL_areDoors_518 (by decide) (fun hc_518 => ?_) (fun hc_518 => ?_)
                              · have hf := kneg hc_518 hf
                                refine lv_iconst (v := (0 : Int32)) hx hb dL_areDoors_525 (by decide) ?_
                                cases hf
                                subst hQ
                                exact kzretX C hr hlocks rfl hX rfl dL_areDoors_526
                              · have hf := kpos hc_518 hf
                                refine lv_iconst (v := (1 : Int32)) hx hb dL_areDoors_521 (by decide) ?_
                                refine lv_goto (tgt := 526) hx hb dL_areDoors_522 (by decide) ?_
                                cases hf
                                subst hQ
                                exact kzretX C hr hlocks rfl hX rfl dL_areDoors_526
      · have hf := kneg hc_324 hf
        refine lv_iload hx hb dL_areDoors_327 (lv_at hl 6 rfl) ?_
        refine lv_aload_n hx hb dL_areDoors_329 rfl (lv_at hl 0 rfl) ?_
        refine lv_iload hx hb dL_areDoors_330 (lv_at hl 9 rfl) ?_
        refine lv_iconst (v := (1 : Int32)) hx hb dL_areDoors_332 (by decide) ?_
        obtain ⟨v333, hv_333, hf⟩ := bV_s hf
        refine q_letter C hcs ⟨Nat.le_of_ble_eq_true rfl, Nat.le_of_ble_eq_true rfl⟩ hl hX gL_areDoors_X10_letter dL_areDoors_333 hv_333 (Nat.le_of_ble_eq_true rfl) (fun H locs hX => ?_)
        refine lv_iadd hx hb dL_areDoors_336 ?_
        refine lv_istore (lv' := [(6, .int (l6 + v333)), (0, .ref qc), (1, .int l1), (2, .int l2), (3, .int l3), (4, .int l4), (5, .int l5), (7, .int l7), (8, .int l8), (9, .int l9)]) hx hb dL_areDoors_337 hl (by decide) rfl (fun ls hl => ?_)
        refine lv_iload hx hb dL_areDoors_339 (lv_at hl 8 rfl) ?_
        refine lv_if_eq (tgt := 386) hx hb dL_areDoors_341 (by decide) (fun hc_341 => ?_) (fun hc_341 => ?_)
        · have hf := kpos hc_341 hf
          refine lv_iconst (v := (0 : Int32)) hx hb dL_areDoors_386 (by decide) ?_
          refine lv_istore (lv' := [(8, .int (0 : Int32)), (6, .int (l6 + v333)), (0, .ref qc), (1, .int l1), (2, .int l2), (3, .int l3), (4, .int l4), (5, .int l5), (7, .int l7), (9, .int l9)]) hx hb dL_areDoors_387 hl (by decide) rfl (fun ls hl => ?_)
          refine lv_iinc (v := (l9 + (1 : Int32))) (lv' := [(9, .int (l9 + (1 : Int32))), (8, .int (0 : Int32)), (6, .int (l6 + v333)), (0, .ref qc), (1, .int l1), (2, .int l2), (3, .int l3), (4, .int l4), (5, .int l5), (7, .int l7)]) hx hb dL_areDoors_389 hl (k := 9) rfl rfl (by decide) rfl (fun ls hl => ?_)
          refine lv_goto (tgt := 317) hx hb dL_areDoors_392 (by decide) ?_
          exact ih317 (l1) (l2) (l3) (l4) (l5) ((l6 + v333)) (l7) ((0 : Int32)) ((l9 + (1 : Int32))) (cg) _ _ hX ls (lv_sub hl [3, 4, 5, 6, 7, 8, 2, 9, 1, 0] rfl) hf
        · have hf := kneg hc_341 hf
          refine lv_aload_n hx hb dL_areDoors_344 rfl (lv_at hl 1 rfl) ?_
          refine lv_iload hx hb dL_areDoors_345 (lv_at hl 9 rfl) ?_
          refine lv_iconst (v := (3 : Int32)) hx hb dL_areDoors_347 (by decide) ?_
          obtain ⟨v348, hv_348, hf⟩ := bV_s hf
          refine q_letter C hcs ⟨Nat.le_of_ble_eq_true rfl, Nat.le_of_ble_eq_true rfl⟩ hl hX gL_areDoors_X10_letter dL_areDoors_348 hv_348 (Nat.le_of_ble_eq_true rfl) (fun H locs hX => ?_)
          refine lv_aload_n hx hb dL_areDoors_351 rfl (lv_at hl 1 rfl) ?_
          refine lv_iload hx hb dL_areDoors_352 (lv_at hl 9 rfl) ?_
          refine lv_iconst (v := (2 : Int32)) hx hb dL_areDoors_354 (by decide) ?_
          obtain ⟨v355, hv_355, hf⟩ := bV_s hf
          refine q_letter C hcs ⟨Nat.le_of_ble_eq_true rfl, Nat.le_of_ble_eq_true rfl⟩ hl hX gL_areDoors_X10_letter dL_areDoors_355 hv_355 (Nat.le_of_ble_eq_true rfl) (fun H locs hX => ?_)
          refine lv_icmp_gt (tgt := 386) hx hb dL_areDoors_358 (by decide) (fun hc_358 => ?_) (fun hc_358 => ?_)
          · have hf := kpos hc_358 hf
            refine lv_iconst (v := (0 : Int32)) hx hb dL_areDoors_386 (by decide) ?_
            refine lv_istore (lv' := [(8, .int (0 : Int32)), (6, .int (l6 + v333)), (0, .ref qc), (1, .int l1), (2, .int l2), (3, .int l3), (4, .int l4), (5, .int l5), (7, .int l7), (9, .int l9)]) hx hb dL_areDoors_387 hl (by decide) rfl (fun ls hl => ?_)
            refine lv_iinc (v := (l9 + (1 : Int32))) (lv' := [(9, .int (l9 + (1 : Int32))), (8, .int (0 : Int32)), (6, .int (l6 + v333)), (0, .ref qc), (1, .int l1), (2, .int l2), (3, .int l3), (4, .int l4), (5, .int l5), (7, .int l7)]) hx hb dL_areDoors_389 hl (k := 9) rfl rfl (by decide) rfl (fun ls hl => ?_)
            refine lv_goto (tgt := 317) hx hb dL_areDoors_392 (by decide) ?_
            exact ih317 (l1) (l2) (l3) (l4) (l5) ((l6 + v333)) (l7) ((0 : Int32)) ((l9 + (1 : Int32))) (cg) _ _ hX ls (lv_sub hl [3, 4, 5, 6, 7, 8, 2, 9, 1, 0] rfl) hf
          · have hf := kneg hc_358 hf
            refine lv_aload_n hx hb dL_areDoors_361 rfl (lv_at hl 1 rfl) ?_
            refine lv_iload hx hb dL_areDoors_362 (lv_at hl 9 rfl) ?_
            refine lv_iconst (v := (4 : Int32)) hx hb dL_areDoors_364 (by decide) ?_
            obtain ⟨v365, hv_365, hf⟩ := bV_s hf
            refine q_letter C hcs ⟨Nat.le_of_ble_eq_true rfl, Nat.le_of_ble_eq_true rfl⟩ hl hX gL_areDoors_X10_letter dL_areDoors_365 hv_365 (Nat.le_of_ble_eq_true rfl) (fun H locs hX => ?_)
            refine lv_if_lt (tgt := 386) hx hb dL_areDoors_368 (by decide) (fun hc_368 => ?_) (fun hc_368 => ?_)
            · have hf := kpos hc_368 hf
              refine lv_iconst (v := (0 : Int32)) hx hb dL_areDoors_386 (by decide) ?_
              refine lv_istore (lv' := [(8, .int (0 : Int32)), (6, .int (l6 + v333)), (0, .ref qc), (1, .int l1), (2, .int l2), (3, .int l3), (4, .int l4), (5, .int l5), (7, .int l7), (9, .int l9)]) hx hb dL_areDoors_387 hl (by decide) rfl (fun ls hl => ?_)
              refine lv_iinc (v := (l9 + (1 : Int32))) (lv' := [(9, .int (l9 + (1 : Int32))), (8, .int (0 : Int32)), (6, .int (l6 + v333)), (0, .ref qc), (1, .int l1), (2, .int l2), (3, .int l3), (4, .int l4), (5, .int l5), (7, .int l7)]) hx hb dL_areDoors_389 hl (k := 9) rfl rfl (by decide) rfl (fun ls hl => ?_)
              refine lv_goto (tgt := 317) hx hb dL_areDoors_392 (by decide) ?_
              exact ih317 (l1) (l2) (l3) (l4) (l5) ((l6 + v333)) (l7) ((0 : Int32)) ((l9 + (1 : Int32))) (cg) _ _ hX ls (lv_sub hl [3, 4, 5, 6, 7, 8, 2, 9, 1, 0] rfl) hf
            · have hf := kneg hc_368 hf
              refine lv_aload_n hx hb dL_areDoors_371 rfl (lv_at hl 1 rfl) ?_
              refine lv_iload hx hb dL_areDoors_372 (lv_at hl 9 rfl) ?_
              refine lv_iconst (v := (4 : Int32)) hx hb dL_areDoors_374 (by decide) ?_
              obtain ⟨v375, hv_375, hf⟩ := bV_s hf
              refine q_letter C hcs ⟨Nat.le_of_ble_eq_true rfl, Nat.le_of_ble_eq_true rfl⟩ hl hX gL_areDoors_X10_letter dL_areDoors_375 hv_375 (Nat.le_of_ble_eq_true rfl) (fun H locs hX => ?_)
              refine lv_iconst (v := (5 : Int32)) hx hb dL_areDoors_378 (by decide) ?_
              refine lv_icmp_gt (tgt := 386) hx hb dL_areDoors_379 (by decide) (fun hc_379 => ?_) (fun hc_379 => ?_)
              · have hf := kpos hc_379 hf
                refine lv_iconst (v := (0 : Int32)) hx hb dL_areDoors_386 (by decide) ?_
                refine lv_istore (lv' := [(8, .int (0 : Int32)), (6, .int (l6 + v333)), (0, .ref qc), (1, .int l1), (2, .int l2), (3, .int l3), (4, .int l4), (5, .int l5), (7, .int l7), (9, .int l9)]) hx hb dL_areDoors_387 hl (by decide) rfl (fun ls hl => ?_)
                refine lv_iinc (v := (l9 + (1 : Int32))) (lv' := [(9, .int (l9 + (1 : Int32))), (8, .int (0 : Int32)), (6, .int (l6 + v333)), (0, .ref qc), (1, .int l1), (2, .int l2), (3, .int l3), (4, .int l4), (5, .int l5), (7, .int l7)]) hx hb dL_areDoors_389 hl (k := 9) rfl rfl (by decide) rfl (fun ls hl => ?_)
                refine lv_goto (tgt := 317) hx hb dL_areDoors_392 (by decide) ?_
                exact ih317 (l1) (l2) (l3) (l4) (l5) ((l6 + v333)) (l7) ((0 : Int32)) ((l9 + (1 : Int32))) (cg) _ _ hX ls (lv_sub hl [3, 4, 5, 6, 7, 8, 2, 9, 1, 0] rfl) hf
              · have hf := kneg hc_379 hf
                refine lv_iconst (v := (1 : Int32)) hx hb dL_areDoors_382 (by decide) ?_
                refine lv_goto (tgt := 387) hx hb dL_areDoors_383 (by decide) ?_
                refine lv_istore (lv' := [(8, .int (1 : Int32)), (6, .int (l6 + v333)), (0, .ref qc), (1, .int l1), (2, .int l2), (3, .int l3), (4, .int l4), (5, .int l5), (7, .int l7), (9, .int l9)]) hx hb dL_areDoors_387 hl (by decide) rfl (fun ls hl => ?_)
                refine lv_iinc (v := (l9 + (1 : Int32))) (lv' := [(9, .int (l9 + (1 : Int32))), (8, .int (1 : Int32)), (6, .int (l6 + v333)), (0, .ref qc), (1, .int l1), (2, .int l2), (3, .int l3), (4, .int l4), (5, .int l5), (7, .int l7)]) hx hb dL_areDoors_389 hl (k := 9) rfl rfl (by decide) rfl (fun ls hl => ?_)
                refine lv_goto (tgt := 317) hx hb dL_areDoors_392 (by decide) ?_
                exact ih317 (l1) (l2) (l3) (l4) (l5) ((l6 + v333)) (l7) ((1 : Int32)) ((l9 + (1 : Int32))) (cg) _ _ hX ls (lv_sub hl [3, 4, 5, 6, 7, 8, 2, 9, 1, 0] rfl) hf
  have B46 : ∀ (n46 : Nat) (l1 : Int32) (l2 : Int32) (l3 : Int32) (l4 : Int32) (l5 : Int32) (l6 : Int32) (l7 : Int32) (l8 : Int32) (l9 : Int32) (cg : gS) (H : Heap) (locs : List Loc), WX dC dI cy qc A s cg H locs → ∀ (ls : Array Slot), lv_has ls 14 [(0, .ref qc), (1, .int l1), (2, .int l2), (3, .int l3), (4, .int l4), (5, .int l5), (6, .int l6), (7, .int l7), (8, .int l8), (9, .int l9)] → b_L_areDoors_46 N n46 l1 l2 l3 l4 l5 l6 l7 l8 l9 cg = some out → W p l e (headSpec wsL_areDoors rm_L_areDoors).room s m ([.ref qc] : List Value).toArray below meth c H locs 0 0 Q (F0 m 46 ls []) := by
    intro n46
    induction n46 with
    | zero => intro l1 l2 l3 l4 l5 l6 l7 l8 l9 cg H locs hX ls hl hf; rw [b_L_areDoors_46] at hf; cases hf
    | succ n46 ih46 =>
      have B215 : ∀ (n215 : Nat) (l1 : Int32) (l2 : Int32) (l3 : Int32) (l4 : Int32) (l5 : Int32) (l6 : Int32) (l7 : Int32) (l8 : Int32) (l9 : Int32) (l10 : Int32) (l11 : Int32) (l12 : Int32) (cg : gS) (H : Heap) (locs : List Loc), WX dC dI cy qc A s cg H locs → ∀ (ls : Array Slot), lv_has ls 14 [(0, .ref qc), (1, .int l1), (2, .int l2), (3, .int l3), (4, .int l4), (5, .int l5), (6, .int l6), (7, .int l7), (8, .int l8), (9, .int l9), (10, .int l10), (11, .int l11), (12, .int l12)] → b_L_areDoors_215 N (b_L_areDoors_46 N n46) n215 l1 l2 l3 l4 l5 l6 l7 l8 l9 l10 l11 l12 cg = some out → W p l e (headSpec wsL_areDoors rm_L_areDoors).room s m ([.ref qc] : List Value).toArray below meth c H locs 0 0 Q (F0 m 215 ls []) := by
        intro n215
        induction n215 with
        | zero => intro l1 l2 l3 l4 l5 l6 l7 l8 l9 l10 l11 l12 cg H locs hX ls hl hf; rw [b_L_areDoors_215] at hf; cases hf
        | succ n215 ih215 =>
          intro l1 l2 l3 l4 l5 l6 l7 l8 l9 l10 l11 l12 cg H locs hX ls hl hf
          rw [b_L_areDoors_215] at hf
          refine lv_iload hx hb dL_areDoors_215 (lv_at hl 12 rfl) ?_
          refine lv_iconst (v := (4 : Int32)) hx hb dL_areDoors_217 (by decide) ?_
          refine lv_icmp_ge (tgt := 308) hx hb dL_areDoors_218 (by decide) (fun hc_218 => ?_) (fun hc_218 => ?_)
          · have hf := kpos hc_218 hf
            refine lv_iinc (v := (l9 + (1 : Int32))) (lv' := [(9, .int (l9 + (1 : Int32))), (0, .ref qc), (1, .int l1), (2, .int l2), (3, .int l3), (4, .int l4), (5, .int l5), (6, .int l6), (7, .int l7), (8, .int l8), (10, .int l10), (11, .int l11), (12, .int l12)]) hx hb dL_areDoors_308 hl (k := 9) rfl rfl (by decide) rfl (fun ls hl => ?_)
            refine lv_goto (tgt := 46) hx hb dL_areDoors_311 (by decide) ?_
            exact ih46 (l1) (l2) (l3) (l4) (l5) (l6) (l7) (l8) ((l9 + (1 : Int32))) (cg) _ _ hX ls (lv_sub hl [1, 2, 3, 4, 5, 6, 7, 8, 9, 0] rfl) hf
          · have hf := kneg hc_218 hf
            refine lv_iload hx hb dL_areDoors_221 (lv_at hl 8 rfl) ?_
            refine lv_if_eq (tgt := 308) hx hb dL_areDoors_223 (by decide) (fun hc_223 => ?_) (fun hc_223 => ?_)
            · have hf := kpos hc_223 hf
              refine lv_iinc (v := (l9 + (1 : Int32))) (lv' := [(9, .int (l9 + (1 : Int32))), (0, .ref qc), (1, .int l1), (2, .int l2), (3, .int l3), (4, .int l4), (5, .int l5), (6, .int l6), (7, .int l7), (8, .int l8), (10, .int l10), (11, .int l11), (12, .int l12)]) hx hb dL_areDoors_308 hl (k := 9) rfl rfl (by decide) rfl (fun ls hl => ?_)
              refine lv_goto (tgt := 46) hx hb dL_areDoors_311 (by decide) ?_
              exact ih46 (l1) (l2) (l3) (l4) (l5) (l6) (l7) (l8) ((l9 + (1 : Int32))) (cg) _ _ hX ls (lv_sub hl [1, 2, 3, 4, 5, 6, 7, 8, 9, 0] rfl) hf
            · have hf := kneg hc_223 hf
              refine lv_iload hx hb dL_areDoors_226 (lv_at hl 10 rfl) ?_
              refine lv_if_eq (tgt := 308) hx hb dL_areDoors_228 (by decide) (fun hc_228 => ?_) (fun hc_228 => ?_)
              · have hf := kpos hc_228 hf
                refine lv_iinc (v := (l9 + (1 : Int32))) (lv' := [(9, .int (l9 + (1 : Int32))), (0, .ref qc), (1, .int l1), (2, .int l2), (3, .int l3), (4, .int l4), (5, .int l5), (6, .int l6), (7, .int l7), (8, .int l8), (10, .int l10), (11, .int l11), (12, .int l12)]) hx hb dL_areDoors_308 hl (k := 9) rfl rfl (by decide) rfl (fun ls hl => ?_)
                refine lv_goto (tgt := 46) hx hb dL_areDoors_311 (by decide) ?_
                exact ih46 (l1) (l2) (l3) (l4) (l5) (l6) (l7) (l8) ((l9 + (1 : Int32))) (cg) _ _ hX ls (lv_sub hl [1, 2, 3, 4, 5, 6, 7, 8, 9, 0] rfl) hf
              · have hf := kneg hc_228 hf
                refine lv_iload_n hx hb dL_areDoors_231 rfl (lv_at hl 1 rfl) ?_
                refine lv_iload hx hb dL_areDoors_232 (lv_at hl 9 rfl) ?_
                refine lv_iload hx hb dL_areDoors_234 (lv_at hl 12 rfl) ?_
                obtain ⟨v236, hv_236, hf⟩ := bV_s hf
                refine kLn C hX (r := v236) (fun hU => va_runS (As := [.int l1, .int l9, .int l12]) (rest := []) ⟨hx, hb, hml, hown, hts⟩ (c_L_beside l dC dI cy G H.size l1 l9 l12 v236 ((tot_L_beside l1 l9 l12).trans (congrArg some hv_236))) (va_cwS 3 hts gL_areDoors_L_beside rfl rfl rfl hdL_beside.2 ⟨Nat.le_of_ble_eq_true rfl, Nat.le_of_ble_eq_true rfl⟩) ⟨kBlind, fun U h1 h2 => ⟨rfl, hU U h1 h2⟩⟩ rfl rfl hl.1 rfl (lv_room (Nat.le_of_ble_eq_true rfl)) dL_areDoors_236 ⟨hcs.1, hcs.2⟩) (fun H locs hX => ?_)
                refine lv_istore (lv' := [(13, .int v236), (0, .ref qc), (1, .int l1), (2, .int l2), (3, .int l3), (4, .int l4), (5, .int l5), (6, .int l6), (7, .int l7), (8, .int l8), (9, .int l9), (10, .int l10), (11, .int l11), (12, .int l12)]) hx hb dL_areDoors_239 hl (by decide) rfl (fun ls hl => ?_)
                refine lv_iload hx hb dL_areDoors_241 (lv_at hl 12 rfl) ?_
                refine lv_iload hx hb dL_areDoors_243 (lv_at hl 13 rfl) ?_
                refine lv_ishr hx hb dL_areDoors_245 ?_
                refine lv_iconst (v := (1 : Int32)) hx hb dL_areDoors_246 (by decide) ?_
                refine lv_iand hx hb dL_areDoors_247 ?_
                refine lv_if_eq (tgt := 295) hx hb dL_areDoors_248 (by decide) (fun hc_248 => ?_) (fun hc_248 => ?_)
                · have hf := kpos hc_248 hf
                  refine lv_iconst (v := (1 : Int32)) hx hb dL_areDoors_295 (by decide) ?_
                  refine lv_goto (tgt := 300) hx hb dL_areDoors_296 (by decide) ?_
                  refine lv_istore (lv' := [(8, .int (1 : Int32)), (13, .int v236), (0, .ref qc), (1, .int l1), (2, .int l2), (3, .int l3), (4, .int l4), (5, .int l5), (6, .int l6), (7, .int l7), (9, .int l9), (10, .int l10), (11, .int l11), (12, .int l12)]) hx hb dL_areDoors_300 hl (by decide) rfl (fun ls hl => ?_)
                  refine lv_iinc (v := (l12 + (1 : Int32))) (lv' := [(12, .int (l12 + (1 : Int32))), (8, .int (1 : Int32)), (13, .int v236), (0, .ref qc), (1, .int l1), (2, .int l2), (3, .int l3), (4, .int l4), (5, .int l5), (6, .int l6), (7, .int l7), (9, .int l9), (10, .int l10), (11, .int l11)]) hx hb dL_areDoors_302 hl (k := 13) rfl rfl (by decide) rfl (fun ls hl => ?_)
                  refine lv_goto (tgt := 215) hx hb dL_areDoors_305 (by decide) ?_
                  exact ih215 (l1) (l2) (l3) (l4) (l5) (l6) (l7) ((1 : Int32)) (l9) (l10) (l11) ((l12 + (1 : Int32))) (cg) _ _ hX ls (lv_sub hl [3, 4, 5, 6, 7, 8, 9, 10, 1, 11, 12, 13, 0] rfl) hf
                · have hf := kneg hc_248 hf
                  refine lv_aload_n hx hb dL_areDoors_251 rfl (lv_at hl 1 rfl) ?_
                  refine lv_iload hx hb dL_areDoors_252 (lv_at hl 0 rfl) ?_
                  obtain ⟨v254, hv_254, hf⟩ := bV_s hf
                  refine q_isRoom C hcs ⟨Nat.le_of_ble_eq_true rfl, Nat.le_of_ble_eq_true rfl⟩ hl hX gL_areDoors_X10_isRoom dL_areDoors_254 hv_254 (Nat.le_of_ble_eq_true rfl) (fun H locs hX => ?_)
                  refine lv_iconst (v := (1 : Int32)) hx hb dL_areDoors_257 (by decide) ?_
                  refine lv_icmp_ne (tgt := 299) hx hb dL_areDoors_258 (by decide) (fun hc_258 => ?_) (fun hc_258 => ?_)
                  · have hf := kneg hc_258 hf
                    refine lv_iconst (v := (0 : Int32)) hx hb dL_areDoors_299 (by decide) ?_
                    refine lv_istore (lv' := [(8, .int (0 : Int32)), (13, .int v236), (0, .ref qc), (1, .int l1), (2, .int l2), (3, .int l3), (4, .int l4), (5, .int l5), (6, .int l6), (7, .int l7), (9, .int l9), (10, .int l10), (11, .int l11), (12, .int l12)]) hx hb dL_areDoors_300 hl (by decide) rfl (fun ls hl => ?_)
                    refine lv_iinc (v := (l12 + (1 : Int32))) (lv' := [(12, .int (l12 + (1 : Int32))), (8, .int (0 : Int32)), (13, .int v236), (0, .ref qc), (1, .int l1), (2, .int l2), (3, .int l3), (4, .int l4), (5, .int l5), (6, .int l6), (7, .int l7), (9, .int l9), (10, .int l10), (11, .int l11)]) hx hb dL_areDoors_302 hl (k := 13) rfl rfl (by decide) rfl (fun ls hl => ?_)
                    refine lv_goto (tgt := 215) hx hb dL_areDoors_305 (by decide) ?_
                    exact ih215 (l1) (l2) (l3) (l4) (l5) (l6) (l7) ((0 : Int32)) (l9) (l10) (l11) ((l12 + (1 : Int32))) (cg) _ _ hX ls (lv_sub hl [3, 4, 5, 6, 7, 8, 9, 10, 1, 11, 12, 13, 0] rfl) hf
                  · have hf := kpos hc_258 hf
                    refine lv_aload_n hx hb dL_areDoors_261 rfl (lv_at hl 1 rfl) ?_
                    refine lv_iload hx hb dL_areDoors_262 (lv_at hl 0 rfl) ?_
                    obtain ⟨v264, hv_264, hf⟩ := bV_s hf
                    refine q_doors C hcs ⟨Nat.le_of_ble_eq_true rfl, Nat.le_of_ble_eq_true rfl⟩ hl hX gL_areDoors_X10_doors dL_areDoors_264 hv_264 (Nat.le_of_ble_eq_true rfl) (fun H locs hX => ?_)
                    refine lv_iload hx hb dL_areDoors_267 (lv_at hl 13 rfl) ?_
                    refine lv_iconst (v := (2 : Int32)) hx hb dL_areDoors_269 (by decide) ?_
                    refine lv_iadd hx hb dL_areDoors_270 ?_
                    refine lv_iconst (v := (4 : Int32)) hx hb dL_areDoors_271 (by decide) ?_
                    refine lv_irem hx hb dL_areDoors_272 (by decide) ?_
                    refine lv_ishr hx hb dL_areDoors_273 ?_
                    refine lv_iconst (v := (1 : Int32)) hx hb dL_areDoors_274 (by decide) ?_
                    refine lv_iand hx hb dL_areDoors_275 ?_
                    refine lv_iconst (v := (1 : Int32)) hx hb dL_areDoors_276 (by decide) ?_
                    refine lv_icmp_ne (tgt := 299) hx hb dL_areDoors_277 (by decide) (fun hc_277 => ?_) (fun hc_277 => ?_)
                    · have hf := kneg hc_277 hf
                      refine lv_iconst (v := (0 : Int32)) hx hb dL_areDoors_299 (by decide) ?_
                      refine lv_istore (lv' := [(8, .int (0 : Int32)), (13, .int v236), (0, .ref qc), (1, .int l1), (2, .int l2), (3, .int l3), (4, .int l4), (5, .int l5), (6, .int l6), (7, .int l7), (9, .int l9), (10, .int l10), (11, .int l11), (12, .int l12)]) hx hb dL_areDoors_300 hl (by decide) rfl (fun ls hl => ?_)
                      refine lv_iinc (v := (l12 + (1 : Int32))) (lv' := [(12, .int (l12 + (1 : Int32))), (8, .int (0 : Int32)), (13, .int v236), (0, .ref qc), (1, .int l1), (2, .int l2), (3, .int l3), (4, .int l4), (5, .int l5), (6, .int l6), (7, .int l7), (9, .int l9), (10, .int l10), (11, .int l11)]) hx hb dL_areDoors_302 hl (k := 13) rfl rfl (by decide) rfl (fun ls hl => ?_)
                      refine lv_goto (tgt := 215) hx hb dL_areDoors_305 (by decide) ?_
                      exact ih215 (l1) (l2) (l3) (l4) (l5) (l6) (l7) ((0 : Int32)) (l9) (l10) (l11) ((l12 + (1 : Int32))) (cg) _ _ hX ls (lv_sub hl [3, 4, 5, 6, 7, 8, 9, 10, 1, 11, 12, 13, 0] rfl) hf
                    · have hf := kpos hc_277 hf
                      refine lv_aload_n hx hb dL_areDoors_280 rfl (lv_at hl 1 rfl) ?_
                      refine lv_iload hx hb dL_areDoors_281 (lv_at hl 0 rfl) ?_
                      obtain ⟨v283, hv_283, hf⟩ := bV_s hf
                      refine q_part C hcs ⟨Nat.le_of_ble_eq_true rfl, Nat.le_of_ble_eq_true rfl⟩ hl hX gL_areDoors_X10_part dL_areDoors_283 hv_283 (Nat.le_of_ble_eq_true rfl) (fun H locs hX => ?_)
                      refine lv_aload_n hx hb dL_areDoors_286 rfl (lv_at hl 1 rfl) ?_
                      refine lv_iload hx hb dL_areDoors_287 (lv_at hl 10 rfl) ?_
                      obtain ⟨v289, hv_289, hf⟩ := bV_s hf
                      refine q_part C hcs ⟨Nat.le_of_ble_eq_true rfl, Nat.le_of_ble_eq_true rfl⟩ hl hX gL_areDoors_X10_part dL_areDoors_289 hv_289 (Nat.le_of_ble_eq_true rfl) (fun H locs hX => ?_)
                      refine lv_icmp_ne (tgt := 299) hx hb dL_areDoors_292 (by decide) (fun hc_292 => ?_) (fun hc_292 => ?_)
                      · have hf := kneg hc_292 hf
                        refine lv_iconst (v := (0 : Int32)) hx hb dL_areDoors_299 (by decide) ?_
                        refine lv_istore (lv' := [(8, .int (0 : Int32)), (13, .int v236), (0, .ref qc), (1, .int l1), (2, .int l2), (3, .int l3), (4, .int l4), (5, .int l5), (6, .int l6), (7, .int l7), (9, .int l9), (10, .int l10), (11, .int l11), (12, .int l12)]) hx hb dL_areDoors_300 hl (by decide) rfl (fun ls hl => ?_)
                        refine lv_iinc (v := (l12 + (1 : Int32))) (lv' := [(12, .int (l12 + (1 : Int32))), (8, .int (0 : Int32)), (13, .int v236), (0, .ref qc), (1, .int l1), (2, .int l2), (3, .int l3), (4, .int l4), (5, .int l5), (6, .int l6), (7, .int l7), (9, .int l9), (10, .int l10), (11, .int l11)]) hx hb dL_areDoors_302 hl (k := 13) rfl rfl (by decide) rfl (fun ls hl => ?_)
                        refine lv_goto (tgt := 215) hx hb dL_areDoors_305 (by decide) ?_
                        exact ih215 (l1) (l2) (l3) (l4) (l5) (l6) (l7) ((0 : Int32)) (l9) (l10) (l11) ((l12 + (1 : Int32))) (cg) _ _ hX ls (lv_sub hl [3, 4, 5, 6, 7, 8, 9, 10, 1, 11, 12, 13, 0] rfl) hf
                      · have hf := kpos hc_292 hf
                        refine lv_iconst (v := (1 : Int32)) hx hb dL_areDoors_295 (by decide) ?_
                        refine lv_goto (tgt := 300) hx hb dL_areDoors_296 (by decide) ?_
                        refine lv_istore (lv' := [(8, .int (1 : Int32)), (13, .int v236), (0, .ref qc), (1, .int l1), (2, .int l2), (3, .int l3), (4, .int l4), (5, .int l5), (6, .int l6), (7, .int l7), (9, .int l9), (10, .int l10), (11, .int l11), (12, .int l12)]) hx hb dL_areDoors_300 hl (by decide) rfl (fun ls hl => ?_)
                        refine lv_iinc (v := (l12 + (1 : Int32))) (lv' := [(12, .int (l12 + (1 : Int32))), (8, .int (1 : Int32)), (13, .int v236), (0, .ref qc), (1, .int l1), (2, .int l2), (3, .int l3), (4, .int l4), (5, .int l5), (6, .int l6), (7, .int l7), (9, .int l9), (10, .int l10), (11, .int l11)]) hx hb dL_areDoors_302 hl (k := 13) rfl rfl (by decide) rfl (fun ls hl => ?_)
                        refine lv_goto (tgt := 215) hx hb dL_areDoors_305 (by decide) ?_
                        exact ih215 (l1) (l2) (l3) (l4) (l5) (l6) (l7) ((1 : Int32)) (l9) (l10) (l11) ((l12 + (1 : Int32))) (cg) _ _ hX ls (lv_sub hl [3, 4, 5, 6, 7, 8, 9, 10, 1, 11, 12, 13, 0] rfl) hf
      have B178 : ∀ (l1 : Int32) (l2 : Int32) (l3 : Int32) (l4 : Int32) (l5 : Int32) (l6 : Int32) (l9 : Int32) (l10 : Int32) (l11 : Int32) (s0 : Int32) (cg : gS) (H : Heap) (locs : List Loc), WX dC dI cy qc A s cg H locs → ∀ (ls : Array Slot), lv_has ls 14 [(0, .ref qc), (1, .int l1), (2, .int l2), (3, .int l3), (4, .int l4), (5, .int l5), (6, .int l6), (9, .int l9), (10, .int l10), (11, .int l11)] → b_L_areDoors_178 N (b_L_areDoors_46 N n46) l1 l2 l3 l4 l5 l6 l9 l10 l11 s0 cg = some out → W p l e (headSpec wsL_areDoors rm_L_areDoors).room s m ([.ref qc] : List Value).toArray below meth c H locs 0 0 Q (F0 m 178 ls [.int s0]) := by
        intro l1 l2 l3 l4 l5 l6 l9 l10 l11 s0 cg H locs hX ls hl hf
        rw [b_L_areDoors_178] at hf
        refine lv_istore (lv' := [(7, .int s0), (0, .ref qc), (1, .int l1), (2, .int l2), (3, .int l3), (4, .int l4), (5, .int l5), (6, .int l6), (9, .int l9), (10, .int l10), (11, .int l11)]) hx hb dL_areDoors_178 hl (by decide) rfl (fun ls hl => ?_)
        refine lv_iload hx hb dL_areDoors_180 (lv_at hl 9 rfl) ?_
        refine lv_if_ne (tgt := 205) hx hb dL_areDoors_182 (by decide) (fun hc_182 => ?_) (fun hc_182 => ?_)
        · have hf := kneg hc_182 hf
          refine lv_iconst (v := (1 : Int32)) hx hb dL_areDoors_205 (by decide) ?_
          refine lv_goto (tgt := 210) hx hb dL_areDoors_206 (by decide) ?_
          refine lv_istore (lv' := [(8, .int (1 : Int32)), (7, .int s0), (0, .ref qc), (1, .int l1), (2, .int l2), (3, .int l3), (4, .int l4), (5, .int l5), (6, .int l6), (9, .int l9), (10, .int l10), (11, .int l11)]) hx hb dL_areDoors_210 hl (by decide) rfl (fun ls hl => ?_)
          refine lv_iconst (v := (0 : Int32)) hx hb dL_areDoors_212 (by decide) ?_
          refine lv_istore (lv' := [(12, .int (0 : Int32)), (8, .int (1 : Int32)), (7, .int s0), (0, .ref qc), (1, .int l1), (2, .int l2), (3, .int l3), (4, .int l4), (5, .int l5), (6, .int l6), (9, .int l9), (10, .int l10), (11, .int l11)]) hx hb dL_areDoors_213 hl (by decide) rfl (fun ls hl => ?_)
          exact B215 N (l1) (l2) (l3) (l4) (l5) (l6) (s0) ((1 : Int32)) (l9) (l10) (l11) ((0 : Int32)) (cg) _ _ hX ls (lv_sub hl [3, 4, 5, 6, 7, 8, 9, 2, 1, 10, 11, 12, 0] rfl) hf
        · have hf := kpos hc_182 hf
          refine lv_aload_n hx hb dL_areDoors_185 rfl (lv_at hl 1 rfl) ?_
          refine lv_iload hx hb dL_areDoors_186 (lv_at hl 8 rfl) ?_
          obtain ⟨v188, hv_188, hf⟩ := bV_s hf
          refine q_doors C hcs ⟨Nat.le_of_ble_eq_true rfl, Nat.le_of_ble_eq_true rfl⟩ hl hX gL_areDoors_X10_doors dL_areDoors_188 hv_188 (Nat.le_of_ble_eq_true rfl) (fun H locs hX => ?_)
          refine lv_iconst (v := (-1 : Int32)) hx hb dL_areDoors_191 (by decide) ?_
          refine lv_icmp_ne (tgt := 209) hx hb dL_areDoors_192 (by decide) (fun hc_192 => ?_) (fun hc_192 => ?_)
          · have hf := kneg hc_192 hf
            refine lv_iconst (v := (0 : Int32)) hx hb dL_areDoors_209 (by decide) ?_
            refine lv_istore (lv' := [(8, .int (0 : Int32)), (7, .int s0), (0, .ref qc), (1, .int l1), (2, .int l2), (3, .int l3), (4, .int l4), (5, .int l5), (6, .int l6), (9, .int l9), (10, .int l10), (11, .int l11)]) hx hb dL_areDoors_210 hl (by decide) rfl (fun ls hl => ?_)
            refine lv_iconst (v := (0 : Int32)) hx hb dL_areDoors_212 (by decide) ?_
            refine lv_istore (lv' := [(12, .int (0 : Int32)), (8, .int (0 : Int32)), (7, .int s0), (0, .ref qc), (1, .int l1), (2, .int l2), (3, .int l3), (4, .int l4), (5, .int l5), (6, .int l6), (9, .int l9), (10, .int l10), (11, .int l11)]) hx hb dL_areDoors_213 hl (by decide) rfl (fun ls hl => ?_)
            exact B215 N (l1) (l2) (l3) (l4) (l5) (l6) (s0) ((0 : Int32)) (l9) (l10) (l11) ((0 : Int32)) (cg) _ _ hX ls (lv_sub hl [3, 4, 5, 6, 7, 8, 9, 2, 1, 10, 11, 12, 0] rfl) hf
          · have hf := kpos hc_192 hf
            refine lv_aload_n hx hb dL_areDoors_195 rfl (lv_at hl 1 rfl) ?_
            refine lv_iload hx hb dL_areDoors_196 (lv_at hl 8 rfl) ?_
            obtain ⟨v198, hv_198, hf⟩ := bV_s hf
            refine q_part C hcs ⟨Nat.le_of_ble_eq_true rfl, Nat.le_of_ble_eq_true rfl⟩ hl hX gL_areDoors_X10_part dL_areDoors_198 hv_198 (Nat.le_of_ble_eq_true rfl) (fun H locs hX => ?_)
            refine lv_iconst (v := (-1 : Int32)) hx hb dL_areDoors_201 (by decide) ?_
            refine lv_icmp_ne (tgt := 209) hx hb dL_areDoors_202 (by decide) (fun hc_202 => ?_) (fun hc_202 => ?_)
            · have hf := kneg hc_202 hf
              refine lv_iconst (v := (0 : Int32)) hx hb dL_areDoors_209 (by decide) ?_
              refine lv_istore (lv' := [(8, .int (0 : Int32)), (7, .int s0), (0, .ref qc), (1, .int l1), (2, .int l2), (3, .int l3), (4, .int l4), (5, .int l5), (6, .int l6), (9, .int l9), (10, .int l10), (11, .int l11)]) hx hb dL_areDoors_210 hl (by decide) rfl (fun ls hl => ?_)
              refine lv_iconst (v := (0 : Int32)) hx hb dL_areDoors_212 (by decide) ?_
              refine lv_istore (lv' := [(12, .int (0 : Int32)), (8, .int (0 : Int32)), (7, .int s0), (0, .ref qc), (1, .int l1), (2, .int l2), (3, .int l3), (4, .int l4), (5, .int l5), (6, .int l6), (9, .int l9), (10, .int l10), (11, .int l11)]) hx hb dL_areDoors_213 hl (by decide) rfl (fun ls hl => ?_)
              exact B215 N (l1) (l2) (l3) (l4) (l5) (l6) (s0) ((0 : Int32)) (l9) (l10) (l11) ((0 : Int32)) (cg) _ _ hX ls (lv_sub hl [3, 4, 5, 6, 7, 8, 9, 2, 1, 10, 11, 12, 0] rfl) hf
            · have hf := kpos hc_202 hf
              refine lv_iconst (v := (1 : Int32)) hx hb dL_areDoors_205 (by decide) ?_
              refine lv_goto (tgt := 210) hx hb dL_areDoors_206 (by decide) ?_
              refine lv_istore (lv' := [(8, .int (1 : Int32)), (7, .int s0), (0, .ref qc), (1, .int l1), (2, .int l2), (3, .int l3), (4, .int l4), (5, .int l5), (6, .int l6), (9, .int l9), (10, .int l10), (11, .int l11)]) hx hb dL_areDoors_210 hl (by decide) rfl (fun ls hl => ?_)
              refine lv_iconst (v := (0 : Int32)) hx hb dL_areDoors_212 (by decide) ?_
              refine lv_istore (lv' := [(12, .int (0 : Int32)), (8, .int (1 : Int32)), (7, .int s0), (0, .ref qc), (1, .int l1), (2, .int l2), (3, .int l3), (4, .int l4), (5, .int l5), (6, .int l6), (9, .int l9), (10, .int l10), (11, .int l11)]) hx hb dL_areDoors_213 hl (by decide) rfl (fun ls hl => ?_)
              exact B215 N (l1) (l2) (l3) (l4) (l5) (l6) (s0) ((1 : Int32)) (l9) (l10) (l11) ((0 : Int32)) (cg) _ _ hX ls (lv_sub hl [3, 4, 5, 6, 7, 8, 9, 2, 1, 10, 11, 12, 0] rfl) hf
      have B176 : ∀ (l1 : Int32) (l2 : Int32) (l3 : Int32) (l4 : Int32) (l5 : Int32) (l6 : Int32) (l7 : Int32) (l9 : Int32) (l10 : Int32) (l11 : Int32) (cg : gS) (H : Heap) (locs : List Loc), WX dC dI cy qc A s cg H locs → ∀ (ls : Array Slot), lv_has ls 14 [(0, .ref qc), (1, .int l1), (2, .int l2), (3, .int l3), (4, .int l4), (5, .int l5), (6, .int l6), (7, .int l7), (9, .int l9), (10, .int l10), (11, .int l11)] → b_L_areDoors_176 N (b_L_areDoors_46 N n46) l1 l2 l3 l4 l5 l6 l7 l9 l10 l11 cg = some out → W p l e (headSpec wsL_areDoors rm_L_areDoors).room s m ([.ref qc] : List Value).toArray below meth c H locs 0 0 Q (F0 m 176 ls []) := by
        intro l1 l2 l3 l4 l5 l6 l7 l9 l10 l11 cg H locs hX ls hl hf
        rw [b_L_areDoors_176] at hf
        refine lv_iload hx hb dL_areDoors_176 (lv_at hl 7 rfl) ?_
        exact B178 (l1) (l2) (l3) (l4) (l5) (l6) (l9) (l10) (l11) (l7) (cg) _ _ hX ls (lv_sub hl [0, 1, 2, 3, 4, 5, 6, 8, 9, 10] rfl) hf
      have B150 : ∀ (l1 : Int32) (l2 : Int32) (l3 : Int32) (l4 : Int32) (l6 : Int32) (l7 : Int32) (l9 : Int32) (l10 : Int32) (l11 : Int32) (s0 : Int32) (s1 : Int32) (cg : gS) (H : Heap) (locs : List Loc), WX dC dI cy qc A s cg H locs → ∀ (ls : Array Slot), lv_has ls 14 [(0, .ref qc), (1, .int l1), (2, .int l2), (3, .int l3), (4, .int l4), (6, .int l6), (7, .int l7), (9, .int l9), (10, .int l10), (11, .int l11)] → b_L_areDoors_150 N (b_L_areDoors_46 N n46) l1 l2 l3 l4 l6 l7 l9 l10 l11 s0 s1 cg = some out → W p l e (headSpec wsL_areDoors rm_L_areDoors).room s m ([.ref qc] : List Value).toArray below meth c H locs 0 0 Q (F0 m 150 ls [.int s1, .int s0]) := by
        intro l1 l2 l3 l4 l6 l7 l9 l10 l11 s0 s1 cg H locs hX ls hl hf
        rw [b_L_areDoors_150] at hf
        refine lv_iadd hx hb dL_areDoors_150 ?_
        refine lv_istore (lv' := [(5, .int (s0 + s1)), (0, .ref qc), (1, .int l1), (2, .int l2), (3, .int l3), (4, .int l4), (6, .int l6), (7, .int l7), (9, .int l9), (10, .int l10), (11, .int l11)]) hx hb dL_areDoors_151 hl (by decide) rfl (fun ls hl => ?_)
        refine lv_iload hx hb dL_areDoors_153 (lv_at hl 9 rfl) ?_
        refine lv_if_eq (tgt := 176) hx hb dL_areDoors_155 (by decide) (fun hc_155 => ?_) (fun hc_155 => ?_)
        · have hf := kpos hc_155 hf
          exact B176 (l1) (l2) (l3) (l4) ((s0 + s1)) (l6) (l7) (l9) (l10) (l11) (cg) _ _ hX ls (lv_sub hl [1, 2, 3, 4, 5, 0, 6, 7, 8, 9, 10] rfl) hf
        · have hf := kneg hc_155 hf
          refine lv_aload_n hx hb dL_areDoors_158 rfl (lv_at hl 1 rfl) ?_
          refine lv_iload hx hb dL_areDoors_159 (lv_at hl 8 rfl) ?_
          obtain ⟨v161, hv_161, hf⟩ := bV_s hf
          refine q_part C hcs ⟨Nat.le_of_ble_eq_true rfl, Nat.le_of_ble_eq_true rfl⟩ hl hX gL_areDoors_X10_part dL_areDoors_161 hv_161 (Nat.le_of_ble_eq_true rfl) (fun H locs hX => ?_)
          refine lv_iload hx hb dL_areDoors_164 (lv_at hl 7 rfl) ?_
          refine lv_icmp_ne (tgt := 176) hx hb dL_areDoors_166 (by decide) (fun hc_166 => ?_) (fun hc_166 => ?_)
          · have hf := kneg hc_166 hf
            exact B176 (l1) (l2) (l3) (l4) ((s0 + s1)) (l6) (l7) (l9) (l10) (l11) (cg) _ _ hX ls (lv_sub hl [1, 2, 3, 4, 5, 0, 6, 7, 8, 9, 10] rfl) hf
          · have hf := kpos hc_166 hf
            refine lv_iload hx hb dL_areDoors_169 (lv_at hl 7 rfl) ?_
            refine lv_iconst (v := (1 : Int32)) hx hb dL_areDoors_171 (by decide) ?_
            refine lv_iadd hx hb dL_areDoors_172 ?_
            refine lv_goto (tgt := 178) hx hb dL_areDoors_173 (by decide) ?_
            exact B178 (l1) (l2) (l3) (l4) ((s0 + s1)) (l6) (l9) (l10) (l11) ((l7 + (1 : Int32))) (cg) _ _ hX ls (lv_sub hl [1, 2, 3, 4, 5, 0, 6, 8, 9, 10] rfl) hf
      have B131 : ∀ (l1 : Int32) (l2 : Int32) (l3 : Int32) (l5 : Int32) (l6 : Int32) (l7 : Int32) (l9 : Int32) (l10 : Int32) (l11 : Int32) (s0 : Int32) (s1 : Int32) (cg : gS) (H : Heap) (locs : List Loc), WX dC dI cy qc A s cg H locs → ∀ (ls : Array Slot), lv_has ls 14 [(0, .ref qc), (1, .int l1), (2, .int l2), (3, .int l3), (5, .int l5), (6, .int l6), (7, .int l7), (9, .int l9), (10, .int l10), (11, .int l11)] → b_L_areDoors_131 N (b_L_areDoors_46 N n46) l1 l2 l3 l5 l6 l7 l9 l10 l11 s0 s1 cg = some out → W p l e (headSpec wsL_areDoors rm_L_areDoors).room s m ([.ref qc] : List Value).toArray below meth c H locs 0 0 Q (F0 m 131 ls [.int s1, .int s0]) := by
        intro l1 l2 l3 l5 l6 l7 l9 l10 l11 s0 s1 cg H locs hX ls hl hf
        rw [b_L_areDoors_131] at hf
        refine lv_iadd hx hb dL_areDoors_131 ?_
        refine lv_istore (lv' := [(4, .int (s0 + s1)), (0, .ref qc), (1, .int l1), (2, .int l2), (3, .int l3), (5, .int l5), (6, .int l6), (7, .int l7), (9, .int l9), (10, .int l10), (11, .int l11)]) hx hb dL_areDoors_132 hl (by decide) rfl (fun ls hl => ?_)
        refine lv_iload hx hb dL_areDoors_134 (lv_at hl 5 rfl) ?_
        refine lv_iload hx hb dL_areDoors_136 (lv_at hl 10 rfl) ?_
        obtain ⟨v138, hv_138, hf⟩ := bV_s hf
        refine kLn C hX (r := v138) (fun hU => va_runS (As := [.int l11]) (rest := [.int l5]) ⟨hx, hb, hml, hown, hts⟩ (c_L_ones l dC dI cy G H.size l11 v138 ((tot_L_ones l11).trans (congrArg some hv_138))) (va_cwS 1 hts gL_areDoors_L_ones rfl rfl rfl hdL_ones.2 ⟨Nat.le_of_ble_eq_true rfl, Nat.le_of_ble_eq_true rfl⟩) ⟨kBlind, fun U h1 h2 => ⟨rfl, hU U h1 h2⟩⟩ rfl rfl hl.1 rfl (lv_room (Nat.le_of_ble_eq_true rfl)) dL_areDoors_138 ⟨hcs.1, hcs.2⟩) (fun H locs hX => ?_)
        refine lv_iconst (v := (2 : Int32)) hx hb dL_areDoors_141 (by decide) ?_
        refine lv_icmp_le (tgt := 149) hx hb dL_areDoors_142 (by decide) (fun hc_142 => ?_) (fun hc_142 => ?_)
        · have hf := kpos hc_142 hf
          refine lv_iconst (v := (0 : Int32)) hx hb dL_areDoors_149 (by decide) ?_
          exact B150 (l1) (l2) (l3) ((s0 + s1)) (l6) (l7) (l9) (l10) (l11) (l5) ((0 : Int32)) (cg) _ _ hX ls (lv_sub hl [1, 2, 3, 4, 0, 6, 7, 8, 9, 10] rfl) hf
        · have hf := kneg hc_142 hf
          refine lv_iconst (v := (1 : Int32)) hx hb dL_areDoors_145 (by decide) ?_
          refine lv_goto (tgt := 150) hx hb dL_areDoors_146 (by decide) ?_
          exact B150 (l1) (l2) (l3) ((s0 + s1)) (l6) (l7) (l9) (l10) (l11) (l5) ((1 : Int32)) (cg) _ _ hX ls (lv_sub hl [1, 2, 3, 4, 0, 6, 7, 8, 9, 10] rfl) hf
      have B105 : ∀ (l1 : Int32) (l3 : Int32) (l4 : Int32) (l5 : Int32) (l6 : Int32) (l7 : Int32) (l9 : Int32) (l10 : Int32) (l11 : Int32) (s0 : Int32) (s1 : Int32) (cg : gS) (H : Heap) (locs : List Loc), WX dC dI cy qc A s cg H locs → ∀ (ls : Array Slot), lv_has ls 14 [(0, .ref qc), (1, .int l1), (3, .int l3), (4, .int l4), (5, .int l5), (6, .int l6), (7, .int l7), (9, .int l9), (10, .int l10), (11, .int l11)] → b_L_areDoors_105 N (b_L_areDoors_46 N n46) l1 l3 l4 l5 l6 l7 l9 l10 l11 s0 s1 cg = some out → W p l e (headSpec wsL_areDoors rm_L_areDoors).room s m ([.ref qc] : List Value).toArray below meth c H locs 0 0 Q (F0 m 105 ls [.int s1, .int s0]) := by
        intro l1 l3 l4 l5 l6 l7 l9 l10 l11 s0 s1 cg H locs hX ls hl hf
        rw [b_L_areDoors_105] at hf
        refine lv_iadd hx hb dL_areDoors_105 ?_
        refine lv_istore_n (lv' := [(2, .int (s0 + s1)), (0, .ref qc), (1, .int l1), (3, .int l3), (4, .int l4), (5, .int l5), (6, .int l6), (7, .int l7), (9, .int l9), (10, .int l10), (11, .int l11)]) hx hb dL_areDoors_106 rfl hl (by decide) rfl (fun ls hl => ?_)
        refine lv_iload_n hx hb dL_areDoors_107 rfl (lv_at hl 3 rfl) ?_
        refine lv_iload hx hb dL_areDoors_108 (lv_at hl 10 rfl) ?_
        obtain ⟨v110, hv_110, hf⟩ := bV_s hf
        refine kLn C hX (r := v110) (fun hU => va_runS (As := [.int l11]) (rest := [.int l3]) ⟨hx, hb, hml, hown, hts⟩ (c_L_ones l dC dI cy G H.size l11 v110 ((tot_L_ones l11).trans (congrArg some hv_110))) (va_cwS 1 hts gL_areDoors_L_ones rfl rfl rfl hdL_ones.2 ⟨Nat.le_of_ble_eq_true rfl, Nat.le_of_ble_eq_true rfl⟩) ⟨kBlind, fun U h1 h2 => ⟨rfl, hU U h1 h2⟩⟩ rfl rfl hl.1 rfl (lv_room (Nat.le_of_ble_eq_true rfl)) dL_areDoors_110 ⟨hcs.1, hcs.2⟩) (fun H locs hX => ?_)
        refine lv_iadd hx hb dL_areDoors_113 ?_
        refine lv_istore_n (lv' := [(3, .int (l3 + v110)), (2, .int (s0 + s1)), (0, .ref qc), (1, .int l1), (4, .int l4), (5, .int l5), (6, .int l6), (7, .int l7), (9, .int l9), (10, .int l10), (11, .int l11)]) hx hb dL_areDoors_114 rfl hl (by decide) rfl (fun ls hl => ?_)
        refine lv_iload hx hb dL_areDoors_115 (lv_at hl 4 rfl) ?_
        refine lv_iload hx hb dL_areDoors_117 (lv_at hl 10 rfl) ?_
        obtain ⟨v119, hv_119, hf⟩ := bV_s hf
        refine kLn C hX (r := v119) (fun hU => va_runS (As := [.int l11]) (rest := [.int l4]) ⟨hx, hb, hml, hown, hts⟩ (c_L_ones l dC dI cy G H.size l11 v119 ((tot_L_ones l11).trans (congrArg some hv_119))) (va_cwS 1 hts gL_areDoors_L_ones rfl rfl rfl hdL_ones.2 ⟨Nat.le_of_ble_eq_true rfl, Nat.le_of_ble_eq_true rfl⟩) ⟨kBlind, fun U h1 h2 => ⟨rfl, hU U h1 h2⟩⟩ rfl rfl hl.1 rfl (lv_room (Nat.le_of_ble_eq_true rfl)) dL_areDoors_119 ⟨hcs.1, hcs.2⟩) (fun H locs hX => ?_)
        refine lv_iconst (v := (1 : Int32)) hx hb dL_areDoors_122 (by decide) ?_
        refine lv_icmp_ne (tgt := 130) hx hb dL_areDoors_123 (by decide) (fun hc_123 => ?_) (fun hc_123 => ?_)
        · have hf := kneg hc_123 hf
          refine lv_iconst (v := (0 : Int32)) hx hb dL_areDoors_130 (by decide) ?_
          exact B131 (l1) ((s0 + s1)) ((l3 + v110)) (l5) (l6) (l7) (l9) (l10) (l11) (l4) ((0 : Int32)) (cg) _ _ hX ls (lv_sub hl [2, 3, 1, 0, 5, 6, 7, 8, 9, 10] rfl) hf
        · have hf := kpos hc_123 hf
          refine lv_iconst (v := (1 : Int32)) hx hb dL_areDoors_126 (by decide) ?_
          refine lv_goto (tgt := 131) hx hb dL_areDoors_127 (by decide) ?_
          exact B131 (l1) ((s0 + s1)) ((l3 + v110)) (l5) (l6) (l7) (l9) (l10) (l11) (l4) ((1 : Int32)) (cg) _ _ hX ls (lv_sub hl [2, 3, 1, 0, 5, 6, 7, 8, 9, 10] rfl) hf
      have B92 : ∀ (l1 : Int32) (l2 : Int32) (l3 : Int32) (l4 : Int32) (l5 : Int32) (l6 : Int32) (l7 : Int32) (l9 : Int32) (l10 : Int32) (s0 : Int32) (cg : gS) (H : Heap) (locs : List Loc), WX dC dI cy qc A s cg H locs → ∀ (ls : Array Slot), lv_has ls 14 [(0, .ref qc), (1, .int l1), (2, .int l2), (3, .int l3), (4, .int l4), (5, .int l5), (6, .int l6), (7, .int l7), (9, .int l9), (10, .int l10)] → b_L_areDoors_92 N (b_L_areDoors_46 N n46) l1 l2 l3 l4 l5 l6 l7 l9 l10 s0 cg = some out → W p l e (headSpec wsL_areDoors rm_L_areDoors).room s m ([.ref qc] : List Value).toArray below meth c H locs 0 0 Q (F0 m 92 ls [.int s0]) := by
        intro l1 l2 l3 l4 l5 l6 l7 l9 l10 s0 cg H locs hX ls hl hf
        rw [b_L_areDoors_92] at hf
        refine lv_istore (lv' := [(11, .int s0), (0, .ref qc), (1, .int l1), (2, .int l2), (3, .int l3), (4, .int l4), (5, .int l5), (6, .int l6), (7, .int l7), (9, .int l9), (10, .int l10)]) hx hb dL_areDoors_92 hl (by decide) rfl (fun ls hl => ?_)
        refine lv_iload_n hx hb dL_areDoors_94 rfl (lv_at hl 3 rfl) ?_
        refine lv_iload hx hb dL_areDoors_95 (lv_at hl 10 rfl) ?_
        refine lv_if_eq (tgt := 104) hx hb dL_areDoors_97 (by decide) (fun hc_97 => ?_) (fun hc_97 => ?_)
        · have hf := kpos hc_97 hf
          refine lv_iconst (v := (0 : Int32)) hx hb dL_areDoors_104 (by decide) ?_
          exact B105 (l1) (l3) (l4) (l5) (l6) (l7) (l9) (l10) (s0) (l2) ((0 : Int32)) (cg) _ _ hX ls (lv_sub hl [1, 2, 4, 5, 6, 7, 8, 9, 10, 0] rfl) hf
        · have hf := kneg hc_97 hf
          refine lv_iconst (v := (1 : Int32)) hx hb dL_areDoors_100 (by decide) ?_
          refine lv_goto (tgt := 105) hx hb dL_areDoors_101 (by decide) ?_
          exact B105 (l1) (l3) (l4) (l5) (l6) (l7) (l9) (l10) (s0) (l2) ((1 : Int32)) (cg) _ _ hX ls (lv_sub hl [1, 2, 4, 5, 6, 7, 8, 9, 10, 0] rfl) hf
      have B75 : ∀ (l1 : Int32) (l2 : Int32) (l3 : Int32) (l4 : Int32) (l5 : Int32) (l6 : Int32) (l7 : Int32) (l9 : Int32) (s0 : Int32) (cg : gS) (H : Heap) (locs : List Loc), WX dC dI cy qc A s cg H locs → ∀ (ls : Array Slot), lv_has ls 14 [(0, .ref qc), (1, .int l1), (2, .int l2), (3, .int l3), (4, .int l4), (5, .int l5), (6, .int l6), (7, .int l7), (9, .int l9)] → b_L_areDoors_75 N (b_L_areDoors_46 N n46) l1 l2 l3 l4 l5 l6 l7 l9 s0 cg = some out → W p l e (headSpec wsL_areDoors rm_L_areDoors).room s m ([.ref qc] : List Value).toArray below meth c H locs 0 0 Q (F0 m 75 ls [.int s0]) := by
        intro l1 l2 l3 l4 l5 l6 l7 l9 s0 cg H locs hX ls hl hf
        rw [b_L_areDoors_75] at hf
        refine lv_istore (lv' := [(10, .int s0), (0, .ref qc), (1, .int l1), (2, .int l2), (3, .int l3), (4, .int l4), (5, .int l5), (6, .int l6), (7, .int l7), (9, .int l9)]) hx hb dL_areDoors_75 hl (by decide) rfl (fun ls hl => ?_)
        refine lv_iload hx hb dL_areDoors_77 (lv_at hl 0 rfl) ?_
        refine lv_if_eq (tgt := 91) hx hb dL_areDoors_79 (by decide) (fun hc_79 => ?_) (fun hc_79 => ?_)
        · have hf := kpos hc_79 hf
          refine lv_iconst (v := (0 : Int32)) hx hb dL_areDoors_91 (by decide) ?_
          exact B92 (l1) (l2) (l3) (l4) (l5) (l6) (l7) (l9) (s0) ((0 : Int32)) (cg) _ _ hX ls (lv_sub hl [1, 2, 3, 4, 5, 6, 7, 8, 9, 0] rfl) hf
        · have hf := kneg hc_79 hf
          refine lv_aload_n hx hb dL_areDoors_82 rfl (lv_at hl 1 rfl) ?_
          refine lv_iload hx hb dL_areDoors_83 (lv_at hl 9 rfl) ?_
          obtain ⟨v85, hv_85, hf⟩ := bV_s hf
          refine q_doors C hcs ⟨Nat.le_of_ble_eq_true rfl, Nat.le_of_ble_eq_true rfl⟩ hl hX gL_areDoors_X10_doors dL_areDoors_85 hv_85 (Nat.le_of_ble_eq_true rfl) (fun H locs hX => ?_)
          refine lv_goto (tgt := 92) hx hb dL_areDoors_88 (by decide) ?_
          exact B92 (l1) (l2) (l3) (l4) (l5) (l6) (l7) (l9) (s0) (v85) (cg) _ _ hX ls (lv_sub hl [1, 2, 3, 4, 5, 6, 7, 8, 9, 0] rfl) hf
      intro l1 l2 l3 l4 l5 l6 l7 l8 l9 cg H locs hX ls hl hf
      rw [b_L_areDoors_46] at hf
      refine lv_iload hx hb dL_areDoors_46 (lv_at hl 9 rfl) ?_
      refine lv_bipush (v := (6 : Int32)) hx hb dL_areDoors_48 (by decide) ?_
      refine lv_iload_n hx hb dL_areDoors_50 rfl (lv_at hl 1 rfl) ?_
      refine lv_imul hx hb dL_areDoors_51 ?_
      refine lv_icmp_ge (tgt := 314) hx hb dL_areDoors_52 (by decide) (fun hc_52 => ?_) (fun hc_52 => ?_)
      · have hf := kpos hc_52 hf
        refine lv_iconst (v := (0 : Int32)) hx hb dL_areDoors_314 (by decide) ?_
        refine lv_istore (lv' := [(9, .int (0 : Int32)), (0, .ref qc), (1, .int l1), (2, .int l2), (3, .int l3), (4, .int l4), (5, .int l5), (6, .int l6), (7, .int l7), (8, .int l8)]) hx hb dL_areDoors_315 hl (by decide) rfl (fun ls hl => ?_)
        exact B317 N (l1) (l2) (l3) (l4) (l5) (l6) (l7) (l8) ((0 : Int32)) (cg) _ _ hX ls (lv_sub hl [1, 2, 3, 4, 5, 6, 7, 8, 9, 0] rfl) hf
      · have hf := kneg hc_52 hf
        refine lv_iload hx hb dL_areDoors_55 (lv_at hl 8 rfl) ?_
        refine lv_if_eq (tgt := 314) hx hb dL_areDoors_57 (by decide) (fun hc_57 => ?_) (fun hc_57 => ?_)
        · have hf := kpos hc_57 hf
          refine lv_iconst (v := (0 : Int32)) hx hb dL_areDoors_314 (by decide) ?_
          refine lv_istore (lv' := [(9, .int (0 : Int32)), (0, .ref qc), (1, .int l1), (2, .int l2), (3, .int l3), (4, .int l4), (5, .int l5), (6, .int l6), (7, .int l7), (8, .int l8)]) hx hb dL_areDoors_315 hl (by decide) rfl (fun ls hl => ?_)
          exact B317 N (l1) (l2) (l3) (l4) (l5) (l6) (l7) (l8) ((0 : Int32)) (cg) _ _ hX ls (lv_sub hl [1, 2, 3, 4, 5, 6, 7, 8, 9, 0] rfl) hf
        · have hf := kneg hc_57 hf
          refine lv_aload_n hx hb dL_areDoors_60 rfl (lv_at hl 0 rfl) ?_
          refine lv_iload hx hb dL_areDoors_61 (lv_at hl 9 rfl) ?_
          obtain ⟨v63, hv_63, hf⟩ := bV_s hf
          refine q_isRoom C hcs ⟨Nat.le_of_ble_eq_true rfl, Nat.le_of_ble_eq_true rfl⟩ hl hX gL_areDoors_X10_isRoom dL_areDoors_63 hv_63 (Nat.le_of_ble_eq_true rfl) (fun H locs hX => ?_)
          refine lv_iconst (v := (1 : Int32)) hx hb dL_areDoors_66 (by decide) ?_
          refine lv_icmp_ne (tgt := 74) hx hb dL_areDoors_67 (by decide) (fun hc_67 => ?_) (fun hc_67 => ?_)
          · have hf := kneg hc_67 hf
            refine lv_iconst (v := (0 : Int32)) hx hb dL_areDoors_74 (by decide) ?_
            exact B75 (l1) (l2) (l3) (l4) (l5) (l6) (l7) (l9) ((0 : Int32)) (cg) _ _ hX ls (lv_sub hl [0, 1, 2, 3, 4, 5, 6, 7, 9] rfl) hf
          · have hf := kpos hc_67 hf
            refine lv_iconst (v := (1 : Int32)) hx hb dL_areDoors_70 (by decide) ?_
            refine lv_goto (tgt := 75) hx hb dL_areDoors_71 (by decide) ?_
            exact B75 (l1) (l2) (l3) (l4) (l5) (l6) (l7) (l9) ((1 : Int32)) (cg) _ _ hX ls (lv_sub hl [0, 1, 2, 3, 4, 5, 6, 7, 9] rfl) hf
  rw [f_L_areDoors] at hf
  refine lv_aload_n hx hb dL_areDoors_0 rfl (lv_at hl 0 rfl) ?_
  refine lv_iconst (v := (1 : Int32)) hx hb dL_areDoors_1 (by decide) ?_
  obtain ⟨v2, hv_2, hf⟩ := bV_s hf
  refine q_count C hcs ⟨Nat.le_of_ble_eq_true rfl, Nat.le_of_ble_eq_true rfl⟩ hl hX gL_areDoors_X10_count dL_areDoors_2 hv_2 (Nat.le_of_ble_eq_true rfl) (fun H locs hX => ?_)
  refine lv_istore_n (lv' := [(1, .int v2), (0, .ref qc)]) hx hb dL_areDoors_5 rfl hl (by decide) rfl (fun ls hl => ?_)
  refine lv_iconst (v := (0 : Int32)) hx hb dL_areDoors_6 (by decide) ?_
  refine lv_istore_n (lv' := [(2, .int (0 : Int32)), (1, .int v2), (0, .ref qc)]) hx hb dL_areDoors_7 rfl hl (by decide) rfl (fun ls hl => ?_)
  refine lv_iconst (v := (0 : Int32)) hx hb dL_areDoors_8 (by decide) ?_
  refine lv_istore_n (lv' := [(3, .int (0 : Int32)), (2, .int (0 : Int32)), (1, .int v2), (0, .ref qc)]) hx hb dL_areDoors_9 rfl hl (by decide) rfl (fun ls hl => ?_)
  refine lv_iconst (v := (0 : Int32)) hx hb dL_areDoors_10 (by decide) ?_
  refine lv_istore (lv' := [(4, .int (0 : Int32)), (3, .int (0 : Int32)), (2, .int (0 : Int32)), (1, .int v2), (0, .ref qc)]) hx hb dL_areDoors_11 hl (by decide) rfl (fun ls hl => ?_)
  refine lv_iconst (v := (0 : Int32)) hx hb dL_areDoors_13 (by decide) ?_
  refine lv_istore (lv' := [(5, .int (0 : Int32)), (4, .int (0 : Int32)), (3, .int (0 : Int32)), (2, .int (0 : Int32)), (1, .int v2), (0, .ref qc)]) hx hb dL_areDoors_14 hl (by decide) rfl (fun ls hl => ?_)
  refine lv_iconst (v := (0 : Int32)) hx hb dL_areDoors_16 (by decide) ?_
  refine lv_istore (lv' := [(6, .int (0 : Int32)), (5, .int (0 : Int32)), (4, .int (0 : Int32)), (3, .int (0 : Int32)), (2, .int (0 : Int32)), (1, .int v2), (0, .ref qc)]) hx hb dL_areDoors_17 hl (by decide) rfl (fun ls hl => ?_)
  refine lv_iconst (v := (0 : Int32)) hx hb dL_areDoors_19 (by decide) ?_
  refine lv_istore (lv' := [(7, .int (0 : Int32)), (6, .int (0 : Int32)), (5, .int (0 : Int32)), (4, .int (0 : Int32)), (3, .int (0 : Int32)), (2, .int (0 : Int32)), (1, .int v2), (0, .ref qc)]) hx hb dL_areDoors_20 hl (by decide) rfl (fun ls hl => ?_)
  refine lv_iload_n hx hb dL_areDoors_22 rfl (lv_at hl 6 rfl) ?_
  refine lv_bipush (v := (6 : Int32)) hx hb dL_areDoors_23 (by decide) ?_
  refine lv_aload_n hx hb dL_areDoors_25 rfl (lv_at hl 7 rfl) ?_
  refine lv_iconst (v := (0 : Int32)) hx hb dL_areDoors_26 (by decide) ?_
  obtain ⟨v27, hv_27, hf⟩ := bV_s hf
  refine q_count C hcs ⟨Nat.le_of_ble_eq_true rfl, Nat.le_of_ble_eq_true rfl⟩ hl hX gL_areDoors_X10_count dL_areDoors_27 hv_27 (Nat.le_of_ble_eq_true rfl) (fun H locs hX => ?_)
  refine lv_imul hx hb dL_areDoors_30 ?_
  refine lv_iconst (v := (1 : Int32)) hx hb dL_areDoors_31 (by decide) ?_
  refine lv_isub hx hb dL_areDoors_32 ?_
  refine lv_icmp_ne (tgt := 40) hx hb dL_areDoors_33 (by decide) (fun hc_33 => ?_) (fun hc_33 => ?_)
  · have hf := kneg hc_33 hf
    refine lv_iconst (v := (0 : Int32)) hx hb dL_areDoors_40 (by decide) ?_
    refine lv_istore (lv' := [(8, .int (0 : Int32)), (7, .int (0 : Int32)), (6, .int (0 : Int32)), (5, .int (0 : Int32)), (4, .int (0 : Int32)), (3, .int (0 : Int32)), (2, .int (0 : Int32)), (1, .int v2), (0, .ref qc)]) hx hb dL_areDoors_41 hl (by decide) rfl (fun ls hl => ?_)
    refine lv_iconst (v := (0 : Int32)) hx hb dL_areDoors_43 (by decide) ?_
    refine lv_istore (lv' := [(9, .int (0 : Int32)), (8, .int (0 : Int32)), (7, .int (0 : Int32)), (6, .int (0 : Int32)), (5, .int (0 : Int32)), (4, .int (0 : Int32)), (3, .int (0 : Int32)), (2, .int (0 : Int32)), (1, .int v2), (0, .ref qc)]) hx hb dL_areDoors_44 hl (by decide) rfl (fun ls hl => ?_)
    exact B46 N (v2) ((0 : Int32)) ((0 : Int32)) ((0 : Int32)) ((0 : Int32)) ((0 : Int32)) ((0 : Int32)) ((0 : Int32)) ((0 : Int32)) (g) _ _ hX ls (lv_sub hl [9, 8, 7, 6, 5, 4, 3, 2, 1, 0] rfl) hf
  · have hf := kpos hc_33 hf
    refine lv_iconst (v := (1 : Int32)) hx hb dL_areDoors_36 (by decide) ?_
    refine lv_goto (tgt := 41) hx hb dL_areDoors_37 (by decide) ?_
    refine lv_istore (lv' := [(8, .int (1 : Int32)), (7, .int (0 : Int32)), (6, .int (0 : Int32)), (5, .int (0 : Int32)), (4, .int (0 : Int32)), (3, .int (0 : Int32)), (2, .int (0 : Int32)), (1, .int v2), (0, .ref qc)]) hx hb dL_areDoors_41 hl (by decide) rfl (fun ls hl => ?_)
    refine lv_iconst (v := (0 : Int32)) hx hb dL_areDoors_43 (by decide) ?_
    refine lv_istore (lv' := [(9, .int (0 : Int32)), (8, .int (1 : Int32)), (7, .int (0 : Int32)), (6, .int (0 : Int32)), (5, .int (0 : Int32)), (4, .int (0 : Int32)), (3, .int (0 : Int32)), (2, .int (0 : Int32)), (1, .int v2), (0, .ref qc)]) hx hb dL_areDoors_44 hl (by decide) rfl (fun ls hl => ?_)
    exact B46 N (v2) ((0 : Int32)) ((0 : Int32)) ((0 : Int32)) ((0 : Int32)) ((0 : Int32)) ((0 : Int32)) ((1 : Int32)) ((0 : Int32)) (g) _ _ hX ls (lv_sub hl [9, 8, 7, 6, 5, 4, 3, 2, 1, 0] rfl) hf
theorem hdL_areDoors : yL_areDoors.cls = RL ∧ yL_areDoors.cls ≠ "java/lang/invoke/MethodHandle" ∧ yL_areDoors.cls ≠ "java/lang/invoke/VarHandle" ∧ (parseMethodDescriptor yL_areDoors.desc).map (fun d => d.parameters.length) = some 1 := by decide +kernel

-- contracts of the law's methods (written by wip/p30/genL.py)
abbrev rm_L_refused : Room := { frames := 8, cells := 0, slots := 0, locals := 185 }
set_option maxHeartbeats 8000000 in
set_option maxRecDepth 100000 in
theorem c_L_refused (l : Launch) (dC : Nat → ClassId) (dI : Nat → Nat → Nat) (cy : gC) (G : gT) (sz qc : Nat) (ws : va_W) (N : Nat) (g : gS) (out : Int32 × gS) (hI : IsW cy qc g ws) (hf : f_L_refused N g = some out) : Met l yL_refused wsL_refused rm_L_refused (va_Pc [.ref qc] (kP (dC, dI) cy G ws sz)) (va_Qi (fun r (_ : Unit) => r = out.1) (fun _ => kQX (dC, dI) cy qc out.2 (va_A ws sz)) (va_A ws sz)) 0 0 (va_A ws sz) := by
  refine Met.ofW (cc := cL_refused) (maxL := 7) (ret := (some .boolean)) (by decide) rfl ?_
  intro p e s m args below meth c s₁ B hml hv
  obtain ⟨rfl, hsz, hP, hK, hD0, hG⟩ := hv
  have hx := B.exec
  have hb := B.bytes
  have hr := B.returns
  have hts := atoms_spec (ws := wsL_refused) B.pre
  have hown : s.vm.findClass RL = some m.cls := findClass_of_methodNamed B.named
  have hlocks := B.notSynchronized
  subst hsz
  have hD := hD0.self (sz := s.heap.size)
  generalize hAe : va_A ws s.heap.size = A at hD hG ⊢
  have hA : ∀ q : Nat, s.heap.size ≤ q → A q := fun q h => by rw [← hAe]; exact Or.inr h
  have hX : WX dC dI cy qc A s g s.heap [] := ⟨ws, hI, hP, hD, va_S.rf⟩
  have C : CX p s m c ([.ref qc] : List Value).toArray cL_refused wsL_refused 7 A dC dI cy G := ⟨hx, hb, hml, hown, hts, hK, hG, hA⟩
  have hcs : 0 ≤ (headSpec wsL_refused rm_L_refused).room.cells ∧ 0 ≤ (headSpec wsL_refused rm_L_refused).room.slots := ⟨Nat.zero_le _, Nat.zero_le _⟩
  have hl := lv_entry ([.ref qc]) (n := 7) (Nat.le_of_ble_eq_true rfl)
  rw [lg_entry_eq]
  generalize (lg_sl ([.ref qc]) ++ List.replicate (7 - (lg_sl ([.ref qc])).length) Slot.unset).toArray = ls at hl ⊢
  have hl : lv_has ls 7 [(0, .ref qc)] := hl
  refine kgen (fun Q hQ => ?_)
  have hX0 := hX
  have B382 : ∀ (l1 : Int64) (l3 : Int32) (s0 : Int32) (cg : gS) (H : Heap) (locs : List Loc), WX dC dI cy qc A s cg H locs → ∀ (ls : Array Slot), lv_has ls 7 [(0, .ref qc), (1, .long l1), (3, .int l3)] → b_L_refused_382 N l1 l3 s0 cg = some out → W p l e (headSpec wsL_refused rm_L_refused).room s m ([.ref qc] : List Value).toArray below meth c H locs 0 0 Q (F0 m 382 ls [.int s0]) := by
    intro l1 l3 s0 cg H locs hX ls hl hf
    rw [b_L_refused_382] at hf
    refine lv_istore (lv' := [(6, .int s0), (0, .ref qc), (1, .long l1), (3, .int l3)]) hx hb dL_refused_382 hl (by decide) rfl (fun ls hl => ?_)
    refine lv_iload hx hb dL_refused_384 (lv_at hl 0 rfl) ?_
    refine lv_if_eq (tgt := 412) hx hb dL_refused_386 (by decide) (fun hc_386 => ?_) (fun hc_386 => ?_)
    · have hf := kpos hc_386 hf
      refine lv_iconst (v := (0 : Int32)) hx hb dL_refused_412 (by decide) ?_
      cases hf
      subst hQ
      exact kzretX C hr hlocks rfl hX rfl dL_refused_413
    · have hf := kneg hc_386 hf
      refine lv_aload_n hx hb dL_refused_389 rfl (lv_at hl 1 rfl) ?_
      obtain ⟨v390, g390, hv_390, hf⟩ := bnd2_s hf
      refine kLl C hX (r := v390) (g1 := g390) (fun ws hI hP hU => va_runS (As := [.ref qc]) (rest := []) ⟨hx, hb, hml, hown, hts⟩ (c_L_print l dC dI cy G H.size qc ws N cg  (v390, g390) hI hv_390) (va_cwS 1 hts gL_refused_L_print rfl rfl rfl hdL_print.2 ⟨Nat.le_of_ble_eq_true rfl, Nat.le_of_ble_eq_true rfl⟩) ⟨kBlind, fun U h1 h2 => ⟨rfl, hU U h1 h2⟩⟩ rfl rfl hl.1 rfl (lv_room (Nat.le_of_ble_eq_true rfl)) dL_refused_390 ⟨hcs.1, hcs.2⟩) (fun H locs hX => ?_)
      refine lv_lload_n hx hb dL_refused_393 rfl (lv_at hl 2 rfl) ?_
      refine W.lcmp hx hb dL_refused_394 ?_
      refine lv_if_ne (tgt := 412) hx hb dL_refused_395 (by decide) (fun hc_395 => ?_) (fun hc_395 => ?_)
      · have hf := kneg hc_395 hf
        refine lv_iconst (v := (0 : Int32)) hx hb dL_refused_412 (by decide) ?_
        cases hf
        subst hQ
        exact kzretX C hr hlocks rfl hX rfl dL_refused_413
      · have hf := kpos hc_395 hf
        refine lv_aload_n hx hb dL_refused_398 rfl (lv_at hl 1 rfl) ?_
        refine lv_bipush (v := (14 : Int32)) hx hb dL_refused_399 (by decide) ?_
        obtain ⟨v401, hv_401, hf⟩ := bV_s hf
        refine q_count C hcs ⟨Nat.le_of_ble_eq_true rfl, Nat.le_of_ble_eq_true rfl⟩ hl hX gL_refused_X10_count dL_refused_401 hv_401 (Nat.le_of_ble_eq_true rfl) (fun H locs hX => ?_)
        refine lv_iload_n hx hb dL_refused_404 rfl (lv_at hl 3 rfl) ?_
        refine lv_icmp_ne (tgt := 412) hx hb dL_refused_405 (by decide) (fun hc_405 => ?_) (fun hc_405 => ?_)
        · have hf := kneg hc_405 hf
          refine lv_iconst (v := (0 : Int32)) hx hb dL_refused_412 (by decide) ?_
          cases hf
          subst hQ
          exact kzretX C hr hlocks rfl hX rfl dL_refused_413
        · have hf := kpos hc_405 hf
          refine lv_iconst (v := (1 : Int32)) hx hb dL_refused_408 (by decide) ?_
          refine lv_goto (tgt := 413) hx hb dL_refused_409 (by decide) ?_
          cases hf
          subst hQ
          exact kzretX C hr hlocks rfl hX rfl dL_refused_413
  have B381 : ∀ (l1 : Int64) (l3 : Int32) (cg : gS) (H : Heap) (locs : List Loc), WX dC dI cy qc A s cg H locs → ∀ (ls : Array Slot), lv_has ls 7 [(0, .ref qc), (1, .long l1), (3, .int l3)] → b_L_refused_381 N l1 l3 cg = some out → W p l e (headSpec wsL_refused rm_L_refused).room s m ([.ref qc] : List Value).toArray below meth c H locs 0 0 Q (F0 m 381 ls []) := by
    intro l1 l3 cg H locs hX ls hl hf
    rw [b_L_refused_381] at hf
    refine lv_iconst (v := (0 : Int32)) hx hb dL_refused_381 (by decide) ?_
    exact B382 (l1) (l3) ((0 : Int32)) (cg) _ _ hX ls (lv_sub hl [0, 1, 2] rfl) hf
  have B206 : ∀ (l1 : Int64) (l3 : Int32) (l4 : Int32) (l5 : Int32) (s0 : Int32) (cg : gS) (H : Heap) (locs : List Loc), WX dC dI cy qc A s cg H locs → ∀ (ls : Array Slot), lv_has ls 7 [(0, .ref qc), (1, .long l1), (3, .int l3), (4, .int l4), (5, .int l5)] → b_L_refused_206 N l1 l3 l4 l5 s0 cg = some out → W p l e (headSpec wsL_refused rm_L_refused).room s m ([.ref qc] : List Value).toArray below meth c H locs 0 0 Q (F0 m 206 ls [.int s0]) := by
    intro l1 l3 l4 l5 s0 cg H locs hX ls hl hf
    rw [b_L_refused_206] at hf
    refine lv_istore (lv' := [(6, .int s0), (0, .ref qc), (1, .long l1), (3, .int l3), (4, .int l4), (5, .int l5)]) hx hb dL_refused_206 hl (by decide) rfl (fun ls hl => ?_)
    refine lv_iload hx hb dL_refused_208 (lv_at hl 0 rfl) ?_
    refine lv_if_eq (tgt := 381) hx hb dL_refused_210 (by decide) (fun hc_210 => ?_) (fun hc_210 => ?_)
    · have hf := kpos hc_210 hf
      exact B381 (l1) (l3) (cg) _ _ hX ls (lv_sub hl [1, 2, 3] rfl) hf
    · have hf := kneg hc_210 hf
      refine lv_aload_n hx hb dL_refused_213 rfl (lv_at hl 1 rfl) ?_
      refine lv_iload hx hb dL_refused_214 (lv_at hl 4 rfl) ?_
      refine lv_iload hx hb dL_refused_216 (lv_at hl 5 rfl) ?_
      obtain ⟨v218, hv_218, hf⟩ := bV_s hf
      refine q_again C hcs ⟨Nat.le_of_ble_eq_true rfl, Nat.le_of_ble_eq_true rfl⟩ hl hX gL_refused_X10_again dL_refused_218 hv_218 (Nat.le_of_ble_eq_true rfl) (fun H locs hX => ?_)
      refine lv_iconst (v := (-1 : Int32)) hx hb dL_refused_221 (by decide) ?_
      refine lv_icmp_ne (tgt := 381) hx hb dL_refused_222 (by decide) (fun hc_222 => ?_) (fun hc_222 => ?_)
      · have hf := kneg hc_222 hf
        exact B381 (l1) (l3) (cg) _ _ hX ls (lv_sub hl [1, 2, 3] rfl) hf
      · have hf := kpos hc_222 hf
        refine lv_aload_n hx hb dL_refused_225 rfl (lv_at hl 1 rfl) ?_
        refine lv_iload hx hb dL_refused_226 (lv_at hl 5 rfl) ?_
        refine lv_iload hx hb dL_refused_228 (lv_at hl 5 rfl) ?_
        refine lv_iconst (v := (-1 : Int32)) hx hb dL_refused_230 (by decide) ?_
        obtain ⟨v231, hv_231, hf⟩ := bV_s hf
        refine q_way C hcs ⟨Nat.le_of_ble_eq_true rfl, Nat.le_of_ble_eq_true rfl⟩ hl hX gL_refused_X10_way dL_refused_231 hv_231 (Nat.le_of_ble_eq_true rfl) (fun H locs hX => ?_)
        refine lv_iconst (v := (-1 : Int32)) hx hb dL_refused_234 (by decide) ?_
        refine lv_icmp_ne (tgt := 381) hx hb dL_refused_235 (by decide) (fun hc_235 => ?_) (fun hc_235 => ?_)
        · have hf := kneg hc_235 hf
          exact B381 (l1) (l3) (cg) _ _ hX ls (lv_sub hl [1, 2, 3] rfl) hf
        · have hf := kpos hc_235 hf
          refine lv_aload_n hx hb dL_refused_238 rfl (lv_at hl 1 rfl) ?_
          refine lv_iload hx hb dL_refused_239 (lv_at hl 5 rfl) ?_
          refine lv_iload hx hb dL_refused_241 (lv_at hl 5 rfl) ?_
          refine lv_iconst (v := (1 : Int32)) hx hb dL_refused_243 (by decide) ?_
          obtain ⟨v244, hv_244, hf⟩ := bV_s hf
          refine q_way C hcs ⟨Nat.le_of_ble_eq_true rfl, Nat.le_of_ble_eq_true rfl⟩ hl hX gL_refused_X10_way dL_refused_244 hv_244 (Nat.le_of_ble_eq_true rfl) (fun H locs hX => ?_)
          refine lv_bipush (v := (-4 : Int32)) hx hb dL_refused_247 (by decide) ?_
          refine lv_icmp_ne (tgt := 381) hx hb dL_refused_249 (by decide) (fun hc_249 => ?_) (fun hc_249 => ?_)
          · have hf := kneg hc_249 hf
            exact B381 (l1) (l3) (cg) _ _ hX ls (lv_sub hl [1, 2, 3] rfl) hf
          · have hf := kpos hc_249 hf
            refine lv_aload_n hx hb dL_refused_252 rfl (lv_at hl 1 rfl) ?_
            refine lv_iload hx hb dL_refused_253 (lv_at hl 5 rfl) ?_
            refine lv_iconst (v := (2 : Int32)) hx hb dL_refused_255 (by decide) ?_
            obtain ⟨v256, hv_256, hf⟩ := bV_s hf
            refine q_farthest C hcs ⟨Nat.le_of_ble_eq_true rfl, Nat.le_of_ble_eq_true rfl⟩ hl hX gL_refused_X10_farthest dL_refused_256 hv_256 (Nat.le_of_ble_eq_true rfl) (fun H locs hX => ?_)
            refine lv_iconst (v := (-1 : Int32)) hx hb dL_refused_259 (by decide) ?_
            refine lv_icmp_ne (tgt := 381) hx hb dL_refused_260 (by decide) (fun hc_260 => ?_) (fun hc_260 => ?_)
            · have hf := kneg hc_260 hf
              exact B381 (l1) (l3) (cg) _ _ hX ls (lv_sub hl [1, 2, 3] rfl) hf
            · have hf := kpos hc_260 hf
              refine lv_aload_n hx hb dL_refused_263 rfl (lv_at hl 1 rfl) ?_
              refine lv_iconst (v := (-1 : Int32)) hx hb dL_refused_264 (by decide) ?_
              obtain ⟨v265, hv_265, hf⟩ := bV_s hf
              refine q_longest C hcs ⟨Nat.le_of_ble_eq_true rfl, Nat.le_of_ble_eq_true rfl⟩ hl hX gL_refused_X10_longest dL_refused_265 hv_265 (Nat.le_of_ble_eq_true rfl) (fun H locs hX => ?_)
              refine lv_iconst (v := (-1 : Int32)) hx hb dL_refused_268 (by decide) ?_
              refine lv_icmp_ne (tgt := 381) hx hb dL_refused_269 (by decide) (fun hc_269 => ?_) (fun hc_269 => ?_)
              · have hf := kneg hc_269 hf
                exact B381 (l1) (l3) (cg) _ _ hX ls (lv_sub hl [1, 2, 3] rfl) hf
              · have hf := kpos hc_269 hf
                refine lv_aload_n hx hb dL_refused_272 rfl (lv_at hl 1 rfl) ?_
                refine lv_iload hx hb dL_refused_273 (lv_at hl 5 rfl) ?_
                refine lv_iconst (v := (3 : Int32)) hx hb dL_refused_275 (by decide) ?_
                refine lv_iconst (v := (0 : Int32)) hx hb dL_refused_276 (by decide) ?_
                obtain ⟨v277, hv_277, hf⟩ := bV_s hf
                refine q_sign C hcs ⟨Nat.le_of_ble_eq_true rfl, Nat.le_of_ble_eq_true rfl⟩ hl hX gL_refused_X10_sign dL_refused_277 hv_277 (Nat.le_of_ble_eq_true rfl) (fun H locs hX => ?_)
                refine lv_iconst (v := (-1 : Int32)) hx hb dL_refused_280 (by decide) ?_
                refine lv_icmp_ne (tgt := 381) hx hb dL_refused_281 (by decide) (fun hc_281 => ?_) (fun hc_281 => ?_)
                · have hf := kneg hc_281 hf
                  exact B381 (l1) (l3) (v277.2) _ _ hX ls (lv_sub hl [1, 2, 3] rfl) hf
                · have hf := kpos hc_281 hf
                  refine lv_aload_n hx hb dL_refused_284 rfl (lv_at hl 1 rfl) ?_
                  refine lv_iload hx hb dL_refused_285 (lv_at hl 5 rfl) ?_
                  refine lv_iconst (v := (0 : Int32)) hx hb dL_refused_287 (by decide) ?_
                  refine lv_iconst (v := (1 : Int32)) hx hb dL_refused_288 (by decide) ?_
                  obtain ⟨v289, hv_289, hf⟩ := bV_s hf
                  refine q_sign C hcs ⟨Nat.le_of_ble_eq_true rfl, Nat.le_of_ble_eq_true rfl⟩ hl hX gL_refused_X10_sign dL_refused_289 hv_289 (Nat.le_of_ble_eq_true rfl) (fun H locs hX => ?_)
                  refine lv_iconst (v := (-1 : Int32)) hx hb dL_refused_292 (by decide) ?_
                  refine lv_icmp_ne (tgt := 381) hx hb dL_refused_293 (by decide) (fun hc_293 => ?_) (fun hc_293 => ?_)
                  · have hf := kneg hc_293 hf
                    exact B381 (l1) (l3) (v289.2) _ _ hX ls (lv_sub hl [1, 2, 3] rfl) hf
                  · have hf := kpos hc_293 hf
                    refine lv_aload_n hx hb dL_refused_296 rfl (lv_at hl 1 rfl) ?_
                    refine lv_iconst (v := (-1 : Int32)) hx hb dL_refused_297 (by decide) ?_
                    refine lv_iconst (v := (0 : Int32)) hx hb dL_refused_298 (by decide) ?_
                    refine lv_iconst (v := (0 : Int32)) hx hb dL_refused_299 (by decide) ?_
                    obtain ⟨v300, hv_300, hf⟩ := bV_s hf
                    refine q_sign C hcs ⟨Nat.le_of_ble_eq_true rfl, Nat.le_of_ble_eq_true rfl⟩ hl hX gL_refused_X10_sign dL_refused_300 hv_300 (Nat.le_of_ble_eq_true rfl) (fun H locs hX => ?_)
                    refine lv_iconst (v := (-1 : Int32)) hx hb dL_refused_303 (by decide) ?_
                    refine lv_icmp_ne (tgt := 381) hx hb dL_refused_304 (by decide) (fun hc_304 => ?_) (fun hc_304 => ?_)
                    · have hf := kneg hc_304 hf
                      exact B381 (l1) (l3) (v300.2) _ _ hX ls (lv_sub hl [1, 2, 3] rfl) hf
                    · have hf := kpos hc_304 hf
                      refine lv_aload_n hx hb dL_refused_307 rfl (lv_at hl 1 rfl) ?_
                      refine lv_iconst (v := (-1 : Int32)) hx hb dL_refused_308 (by decide) ?_
                      obtain ⟨v309, hv_309, hf⟩ := bV_s hf
                      refine q_unsign C hcs ⟨Nat.le_of_ble_eq_true rfl, Nat.le_of_ble_eq_true rfl⟩ hl hX gL_refused_X10_unsign dL_refused_309 hv_309 (Nat.le_of_ble_eq_true rfl) (fun H locs hX => ?_)
                      refine lv_iconst (v := (-1 : Int32)) hx hb dL_refused_312 (by decide) ?_
                      refine lv_icmp_ne (tgt := 381) hx hb dL_refused_313 (by decide) (fun hc_313 => ?_) (fun hc_313 => ?_)
                      · have hf := kneg hc_313 hf
                        exact B381 (l1) (l3) (v309.2) _ _ hX ls (lv_sub hl [1, 2, 3] rfl) hf
                      · have hf := kpos hc_313 hf
                        refine lv_aload_n hx hb dL_refused_316 rfl (lv_at hl 1 rfl) ?_
                        refine lv_iload hx hb dL_refused_317 (lv_at hl 4 rfl) ?_
                        obtain ⟨v319, hv_319, hf⟩ := bV_s hf
                        refine q_points C hcs ⟨Nat.le_of_ble_eq_true rfl, Nat.le_of_ble_eq_true rfl⟩ hl hX gL_refused_X10_points dL_refused_319 hv_319 (Nat.le_of_ble_eq_true rfl) (fun H locs hX => ?_)
                        refine lv_iconst (v := (-1 : Int32)) hx hb dL_refused_322 (by decide) ?_
                        refine lv_icmp_ne (tgt := 381) hx hb dL_refused_323 (by decide) (fun hc_323 => ?_) (fun hc_323 => ?_)
                        · have hf := kneg hc_323 hf
                          exact B381 (l1) (l3) (v309.2) _ _ hX ls (lv_sub hl [1, 2, 3] rfl) hf
                        · have hf := kpos hc_323 hf
                          refine lv_aload_n hx hb dL_refused_326 rfl (lv_at hl 1 rfl) ?_
                          refine lv_iconst (v := (-1 : Int32)) hx hb dL_refused_327 (by decide) ?_
                          refine lv_iconst (v := (0 : Int32)) hx hb dL_refused_328 (by decide) ?_
                          obtain ⟨v329, hv_329, hf⟩ := bV_s hf
                          refine q_walk C hcs ⟨Nat.le_of_ble_eq_true rfl, Nat.le_of_ble_eq_true rfl⟩ hl hX gL_refused_X10_walk dL_refused_329 hv_329 (Nat.le_of_ble_eq_true rfl) (fun H locs hX => ?_)
                          refine lv_iconst (v := (-1 : Int32)) hx hb dL_refused_332 (by decide) ?_
                          refine lv_icmp_ne (tgt := 381) hx hb dL_refused_333 (by decide) (fun hc_333 => ?_) (fun hc_333 => ?_)
                          · have hf := kneg hc_333 hf
                            exact B381 (l1) (l3) (v309.2) _ _ hX ls (lv_sub hl [1, 2, 3] rfl) hf
                          · have hf := kpos hc_333 hf
                            refine lv_aload_n hx hb dL_refused_336 rfl (lv_at hl 1 rfl) ?_
                            refine lv_sipush (v := (2001 : Int32)) hx hb dL_refused_337 (by decide) ?_
                            refine lv_iconst (v := (1 : Int32)) hx hb dL_refused_340 (by decide) ?_
                            obtain ⟨v341, hv_341, hf⟩ := bV_s hf
                            refine q_walk C hcs ⟨Nat.le_of_ble_eq_true rfl, Nat.le_of_ble_eq_true rfl⟩ hl hX gL_refused_X10_walk dL_refused_341 hv_341 (Nat.le_of_ble_eq_true rfl) (fun H locs hX => ?_)
                            refine lv_iconst (v := (-1 : Int32)) hx hb dL_refused_344 (by decide) ?_
                            refine lv_icmp_ne (tgt := 381) hx hb dL_refused_345 (by decide) (fun hc_345 => ?_) (fun hc_345 => ?_)
                            · have hf := kneg hc_345 hf
                              exact B381 (l1) (l3) (v309.2) _ _ hX ls (lv_sub hl [1, 2, 3] rfl) hf
                            · have hf := kpos hc_345 hf
                              refine lv_aload_n hx hb dL_refused_348 rfl (lv_at hl 1 rfl) ?_
                              refine lv_iconst (v := (5 : Int32)) hx hb dL_refused_349 (by decide) ?_
                              refine lv_iconst (v := (-1 : Int32)) hx hb dL_refused_350 (by decide) ?_
                              obtain ⟨v351, hv_351, hf⟩ := bV_s hf
                              refine q_walk C hcs ⟨Nat.le_of_ble_eq_true rfl, Nat.le_of_ble_eq_true rfl⟩ hl hX gL_refused_X10_walk dL_refused_351 hv_351 (Nat.le_of_ble_eq_true rfl) (fun H locs hX => ?_)
                              refine lv_iconst (v := (-1 : Int32)) hx hb dL_refused_354 (by decide) ?_
                              refine lv_icmp_ne (tgt := 381) hx hb dL_refused_355 (by decide) (fun hc_355 => ?_) (fun hc_355 => ?_)
                              · have hf := kneg hc_355 hf
                                exact B381 (l1) (l3) (v309.2) _ _ hX ls (lv_sub hl [1, 2, 3] rfl) hf
                              · have hf := kpos hc_355 hf
                                refine lv_aload_n hx hb dL_refused_358 rfl (lv_at hl 1 rfl) ?_
                                refine lv_bipush (v := (31 : Int32)) hx hb dL_refused_359 (by decide) ?_
                                obtain ⟨v361, hv_361, hf⟩ := bV_s hf
                                refine q_type C hcs ⟨Nat.le_of_ble_eq_true rfl, Nat.le_of_ble_eq_true rfl⟩ hl hX gL_refused_X10_type dL_refused_361 hv_361 (Nat.le_of_ble_eq_true rfl) (fun H locs hX => ?_)
                                refine lv_iconst (v := (-1 : Int32)) hx hb dL_refused_364 (by decide) ?_
                                refine lv_icmp_ne (tgt := 381) hx hb dL_refused_365 (by decide) (fun hc_365 => ?_) (fun hc_365 => ?_)
                                · have hf := kneg hc_365 hf
                                  exact B381 (l1) (l3) (v361.2) _ _ hX ls (lv_sub hl [1, 2, 3] rfl) hf
                                · have hf := kpos hc_365 hf
                                  refine lv_aload_n hx hb dL_refused_368 rfl (lv_at hl 1 rfl) ?_
                                  refine lv_iconst (v := (-1 : Int32)) hx hb dL_refused_369 (by decide) ?_
                                  obtain ⟨v370, hv_370, hf⟩ := bV_s hf
                                  refine q_fault C hcs ⟨Nat.le_of_ble_eq_true rfl, Nat.le_of_ble_eq_true rfl⟩ hl hX gL_refused_X10_fault dL_refused_370 hv_370 (Nat.le_of_ble_eq_true rfl) (fun H locs hX => ?_)
                                  refine lv_iconst (v := (-1 : Int32)) hx hb dL_refused_373 (by decide) ?_
                                  refine lv_icmp_ne (tgt := 381) hx hb dL_refused_374 (by decide) (fun hc_374 => ?_) (fun hc_374 => ?_)
                                  · have hf := kneg hc_374 hf
                                    exact B381 (l1) (l3) (v361.2) _ _ hX ls (lv_sub hl [1, 2, 3] rfl) hf
                                  · have hf := kpos hc_374 hf
                                    refine lv_iconst (v := (1 : Int32)) hx hb dL_refused_377 (by decide) ?_
                                    refine lv_goto (tgt := 382) hx hb dL_refused_378 (by decide) ?_
                                    exact B382 (l1) (l3) ((1 : Int32)) (v361.2) _ _ hX ls (lv_sub hl [1, 2, 3] rfl) hf
  have B205 : ∀ (l1 : Int64) (l3 : Int32) (l4 : Int32) (l5 : Int32) (cg : gS) (H : Heap) (locs : List Loc), WX dC dI cy qc A s cg H locs → ∀ (ls : Array Slot), lv_has ls 7 [(0, .ref qc), (1, .long l1), (3, .int l3), (4, .int l4), (5, .int l5)] → b_L_refused_205 N l1 l3 l4 l5 cg = some out → W p l e (headSpec wsL_refused rm_L_refused).room s m ([.ref qc] : List Value).toArray below meth c H locs 0 0 Q (F0 m 205 ls []) := by
    intro l1 l3 l4 l5 cg H locs hX ls hl hf
    rw [b_L_refused_205] at hf
    refine lv_iconst (v := (0 : Int32)) hx hb dL_refused_205 (by decide) ?_
    exact B206 (l1) (l3) (l4) (l5) ((0 : Int32)) (cg) _ _ hX ls (lv_sub hl [0, 1, 2, 3, 4] rfl) hf
  rw [f_L_refused] at hf
  refine lv_aload_n hx hb dL_refused_0 rfl (lv_at hl 0 rfl) ?_
  obtain ⟨v1, g1, hv_1, hf⟩ := bnd2_s hf
  refine kLl C hX (r := v1) (g1 := g1) (fun ws hI hP hU => va_runS (As := [.ref qc]) (rest := []) ⟨hx, hb, hml, hown, hts⟩ (c_L_print l dC dI cy G s.heap.size qc ws N g  (v1, g1) hI hv_1) (va_cwS 1 hts gL_refused_L_print rfl rfl rfl hdL_print.2 ⟨Nat.le_of_ble_eq_true rfl, Nat.le_of_ble_eq_true rfl⟩) ⟨kBlind, fun U h1 h2 => ⟨rfl, hU U h1 h2⟩⟩ rfl rfl hl.1 rfl (lv_room (Nat.le_of_ble_eq_true rfl)) dL_refused_1 ⟨hcs.1, hcs.2⟩) (fun H locs hX => ?_)
  refine lv_lstore_n (lv' := [(1, .long v1), (0, .ref qc)]) hx hb dL_refused_4 rfl hl (by decide) rfl (fun ls hl => ?_)
  refine lv_aload_n hx hb dL_refused_5 rfl (lv_at hl 1 rfl) ?_
  refine lv_bipush (v := (14 : Int32)) hx hb dL_refused_6 (by decide) ?_
  obtain ⟨v8, hv_8, hf⟩ := bV_s hf
  refine q_count C hcs ⟨Nat.le_of_ble_eq_true rfl, Nat.le_of_ble_eq_true rfl⟩ hl hX gL_refused_X10_count dL_refused_8 hv_8 (Nat.le_of_ble_eq_true rfl) (fun H locs hX => ?_)
  refine lv_istore_n (lv' := [(3, .int v8), (1, .long v1), (0, .ref qc)]) hx hb dL_refused_11 rfl hl (by decide) rfl (fun ls hl => ?_)
  refine lv_bipush (v := (6 : Int32)) hx hb dL_refused_12 (by decide) ?_
  refine lv_aload_n hx hb dL_refused_14 rfl (lv_at hl 2 rfl) ?_
  refine lv_iconst (v := (1 : Int32)) hx hb dL_refused_15 (by decide) ?_
  obtain ⟨v16, hv_16, hf⟩ := bV_s hf
  refine q_count C hcs ⟨Nat.le_of_ble_eq_true rfl, Nat.le_of_ble_eq_true rfl⟩ hl hX gL_refused_X10_count dL_refused_16 hv_16 (Nat.le_of_ble_eq_true rfl) (fun H locs hX => ?_)
  refine lv_imul hx hb dL_refused_19 ?_
  refine lv_istore (lv' := [(4, .int ((6 : Int32) * v16)), (3, .int v8), (1, .long v1), (0, .ref qc)]) hx hb dL_refused_20 hl (by decide) rfl (fun ls hl => ?_)
  refine lv_aload_n hx hb dL_refused_22 rfl (lv_at hl 3 rfl) ?_
  refine lv_bipush (v := (10 : Int32)) hx hb dL_refused_23 (by decide) ?_
  obtain ⟨v25, hv_25, hf⟩ := bV_s hf
  refine q_count C hcs ⟨Nat.le_of_ble_eq_true rfl, Nat.le_of_ble_eq_true rfl⟩ hl hX gL_refused_X10_count dL_refused_25 hv_25 (Nat.le_of_ble_eq_true rfl) (fun H locs hX => ?_)
  refine lv_istore (lv' := [(5, .int v25), (4, .int ((6 : Int32) * v16)), (3, .int v8), (1, .long v1), (0, .ref qc)]) hx hb dL_refused_28 hl (by decide) rfl (fun ls hl => ?_)
  refine lv_aload_n hx hb dL_refused_30 rfl (lv_at hl 4 rfl) ?_
  refine lv_iload hx hb dL_refused_31 (lv_at hl 1 rfl) ?_
  obtain ⟨v33, hv_33, hf⟩ := bV_s hf
  refine q_letterOf C hcs ⟨Nat.le_of_ble_eq_true rfl, Nat.le_of_ble_eq_true rfl⟩ hl hX gL_refused_X10_letterOf dL_refused_33 hv_33 (Nat.le_of_ble_eq_true rfl) (fun H locs hX => ?_)
  refine lv_iconst (v := (-1 : Int32)) hx hb dL_refused_36 (by decide) ?_
  refine lv_icmp_ne (tgt := 205) hx hb dL_refused_37 (by decide) (fun hc_37 => ?_) (fun hc_37 => ?_)
  · have hf := kneg hc_37 hf
    exact B205 (v1) (v8) (((6 : Int32) * v16)) (v25) (g1) _ _ hX ls (lv_sub hl [4, 3, 2, 1, 0] rfl) hf
  · have hf := kpos hc_37 hf
    refine lv_aload_n hx hb dL_refused_40 rfl (lv_at hl 4 rfl) ?_
    refine lv_iconst (v := (-1 : Int32)) hx hb dL_refused_41 (by decide) ?_
    refine lv_iconst (v := (0 : Int32)) hx hb dL_refused_42 (by decide) ?_
    obtain ⟨v43, hv_43, hf⟩ := bV_s hf
    refine q_letter C hcs ⟨Nat.le_of_ble_eq_true rfl, Nat.le_of_ble_eq_true rfl⟩ hl hX gL_refused_X10_letter dL_refused_43 hv_43 (Nat.le_of_ble_eq_true rfl) (fun H locs hX => ?_)
    refine lv_iconst (v := (-1 : Int32)) hx hb dL_refused_46 (by decide) ?_
    refine lv_icmp_ne (tgt := 205) hx hb dL_refused_47 (by decide) (fun hc_47 => ?_) (fun hc_47 => ?_)
    · have hf := kneg hc_47 hf
      exact B205 (v1) (v8) (((6 : Int32) * v16)) (v25) (g1) _ _ hX ls (lv_sub hl [4, 3, 2, 1, 0] rfl) hf
    · have hf := kpos hc_47 hf
      refine lv_aload_n hx hb dL_refused_50 rfl (lv_at hl 4 rfl) ?_
      refine lv_iconst (v := (0 : Int32)) hx hb dL_refused_51 (by decide) ?_
      refine lv_iconst (v := (-1 : Int32)) hx hb dL_refused_52 (by decide) ?_
      obtain ⟨v53, hv_53, hf⟩ := bV_s hf
      refine q_letter C hcs ⟨Nat.le_of_ble_eq_true rfl, Nat.le_of_ble_eq_true rfl⟩ hl hX gL_refused_X10_letter dL_refused_53 hv_53 (Nat.le_of_ble_eq_true rfl) (fun H locs hX => ?_)
      refine lv_iconst (v := (-1 : Int32)) hx hb dL_refused_56 (by decide) ?_
      refine lv_icmp_ne (tgt := 205) hx hb dL_refused_57 (by decide) (fun hc_57 => ?_) (fun hc_57 => ?_)
      · have hf := kneg hc_57 hf
        exact B205 (v1) (v8) (((6 : Int32) * v16)) (v25) (g1) _ _ hX ls (lv_sub hl [4, 3, 2, 1, 0] rfl) hf
      · have hf := kpos hc_57 hf
        refine lv_aload_n hx hb dL_refused_60 rfl (lv_at hl 4 rfl) ?_
        refine lv_bipush (v := (6 : Int32)) hx hb dL_refused_61 (by decide) ?_
        refine lv_iconst (v := (0 : Int32)) hx hb dL_refused_63 (by decide) ?_
        obtain ⟨v64, hv_64, hf⟩ := bV_s hf
        refine q_letter C hcs ⟨Nat.le_of_ble_eq_true rfl, Nat.le_of_ble_eq_true rfl⟩ hl hX gL_refused_X10_letter dL_refused_64 hv_64 (Nat.le_of_ble_eq_true rfl) (fun H locs hX => ?_)
        refine lv_bipush (v := (-4 : Int32)) hx hb dL_refused_67 (by decide) ?_
        refine lv_icmp_ne (tgt := 205) hx hb dL_refused_69 (by decide) (fun hc_69 => ?_) (fun hc_69 => ?_)
        · have hf := kneg hc_69 hf
          exact B205 (v1) (v8) (((6 : Int32) * v16)) (v25) (g1) _ _ hX ls (lv_sub hl [4, 3, 2, 1, 0] rfl) hf
        · have hf := kpos hc_69 hf
          refine lv_aload_n hx hb dL_refused_72 rfl (lv_at hl 4 rfl) ?_
          refine lv_iload hx hb dL_refused_73 (lv_at hl 1 rfl) ?_
          obtain ⟨v75, hv_75, hf⟩ := bV_s hf
          refine q_isRoom C hcs ⟨Nat.le_of_ble_eq_true rfl, Nat.le_of_ble_eq_true rfl⟩ hl hX gL_refused_X10_isRoom dL_refused_75 hv_75 (Nat.le_of_ble_eq_true rfl) (fun H locs hX => ?_)
          refine lv_iconst (v := (-1 : Int32)) hx hb dL_refused_78 (by decide) ?_
          refine lv_icmp_ne (tgt := 205) hx hb dL_refused_79 (by decide) (fun hc_79 => ?_) (fun hc_79 => ?_)
          · have hf := kneg hc_79 hf
            exact B205 (v1) (v8) (((6 : Int32) * v16)) (v25) (g1) _ _ hX ls (lv_sub hl [4, 3, 2, 1, 0] rfl) hf
          · have hf := kpos hc_79 hf
            refine lv_aload_n hx hb dL_refused_82 rfl (lv_at hl 4 rfl) ?_
            refine lv_bipush (v := (-5 : Int32)) hx hb dL_refused_83 (by decide) ?_
            obtain ⟨v85, hv_85, hf⟩ := bV_s hf
            refine q_make C hcs ⟨Nat.le_of_ble_eq_true rfl, Nat.le_of_ble_eq_true rfl⟩ hl hX gL_refused_X10_make dL_refused_85 hv_85 (Nat.le_of_ble_eq_true rfl) (fun H locs hX => ?_)
            refine lv_iconst (v := (-1 : Int32)) hx hb dL_refused_88 (by decide) ?_
            refine lv_icmp_ne (tgt := 205) hx hb dL_refused_89 (by decide) (fun hc_89 => ?_) (fun hc_89 => ?_)
            · have hf := kneg hc_89 hf
              exact B205 (v1) (v8) (((6 : Int32) * v16)) (v25) (v85.2) _ _ hX ls (lv_sub hl [4, 3, 2, 1, 0] rfl) hf
            · have hf := kpos hc_89 hf
              refine lv_aload_n hx hb dL_refused_92 rfl (lv_at hl 4 rfl) ?_
              refine lv_iload hx hb dL_refused_93 (lv_at hl 1 rfl) ?_
              refine lv_iconst (v := (0 : Int32)) hx hb dL_refused_95 (by decide) ?_
              refine lv_iconst (v := (0 : Int32)) hx hb dL_refused_96 (by decide) ?_
              obtain ⟨v97, hv_97, hf⟩ := bV_s hf
              refine q_door C hcs ⟨Nat.le_of_ble_eq_true rfl, Nat.le_of_ble_eq_true rfl⟩ hl hX gL_refused_X10_door dL_refused_97 hv_97 (Nat.le_of_ble_eq_true rfl) (fun H locs hX => ?_)
              refine lv_iconst (v := (-1 : Int32)) hx hb dL_refused_100 (by decide) ?_
              refine lv_icmp_ne (tgt := 205) hx hb dL_refused_101 (by decide) (fun hc_101 => ?_) (fun hc_101 => ?_)
              · have hf := kneg hc_101 hf
                exact B205 (v1) (v8) (((6 : Int32) * v16)) (v25) (v97.2) _ _ hX ls (lv_sub hl [4, 3, 2, 1, 0] rfl) hf
              · have hf := kpos hc_101 hf
                refine lv_aload_n hx hb dL_refused_104 rfl (lv_at hl 4 rfl) ?_
                refine lv_iload hx hb dL_refused_105 (lv_at hl 0 rfl) ?_
                refine lv_iconst (v := (-1 : Int32)) hx hb dL_refused_107 (by decide) ?_
                refine lv_iconst (v := (0 : Int32)) hx hb dL_refused_108 (by decide) ?_
                obtain ⟨v109, hv_109, hf⟩ := bV_s hf
                refine q_door C hcs ⟨Nat.le_of_ble_eq_true rfl, Nat.le_of_ble_eq_true rfl⟩ hl hX gL_refused_X10_door dL_refused_109 hv_109 (Nat.le_of_ble_eq_true rfl) (fun H locs hX => ?_)
                refine lv_iconst (v := (-1 : Int32)) hx hb dL_refused_112 (by decide) ?_
                refine lv_icmp_ne (tgt := 205) hx hb dL_refused_113 (by decide) (fun hc_113 => ?_) (fun hc_113 => ?_)
                · have hf := kneg hc_113 hf
                  exact B205 (v1) (v8) (((6 : Int32) * v16)) (v25) (v109.2) _ _ hX ls (lv_sub hl [4, 3, 2, 1, 0] rfl) hf
                · have hf := kpos hc_113 hf
                  refine lv_aload_n hx hb dL_refused_116 rfl (lv_at hl 4 rfl) ?_
                  refine lv_iload hx hb dL_refused_117 (lv_at hl 1 rfl) ?_
                  refine lv_iconst (v := (1 : Int32)) hx hb dL_refused_119 (by decide) ?_
                  refine lv_isub hx hb dL_refused_120 ?_
                  refine lv_iconst (v := (2 : Int32)) hx hb dL_refused_121 (by decide) ?_
                  refine lv_iconst (v := (1 : Int32)) hx hb dL_refused_122 (by decide) ?_
                  obtain ⟨v123, hv_123, hf⟩ := bV_s hf
                  refine q_door C hcs ⟨Nat.le_of_ble_eq_true rfl, Nat.le_of_ble_eq_true rfl⟩ hl hX gL_refused_X10_door dL_refused_123 hv_123 (Nat.le_of_ble_eq_true rfl) (fun H locs hX => ?_)
                  refine lv_bipush (v := (-4 : Int32)) hx hb dL_refused_126 (by decide) ?_
                  refine lv_icmp_ne (tgt := 205) hx hb dL_refused_128 (by decide) (fun hc_128 => ?_) (fun hc_128 => ?_)
                  · have hf := kneg hc_128 hf
                    exact B205 (v1) (v8) (((6 : Int32) * v16)) (v25) (v123.2) _ _ hX ls (lv_sub hl [4, 3, 2, 1, 0] rfl) hf
                  · have hf := kpos hc_128 hf
                    refine lv_aload_n hx hb dL_refused_131 rfl (lv_at hl 4 rfl) ?_
                    refine lv_iload hx hb dL_refused_132 (lv_at hl 0 rfl) ?_
                    refine lv_iconst (v := (0 : Int32)) hx hb dL_refused_134 (by decide) ?_
                    refine lv_iconst (v := (2 : Int32)) hx hb dL_refused_135 (by decide) ?_
                    obtain ⟨v136, hv_136, hf⟩ := bV_s hf
                    refine q_door C hcs ⟨Nat.le_of_ble_eq_true rfl, Nat.le_of_ble_eq_true rfl⟩ hl hX gL_refused_X10_door dL_refused_136 hv_136 (Nat.le_of_ble_eq_true rfl) (fun H locs hX => ?_)
                    refine lv_iconst (v := (-1 : Int32)) hx hb dL_refused_139 (by decide) ?_
                    refine lv_icmp_ne (tgt := 205) hx hb dL_refused_140 (by decide) (fun hc_140 => ?_) (fun hc_140 => ?_)
                    · have hf := kneg hc_140 hf
                      exact B205 (v1) (v8) (((6 : Int32) * v16)) (v25) (v136.2) _ _ hX ls (lv_sub hl [4, 3, 2, 1, 0] rfl) hf
                    · have hf := kpos hc_140 hf
                      refine lv_aload_n hx hb dL_refused_143 rfl (lv_at hl 4 rfl) ?_
                      refine lv_iconst (v := (-1 : Int32)) hx hb dL_refused_144 (by decide) ?_
                      obtain ⟨v145, hv_145, hf⟩ := bV_s hf
                      refine q_doors C hcs ⟨Nat.le_of_ble_eq_true rfl, Nat.le_of_ble_eq_true rfl⟩ hl hX gL_refused_X10_doors dL_refused_145 hv_145 (Nat.le_of_ble_eq_true rfl) (fun H locs hX => ?_)
                      refine lv_iconst (v := (-1 : Int32)) hx hb dL_refused_148 (by decide) ?_
                      refine lv_icmp_ne (tgt := 205) hx hb dL_refused_149 (by decide) (fun hc_149 => ?_) (fun hc_149 => ?_)
                      · have hf := kneg hc_149 hf
                        exact B205 (v1) (v8) (((6 : Int32) * v16)) (v25) (v136.2) _ _ hX ls (lv_sub hl [4, 3, 2, 1, 0] rfl) hf
                      · have hf := kpos hc_149 hf
                        refine lv_aload_n hx hb dL_refused_152 rfl (lv_at hl 4 rfl) ?_
                        refine lv_bipush (v := (16 : Int32)) hx hb dL_refused_153 (by decide) ?_
                        obtain ⟨v155, hv_155, hf⟩ := bV_s hf
                        refine q_count C hcs ⟨Nat.le_of_ble_eq_true rfl, Nat.le_of_ble_eq_true rfl⟩ hl hX gL_refused_X10_count dL_refused_155 hv_155 (Nat.le_of_ble_eq_true rfl) (fun H locs hX => ?_)
                        refine lv_iconst (v := (-1 : Int32)) hx hb dL_refused_158 (by decide) ?_
                        refine lv_icmp_ne (tgt := 205) hx hb dL_refused_159 (by decide) (fun hc_159 => ?_) (fun hc_159 => ?_)
                        · have hf := kneg hc_159 hf
                          exact B205 (v1) (v8) (((6 : Int32) * v16)) (v25) (v136.2) _ _ hX ls (lv_sub hl [4, 3, 2, 1, 0] rfl) hf
                        · have hf := kpos hc_159 hf
                          refine lv_aload_n hx hb dL_refused_162 rfl (lv_at hl 4 rfl) ?_
                          refine lv_iconst (v := (-1 : Int32)) hx hb dL_refused_163 (by decide) ?_
                          obtain ⟨v164, hv_164, hf⟩ := bV_s hf
                          refine q_part C hcs ⟨Nat.le_of_ble_eq_true rfl, Nat.le_of_ble_eq_true rfl⟩ hl hX gL_refused_X10_part dL_refused_164 hv_164 (Nat.le_of_ble_eq_true rfl) (fun H locs hX => ?_)
                          refine lv_iconst (v := (-1 : Int32)) hx hb dL_refused_167 (by decide) ?_
                          refine lv_icmp_ne (tgt := 205) hx hb dL_refused_168 (by decide) (fun hc_168 => ?_) (fun hc_168 => ?_)
                          · have hf := kneg hc_168 hf
                            exact B205 (v1) (v8) (((6 : Int32) * v16)) (v25) (v136.2) _ _ hX ls (lv_sub hl [4, 3, 2, 1, 0] rfl) hf
                          · have hf := kpos hc_168 hf
                            refine lv_aload_n hx hb dL_refused_171 rfl (lv_at hl 4 rfl) ?_
                            refine lv_iconst (v := (-1 : Int32)) hx hb dL_refused_172 (by decide) ?_
                            obtain ⟨v173, hv_173, hf⟩ := bV_s hf
                            refine q_start C hcs ⟨Nat.le_of_ble_eq_true rfl, Nat.le_of_ble_eq_true rfl⟩ hl hX gL_refused_X10_start dL_refused_173 hv_173 (Nat.le_of_ble_eq_true rfl) (fun H locs hX => ?_)
                            refine lv_iconst (v := (-1 : Int32)) hx hb dL_refused_176 (by decide) ?_
                            refine lv_icmp_ne (tgt := 205) hx hb dL_refused_177 (by decide) (fun hc_177 => ?_) (fun hc_177 => ?_)
                            · have hf := kneg hc_177 hf
                              exact B205 (v1) (v8) (((6 : Int32) * v16)) (v25) (v173.2) _ _ hX ls (lv_sub hl [4, 3, 2, 1, 0] rfl) hf
                            · have hf := kpos hc_177 hf
                              refine lv_aload_n hx hb dL_refused_180 rfl (lv_at hl 4 rfl) ?_
                              refine lv_iload hx hb dL_refused_181 (lv_at hl 1 rfl) ?_
                              obtain ⟨v183, hv_183, hf⟩ := bV_s hf
                              refine q_goal C hcs ⟨Nat.le_of_ble_eq_true rfl, Nat.le_of_ble_eq_true rfl⟩ hl hX gL_refused_X10_goal dL_refused_183 hv_183 (Nat.le_of_ble_eq_true rfl) (fun H locs hX => ?_)
                              refine lv_iconst (v := (-1 : Int32)) hx hb dL_refused_186 (by decide) ?_
                              refine lv_icmp_ne (tgt := 205) hx hb dL_refused_187 (by decide) (fun hc_187 => ?_) (fun hc_187 => ?_)
                              · have hf := kneg hc_187 hf
                                exact B205 (v1) (v8) (((6 : Int32) * v16)) (v25) (v183.2) _ _ hX ls (lv_sub hl [4, 3, 2, 1, 0] rfl) hf
                              · have hf := kpos hc_187 hf
                                refine lv_aload_n hx hb dL_refused_190 rfl (lv_at hl 4 rfl) ?_
                                refine lv_iload hx hb dL_refused_191 (lv_at hl 0 rfl) ?_
                                refine lv_iconst (v := (-1 : Int32)) hx hb dL_refused_193 (by decide) ?_
                                obtain ⟨v194, hv_194, hf⟩ := bV_s hf
                                refine q_distance C hcs ⟨Nat.le_of_ble_eq_true rfl, Nat.le_of_ble_eq_true rfl⟩ hl hX gL_refused_X10_distance dL_refused_194 hv_194 (Nat.le_of_ble_eq_true rfl) (fun H locs hX => ?_)
                                refine lv_iconst (v := (-1 : Int32)) hx hb dL_refused_197 (by decide) ?_
                                refine lv_icmp_ne (tgt := 205) hx hb dL_refused_198 (by decide) (fun hc_198 => ?_) (fun hc_198 => ?_)
                                · have hf := kneg hc_198 hf
                                  exact B205 (v1) (v8) (((6 : Int32) * v16)) (v25) (v183.2) _ _ hX ls (lv_sub hl [4, 3, 2, 1, 0] rfl) hf
                                · have hf := kpos hc_198 hf
                                  refine lv_iconst (v := (1 : Int32)) hx hb dL_refused_201 (by decide) ?_
                                  refine lv_goto (tgt := 206) hx hb dL_refused_202 (by decide) ?_
                                  exact B206 (v1) (v8) (((6 : Int32) * v16)) (v25) ((1 : Int32)) (v183.2) _ _ hX ls (lv_sub hl [4, 3, 2, 1, 0] rfl) hf
theorem hdL_refused : yL_refused.cls = RL ∧ yL_refused.cls ≠ "java/lang/invoke/MethodHandle" ∧ yL_refused.cls ≠ "java/lang/invoke/VarHandle" ∧ (parseMethodDescriptor yL_refused.desc).map (fun d => d.parameters.length) = some 1 := by decide +kernel

-- contracts of the law's methods (written by wip/p30/genL.py)
abbrev rm_L_acts : Room := { frames := 9, cells := 0, slots := 0, locals := 200 }
set_option maxHeartbeats 8000000 in
set_option maxRecDepth 100000 in
theorem c_L_acts (l : Launch) (dC : Nat → ClassId) (dI : Nat → Nat → Nat) (cy : gC) (G : gT) (sz qc : Nat) (ws : va_W) (N : Nat) (g : gS) (va2 : Int32) (va3 : Int32) (out : Int32 × gS) (hI : IsW cy qc g ws) (hf : f_L_acts N g va2 va3 = some out) : Met l yL_acts wsL_acts rm_L_acts (va_Pc [.ref qc, .int va2, .int va3] (kP (dC, dI) cy G ws sz)) (va_Qi (fun r (_ : Unit) => r = out.1) (fun _ => kQX (dC, dI) cy qc out.2 (va_A ws sz)) (va_A ws sz)) 0 0 (va_A ws sz) := by
  refine Met.ofW (cc := cL_acts) (maxL := 9) (ret := (some .int)) (by decide) rfl ?_
  intro p e s m args below meth c s₁ B hml hv
  obtain ⟨rfl, hsz, hP, hK, hD0, hG⟩ := hv
  have hx := B.exec
  have hb := B.bytes
  have hr := B.returns
  have hts := atoms_spec (ws := wsL_acts) B.pre
  have hown : s.vm.findClass RL = some m.cls := findClass_of_methodNamed B.named
  have hlocks := B.notSynchronized
  subst hsz
  have hD := hD0.self (sz := s.heap.size)
  generalize hAe : va_A ws s.heap.size = A at hD hG ⊢
  have hA : ∀ q : Nat, s.heap.size ≤ q → A q := fun q h => by rw [← hAe]; exact Or.inr h
  have hX : WX dC dI cy qc A s g s.heap [] := ⟨ws, hI, hP, hD, va_S.rf⟩
  have C : CX p s m c ([.ref qc, .int va2, .int va3] : List Value).toArray cL_acts wsL_acts 9 A dC dI cy G := ⟨hx, hb, hml, hown, hts, hK, hG, hA⟩
  have hcs : 0 ≤ (headSpec wsL_acts rm_L_acts).room.cells ∧ 0 ≤ (headSpec wsL_acts rm_L_acts).room.slots := ⟨Nat.zero_le _, Nat.zero_le _⟩
  have hl := lv_entry ([.ref qc, .int va2, .int va3]) (n := 9) (Nat.le_of_ble_eq_true rfl)
  rw [lg_entry_eq]
  generalize (lg_sl ([.ref qc, .int va2, .int va3]) ++ List.replicate (9 - (lg_sl ([.ref qc, .int va2, .int va3])).length) Slot.unset).toArray = ls at hl ⊢
  have hl : lv_has ls 9 [(0, .ref qc), (1, .int va2), (2, .int va3)] := hl
  refine kgen (fun Q hQ => ?_)
  have hX0 := hX
  have B131 : ∀ (cg : gS) (H : Heap) (locs : List Loc), WX dC dI cy qc A s cg H locs → ∀ (ls : Array Slot), lv_has ls 9 [(0, .ref qc)] → b_L_acts_131 N va2 va3 cg = some out → W p l e (headSpec wsL_acts rm_L_acts).room s m ([.ref qc, .int va2, .int va3] : List Value).toArray below meth c H locs 0 0 Q (F0 m 131 ls []) := by
    intro cg H locs hX ls hl hf
    rw [b_L_acts_131] at hf
    refine lv_aload_n hx hb dL_acts_131 rfl (lv_at hl 0 rfl) ?_
    obtain ⟨v132, hv_132, hf⟩ := bV_s hf
    refine q_word C hcs ⟨Nat.le_of_ble_eq_true rfl, Nat.le_of_ble_eq_true rfl⟩ hl hX gL_acts_X10_word dL_acts_132 hv_132 (Nat.le_of_ble_eq_true rfl) (fun H locs hX => ?_)
    cases hf
    subst hQ
    exact kiretX C hr hlocks hX rfl dL_acts_135
  have B85 : ∀ (n85 : Nat) (l4 : Int32) (l5 : Int64) (l7 : Int32) (l8 : Int32) (cg : gS) (H : Heap) (locs : List Loc), WX dC dI cy qc A s cg H locs → ∀ (ls : Array Slot), lv_has ls 9 [(0, .ref qc), (2, .int va3), (4, .int l4), (5, .long l5), (7, .int l7), (8, .int l8)] → b_L_acts_85 N va2 va3 n85 l4 l5 l7 l8 cg = some out → W p l e (headSpec wsL_acts rm_L_acts).room s m ([.ref qc, .int va2, .int va3] : List Value).toArray below meth c H locs 0 0 Q (F0 m 85 ls []) := by
    intro n85
    induction n85 with
    | zero => intro l4 l5 l7 l8 cg H locs hX ls hl hf; rw [b_L_acts_85] at hf; cases hf
    | succ n85 ih85 =>
      intro l4 l5 l7 l8 cg H locs hX ls hl hf
      rw [b_L_acts_85] at hf
      refine lv_iload hx hb dL_acts_85 (lv_at hl 5 rfl) ?_
      refine lv_iload hx hb dL_acts_87 (lv_at hl 4 rfl) ?_
      refine lv_icmp_ge (tgt := 131) hx hb dL_acts_89 (by decide) (fun hc_89 => ?_) (fun hc_89 => ?_)
      · have hf := kpos hc_89 hf
        exact B131 (cg) _ _ hX ls (lv_sub hl [0] rfl) hf
      · have hf := kneg hc_89 hf
        refine lv_iload hx hb dL_acts_92 (lv_at hl 2 rfl) ?_
        refine lv_if_lt (tgt := 131) hx hb dL_acts_94 (by decide) (fun hc_94 => ?_) (fun hc_94 => ?_)
        · have hf := kpos hc_94 hf
          exact B131 (cg) _ _ hX ls (lv_sub hl [0] rfl) hf
        · have hf := kneg hc_94 hf
          refine lv_aload_n hx hb dL_acts_97 rfl (lv_at hl 0 rfl) ?_
          refine lv_lload hx hb dL_acts_98 (lv_at hl 3 rfl) ?_
          refine lv_bipush (v := (8 : Int32)) hx hb dL_acts_100 (by decide) ?_
          refine lv_iload_n hx hb dL_acts_102 rfl (lv_at hl 1 rfl) ?_
          refine lv_iconst (v := (3 : Int32)) hx hb dL_acts_103 (by decide) ?_
          refine lv_idiv hx hb dL_acts_104 (by decide) ?_
          refine lv_iconst (v := (3 : Int32)) hx hb dL_acts_105 (by decide) ?_
          refine lv_iload hx hb dL_acts_106 (lv_at hl 5 rfl) ?_
          refine lv_imul hx hb dL_acts_108 ?_
          refine lv_ishr hx hb dL_acts_109 ?_
          refine lv_bipush (v := (7 : Int32)) hx hb dL_acts_110 (by decide) ?_
          refine lv_iand hx hb dL_acts_112 ?_
          refine lv_imul hx hb dL_acts_113 ?_
          refine lv_lshr (v := (l5 >>> ((((8 : Int32) * (((va3 / (3 : Int32)) >>> (((3 : Int32) * l8) &&& 31)) &&& (7 : Int32)))).toInt64 &&& 63))) hx hb dL_acts_114 rfl ?_
          refine lv_ldc2 (v := (255 : Int64)) hx hb hown (hts _ (List.mem_cons_of_mem _ (List.mem_append_left _ (List.mem_append_left _ (List.mem_append_left _ (List.mem_append_left _ (List.mem_append_left _ (List.mem_append_left _ (List.mem_append_left _ (List.mem_append_left _ (List.mem_append_left _ (List.mem_append_left _ (List.mem_of_getElem? (i := 1) rfl))))))))))))) dL_acts_115 ?_
          refine lv_land hx hb dL_acts_118 ?_
          refine lv_l2i (v := (((l5 >>> ((((8 : Int32) * (((va3 / (3 : Int32)) >>> (((3 : Int32) * l8) &&& 31)) &&& (7 : Int32)))).toInt64 &&& 63)) &&& (255 : Int64))).toInt32) hx hb dL_acts_119 rfl ?_
          obtain ⟨v120, hv_120, hf⟩ := bV_s hf
          refine q_type C hcs ⟨Nat.le_of_ble_eq_true rfl, Nat.le_of_ble_eq_true rfl⟩ hl hX gL_acts_X10_type dL_acts_120 hv_120 (Nat.le_of_ble_eq_true rfl) (fun H locs hX => ?_)
          refine lv_istore (lv' := [(4, .int v120.1), (0, .ref qc), (2, .int va3), (5, .long l5), (7, .int l7), (8, .int l8)]) hx hb dL_acts_123 hl (by decide) rfl (fun ls hl => ?_)
          refine lv_iinc (v := (l8 + (1 : Int32))) (lv' := [(8, .int (l8 + (1 : Int32))), (4, .int v120.1), (0, .ref qc), (2, .int va3), (5, .long l5), (7, .int l7)]) hx hb dL_acts_125 hl (k := 5) rfl rfl (by decide) rfl (fun ls hl => ?_)
          refine lv_goto (tgt := 85) hx hb dL_acts_128 (by decide) ?_
          exact ih85 (v120.1) (l5) (l7) ((l8 + (1 : Int32))) (v120.2) _ _ hX ls (lv_sub hl [2, 3, 1, 4, 5, 0] rfl) hf
  have B167 : ∀ (s1 : Int32) (s2 : Int32) (s3 : Int32) (cg : gS) (H : Heap) (locs : List Loc), WX dC dI cy qc A s cg H locs → ∀ (ls : Array Slot), lv_has ls 9 [] → b_L_acts_167 N va2 va3 s1 s2 s3 cg = some out → W p l e (headSpec wsL_acts rm_L_acts).room s m ([.ref qc, .int va2, .int va3] : List Value).toArray below meth c H locs 0 0 Q (F0 m 167 ls [.int s3, .int s2, .int s1, .ref qc]) := by
    intro s1 s2 s3 cg H locs hX ls hl hf
    rw [b_L_acts_167] at hf
    obtain ⟨v167, hv_167, hf⟩ := bV_s hf
    refine q_door C hcs ⟨Nat.le_of_ble_eq_true rfl, Nat.le_of_ble_eq_true rfl⟩ hl hX gL_acts_X10_door dL_acts_167 hv_167 (Nat.le_of_ble_eq_true rfl) (fun H locs hX => ?_)
    cases hf
    subst hQ
    exact kiretX C hr hlocks hX rfl dL_acts_170
  have B216 : ∀ (s1 : Int32) (s2 : Int32) (s3 : Int32) (cg : gS) (H : Heap) (locs : List Loc), WX dC dI cy qc A s cg H locs → ∀ (ls : Array Slot), lv_has ls 9 [] → b_L_acts_216 N va2 va3 s1 s2 s3 cg = some out → W p l e (headSpec wsL_acts rm_L_acts).room s m ([.ref qc, .int va2, .int va3] : List Value).toArray below meth c H locs 0 0 Q (F0 m 216 ls [.int s3, .int s2, .int s1, .ref qc]) := by
    intro s1 s2 s3 cg H locs hX ls hl hf
    rw [b_L_acts_216] at hf
    obtain ⟨v216, hv_216, hf⟩ := bV_s hf
    refine q_sign C hcs ⟨Nat.le_of_ble_eq_true rfl, Nat.le_of_ble_eq_true rfl⟩ hl hX gL_acts_X10_sign dL_acts_216 hv_216 (Nat.le_of_ble_eq_true rfl) (fun H locs hX => ?_)
    cases hf
    subst hQ
    exact kiretX C hr hlocks hX rfl dL_acts_219
  rw [f_L_acts] at hf
  refine lv_aload_n hx hb dL_acts_0 rfl (lv_at hl 0 rfl) ?_
  refine lv_iload_n hx hb dL_acts_1 rfl (lv_at hl 2 rfl) ?_
  obtain ⟨v2, g2, hv_2, hf⟩ := bnd2_s hf
  refine kLi C hX (r := v2) (g1 := g2) (fun ws hI hP hU => va_runS (As := [.ref qc, .int va3]) (rest := []) ⟨hx, hb, hml, hown, hts⟩ (c_L_anyRoom l dC dI cy G s.heap.size qc ws N g va3 (v2, g2) hI hv_2) (va_cwS 2 hts gL_acts_L_anyRoom rfl rfl rfl hdL_anyRoom.2 ⟨Nat.le_of_ble_eq_true rfl, Nat.le_of_ble_eq_true rfl⟩) ⟨kBlind, fun U h1 h2 => ⟨rfl, hU U h1 h2⟩⟩ rfl rfl hl.1 rfl (lv_room (Nat.le_of_ble_eq_true rfl)) dL_acts_2 ⟨hcs.1, hcs.2⟩) (fun H locs hX => ?_)
  refine lv_istore_n (lv' := [(3, .int v2), (0, .ref qc), (1, .int va2), (2, .int va3)]) hx hb dL_acts_5 rfl hl (by decide) rfl (fun ls hl => ?_)
  refine lv_iload_n hx hb dL_acts_6 rfl (lv_at hl 2 rfl) ?_
  refine lv_bipush (v := (12 : Int32)) hx hb dL_acts_7 (by decide) ?_
  obtain ⟨v9, hv_9, hf⟩ := bnd1_s hf
  refine kLn C hX (r := v9) (fun hU => va_runS (As := [.int va2, .int (12 : Int32)]) (rest := []) ⟨hx, hb, hml, hown, hts⟩ (c_L_low l dC dI cy G H.size va2 (12 : Int32) v9 hv_9) (va_cwS 2 hts gL_acts_L_low rfl rfl rfl hdL_low.2 ⟨Nat.le_of_ble_eq_true rfl, Nat.le_of_ble_eq_true rfl⟩) ⟨kBlind, fun U h1 h2 => ⟨rfl, hU U h1 h2⟩⟩ rfl rfl hl.1 rfl (lv_room (Nat.le_of_ble_eq_true rfl)) dL_acts_9 ⟨hcs.1, hcs.2⟩) (fun H locs hX => ?_)
  by_cases hc_12_0 : v9 = (0 : Int32)
  · have hf := kpos hc_12_0 hf
    refine lv_tableIn (tgt := 64) hx hb dL_acts_12 (by rw [hc_12_0]; decide) (by rw [hc_12_0]; decide) (by rw [hc_12_0]; rfl) (by decide) ?_
    refine lv_aload_n hx hb dL_acts_64 rfl (lv_at hl 1 rfl) ?_
    obtain ⟨v65, hv_65, hf⟩ := bV_s hf
    refine q_clearText C hcs ⟨Nat.le_of_ble_eq_true rfl, Nat.le_of_ble_eq_true rfl⟩ hl hX gL_acts_X10_clearText dL_acts_65 hv_65 (Nat.le_of_ble_eq_true rfl) (fun H locs hX => ?_)
    refine lv_istore (lv' := [(4, .int v65.1), (3, .int v2), (0, .ref qc), (1, .int va2), (2, .int va3)]) hx hb dL_acts_68 hl (by decide) rfl (fun ls hl => ?_)
    refine lv_ldc2 (v := (4702678604050878285 : Int64)) hx hb hown (hts _ (List.mem_cons_of_mem _ (List.mem_append_left _ (List.mem_append_left _ (List.mem_append_left _ (List.mem_append_left _ (List.mem_append_left _ (List.mem_append_left _ (List.mem_append_left _ (List.mem_append_left _ (List.mem_append_left _ (List.mem_append_left _ (List.mem_of_getElem? (i := 0) rfl))))))))))))) dL_acts_70 ?_
    refine lv_lstore (lv' := [(5, .long (4702678604050878285 : Int64)), (4, .int v65.1), (3, .int v2), (0, .ref qc), (1, .int va2), (2, .int va3)]) hx hb dL_acts_73 hl (by decide) rfl (fun ls hl => ?_)
    refine lv_iconst (v := (1 : Int32)) hx hb dL_acts_75 (by decide) ?_
    refine lv_iload_n hx hb dL_acts_76 rfl (lv_at hl 5 rfl) ?_
    refine lv_iconst (v := (3 : Int32)) hx hb dL_acts_77 (by decide) ?_
    refine lv_irem hx hb dL_acts_78 (by decide) ?_
    refine lv_iadd hx hb dL_acts_79 ?_
    refine lv_istore (lv' := [(7, .int ((1 : Int32) + (va3 - va3 / (3 : Int32) * (3 : Int32)))), (5, .long (4702678604050878285 : Int64)), (4, .int v65.1), (3, .int v2), (0, .ref qc), (1, .int va2), (2, .int va3)]) hx hb dL_acts_80 hl (by decide) rfl (fun ls hl => ?_)
    refine lv_iconst (v := (0 : Int32)) hx hb dL_acts_82 (by decide) ?_
    refine lv_istore (lv' := [(8, .int (0 : Int32)), (7, .int ((1 : Int32) + (va3 - va3 / (3 : Int32) * (3 : Int32)))), (5, .long (4702678604050878285 : Int64)), (4, .int v65.1), (3, .int v2), (0, .ref qc), (1, .int va2), (2, .int va3)]) hx hb dL_acts_83 hl (by decide) rfl (fun ls hl => ?_)
    exact B85 N (v65.1) ((4702678604050878285 : Int64)) (((1 : Int32) + (va3 - va3 / (3 : Int32) * (3 : Int32)))) ((0 : Int32)) (v65.2) _ _ hX ls (lv_sub hl [5, 7, 3, 2, 1, 0] rfl) hf
  have hf := kneg hc_12_0 hf
  by_cases hc_12_1 : v9 = (1 : Int32)
  · have hf := kpos hc_12_1 hf
    refine lv_tableIn (tgt := 136) hx hb dL_acts_12 (by rw [hc_12_1]; decide) (by rw [hc_12_1]; decide) (by rw [hc_12_1]; rfl) (by decide) ?_
    refine lv_aload_n hx hb dL_acts_136 rfl (lv_at hl 1 rfl) ?_
    refine lv_iload_n hx hb dL_acts_137 rfl (lv_at hl 3 rfl) ?_
    refine lv_ldc (v := (65536 : Int32)) hx hb hown (hts _ (List.mem_cons_of_mem _ (List.mem_append_left _ (List.mem_append_left _ (List.mem_append_left _ (List.mem_append_left _ (List.mem_append_left _ (List.mem_append_left _ (List.mem_append_left _ (List.mem_append_left _ (List.mem_append_left _ (List.mem_append_left _ (List.mem_of_getElem? (i := 2) rfl))))))))))))) dL_acts_138 ?_
    refine lv_irem hx hb dL_acts_140 (by decide) ?_
    obtain ⟨v141, hv_141, hf⟩ := bV_s hf
    refine q_make C hcs ⟨Nat.le_of_ble_eq_true rfl, Nat.le_of_ble_eq_true rfl⟩ hl hX gL_acts_X10_make dL_acts_141 hv_141 (Nat.le_of_ble_eq_true rfl) (fun H locs hX => ?_)
    cases hf
    subst hQ
    exact kiretX C hr hlocks hX rfl dL_acts_144
  have hf := kneg hc_12_1 hf
  by_cases hc_12_2 : v9 = (2 : Int32)
  · have hf := kpos hc_12_2 hf
    refine lv_tableIn (tgt := 136) hx hb dL_acts_12 (by rw [hc_12_2]; decide) (by rw [hc_12_2]; decide) (by rw [hc_12_2]; rfl) (by decide) ?_
    refine lv_aload_n hx hb dL_acts_136 rfl (lv_at hl 1 rfl) ?_
    refine lv_iload_n hx hb dL_acts_137 rfl (lv_at hl 3 rfl) ?_
    refine lv_ldc (v := (65536 : Int32)) hx hb hown (hts _ (List.mem_cons_of_mem _ (List.mem_append_left _ (List.mem_append_left _ (List.mem_append_left _ (List.mem_append_left _ (List.mem_append_left _ (List.mem_append_left _ (List.mem_append_left _ (List.mem_append_left _ (List.mem_append_left _ (List.mem_append_left _ (List.mem_of_getElem? (i := 2) rfl))))))))))))) dL_acts_138 ?_
    refine lv_irem hx hb dL_acts_140 (by decide) ?_
    obtain ⟨v141, hv_141, hf⟩ := bV_s hf
    refine q_make C hcs ⟨Nat.le_of_ble_eq_true rfl, Nat.le_of_ble_eq_true rfl⟩ hl hX gL_acts_X10_make dL_acts_141 hv_141 (Nat.le_of_ble_eq_true rfl) (fun H locs hX => ?_)
    cases hf
    subst hQ
    exact kiretX C hr hlocks hX rfl dL_acts_144
  have hf := kneg hc_12_2 hf
  by_cases hc_12_3 : v9 = (3 : Int32)
  · have hf := kpos hc_12_3 hf
    refine lv_tableIn (tgt := 145) hx hb dL_acts_12 (by rw [hc_12_3]; decide) (by rw [hc_12_3]; decide) (by rw [hc_12_3]; rfl) (by decide) ?_
    refine lv_aload_n hx hb dL_acts_145 rfl (lv_at hl 1 rfl) ?_
    refine lv_iload_n hx hb dL_acts_146 rfl (lv_at hl 0 rfl) ?_
    refine lv_iload_n hx hb dL_acts_147 rfl (lv_at hl 3 rfl) ?_
    refine lv_bipush (v := (7 : Int32)) hx hb dL_acts_148 (by decide) ?_
    refine lv_idiv hx hb dL_acts_150 (by decide) ?_
    refine lv_iconst (v := (4 : Int32)) hx hb dL_acts_151 (by decide) ?_
    refine lv_irem hx hb dL_acts_152 (by decide) ?_
    refine lv_iload_n hx hb dL_acts_153 rfl (lv_at hl 3 rfl) ?_
    refine lv_bipush (v := (28 : Int32)) hx hb dL_acts_154 (by decide) ?_
    refine lv_idiv hx hb dL_acts_156 (by decide) ?_
    refine lv_iconst (v := (3 : Int32)) hx hb dL_acts_157 (by decide) ?_
    refine lv_irem hx hb dL_acts_158 (by decide) ?_
    refine lv_if_le (tgt := 166) hx hb dL_acts_159 (by decide) (fun hc_159 => ?_) (fun hc_159 => ?_)
    · have hf := kpos hc_159 hf
      refine lv_iconst (v := (0 : Int32)) hx hb dL_acts_166 (by decide) ?_
      exact B167 (v2) (((va3 / (7 : Int32)) - (va3 / (7 : Int32)) / (4 : Int32) * (4 : Int32))) ((0 : Int32)) (g2) _ _ hX ls (lv_sub hl [] rfl) hf
    · have hf := kneg hc_159 hf
      refine lv_iconst (v := (1 : Int32)) hx hb dL_acts_162 (by decide) ?_
      refine lv_goto (tgt := 167) hx hb dL_acts_163 (by decide) ?_
      exact B167 (v2) (((va3 / (7 : Int32)) - (va3 / (7 : Int32)) / (4 : Int32) * (4 : Int32))) ((1 : Int32)) (g2) _ _ hX ls (lv_sub hl [] rfl) hf
  have hf := kneg hc_12_3 hf
  by_cases hc_12_4 : v9 = (4 : Int32)
  · have hf := kpos hc_12_4 hf
    refine lv_tableIn (tgt := 145) hx hb dL_acts_12 (by rw [hc_12_4]; decide) (by rw [hc_12_4]; decide) (by rw [hc_12_4]; rfl) (by decide) ?_
    refine lv_aload_n hx hb dL_acts_145 rfl (lv_at hl 1 rfl) ?_
    refine lv_iload_n hx hb dL_acts_146 rfl (lv_at hl 0 rfl) ?_
    refine lv_iload_n hx hb dL_acts_147 rfl (lv_at hl 3 rfl) ?_
    refine lv_bipush (v := (7 : Int32)) hx hb dL_acts_148 (by decide) ?_
    refine lv_idiv hx hb dL_acts_150 (by decide) ?_
    refine lv_iconst (v := (4 : Int32)) hx hb dL_acts_151 (by decide) ?_
    refine lv_irem hx hb dL_acts_152 (by decide) ?_
    refine lv_iload_n hx hb dL_acts_153 rfl (lv_at hl 3 rfl) ?_
    refine lv_bipush (v := (28 : Int32)) hx hb dL_acts_154 (by decide) ?_
    refine lv_idiv hx hb dL_acts_156 (by decide) ?_
    refine lv_iconst (v := (3 : Int32)) hx hb dL_acts_157 (by decide) ?_
    refine lv_irem hx hb dL_acts_158 (by decide) ?_
    refine lv_if_le (tgt := 166) hx hb dL_acts_159 (by decide) (fun hc_159 => ?_) (fun hc_159 => ?_)
    · have hf := kpos hc_159 hf
      refine lv_iconst (v := (0 : Int32)) hx hb dL_acts_166 (by decide) ?_
      exact B167 (v2) (((va3 / (7 : Int32)) - (va3 / (7 : Int32)) / (4 : Int32) * (4 : Int32))) ((0 : Int32)) (g2) _ _ hX ls (lv_sub hl [] rfl) hf
    · have hf := kneg hc_159 hf
      refine lv_iconst (v := (1 : Int32)) hx hb dL_acts_162 (by decide) ?_
      refine lv_goto (tgt := 167) hx hb dL_acts_163 (by decide) ?_
      exact B167 (v2) (((va3 / (7 : Int32)) - (va3 / (7 : Int32)) / (4 : Int32) * (4 : Int32))) ((1 : Int32)) (g2) _ _ hX ls (lv_sub hl [] rfl) hf
  have hf := kneg hc_12_4 hf
  by_cases hc_12_5 : v9 = (5 : Int32)
  · have hf := kpos hc_12_5 hf
    refine lv_tableIn (tgt := 145) hx hb dL_acts_12 (by rw [hc_12_5]; decide) (by rw [hc_12_5]; decide) (by rw [hc_12_5]; rfl) (by decide) ?_
    refine lv_aload_n hx hb dL_acts_145 rfl (lv_at hl 1 rfl) ?_
    refine lv_iload_n hx hb dL_acts_146 rfl (lv_at hl 0 rfl) ?_
    refine lv_iload_n hx hb dL_acts_147 rfl (lv_at hl 3 rfl) ?_
    refine lv_bipush (v := (7 : Int32)) hx hb dL_acts_148 (by decide) ?_
    refine lv_idiv hx hb dL_acts_150 (by decide) ?_
    refine lv_iconst (v := (4 : Int32)) hx hb dL_acts_151 (by decide) ?_
    refine lv_irem hx hb dL_acts_152 (by decide) ?_
    refine lv_iload_n hx hb dL_acts_153 rfl (lv_at hl 3 rfl) ?_
    refine lv_bipush (v := (28 : Int32)) hx hb dL_acts_154 (by decide) ?_
    refine lv_idiv hx hb dL_acts_156 (by decide) ?_
    refine lv_iconst (v := (3 : Int32)) hx hb dL_acts_157 (by decide) ?_
    refine lv_irem hx hb dL_acts_158 (by decide) ?_
    refine lv_if_le (tgt := 166) hx hb dL_acts_159 (by decide) (fun hc_159 => ?_) (fun hc_159 => ?_)
    · have hf := kpos hc_159 hf
      refine lv_iconst (v := (0 : Int32)) hx hb dL_acts_166 (by decide) ?_
      exact B167 (v2) (((va3 / (7 : Int32)) - (va3 / (7 : Int32)) / (4 : Int32) * (4 : Int32))) ((0 : Int32)) (g2) _ _ hX ls (lv_sub hl [] rfl) hf
    · have hf := kneg hc_159 hf
      refine lv_iconst (v := (1 : Int32)) hx hb dL_acts_162 (by decide) ?_
      refine lv_goto (tgt := 167) hx hb dL_acts_163 (by decide) ?_
      exact B167 (v2) (((va3 / (7 : Int32)) - (va3 / (7 : Int32)) / (4 : Int32) * (4 : Int32))) ((1 : Int32)) (g2) _ _ hX ls (lv_sub hl [] rfl) hf
  have hf := kneg hc_12_5 hf
  by_cases hc_12_6 : v9 = (6 : Int32)
  · have hf := kpos hc_12_6 hf
    refine lv_tableIn (tgt := 171) hx hb dL_acts_12 (by rw [hc_12_6]; decide) (by rw [hc_12_6]; decide) (by rw [hc_12_6]; rfl) (by decide) ?_
    refine lv_aload_n hx hb dL_acts_171 rfl (lv_at hl 1 rfl) ?_
    refine lv_iload_n hx hb dL_acts_172 rfl (lv_at hl 0 rfl) ?_
    obtain ⟨v173, hv_173, hf⟩ := bV_s hf
    refine q_start C hcs ⟨Nat.le_of_ble_eq_true rfl, Nat.le_of_ble_eq_true rfl⟩ hl hX gL_acts_X10_start dL_acts_173 hv_173 (Nat.le_of_ble_eq_true rfl) (fun H locs hX => ?_)
    cases hf
    subst hQ
    exact kiretX C hr hlocks hX rfl dL_acts_176
  have hf := kneg hc_12_6 hf
  by_cases hc_12_7 : v9 = (7 : Int32)
  · have hf := kpos hc_12_7 hf
    refine lv_tableIn (tgt := 177) hx hb dL_acts_12 (by rw [hc_12_7]; decide) (by rw [hc_12_7]; decide) (by rw [hc_12_7]; rfl) (by decide) ?_
    refine lv_aload_n hx hb dL_acts_177 rfl (lv_at hl 1 rfl) ?_
    refine lv_iload_n hx hb dL_acts_178 rfl (lv_at hl 0 rfl) ?_
    obtain ⟨v179, hv_179, hf⟩ := bV_s hf
    refine q_goal C hcs ⟨Nat.le_of_ble_eq_true rfl, Nat.le_of_ble_eq_true rfl⟩ hl hX gL_acts_X10_goal dL_acts_179 hv_179 (Nat.le_of_ble_eq_true rfl) (fun H locs hX => ?_)
    cases hf
    subst hQ
    exact kiretX C hr hlocks hX rfl dL_acts_182
  have hf := kneg hc_12_7 hf
  by_cases hc_12_8 : v9 = (8 : Int32)
  · have hf := kpos hc_12_8 hf
    refine lv_tableIn (tgt := 183) hx hb dL_acts_12 (by rw [hc_12_8]; decide) (by rw [hc_12_8]; decide) (by rw [hc_12_8]; rfl) (by decide) ?_
    refine lv_aload_n hx hb dL_acts_183 rfl (lv_at hl 1 rfl) ?_
    refine lv_iload_n hx hb dL_acts_184 rfl (lv_at hl 0 rfl) ?_
    obtain ⟨v185, hv_185, hf⟩ := bV_s hf
    refine q_unsign C hcs ⟨Nat.le_of_ble_eq_true rfl, Nat.le_of_ble_eq_true rfl⟩ hl hX gL_acts_X10_unsign dL_acts_185 hv_185 (Nat.le_of_ble_eq_true rfl) (fun H locs hX => ?_)
    cases hf
    subst hQ
    exact kiretX C hr hlocks hX rfl dL_acts_188
  have hf := kneg hc_12_8 hf
  refine lv_tableOut (tgt := 189) hx hb dL_acts_12 (by have z0 := lv_neT (a := 0) hc_12_0 (by decide); have z1 := lv_neT (a := 1) hc_12_1 (by decide); have z2 := lv_neT (a := 2) hc_12_2 (by decide); have z3 := lv_neT (a := 3) hc_12_3 (by decide); have z4 := lv_neT (a := 4) hc_12_4 (by decide); have z5 := lv_neT (a := 5) hc_12_5 (by decide); have z6 := lv_neT (a := 6) hc_12_6 (by decide); have z7 := lv_neT (a := 7) hc_12_7 (by decide); have z8 := lv_neT (a := 8) hc_12_8 (by decide); omega) (by decide) ?_
  refine lv_iload_n hx hb dL_acts_189 rfl (lv_at hl 3 rfl) ?_
  refine lv_iconst (v := (5 : Int32)) hx hb dL_acts_190 (by decide) ?_
  refine lv_idiv hx hb dL_acts_191 (by decide) ?_
  refine lv_iconst (v := (3 : Int32)) hx hb dL_acts_192 (by decide) ?_
  refine lv_irem hx hb dL_acts_193 (by decide) ?_
  refine lv_istore (lv' := [(4, .int ((va3 / (5 : Int32)) - (va3 / (5 : Int32)) / (3 : Int32) * (3 : Int32))), (3, .int v2), (0, .ref qc), (1, .int va2), (2, .int va3)]) hx hb dL_acts_194 hl (by decide) rfl (fun ls hl => ?_)
  refine lv_aload_n hx hb dL_acts_196 rfl (lv_at hl 2 rfl) ?_
  refine lv_iload_n hx hb dL_acts_197 rfl (lv_at hl 1 rfl) ?_
  refine lv_iload hx hb dL_acts_198 (lv_at hl 0 rfl) ?_
  refine lv_iload hx hb dL_acts_200 (lv_at hl 0 rfl) ?_
  refine lv_iconst (v := (2 : Int32)) hx hb dL_acts_202 (by decide) ?_
  refine lv_icmp_ne (tgt := 215) hx hb dL_acts_203 (by decide) (fun hc_203 => ?_) (fun hc_203 => ?_)
  · have hf := kneg hc_203 hf
    refine lv_iconst (v := (0 : Int32)) hx hb dL_acts_215 (by decide) ?_
    exact B216 (v2) (((va3 / (5 : Int32)) - (va3 / (5 : Int32)) / (3 : Int32) * (3 : Int32))) ((0 : Int32)) (g2) _ _ hX ls (lv_sub hl [] rfl) hf
  · have hf := kpos hc_203 hf
    refine lv_iload_n hx hb dL_acts_206 rfl (lv_at hl 4 rfl) ?_
    refine lv_bipush (v := (15 : Int32)) hx hb dL_acts_207 (by decide) ?_
    refine lv_idiv hx hb dL_acts_209 (by decide) ?_
    refine lv_iconst (v := (4 : Int32)) hx hb dL_acts_210 (by decide) ?_
    refine lv_irem hx hb dL_acts_211 (by decide) ?_
    refine lv_goto (tgt := 216) hx hb dL_acts_212 (by decide) ?_
    exact B216 (v2) (((va3 / (5 : Int32)) - (va3 / (5 : Int32)) / (3 : Int32) * (3 : Int32))) (((va3 / (15 : Int32)) - (va3 / (15 : Int32)) / (4 : Int32) * (4 : Int32))) (g2) _ _ hX ls (lv_sub hl [] rfl) hf
theorem hdL_acts : yL_acts.cls = RL ∧ yL_acts.cls ≠ "java/lang/invoke/MethodHandle" ∧ yL_acts.cls ≠ "java/lang/invoke/VarHandle" ∧ (parseMethodDescriptor yL_acts.desc).map (fun d => d.parameters.length) = some 3 := by decide +kernel

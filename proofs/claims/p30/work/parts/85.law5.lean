-- contracts of the law's methods (written by wip/p30/genL.py)
abbrev rm_L_areSigns : Room := { frames := 7, cells := 0, slots := 0, locals := 157 }
set_option maxHeartbeats 8000000 in
set_option maxRecDepth 100000 in
theorem c_L_areSigns (l : Launch) (dC : Nat → ClassId) (dI : Nat → Nat → Nat) (cy : gC) (G : gT) (sz qc : Nat) (ws : va_W) (N : Nat) (g : gS) (out : Int32 × gS) (hI : IsW cy qc g ws) (hf : f_L_areSigns N g = some out) : Met l yL_areSigns wsL_areSigns rm_L_areSigns (va_Pc [.ref qc] (kP (dC, dI) cy G ws sz)) (va_Qi (fun r (_ : Unit) => r = out.1) (fun _ => kQX (dC, dI) cy qc out.2 (va_A ws sz)) (va_A ws sz)) 0 0 (va_A ws sz) := by
  refine Met.ofW (cc := cL_areSigns) (maxL := 7) (ret := (some .boolean)) (by decide) rfl ?_
  intro p e s m args below meth c s₁ B hml hv
  obtain ⟨rfl, hsz, hP, hK, hD0, hG⟩ := hv
  have hx := B.exec
  have hb := B.bytes
  have hr := B.returns
  have hts := atoms_spec (ws := wsL_areSigns) B.pre
  have hown : s.vm.findClass RL = some m.cls := findClass_of_methodNamed B.named
  have hlocks := B.notSynchronized
  subst hsz
  have hD := hD0.self (sz := s.heap.size)
  generalize hAe : va_A ws s.heap.size = A at hD hG ⊢
  have hA : ∀ q : Nat, s.heap.size ≤ q → A q := fun q h => by rw [← hAe]; exact Or.inr h
  have hX : WX dC dI cy qc A s g s.heap [] := ⟨ws, hI, hP, hD, va_S.rf⟩
  have C : CX p s m c ([.ref qc] : List Value).toArray cL_areSigns wsL_areSigns 7 A dC dI cy G := ⟨hx, hb, hml, hown, hts, hK, hG, hA⟩
  have hcs : 0 ≤ (headSpec wsL_areSigns rm_L_areSigns).room.cells ∧ 0 ≤ (headSpec wsL_areSigns rm_L_areSigns).room.slots := ⟨Nat.zero_le _, Nat.zero_le _⟩
  have hl := lv_entry ([.ref qc]) (n := 7) (Nat.le_of_ble_eq_true rfl)
  rw [lg_entry_eq]
  generalize (lg_sl ([.ref qc]) ++ List.replicate (7 - (lg_sl ([.ref qc])).length) Slot.unset).toArray = ls at hl ⊢
  have hl : lv_has ls 7 [(0, .ref qc)] := hl
  refine kgen (fun Q hQ => ?_)
  have hX0 := hX
  have B139 : ∀ (l2 : Int32) (l3 : Int32) (l4 : Int32) (cg : gS) (H : Heap) (locs : List Loc), WX dC dI cy qc A s cg H locs → ∀ (ls : Array Slot), lv_has ls 7 [(0, .ref qc), (2, .int l2), (3, .int l3), (4, .int l4)] → b_L_areSigns_139 N l2 l3 l4 cg = some out → W p l e (headSpec wsL_areSigns rm_L_areSigns).room s m ([.ref qc] : List Value).toArray below meth c H locs 0 0 Q (F0 m 139 ls []) := by
    intro l2 l3 l4 cg H locs hX ls hl hf
    rw [b_L_areSigns_139] at hf
    refine lv_iload hx hb dL_areSigns_139 (lv_at hl 3 rfl) ?_
    refine lv_if_eq (tgt := 171) hx hb dL_areSigns_141 (by decide) (fun hc_141 => ?_) (fun hc_141 => ?_)
    · have hf := kpos hc_141 hf
      refine lv_iconst (v := (0 : Int32)) hx hb dL_areSigns_171 (by decide) ?_
      cases hf
      subst hQ
      exact kzretX C hr hlocks rfl hX rfl dL_areSigns_172
    · have hf := kneg hc_141 hf
      refine lv_iload_n hx hb dL_areSigns_144 rfl (lv_at hl 2 rfl) ?_
      refine lv_aload_n hx hb dL_areSigns_145 rfl (lv_at hl 0 rfl) ?_
      refine lv_bipush (v := (13 : Int32)) hx hb dL_areSigns_146 (by decide) ?_
      obtain ⟨v148, hv_148, hf⟩ := bV_s hf
      refine q_count C hcs ⟨Nat.le_of_ble_eq_true rfl, Nat.le_of_ble_eq_true rfl⟩ hl hX gL_areSigns_X10_count dL_areSigns_148 hv_148 (Nat.le_of_ble_eq_true rfl) (fun H locs hX => ?_)
      refine lv_icmp_ne (tgt := 171) hx hb dL_areSigns_151 (by decide) (fun hc_151 => ?_) (fun hc_151 => ?_)
      · have hf := kneg hc_151 hf
        refine lv_iconst (v := (0 : Int32)) hx hb dL_areSigns_171 (by decide) ?_
        cases hf
        subst hQ
        exact kzretX C hr hlocks rfl hX rfl dL_areSigns_172
      · have hf := kpos hc_151 hf
        refine lv_aload_n hx hb dL_areSigns_154 rfl (lv_at hl 0 rfl) ?_
        refine lv_bipush (v := (12 : Int32)) hx hb dL_areSigns_155 (by decide) ?_
        obtain ⟨v157, hv_157, hf⟩ := bV_s hf
        refine q_count C hcs ⟨Nat.le_of_ble_eq_true rfl, Nat.le_of_ble_eq_true rfl⟩ hl hX gL_areSigns_X10_count dL_areSigns_157 hv_157 (Nat.le_of_ble_eq_true rfl) (fun H locs hX => ?_)
        refine lv_if_eq (tgt := 167) hx hb dL_areSigns_160 (by decide) (fun hc_160 => ?_) (fun hc_160 => ?_)
        · have hf := kpos hc_160 hf
          refine lv_iconst (v := (1 : Int32)) hx hb dL_areSigns_167 (by decide) ?_
          refine lv_goto (tgt := 172) hx hb dL_areSigns_168 (by decide) ?_
          cases hf
          subst hQ
          exact kzretX C hr hlocks rfl hX rfl dL_areSigns_172
        · have hf := kneg hc_160 hf
          refine lv_iload_n hx hb dL_areSigns_163 rfl (lv_at hl 1 rfl) ?_
          refine lv_if_lt (tgt := 171) hx hb dL_areSigns_164 (by decide) (fun hc_164 => ?_) (fun hc_164 => ?_)
          · have hf := kpos hc_164 hf
            refine lv_iconst (v := (0 : Int32)) hx hb dL_areSigns_171 (by decide) ?_
            cases hf
            subst hQ
            exact kzretX C hr hlocks rfl hX rfl dL_areSigns_172
          · have hf := kneg hc_164 hf
            refine lv_iconst (v := (1 : Int32)) hx hb dL_areSigns_167 (by decide) ?_
            refine lv_goto (tgt := 172) hx hb dL_areSigns_168 (by decide) ?_
            cases hf
            subst hQ
            exact kzretX C hr hlocks rfl hX rfl dL_areSigns_172
  have B51 : ∀ (n51 : Nat) (l1 : Int32) (l2 : Int32) (l3 : Int32) (l4 : Int32) (l5 : Int32) (cg : gS) (H : Heap) (locs : List Loc), WX dC dI cy qc A s cg H locs → ∀ (ls : Array Slot), lv_has ls 7 [(0, .ref qc), (1, .int l1), (2, .int l2), (3, .int l3), (4, .int l4), (5, .int l5)] → b_L_areSigns_51 N n51 l1 l2 l3 l4 l5 cg = some out → W p l e (headSpec wsL_areSigns rm_L_areSigns).room s m ([.ref qc] : List Value).toArray below meth c H locs 0 0 Q (F0 m 51 ls []) := by
    intro n51
    induction n51 with
    | zero => intro l1 l2 l3 l4 l5 cg H locs hX ls hl hf; rw [b_L_areSigns_51] at hf; cases hf
    | succ n51 ih51 =>
      have B91 : ∀ (l1 : Int32) (l2 : Int32) (l5 : Int32) (l6 : Int32) (s0 : Int32) (s1 : Int32) (cg : gS) (H : Heap) (locs : List Loc), WX dC dI cy qc A s cg H locs → ∀ (ls : Array Slot), lv_has ls 7 [(0, .ref qc), (1, .int l1), (2, .int l2), (5, .int l5), (6, .int l6)] → b_L_areSigns_91 N (b_L_areSigns_51 N n51) l1 l2 l5 l6 s0 s1 cg = some out → W p l e (headSpec wsL_areSigns rm_L_areSigns).room s m ([.ref qc] : List Value).toArray below meth c H locs 0 0 Q (F0 m 91 ls [.int s1, .int s0]) := by
        intro l1 l2 l5 l6 s0 s1 cg H locs hX ls hl hf
        rw [b_L_areSigns_91] at hf
        refine lv_iadd hx hb dL_areSigns_91 ?_
        refine lv_istore_n (lv' := [(3, .int (s0 + s1)), (0, .ref qc), (1, .int l1), (2, .int l2), (5, .int l5), (6, .int l6)]) hx hb dL_areSigns_92 rfl hl (by decide) rfl (fun ls hl => ?_)
        refine lv_iload hx hb dL_areSigns_93 (lv_at hl 5 rfl) ?_
        refine lv_if_lt (tgt := 126) hx hb dL_areSigns_95 (by decide) (fun hc_95 => ?_) (fun hc_95 => ?_)
        · have hf := kpos hc_95 hf
          refine lv_iconst (v := (1 : Int32)) hx hb dL_areSigns_126 (by decide) ?_
          refine lv_goto (tgt := 131) hx hb dL_areSigns_127 (by decide) ?_
          refine lv_istore (lv' := [(4, .int (1 : Int32)), (3, .int (s0 + s1)), (0, .ref qc), (1, .int l1), (2, .int l2), (5, .int l5), (6, .int l6)]) hx hb dL_areSigns_131 hl (by decide) rfl (fun ls hl => ?_)
          refine lv_iinc (v := (l5 + (1 : Int32))) (lv' := [(5, .int (l5 + (1 : Int32))), (4, .int (1 : Int32)), (3, .int (s0 + s1)), (0, .ref qc), (1, .int l1), (2, .int l2), (6, .int l6)]) hx hb dL_areSigns_133 hl (k := 5) rfl rfl (by decide) rfl (fun ls hl => ?_)
          refine lv_goto (tgt := 51) hx hb dL_areSigns_136 (by decide) ?_
          exact ih51 (l1) (l2) ((s0 + s1)) ((1 : Int32)) ((l5 + (1 : Int32))) (cg) _ _ hX ls (lv_sub hl [3, 4, 5, 2, 1, 0] rfl) hf
        · have hf := kneg hc_95 hf
          refine lv_aload_n hx hb dL_areSigns_98 rfl (lv_at hl 1 rfl) ?_
          refine lv_iload hx hb dL_areSigns_99 (lv_at hl 4 rfl) ?_
          obtain ⟨v101, hv_101, hf⟩ := bV_s hf
          refine q_doors C hcs ⟨Nat.le_of_ble_eq_true rfl, Nat.le_of_ble_eq_true rfl⟩ hl hX gL_areSigns_X10_doors dL_areSigns_101 hv_101 (Nat.le_of_ble_eq_true rfl) (fun H locs hX => ?_)
          refine lv_iload hx hb dL_areSigns_104 (lv_at hl 5 rfl) ?_
          refine lv_ishr hx hb dL_areSigns_106 ?_
          refine lv_iconst (v := (1 : Int32)) hx hb dL_areSigns_107 (by decide) ?_
          refine lv_iand hx hb dL_areSigns_108 ?_
          refine lv_iconst (v := (1 : Int32)) hx hb dL_areSigns_109 (by decide) ?_
          refine lv_icmp_ne (tgt := 130) hx hb dL_areSigns_110 (by decide) (fun hc_110 => ?_) (fun hc_110 => ?_)
          · have hf := kneg hc_110 hf
            refine lv_iconst (v := (0 : Int32)) hx hb dL_areSigns_130 (by decide) ?_
            refine lv_istore (lv' := [(4, .int (0 : Int32)), (3, .int (s0 + s1)), (0, .ref qc), (1, .int l1), (2, .int l2), (5, .int l5), (6, .int l6)]) hx hb dL_areSigns_131 hl (by decide) rfl (fun ls hl => ?_)
            refine lv_iinc (v := (l5 + (1 : Int32))) (lv' := [(5, .int (l5 + (1 : Int32))), (4, .int (0 : Int32)), (3, .int (s0 + s1)), (0, .ref qc), (1, .int l1), (2, .int l2), (6, .int l6)]) hx hb dL_areSigns_133 hl (k := 5) rfl rfl (by decide) rfl (fun ls hl => ?_)
            refine lv_goto (tgt := 51) hx hb dL_areSigns_136 (by decide) ?_
            exact ih51 (l1) (l2) ((s0 + s1)) ((0 : Int32)) ((l5 + (1 : Int32))) (cg) _ _ hX ls (lv_sub hl [3, 4, 5, 2, 1, 0] rfl) hf
          · have hf := kpos hc_110 hf
            refine lv_aload_n hx hb dL_areSigns_113 rfl (lv_at hl 1 rfl) ?_
            refine lv_iload hx hb dL_areSigns_114 (lv_at hl 4 rfl) ?_
            obtain ⟨v116, hv_116, hf⟩ := bV_s hf
            refine q_doors C hcs ⟨Nat.le_of_ble_eq_true rfl, Nat.le_of_ble_eq_true rfl⟩ hl hX gL_areSigns_X10_doors dL_areSigns_116 hv_116 (Nat.le_of_ble_eq_true rfl) (fun H locs hX => ?_)
            obtain ⟨v119, hv_119, hf⟩ := bV_s hf
            refine kLn C hX (r := v119) (fun hU => va_runS (As := [.int v116]) (rest := []) ⟨hx, hb, hml, hown, hts⟩ (c_L_ones l dC dI cy G H.size v116 v119 ((tot_L_ones v116).trans (congrArg some hv_119))) (va_cwS 1 hts gL_areSigns_L_ones rfl rfl rfl hdL_ones.2 ⟨Nat.le_of_ble_eq_true rfl, Nat.le_of_ble_eq_true rfl⟩) ⟨kBlind, fun U h1 h2 => ⟨rfl, hU U h1 h2⟩⟩ rfl rfl hl.1 rfl (lv_room (Nat.le_of_ble_eq_true rfl)) dL_areSigns_119 ⟨hcs.1, hcs.2⟩) (fun H locs hX => ?_)
            refine lv_iconst (v := (2 : Int32)) hx hb dL_areSigns_122 (by decide) ?_
            refine lv_icmp_le (tgt := 130) hx hb dL_areSigns_123 (by decide) (fun hc_123 => ?_) (fun hc_123 => ?_)
            · have hf := kpos hc_123 hf
              refine lv_iconst (v := (0 : Int32)) hx hb dL_areSigns_130 (by decide) ?_
              refine lv_istore (lv' := [(4, .int (0 : Int32)), (3, .int (s0 + s1)), (0, .ref qc), (1, .int l1), (2, .int l2), (5, .int l5), (6, .int l6)]) hx hb dL_areSigns_131 hl (by decide) rfl (fun ls hl => ?_)
              refine lv_iinc (v := (l5 + (1 : Int32))) (lv' := [(5, .int (l5 + (1 : Int32))), (4, .int (0 : Int32)), (3, .int (s0 + s1)), (0, .ref qc), (1, .int l1), (2, .int l2), (6, .int l6)]) hx hb dL_areSigns_133 hl (k := 5) rfl rfl (by decide) rfl (fun ls hl => ?_)
              refine lv_goto (tgt := 51) hx hb dL_areSigns_136 (by decide) ?_
              exact ih51 (l1) (l2) ((s0 + s1)) ((0 : Int32)) ((l5 + (1 : Int32))) (cg) _ _ hX ls (lv_sub hl [3, 4, 5, 2, 1, 0] rfl) hf
            · have hf := kneg hc_123 hf
              refine lv_iconst (v := (1 : Int32)) hx hb dL_areSigns_126 (by decide) ?_
              refine lv_goto (tgt := 131) hx hb dL_areSigns_127 (by decide) ?_
              refine lv_istore (lv' := [(4, .int (1 : Int32)), (3, .int (s0 + s1)), (0, .ref qc), (1, .int l1), (2, .int l2), (5, .int l5), (6, .int l6)]) hx hb dL_areSigns_131 hl (by decide) rfl (fun ls hl => ?_)
              refine lv_iinc (v := (l5 + (1 : Int32))) (lv' := [(5, .int (l5 + (1 : Int32))), (4, .int (1 : Int32)), (3, .int (s0 + s1)), (0, .ref qc), (1, .int l1), (2, .int l2), (6, .int l6)]) hx hb dL_areSigns_133 hl (k := 5) rfl rfl (by decide) rfl (fun ls hl => ?_)
              refine lv_goto (tgt := 51) hx hb dL_areSigns_136 (by decide) ?_
              exact ih51 (l1) (l2) ((s0 + s1)) ((1 : Int32)) ((l5 + (1 : Int32))) (cg) _ _ hX ls (lv_sub hl [3, 4, 5, 2, 1, 0] rfl) hf
      have B86 : ∀ (l1 : Int32) (l2 : Int32) (l5 : Int32) (l6 : Int32) (s0 : Int32) (cg : gS) (H : Heap) (locs : List Loc), WX dC dI cy qc A s cg H locs → ∀ (ls : Array Slot), lv_has ls 7 [(0, .ref qc), (1, .int l1), (2, .int l2), (5, .int l5), (6, .int l6)] → b_L_areSigns_86 N (b_L_areSigns_51 N n51) l1 l2 l5 l6 s0 cg = some out → W p l e (headSpec wsL_areSigns rm_L_areSigns).room s m ([.ref qc] : List Value).toArray below meth c H locs 0 0 Q (F0 m 86 ls [.int s0]) := by
        intro l1 l2 l5 l6 s0 cg H locs hX ls hl hf
        rw [b_L_areSigns_86] at hf
        refine lv_iconst (v := (1 : Int32)) hx hb dL_areSigns_86 (by decide) ?_
        refine lv_goto (tgt := 91) hx hb dL_areSigns_87 (by decide) ?_
        exact B91 (l1) (l2) (l5) (l6) (s0) ((1 : Int32)) (cg) _ _ hX ls (lv_sub hl [0, 1, 2, 3, 4] rfl) hf
      intro l1 l2 l3 l4 l5 cg H locs hX ls hl hf
      rw [b_L_areSigns_51] at hf
      refine lv_iload hx hb dL_areSigns_51 (lv_at hl 5 rfl) ?_
      refine lv_bipush (v := (6 : Int32)) hx hb dL_areSigns_53 (by decide) ?_
      refine lv_iload_n hx hb dL_areSigns_55 rfl (lv_at hl 1 rfl) ?_
      refine lv_imul hx hb dL_areSigns_56 ?_
      refine lv_icmp_ge (tgt := 139) hx hb dL_areSigns_57 (by decide) (fun hc_57 => ?_) (fun hc_57 => ?_)
      · have hf := kpos hc_57 hf
        exact B139 (l2) (l3) (l4) (cg) _ _ hX ls (lv_sub hl [0, 2, 3, 4] rfl) hf
      · have hf := kneg hc_57 hf
        refine lv_iload hx hb dL_areSigns_60 (lv_at hl 4 rfl) ?_
        refine lv_if_eq (tgt := 139) hx hb dL_areSigns_62 (by decide) (fun hc_62 => ?_) (fun hc_62 => ?_)
        · have hf := kpos hc_62 hf
          exact B139 (l2) (l3) (l4) (cg) _ _ hX ls (lv_sub hl [0, 2, 3, 4] rfl) hf
        · have hf := kneg hc_62 hf
          refine lv_aload_n hx hb dL_areSigns_65 rfl (lv_at hl 0 rfl) ?_
          refine lv_iload hx hb dL_areSigns_66 (lv_at hl 5 rfl) ?_
          obtain ⟨v68, hv_68, hf⟩ := bV_s hf
          refine q_points C hcs ⟨Nat.le_of_ble_eq_true rfl, Nat.le_of_ble_eq_true rfl⟩ hl hX gL_areSigns_X10_points dL_areSigns_68 hv_68 (Nat.le_of_ble_eq_true rfl) (fun H locs hX => ?_)
          refine lv_istore (lv' := [(6, .int v68), (0, .ref qc), (1, .int l1), (2, .int l2), (3, .int l3), (4, .int l4), (5, .int l5)]) hx hb dL_areSigns_71 hl (by decide) rfl (fun ls hl => ?_)
          refine lv_iload_n hx hb dL_areSigns_73 rfl (lv_at hl 4 rfl) ?_
          refine lv_iload hx hb dL_areSigns_74 (lv_at hl 0 rfl) ?_
          refine lv_if_ge (tgt := 86) hx hb dL_areSigns_76 (by decide) (fun hc_76 => ?_) (fun hc_76 => ?_)
          · have hf := kpos hc_76 hf
            exact B86 (l1) (l2) (l5) (v68) (l3) (cg) _ _ hX ls (lv_sub hl [1, 2, 3, 6, 0] rfl) hf
          · have hf := kneg hc_76 hf
            refine lv_iload hx hb dL_areSigns_79 (lv_at hl 0 rfl) ?_
            refine lv_bipush (v := (-4 : Int32)) hx hb dL_areSigns_81 (by decide) ?_
            refine lv_icmp_ne (tgt := 90) hx hb dL_areSigns_83 (by decide) (fun hc_83 => ?_) (fun hc_83 => ?_)
            · have hf := kneg hc_83 hf
              refine lv_iconst (v := (0 : Int32)) hx hb dL_areSigns_90 (by decide) ?_
              exact B91 (l1) (l2) (l5) (v68) (l3) ((0 : Int32)) (cg) _ _ hX ls (lv_sub hl [1, 2, 3, 6, 0] rfl) hf
            · have hf := kpos hc_83 hf
              exact B86 (l1) (l2) (l5) (v68) (l3) (cg) _ _ hX ls (lv_sub hl [1, 2, 3, 6, 0] rfl) hf
  rw [f_L_areSigns] at hf
  refine lv_aload_n hx hb dL_areSigns_0 rfl (lv_at hl 0 rfl) ?_
  refine lv_iconst (v := (1 : Int32)) hx hb dL_areSigns_1 (by decide) ?_
  obtain ⟨v2, hv_2, hf⟩ := bV_s hf
  refine q_count C hcs ⟨Nat.le_of_ble_eq_true rfl, Nat.le_of_ble_eq_true rfl⟩ hl hX gL_areSigns_X10_count dL_areSigns_2 hv_2 (Nat.le_of_ble_eq_true rfl) (fun H locs hX => ?_)
  refine lv_istore_n (lv' := [(1, .int v2), (0, .ref qc)]) hx hb dL_areSigns_5 rfl hl (by decide) rfl (fun ls hl => ?_)
  refine lv_aload_n hx hb dL_areSigns_6 rfl (lv_at hl 1 rfl) ?_
  refine lv_bipush (v := (11 : Int32)) hx hb dL_areSigns_7 (by decide) ?_
  obtain ⟨v9, hv_9, hf⟩ := bV_s hf
  refine q_count C hcs ⟨Nat.le_of_ble_eq_true rfl, Nat.le_of_ble_eq_true rfl⟩ hl hX gL_areSigns_X10_count dL_areSigns_9 hv_9 (Nat.le_of_ble_eq_true rfl) (fun H locs hX => ?_)
  refine lv_istore_n (lv' := [(2, .int v9), (1, .int v2), (0, .ref qc)]) hx hb dL_areSigns_12 rfl hl (by decide) rfl (fun ls hl => ?_)
  refine lv_iconst (v := (0 : Int32)) hx hb dL_areSigns_13 (by decide) ?_
  refine lv_istore_n (lv' := [(3, .int (0 : Int32)), (2, .int v9), (1, .int v2), (0, .ref qc)]) hx hb dL_areSigns_14 rfl hl (by decide) rfl (fun ls hl => ?_)
  refine lv_aload_n hx hb dL_areSigns_15 rfl (lv_at hl 3 rfl) ?_
  refine lv_bipush (v := (13 : Int32)) hx hb dL_areSigns_16 (by decide) ?_
  obtain ⟨v18, hv_18, hf⟩ := bV_s hf
  refine q_count C hcs ⟨Nat.le_of_ble_eq_true rfl, Nat.le_of_ble_eq_true rfl⟩ hl hX gL_areSigns_X10_count dL_areSigns_18 hv_18 (Nat.le_of_ble_eq_true rfl) (fun H locs hX => ?_)
  refine lv_aload_n hx hb dL_areSigns_21 rfl (lv_at hl 3 rfl) ?_
  refine lv_bipush (v := (12 : Int32)) hx hb dL_areSigns_22 (by decide) ?_
  obtain ⟨v24, hv_24, hf⟩ := bV_s hf
  refine q_count C hcs ⟨Nat.le_of_ble_eq_true rfl, Nat.le_of_ble_eq_true rfl⟩ hl hX gL_areSigns_X10_count dL_areSigns_24 hv_24 (Nat.le_of_ble_eq_true rfl) (fun H locs hX => ?_)
  refine lv_icmp_gt (tgt := 45) hx hb dL_areSigns_27 (by decide) (fun hc_27 => ?_) (fun hc_27 => ?_)
  · have hf := kpos hc_27 hf
    refine lv_iconst (v := (0 : Int32)) hx hb dL_areSigns_45 (by decide) ?_
    refine lv_istore (lv' := [(4, .int (0 : Int32)), (3, .int (0 : Int32)), (2, .int v9), (1, .int v2), (0, .ref qc)]) hx hb dL_areSigns_46 hl (by decide) rfl (fun ls hl => ?_)
    refine lv_iconst (v := (0 : Int32)) hx hb dL_areSigns_48 (by decide) ?_
    refine lv_istore (lv' := [(5, .int (0 : Int32)), (4, .int (0 : Int32)), (3, .int (0 : Int32)), (2, .int v9), (1, .int v2), (0, .ref qc)]) hx hb dL_areSigns_49 hl (by decide) rfl (fun ls hl => ?_)
    exact B51 N (v2) (v9) ((0 : Int32)) ((0 : Int32)) ((0 : Int32)) (g) _ _ hX ls (lv_sub hl [5, 4, 3, 2, 1, 0] rfl) hf
  · have hf := kneg hc_27 hf
    refine lv_aload_n hx hb dL_areSigns_30 rfl (lv_at hl 3 rfl) ?_
    refine lv_bipush (v := (12 : Int32)) hx hb dL_areSigns_31 (by decide) ?_
    obtain ⟨v33, hv_33, hf⟩ := bV_s hf
    refine q_count C hcs ⟨Nat.le_of_ble_eq_true rfl, Nat.le_of_ble_eq_true rfl⟩ hl hX gL_areSigns_X10_count dL_areSigns_33 hv_33 (Nat.le_of_ble_eq_true rfl) (fun H locs hX => ?_)
    refine lv_bipush (v := (20 : Int32)) hx hb dL_areSigns_36 (by decide) ?_
    refine lv_icmp_gt (tgt := 45) hx hb dL_areSigns_38 (by decide) (fun hc_38 => ?_) (fun hc_38 => ?_)
    · have hf := kpos hc_38 hf
      refine lv_iconst (v := (0 : Int32)) hx hb dL_areSigns_45 (by decide) ?_
      refine lv_istore (lv' := [(4, .int (0 : Int32)), (3, .int (0 : Int32)), (2, .int v9), (1, .int v2), (0, .ref qc)]) hx hb dL_areSigns_46 hl (by decide) rfl (fun ls hl => ?_)
      refine lv_iconst (v := (0 : Int32)) hx hb dL_areSigns_48 (by decide) ?_
      refine lv_istore (lv' := [(5, .int (0 : Int32)), (4, .int (0 : Int32)), (3, .int (0 : Int32)), (2, .int v9), (1, .int v2), (0, .ref qc)]) hx hb dL_areSigns_49 hl (by decide) rfl (fun ls hl => ?_)
      exact B51 N (v2) (v9) ((0 : Int32)) ((0 : Int32)) ((0 : Int32)) (g) _ _ hX ls (lv_sub hl [5, 4, 3, 2, 1, 0] rfl) hf
    · have hf := kneg hc_38 hf
      refine lv_iconst (v := (1 : Int32)) hx hb dL_areSigns_41 (by decide) ?_
      refine lv_goto (tgt := 46) hx hb dL_areSigns_42 (by decide) ?_
      refine lv_istore (lv' := [(4, .int (1 : Int32)), (3, .int (0 : Int32)), (2, .int v9), (1, .int v2), (0, .ref qc)]) hx hb dL_areSigns_46 hl (by decide) rfl (fun ls hl => ?_)
      refine lv_iconst (v := (0 : Int32)) hx hb dL_areSigns_48 (by decide) ?_
      refine lv_istore (lv' := [(5, .int (0 : Int32)), (4, .int (1 : Int32)), (3, .int (0 : Int32)), (2, .int v9), (1, .int v2), (0, .ref qc)]) hx hb dL_areSigns_49 hl (by decide) rfl (fun ls hl => ?_)
      exact B51 N (v2) (v9) ((0 : Int32)) ((1 : Int32)) ((0 : Int32)) (g) _ _ hX ls (lv_sub hl [5, 4, 3, 2, 1, 0] rfl) hf
theorem hdL_areSigns : yL_areSigns.cls = RL ∧ yL_areSigns.cls ≠ "java/lang/invoke/MethodHandle" ∧ yL_areSigns.cls ≠ "java/lang/invoke/VarHandle" ∧ (parseMethodDescriptor yL_areSigns.desc).map (fun d => d.parameters.length) = some 1 := by decide +kernel
abbrev rm_L_isWalk : Room := { frames := 7, cells := 0, slots := 0, locals := 162 }
set_option maxHeartbeats 8000000 in
set_option maxRecDepth 100000 in
theorem c_L_isWalk (l : Launch) (dC : Nat → ClassId) (dI : Nat → Nat → Nat) (cy : gC) (G : gT) (sz qc : Nat) (ws : va_W) (N : Nat) (g : gS) (va2 : Int32) (out : Int32 × gS) (hI : IsW cy qc g ws) (hf : f_L_isWalk N g va2 = some out) : Met l yL_isWalk wsL_isWalk rm_L_isWalk (va_Pc [.ref qc, .int va2] (kP (dC, dI) cy G ws sz)) (va_Qi (fun r (_ : Unit) => r = out.1) (fun _ => kQX (dC, dI) cy qc out.2 (va_A ws sz)) (va_A ws sz)) 0 0 (va_A ws sz) := by
  refine Met.ofW (cc := cL_isWalk) (maxL := 9) (ret := (some .boolean)) (by decide) rfl ?_
  intro p e s m args below meth c s₁ B hml hv
  obtain ⟨rfl, hsz, hP, hK, hD0, hG⟩ := hv
  have hx := B.exec
  have hb := B.bytes
  have hr := B.returns
  have hts := atoms_spec (ws := wsL_isWalk) B.pre
  have hown : s.vm.findClass RL = some m.cls := findClass_of_methodNamed B.named
  have hlocks := B.notSynchronized
  subst hsz
  have hD := hD0.self (sz := s.heap.size)
  generalize hAe : va_A ws s.heap.size = A at hD hG ⊢
  have hA : ∀ q : Nat, s.heap.size ≤ q → A q := fun q h => by rw [← hAe]; exact Or.inr h
  have hX : WX dC dI cy qc A s g s.heap [] := ⟨ws, hI, hP, hD, va_S.rf⟩
  have C : CX p s m c ([.ref qc, .int va2] : List Value).toArray cL_isWalk wsL_isWalk 9 A dC dI cy G := ⟨hx, hb, hml, hown, hts, hK, hG, hA⟩
  have hcs : 0 ≤ (headSpec wsL_isWalk rm_L_isWalk).room.cells ∧ 0 ≤ (headSpec wsL_isWalk rm_L_isWalk).room.slots := ⟨Nat.zero_le _, Nat.zero_le _⟩
  have hl := lv_entry ([.ref qc, .int va2]) (n := 9) (Nat.le_of_ble_eq_true rfl)
  rw [lg_entry_eq]
  generalize (lg_sl ([.ref qc, .int va2]) ++ List.replicate (9 - (lg_sl ([.ref qc, .int va2])).length) Slot.unset).toArray = ls at hl ⊢
  have hl : lv_has ls 9 [(0, .ref qc), (1, .int va2)] := hl
  refine kgen (fun Q hQ => ?_)
  have hX0 := hX
  have B315 : ∀ (l3 : Int32) (l4 : Int32) (l6 : Int32) (cg : gS) (H : Heap) (locs : List Loc), WX dC dI cy qc A s cg H locs → ∀ (ls : Array Slot), lv_has ls 9 [(0, .ref qc), (3, .int l3), (4, .int l4), (6, .int l6)] → b_L_isWalk_315 N va2 l3 l4 l6 cg = some out → W p l e (headSpec wsL_isWalk rm_L_isWalk).room s m ([.ref qc, .int va2] : List Value).toArray below meth c H locs 0 0 Q (F0 m 315 ls []) := by
    intro l3 l4 l6 cg H locs hX ls hl hf
    rw [b_L_isWalk_315] at hf
    refine lv_iload hx hb dL_isWalk_315 (lv_at hl 2 rfl) ?_
    refine lv_aload_n hx hb dL_isWalk_317 rfl (lv_at hl 0 rfl) ?_
    refine lv_bipush (v := (11 : Int32)) hx hb dL_isWalk_318 (by decide) ?_
    obtain ⟨v320, hv_320, hf⟩ := bV_s hf
    refine q_count C hcs ⟨Nat.le_of_ble_eq_true rfl, Nat.le_of_ble_eq_true rfl⟩ hl hX gL_isWalk_X10_count dL_isWalk_320 hv_320 (Nat.le_of_ble_eq_true rfl) (fun H locs hX => ?_)
    refine lv_icmp_ne (tgt := 332) hx hb dL_isWalk_323 (by decide) (fun hc_323 => ?_) (fun hc_323 => ?_)
    · have hf := kneg hc_323 hf
      refine lv_iconst (v := (1 : Int32)) hx hb dL_isWalk_332 (by decide) ?_
      refine lv_goto (tgt := 337) hx hb dL_isWalk_333 (by decide) ?_
      cases hf
      subst hQ
      exact kzretX C hr hlocks rfl hX rfl dL_isWalk_337
    · have hf := kpos hc_323 hf
      refine lv_iload hx hb dL_isWalk_326 (lv_at hl 3 rfl) ?_
      refine lv_iload_n hx hb dL_isWalk_328 rfl (lv_at hl 1 rfl) ?_
      refine lv_icmp_ne (tgt := 336) hx hb dL_isWalk_329 (by decide) (fun hc_329 => ?_) (fun hc_329 => ?_)
      · have hf := kneg hc_329 hf
        refine lv_iconst (v := (0 : Int32)) hx hb dL_isWalk_336 (by decide) ?_
        cases hf
        subst hQ
        exact kzretX C hr hlocks rfl hX rfl dL_isWalk_337
      · have hf := kpos hc_329 hf
        refine lv_iconst (v := (1 : Int32)) hx hb dL_isWalk_332 (by decide) ?_
        refine lv_goto (tgt := 337) hx hb dL_isWalk_333 (by decide) ?_
        cases hf
        subst hQ
        exact kzretX C hr hlocks rfl hX rfl dL_isWalk_337
  have B265 : ∀ (l3 : Int32) (l4 : Int32) (l6 : Int32) (cg : gS) (H : Heap) (locs : List Loc), WX dC dI cy qc A s cg H locs → ∀ (ls : Array Slot), lv_has ls 9 [(0, .ref qc), (3, .int l3), (4, .int l4), (6, .int l6)] → b_L_isWalk_265 N va2 l3 l4 l6 cg = some out → W p l e (headSpec wsL_isWalk rm_L_isWalk).room s m ([.ref qc, .int va2] : List Value).toArray below meth c H locs 0 0 Q (F0 m 265 ls []) := by
    intro l3 l4 l6 cg H locs hX ls hl hf
    rw [b_L_isWalk_265] at hf
    refine lv_iload hx hb dL_isWalk_265 (lv_at hl 3 rfl) ?_
    refine lv_bipush (v := (-4 : Int32)) hx hb dL_isWalk_267 (by decide) ?_
    refine lv_icmp_eq (tgt := 315) hx hb dL_isWalk_269 (by decide) (fun hc_269 => ?_) (fun hc_269 => ?_)
    · have hf := kpos hc_269 hf
      exact B315 (l3) (l4) (l6) (cg) _ _ hX ls (lv_sub hl [0, 1, 2, 3] rfl) hf
    · have hf := kneg hc_269 hf
      refine lv_iload hx hb dL_isWalk_272 (lv_at hl 3 rfl) ?_
      refine lv_iload_n hx hb dL_isWalk_274 rfl (lv_at hl 1 rfl) ?_
      refine lv_icmp_lt (tgt := 336) hx hb dL_isWalk_275 (by decide) (fun hc_275 => ?_) (fun hc_275 => ?_)
      · have hf := kpos hc_275 hf
        refine lv_iconst (v := (0 : Int32)) hx hb dL_isWalk_336 (by decide) ?_
        cases hf
        subst hQ
        exact kzretX C hr hlocks rfl hX rfl dL_isWalk_337
      · have hf := kneg hc_275 hf
        refine lv_aload_n hx hb dL_isWalk_278 rfl (lv_at hl 0 rfl) ?_
        refine lv_iload hx hb dL_isWalk_279 (lv_at hl 3 rfl) ?_
        refine lv_iconst (v := (0 : Int32)) hx hb dL_isWalk_281 (by decide) ?_
        obtain ⟨v282, hv_282, hf⟩ := bV_s hf
        refine q_walk C hcs ⟨Nat.le_of_ble_eq_true rfl, Nat.le_of_ble_eq_true rfl⟩ hl hX gL_isWalk_X10_walk dL_isWalk_282 hv_282 (Nat.le_of_ble_eq_true rfl) (fun H locs hX => ?_)
        refine lv_aload_n hx hb dL_isWalk_285 rfl (lv_at hl 0 rfl) ?_
        refine lv_bipush (v := (11 : Int32)) hx hb dL_isWalk_286 (by decide) ?_
        obtain ⟨v288, hv_288, hf⟩ := bV_s hf
        refine q_count C hcs ⟨Nat.le_of_ble_eq_true rfl, Nat.le_of_ble_eq_true rfl⟩ hl hX gL_isWalk_X10_count dL_isWalk_288 hv_288 (Nat.le_of_ble_eq_true rfl) (fun H locs hX => ?_)
        refine lv_icmp_ne (tgt := 336) hx hb dL_isWalk_291 (by decide) (fun hc_291 => ?_) (fun hc_291 => ?_)
        · have hf := kneg hc_291 hf
          refine lv_iconst (v := (0 : Int32)) hx hb dL_isWalk_336 (by decide) ?_
          cases hf
          subst hQ
          exact kzretX C hr hlocks rfl hX rfl dL_isWalk_337
        · have hf := kpos hc_291 hf
          refine lv_iload hx hb dL_isWalk_294 (lv_at hl 3 rfl) ?_
          refine lv_aload_n hx hb dL_isWalk_296 rfl (lv_at hl 0 rfl) ?_
          refine lv_aload_n hx hb dL_isWalk_297 rfl (lv_at hl 0 rfl) ?_
          refine lv_bipush (v := (10 : Int32)) hx hb dL_isWalk_298 (by decide) ?_
          obtain ⟨v300, hv_300, hf⟩ := bV_s hf
          refine q_count C hcs ⟨Nat.le_of_ble_eq_true rfl, Nat.le_of_ble_eq_true rfl⟩ hl hX gL_isWalk_X10_count dL_isWalk_300 hv_300 (Nat.le_of_ble_eq_true rfl) (fun H locs hX => ?_)
          refine lv_aload_n hx hb dL_isWalk_303 rfl (lv_at hl 0 rfl) ?_
          refine lv_bipush (v := (11 : Int32)) hx hb dL_isWalk_304 (by decide) ?_
          obtain ⟨v306, hv_306, hf⟩ := bV_s hf
          refine q_count C hcs ⟨Nat.le_of_ble_eq_true rfl, Nat.le_of_ble_eq_true rfl⟩ hl hX gL_isWalk_X10_count dL_isWalk_306 hv_306 (Nat.le_of_ble_eq_true rfl) (fun H locs hX => ?_)
          obtain ⟨v309, hv_309, hf⟩ := bV_s hf
          refine q_distance C hcs ⟨Nat.le_of_ble_eq_true rfl, Nat.le_of_ble_eq_true rfl⟩ hl hX gL_isWalk_X10_distance dL_isWalk_309 hv_309 (Nat.le_of_ble_eq_true rfl) (fun H locs hX => ?_)
          refine lv_icmp_lt (tgt := 336) hx hb dL_isWalk_312 (by decide) (fun hc_312 => ?_) (fun hc_312 => ?_)
          · have hf := kpos hc_312 hf
            refine lv_iconst (v := (0 : Int32)) hx hb dL_isWalk_336 (by decide) ?_
            cases hf
            subst hQ
            exact kzretX C hr hlocks rfl hX rfl dL_isWalk_337
          · have hf := kneg hc_312 hf
            exact B315 (l3) (l4) (l6) (cg) _ _ hX ls (lv_sub hl [0, 1, 2, 3] rfl) hf
  have B218 : ∀ (l3 : Int32) (l4 : Int32) (l5 : Int32) (cg : gS) (H : Heap) (locs : List Loc), WX dC dI cy qc A s cg H locs → ∀ (ls : Array Slot), lv_has ls 9 [(0, .ref qc), (1, .int va2), (3, .int l3), (4, .int l4), (5, .int l5)] → b_L_isWalk_218 N va2 l3 l4 l5 cg = some out → W p l e (headSpec wsL_isWalk rm_L_isWalk).room s m ([.ref qc, .int va2] : List Value).toArray below meth c H locs 0 0 Q (F0 m 218 ls []) := by
    intro l3 l4 l5 cg H locs hX ls hl hf
    rw [b_L_isWalk_218] at hf
    refine lv_aload_n hx hb dL_isWalk_218 rfl (lv_at hl 0 rfl) ?_
    obtain ⟨v219, hv_219, hf⟩ := bV_s hf
    refine q_walked C hcs ⟨Nat.le_of_ble_eq_true rfl, Nat.le_of_ble_eq_true rfl⟩ hl hX gL_isWalk_X10_walked dL_isWalk_219 hv_219 (Nat.le_of_ble_eq_true rfl) (fun H locs hX => ?_)
    refine lv_istore (lv' := [(6, .int v219), (0, .ref qc), (1, .int va2), (3, .int l3), (4, .int l4), (5, .int l5)]) hx hb dL_isWalk_222 hl (by decide) rfl (fun ls hl => ?_)
    refine lv_iload hx hb dL_isWalk_224 (lv_at hl 5 rfl) ?_
    refine lv_if_eq (tgt := 336) hx hb dL_isWalk_226 (by decide) (fun hc_226 => ?_) (fun hc_226 => ?_)
    · have hf := kpos hc_226 hf
      refine lv_iconst (v := (0 : Int32)) hx hb dL_isWalk_336 (by decide) ?_
      cases hf
      subst hQ
      exact kzretX C hr hlocks rfl hX rfl dL_isWalk_337
    · have hf := kneg hc_226 hf
      refine lv_aload_n hx hb dL_isWalk_229 rfl (lv_at hl 1 rfl) ?_
      refine lv_iload_n hx hb dL_isWalk_230 rfl (lv_at hl 2 rfl) ?_
      refine lv_iconst (v := (0 : Int32)) hx hb dL_isWalk_231 (by decide) ?_
      obtain ⟨v232, hv_232, hf⟩ := bV_s hf
      refine q_walk C hcs ⟨Nat.le_of_ble_eq_true rfl, Nat.le_of_ble_eq_true rfl⟩ hl hX gL_isWalk_X10_walk dL_isWalk_232 hv_232 (Nat.le_of_ble_eq_true rfl) (fun H locs hX => ?_)
      refine lv_iload hx hb dL_isWalk_235 (lv_at hl 4 rfl) ?_
      refine lv_icmp_ne (tgt := 336) hx hb dL_isWalk_237 (by decide) (fun hc_237 => ?_) (fun hc_237 => ?_)
      · have hf := kneg hc_237 hf
        refine lv_iconst (v := (0 : Int32)) hx hb dL_isWalk_336 (by decide) ?_
        cases hf
        subst hQ
        exact kzretX C hr hlocks rfl hX rfl dL_isWalk_337
      · have hf := kpos hc_237 hf
        refine lv_iload_n hx hb dL_isWalk_240 rfl (lv_at hl 3 rfl) ?_
        refine lv_iload_n hx hb dL_isWalk_241 rfl (lv_at hl 2 rfl) ?_
        refine lv_icmp_eq (tgt := 265) hx hb dL_isWalk_242 (by decide) (fun hc_242 => ?_) (fun hc_242 => ?_)
        · have hf := kpos hc_242 hf
          exact B265 (l3) (l4) (v219) (cg) _ _ hX ls (lv_sub hl [1, 3, 4, 0] rfl) hf
        · have hf := kneg hc_242 hf
          refine lv_iload hx hb dL_isWalk_245 (lv_at hl 4 rfl) ?_
          refine lv_aload_n hx hb dL_isWalk_247 rfl (lv_at hl 1 rfl) ?_
          refine lv_bipush (v := (11 : Int32)) hx hb dL_isWalk_248 (by decide) ?_
          obtain ⟨v250, hv_250, hf⟩ := bV_s hf
          refine q_count C hcs ⟨Nat.le_of_ble_eq_true rfl, Nat.le_of_ble_eq_true rfl⟩ hl hX gL_isWalk_X10_count dL_isWalk_250 hv_250 (Nat.le_of_ble_eq_true rfl) (fun H locs hX => ?_)
          refine lv_icmp_eq (tgt := 265) hx hb dL_isWalk_253 (by decide) (fun hc_253 => ?_) (fun hc_253 => ?_)
          · have hf := kpos hc_253 hf
            exact B265 (l3) (l4) (v219) (cg) _ _ hX ls (lv_sub hl [1, 3, 4, 0] rfl) hf
          · have hf := kneg hc_253 hf
            refine lv_aload_n hx hb dL_isWalk_256 rfl (lv_at hl 1 rfl) ?_
            refine lv_iload hx hb dL_isWalk_257 (lv_at hl 4 rfl) ?_
            obtain ⟨v259, hv_259, hf⟩ := bV_s hf
            refine q_doors C hcs ⟨Nat.le_of_ble_eq_true rfl, Nat.le_of_ble_eq_true rfl⟩ hl hX gL_isWalk_X10_doors dL_isWalk_259 hv_259 (Nat.le_of_ble_eq_true rfl) (fun H locs hX => ?_)
            refine lv_if_ne (tgt := 336) hx hb dL_isWalk_262 (by decide) (fun hc_262 => ?_) (fun hc_262 => ?_)
            · have hf := kneg hc_262 hf
              refine lv_iconst (v := (0 : Int32)) hx hb dL_isWalk_336 (by decide) ?_
              cases hf
              subst hQ
              exact kzretX C hr hlocks rfl hX rfl dL_isWalk_337
            · have hf := kpos hc_262 hf
              exact B265 (l3) (l4) (v219) (cg) _ _ hX ls (lv_sub hl [1, 3, 4, 0] rfl) hf
  have B68 : ∀ (n68 : Nat) (l2 : Int32) (l3 : Int32) (l4 : Int32) (l5 : Int32) (l6 : Int32) (cg : gS) (H : Heap) (locs : List Loc), WX dC dI cy qc A s cg H locs → ∀ (ls : Array Slot), lv_has ls 9 [(0, .ref qc), (1, .int va2), (2, .int l2), (3, .int l3), (4, .int l4), (5, .int l5), (6, .int l6)] → b_L_isWalk_68 N va2 n68 l2 l3 l4 l5 l6 cg = some out → W p l e (headSpec wsL_isWalk rm_L_isWalk).room s m ([.ref qc, .int va2] : List Value).toArray below meth c H locs 0 0 Q (F0 m 68 ls []) := by
    intro n68
    induction n68 with
    | zero => intro l2 l3 l4 l5 l6 cg H locs hX ls hl hf; rw [b_L_isWalk_68] at hf; cases hf
    | succ n68 ih68 =>
      have B201 : ∀ (l2 : Int32) (l3 : Int32) (l6 : Int32) (l7 : Int32) (cg : gS) (H : Heap) (locs : List Loc), WX dC dI cy qc A s cg H locs → ∀ (ls : Array Slot), lv_has ls 9 [(0, .ref qc), (1, .int va2), (2, .int l2), (3, .int l3), (6, .int l6), (7, .int l7)] → b_L_isWalk_201 N va2 (b_L_isWalk_68 N va2 n68) l2 l3 l6 l7 cg = some out → W p l e (headSpec wsL_isWalk rm_L_isWalk).room s m ([.ref qc, .int va2] : List Value).toArray below meth c H locs 0 0 Q (F0 m 201 ls []) := by
        intro l2 l3 l6 l7 cg H locs hX ls hl hf
        rw [b_L_isWalk_201] at hf
        refine lv_iconst (v := (1 : Int32)) hx hb dL_isWalk_201 (by decide) ?_
        refine lv_goto (tgt := 206) hx hb dL_isWalk_202 (by decide) ?_
        refine lv_istore (lv' := [(5, .int (1 : Int32)), (0, .ref qc), (1, .int va2), (2, .int l2), (3, .int l3), (6, .int l6), (7, .int l7)]) hx hb dL_isWalk_206 hl (by decide) rfl (fun ls hl => ?_)
        refine lv_iload hx hb dL_isWalk_208 (lv_at hl 6 rfl) ?_
        refine lv_istore (lv' := [(4, .int l7), (5, .int (1 : Int32)), (0, .ref qc), (1, .int va2), (2, .int l2), (3, .int l3), (6, .int l6), (7, .int l7)]) hx hb dL_isWalk_210 hl (by decide) rfl (fun ls hl => ?_)
        refine lv_iinc (v := (l6 + (1 : Int32))) (lv' := [(6, .int (l6 + (1 : Int32))), (4, .int l7), (5, .int (1 : Int32)), (0, .ref qc), (1, .int va2), (2, .int l2), (3, .int l3), (7, .int l7)]) hx hb dL_isWalk_212 hl (k := 6) rfl rfl (by decide) rfl (fun ls hl => ?_)
        refine lv_goto (tgt := 68) hx hb dL_isWalk_215 (by decide) ?_
        exact ih68 (l2) (l3) (l7) ((1 : Int32)) ((l6 + (1 : Int32))) (cg) _ _ hX ls (lv_sub hl [3, 4, 5, 6, 1, 2, 0] rfl) hf
      have B128 : ∀ (l2 : Int32) (l3 : Int32) (l4 : Int32) (l6 : Int32) (l7 : Int32) (s0 : Int32) (cg : gS) (H : Heap) (locs : List Loc), WX dC dI cy qc A s cg H locs → ∀ (ls : Array Slot), lv_has ls 9 [(0, .ref qc), (1, .int va2), (2, .int l2), (3, .int l3), (4, .int l4), (6, .int l6), (7, .int l7)] → b_L_isWalk_128 N va2 (b_L_isWalk_68 N va2 n68) l2 l3 l4 l6 l7 s0 cg = some out → W p l e (headSpec wsL_isWalk rm_L_isWalk).room s m ([.ref qc, .int va2] : List Value).toArray below meth c H locs 0 0 Q (F0 m 128 ls [.int s0]) := by
        intro l2 l3 l4 l6 l7 s0 cg H locs hX ls hl hf
        rw [b_L_isWalk_128] at hf
        refine lv_istore (lv' := [(8, .int s0), (0, .ref qc), (1, .int va2), (2, .int l2), (3, .int l3), (4, .int l4), (6, .int l6), (7, .int l7)]) hx hb dL_isWalk_128 hl (by decide) rfl (fun ls hl => ?_)
        refine lv_iload_n hx hb dL_isWalk_130 rfl (lv_at hl 3 rfl) ?_
        refine lv_iload hx hb dL_isWalk_131 (lv_at hl 5 rfl) ?_
        refine lv_iload hx hb dL_isWalk_133 (lv_at hl 0 rfl) ?_
        obtain ⟨v135, hv_135, hf⟩ := bV_s hf
        refine kLn C hX (r := v135) (fun hU => va_runS (As := [.int l2, .int l4, .int s0]) (rest := []) ⟨hx, hb, hml, hown, hts⟩ (c_L_beside l dC dI cy G H.size l2 l4 s0 v135 ((tot_L_beside l2 l4 s0).trans (congrArg some hv_135))) (va_cwS 3 hts gL_isWalk_L_beside rfl rfl rfl hdL_beside.2 ⟨Nat.le_of_ble_eq_true rfl, Nat.le_of_ble_eq_true rfl⟩) ⟨kBlind, fun U h1 h2 => ⟨rfl, hU U h1 h2⟩⟩ rfl rfl hl.1 rfl (lv_room (Nat.le_of_ble_eq_true rfl)) dL_isWalk_135 ⟨hcs.1, hcs.2⟩) (fun H locs hX => ?_)
        refine lv_iload hx hb dL_isWalk_138 (lv_at hl 7 rfl) ?_
        refine lv_icmp_ne (tgt := 205) hx hb dL_isWalk_140 (by decide) (fun hc_140 => ?_) (fun hc_140 => ?_)
        · have hf := kneg hc_140 hf
          refine lv_iconst (v := (0 : Int32)) hx hb dL_isWalk_205 (by decide) ?_
          refine lv_istore (lv' := [(5, .int (0 : Int32)), (8, .int s0), (0, .ref qc), (1, .int va2), (2, .int l2), (3, .int l3), (4, .int l4), (6, .int l6), (7, .int l7)]) hx hb dL_isWalk_206 hl (by decide) rfl (fun ls hl => ?_)
          refine lv_iload hx hb dL_isWalk_208 (lv_at hl 8 rfl) ?_
          refine lv_istore (lv' := [(4, .int l7), (5, .int (0 : Int32)), (8, .int s0), (0, .ref qc), (1, .int va2), (2, .int l2), (3, .int l3), (6, .int l6), (7, .int l7)]) hx hb dL_isWalk_210 hl (by decide) rfl (fun ls hl => ?_)
          refine lv_iinc (v := (l6 + (1 : Int32))) (lv' := [(6, .int (l6 + (1 : Int32))), (4, .int l7), (5, .int (0 : Int32)), (8, .int s0), (0, .ref qc), (1, .int va2), (2, .int l2), (3, .int l3), (7, .int l7)]) hx hb dL_isWalk_212 hl (k := 7) rfl rfl (by decide) rfl (fun ls hl => ?_)
          refine lv_goto (tgt := 68) hx hb dL_isWalk_215 (by decide) ?_
          exact ih68 (l2) (l3) (l7) ((0 : Int32)) ((l6 + (1 : Int32))) (cg) _ _ hX ls (lv_sub hl [4, 5, 6, 7, 1, 2, 0] rfl) hf
        · have hf := kpos hc_140 hf
          refine lv_aload_n hx hb dL_isWalk_143 rfl (lv_at hl 1 rfl) ?_
          refine lv_iload hx hb dL_isWalk_144 (lv_at hl 5 rfl) ?_
          obtain ⟨v146, hv_146, hf⟩ := bV_s hf
          refine q_doors C hcs ⟨Nat.le_of_ble_eq_true rfl, Nat.le_of_ble_eq_true rfl⟩ hl hX gL_isWalk_X10_doors dL_isWalk_146 hv_146 (Nat.le_of_ble_eq_true rfl) (fun H locs hX => ?_)
          refine lv_iload hx hb dL_isWalk_149 (lv_at hl 0 rfl) ?_
          refine lv_ishr hx hb dL_isWalk_151 ?_
          refine lv_iconst (v := (1 : Int32)) hx hb dL_isWalk_152 (by decide) ?_
          refine lv_iand hx hb dL_isWalk_153 ?_
          refine lv_iconst (v := (1 : Int32)) hx hb dL_isWalk_154 (by decide) ?_
          refine lv_icmp_ne (tgt := 205) hx hb dL_isWalk_155 (by decide) (fun hc_155 => ?_) (fun hc_155 => ?_)
          · have hf := kneg hc_155 hf
            refine lv_iconst (v := (0 : Int32)) hx hb dL_isWalk_205 (by decide) ?_
            refine lv_istore (lv' := [(5, .int (0 : Int32)), (8, .int s0), (0, .ref qc), (1, .int va2), (2, .int l2), (3, .int l3), (4, .int l4), (6, .int l6), (7, .int l7)]) hx hb dL_isWalk_206 hl (by decide) rfl (fun ls hl => ?_)
            refine lv_iload hx hb dL_isWalk_208 (lv_at hl 8 rfl) ?_
            refine lv_istore (lv' := [(4, .int l7), (5, .int (0 : Int32)), (8, .int s0), (0, .ref qc), (1, .int va2), (2, .int l2), (3, .int l3), (6, .int l6), (7, .int l7)]) hx hb dL_isWalk_210 hl (by decide) rfl (fun ls hl => ?_)
            refine lv_iinc (v := (l6 + (1 : Int32))) (lv' := [(6, .int (l6 + (1 : Int32))), (4, .int l7), (5, .int (0 : Int32)), (8, .int s0), (0, .ref qc), (1, .int va2), (2, .int l2), (3, .int l3), (7, .int l7)]) hx hb dL_isWalk_212 hl (k := 7) rfl rfl (by decide) rfl (fun ls hl => ?_)
            refine lv_goto (tgt := 68) hx hb dL_isWalk_215 (by decide) ?_
            exact ih68 (l2) (l3) (l7) ((0 : Int32)) ((l6 + (1 : Int32))) (cg) _ _ hX ls (lv_sub hl [4, 5, 6, 7, 1, 2, 0] rfl) hf
          · have hf := kpos hc_155 hf
            refine lv_aload_n hx hb dL_isWalk_158 rfl (lv_at hl 1 rfl) ?_
            refine lv_iload hx hb dL_isWalk_159 (lv_at hl 6 rfl) ?_
            refine lv_iconst (v := (1 : Int32)) hx hb dL_isWalk_161 (by decide) ?_
            obtain ⟨v162, hv_162, hf⟩ := bV_s hf
            refine q_walk C hcs ⟨Nat.le_of_ble_eq_true rfl, Nat.le_of_ble_eq_true rfl⟩ hl hX gL_isWalk_X10_walk dL_isWalk_162 hv_162 (Nat.le_of_ble_eq_true rfl) (fun H locs hX => ?_)
            refine lv_iload hx hb dL_isWalk_165 (lv_at hl 6 rfl) ?_
            refine lv_icmp_ne (tgt := 205) hx hb dL_isWalk_167 (by decide) (fun hc_167 => ?_) (fun hc_167 => ?_)
            · have hf := kneg hc_167 hf
              refine lv_iconst (v := (0 : Int32)) hx hb dL_isWalk_205 (by decide) ?_
              refine lv_istore (lv' := [(5, .int (0 : Int32)), (8, .int s0), (0, .ref qc), (1, .int va2), (2, .int l2), (3, .int l3), (4, .int l4), (6, .int l6), (7, .int l7)]) hx hb dL_isWalk_206 hl (by decide) rfl (fun ls hl => ?_)
              refine lv_iload hx hb dL_isWalk_208 (lv_at hl 8 rfl) ?_
              refine lv_istore (lv' := [(4, .int l7), (5, .int (0 : Int32)), (8, .int s0), (0, .ref qc), (1, .int va2), (2, .int l2), (3, .int l3), (6, .int l6), (7, .int l7)]) hx hb dL_isWalk_210 hl (by decide) rfl (fun ls hl => ?_)
              refine lv_iinc (v := (l6 + (1 : Int32))) (lv' := [(6, .int (l6 + (1 : Int32))), (4, .int l7), (5, .int (0 : Int32)), (8, .int s0), (0, .ref qc), (1, .int va2), (2, .int l2), (3, .int l3), (7, .int l7)]) hx hb dL_isWalk_212 hl (k := 7) rfl rfl (by decide) rfl (fun ls hl => ?_)
              refine lv_goto (tgt := 68) hx hb dL_isWalk_215 (by decide) ?_
              exact ih68 (l2) (l3) (l7) ((0 : Int32)) ((l6 + (1 : Int32))) (cg) _ _ hX ls (lv_sub hl [4, 5, 6, 7, 1, 2, 0] rfl) hf
            · have hf := kpos hc_167 hf
              refine lv_iload hx hb dL_isWalk_170 (lv_at hl 5 rfl) ?_
              refine lv_aload_n hx hb dL_isWalk_172 rfl (lv_at hl 1 rfl) ?_
              refine lv_bipush (v := (11 : Int32)) hx hb dL_isWalk_173 (by decide) ?_
              obtain ⟨v175, hv_175, hf⟩ := bV_s hf
              refine q_count C hcs ⟨Nat.le_of_ble_eq_true rfl, Nat.le_of_ble_eq_true rfl⟩ hl hX gL_isWalk_X10_count dL_isWalk_175 hv_175 (Nat.le_of_ble_eq_true rfl) (fun H locs hX => ?_)
              refine lv_icmp_eq (tgt := 205) hx hb dL_isWalk_178 (by decide) (fun hc_178 => ?_) (fun hc_178 => ?_)
              · have hf := kpos hc_178 hf
                refine lv_iconst (v := (0 : Int32)) hx hb dL_isWalk_205 (by decide) ?_
                refine lv_istore (lv' := [(5, .int (0 : Int32)), (8, .int s0), (0, .ref qc), (1, .int va2), (2, .int l2), (3, .int l3), (4, .int l4), (6, .int l6), (7, .int l7)]) hx hb dL_isWalk_206 hl (by decide) rfl (fun ls hl => ?_)
                refine lv_iload hx hb dL_isWalk_208 (lv_at hl 8 rfl) ?_
                refine lv_istore (lv' := [(4, .int l7), (5, .int (0 : Int32)), (8, .int s0), (0, .ref qc), (1, .int va2), (2, .int l2), (3, .int l3), (6, .int l6), (7, .int l7)]) hx hb dL_isWalk_210 hl (by decide) rfl (fun ls hl => ?_)
                refine lv_iinc (v := (l6 + (1 : Int32))) (lv' := [(6, .int (l6 + (1 : Int32))), (4, .int l7), (5, .int (0 : Int32)), (8, .int s0), (0, .ref qc), (1, .int va2), (2, .int l2), (3, .int l3), (7, .int l7)]) hx hb dL_isWalk_212 hl (k := 7) rfl rfl (by decide) rfl (fun ls hl => ?_)
                refine lv_goto (tgt := 68) hx hb dL_isWalk_215 (by decide) ?_
                exact ih68 (l2) (l3) (l7) ((0 : Int32)) ((l6 + (1 : Int32))) (cg) _ _ hX ls (lv_sub hl [4, 5, 6, 7, 1, 2, 0] rfl) hf
              · have hf := kneg hc_178 hf
                refine lv_aload_n hx hb dL_isWalk_181 rfl (lv_at hl 1 rfl) ?_
                refine lv_iload hx hb dL_isWalk_182 (lv_at hl 5 rfl) ?_
                obtain ⟨v184, hv_184, hf⟩ := bV_s hf
                refine q_points C hcs ⟨Nat.le_of_ble_eq_true rfl, Nat.le_of_ble_eq_true rfl⟩ hl hX gL_isWalk_X10_points dL_isWalk_184 hv_184 (Nat.le_of_ble_eq_true rfl) (fun H locs hX => ?_)
                refine lv_if_lt (tgt := 201) hx hb dL_isWalk_187 (by decide) (fun hc_187 => ?_) (fun hc_187 => ?_)
                · have hf := kpos hc_187 hf
                  exact B201 (l2) (l3) (l6) (l7) (cg) _ _ hX ls (lv_sub hl [1, 2, 3, 4, 6, 7] rfl) hf
                · have hf := kneg hc_187 hf
                  refine lv_aload_n hx hb dL_isWalk_190 rfl (lv_at hl 1 rfl) ?_
                  refine lv_iload hx hb dL_isWalk_191 (lv_at hl 5 rfl) ?_
                  obtain ⟨v193, hv_193, hf⟩ := bV_s hf
                  refine q_points C hcs ⟨Nat.le_of_ble_eq_true rfl, Nat.le_of_ble_eq_true rfl⟩ hl hX gL_isWalk_X10_points dL_isWalk_193 hv_193 (Nat.le_of_ble_eq_true rfl) (fun H locs hX => ?_)
                  refine lv_iload hx hb dL_isWalk_196 (lv_at hl 0 rfl) ?_
                  refine lv_icmp_ne (tgt := 205) hx hb dL_isWalk_198 (by decide) (fun hc_198 => ?_) (fun hc_198 => ?_)
                  · have hf := kneg hc_198 hf
                    refine lv_iconst (v := (0 : Int32)) hx hb dL_isWalk_205 (by decide) ?_
                    refine lv_istore (lv' := [(5, .int (0 : Int32)), (8, .int s0), (0, .ref qc), (1, .int va2), (2, .int l2), (3, .int l3), (4, .int l4), (6, .int l6), (7, .int l7)]) hx hb dL_isWalk_206 hl (by decide) rfl (fun ls hl => ?_)
                    refine lv_iload hx hb dL_isWalk_208 (lv_at hl 8 rfl) ?_
                    refine lv_istore (lv' := [(4, .int l7), (5, .int (0 : Int32)), (8, .int s0), (0, .ref qc), (1, .int va2), (2, .int l2), (3, .int l3), (6, .int l6), (7, .int l7)]) hx hb dL_isWalk_210 hl (by decide) rfl (fun ls hl => ?_)
                    refine lv_iinc (v := (l6 + (1 : Int32))) (lv' := [(6, .int (l6 + (1 : Int32))), (4, .int l7), (5, .int (0 : Int32)), (8, .int s0), (0, .ref qc), (1, .int va2), (2, .int l2), (3, .int l3), (7, .int l7)]) hx hb dL_isWalk_212 hl (k := 7) rfl rfl (by decide) rfl (fun ls hl => ?_)
                    refine lv_goto (tgt := 68) hx hb dL_isWalk_215 (by decide) ?_
                    exact ih68 (l2) (l3) (l7) ((0 : Int32)) ((l6 + (1 : Int32))) (cg) _ _ hX ls (lv_sub hl [4, 5, 6, 7, 1, 2, 0] rfl) hf
                  · have hf := kpos hc_198 hf
                    exact B201 (l2) (l3) (l6) (l7) (cg) _ _ hX ls (lv_sub hl [1, 2, 3, 4, 6, 7] rfl) hf
      intro l2 l3 l4 l5 l6 cg H locs hX ls hl hf
      rw [b_L_isWalk_68] at hf
      refine lv_iload hx hb dL_isWalk_68 (lv_at hl 6 rfl) ?_
      refine lv_iload_n hx hb dL_isWalk_70 rfl (lv_at hl 3 rfl) ?_
      refine lv_icmp_gt (tgt := 218) hx hb dL_isWalk_71 (by decide) (fun hc_71 => ?_) (fun hc_71 => ?_)
      · have hf := kpos hc_71 hf
        exact B218 (l3) (l4) (l5) (cg) _ _ hX ls (lv_sub hl [0, 1, 3, 4, 5] rfl) hf
      · have hf := kneg hc_71 hf
        refine lv_iload hx hb dL_isWalk_74 (lv_at hl 5 rfl) ?_
        refine lv_if_eq (tgt := 218) hx hb dL_isWalk_76 (by decide) (fun hc_76 => ?_) (fun hc_76 => ?_)
        · have hf := kpos hc_76 hf
          exact B218 (l3) (l4) (l5) (cg) _ _ hX ls (lv_sub hl [0, 1, 3, 4, 5] rfl) hf
        · have hf := kneg hc_76 hf
          refine lv_aload_n hx hb dL_isWalk_79 rfl (lv_at hl 0 rfl) ?_
          refine lv_iload hx hb dL_isWalk_80 (lv_at hl 6 rfl) ?_
          refine lv_iconst (v := (0 : Int32)) hx hb dL_isWalk_82 (by decide) ?_
          obtain ⟨v83, hv_83, hf⟩ := bV_s hf
          refine q_walk C hcs ⟨Nat.le_of_ble_eq_true rfl, Nat.le_of_ble_eq_true rfl⟩ hl hX gL_isWalk_X10_walk dL_isWalk_83 hv_83 (Nat.le_of_ble_eq_true rfl) (fun H locs hX => ?_)
          refine lv_istore (lv' := [(7, .int v83), (0, .ref qc), (1, .int va2), (2, .int l2), (3, .int l3), (4, .int l4), (5, .int l5), (6, .int l6)]) hx hb dL_isWalk_86 hl (by decide) rfl (fun ls hl => ?_)
          refine lv_iload hx hb dL_isWalk_88 (lv_at hl 0 rfl) ?_
          refine lv_iload hx hb dL_isWalk_90 (lv_at hl 5 rfl) ?_
          refine lv_iload_n hx hb dL_isWalk_92 rfl (lv_at hl 3 rfl) ?_
          refine lv_isub hx hb dL_isWalk_93 ?_
          refine lv_icmp_ne (tgt := 101) hx hb dL_isWalk_94 (by decide) (fun hc_94 => ?_) (fun hc_94 => ?_)
          · have hf := kneg hc_94 hf
            refine lv_iload hx hb dL_isWalk_101 (lv_at hl 0 rfl) ?_
            refine lv_iload hx hb dL_isWalk_103 (lv_at hl 5 rfl) ?_
            refine lv_iconst (v := (1 : Int32)) hx hb dL_isWalk_105 (by decide) ?_
            refine lv_iadd hx hb dL_isWalk_106 ?_
            refine lv_icmp_ne (tgt := 114) hx hb dL_isWalk_107 (by decide) (fun hc_107 => ?_) (fun hc_107 => ?_)
            · have hf := kneg hc_107 hf
              refine lv_iload hx hb dL_isWalk_114 (lv_at hl 0 rfl) ?_
              refine lv_iload hx hb dL_isWalk_116 (lv_at hl 5 rfl) ?_
              refine lv_iload_n hx hb dL_isWalk_118 rfl (lv_at hl 3 rfl) ?_
              refine lv_iadd hx hb dL_isWalk_119 ?_
              refine lv_icmp_ne (tgt := 127) hx hb dL_isWalk_120 (by decide) (fun hc_120 => ?_) (fun hc_120 => ?_)
              · have hf := kneg hc_120 hf
                refine lv_iconst (v := (3 : Int32)) hx hb dL_isWalk_127 (by decide) ?_
                exact B128 (l2) (l3) (l4) (l6) (v83) ((3 : Int32)) (cg) _ _ hX ls (lv_sub hl [1, 2, 3, 4, 5, 7, 0] rfl) hf
              · have hf := kpos hc_120 hf
                refine lv_iconst (v := (2 : Int32)) hx hb dL_isWalk_123 (by decide) ?_
                refine lv_goto (tgt := 128) hx hb dL_isWalk_124 (by decide) ?_
                exact B128 (l2) (l3) (l4) (l6) (v83) ((2 : Int32)) (cg) _ _ hX ls (lv_sub hl [1, 2, 3, 4, 5, 7, 0] rfl) hf
            · have hf := kpos hc_107 hf
              refine lv_iconst (v := (1 : Int32)) hx hb dL_isWalk_110 (by decide) ?_
              refine lv_goto (tgt := 128) hx hb dL_isWalk_111 (by decide) ?_
              exact B128 (l2) (l3) (l4) (l6) (v83) ((1 : Int32)) (cg) _ _ hX ls (lv_sub hl [1, 2, 3, 4, 5, 7, 0] rfl) hf
          · have hf := kpos hc_94 hf
            refine lv_iconst (v := (0 : Int32)) hx hb dL_isWalk_97 (by decide) ?_
            refine lv_goto (tgt := 128) hx hb dL_isWalk_98 (by decide) ?_
            exact B128 (l2) (l3) (l4) (l6) (v83) ((0 : Int32)) (cg) _ _ hX ls (lv_sub hl [1, 2, 3, 4, 5, 7, 0] rfl) hf
  rw [f_L_isWalk] at hf
  refine lv_aload_n hx hb dL_isWalk_0 rfl (lv_at hl 0 rfl) ?_
  refine lv_iconst (v := (1 : Int32)) hx hb dL_isWalk_1 (by decide) ?_
  obtain ⟨v2, hv_2, hf⟩ := bV_s hf
  refine q_count C hcs ⟨Nat.le_of_ble_eq_true rfl, Nat.le_of_ble_eq_true rfl⟩ hl hX gL_isWalk_X10_count dL_isWalk_2 hv_2 (Nat.le_of_ble_eq_true rfl) (fun H locs hX => ?_)
  refine lv_istore_n (lv' := [(2, .int v2), (0, .ref qc), (1, .int va2)]) hx hb dL_isWalk_5 rfl hl (by decide) rfl (fun ls hl => ?_)
  refine lv_aload_n hx hb dL_isWalk_6 rfl (lv_at hl 1 rfl) ?_
  refine lv_iload_n hx hb dL_isWalk_7 rfl (lv_at hl 2 rfl) ?_
  refine lv_iconst (v := (1 : Int32)) hx hb dL_isWalk_8 (by decide) ?_
  obtain ⟨v9, hv_9, hf⟩ := bV_s hf
  refine q_walk C hcs ⟨Nat.le_of_ble_eq_true rfl, Nat.le_of_ble_eq_true rfl⟩ hl hX gL_isWalk_X10_walk dL_isWalk_9 hv_9 (Nat.le_of_ble_eq_true rfl) (fun H locs hX => ?_)
  refine lv_istore_n (lv' := [(3, .int v9), (2, .int v2), (0, .ref qc), (1, .int va2)]) hx hb dL_isWalk_12 rfl hl (by decide) rfl (fun ls hl => ?_)
  refine lv_aload_n hx hb dL_isWalk_13 rfl (lv_at hl 2 rfl) ?_
  refine lv_bipush (v := (10 : Int32)) hx hb dL_isWalk_14 (by decide) ?_
  obtain ⟨v16, hv_16, hf⟩ := bV_s hf
  refine q_count C hcs ⟨Nat.le_of_ble_eq_true rfl, Nat.le_of_ble_eq_true rfl⟩ hl hX gL_isWalk_X10_count dL_isWalk_16 hv_16 (Nat.le_of_ble_eq_true rfl) (fun H locs hX => ?_)
  refine lv_istore (lv' := [(4, .int v16), (3, .int v9), (2, .int v2), (0, .ref qc), (1, .int va2)]) hx hb dL_isWalk_19 hl (by decide) rfl (fun ls hl => ?_)
  refine lv_iload_n hx hb dL_isWalk_21 rfl (lv_at hl 1 rfl) ?_
  refine lv_iload_n hx hb dL_isWalk_22 rfl (lv_at hl 4 rfl) ?_
  refine lv_icmp_gt (tgt := 62) hx hb dL_isWalk_23 (by decide) (fun hc_23 => ?_) (fun hc_23 => ?_)
  · have hf := kpos hc_23 hf
    refine lv_iconst (v := (0 : Int32)) hx hb dL_isWalk_62 (by decide) ?_
    refine lv_istore (lv' := [(5, .int (0 : Int32)), (4, .int v16), (3, .int v9), (2, .int v2), (0, .ref qc), (1, .int va2)]) hx hb dL_isWalk_63 hl (by decide) rfl (fun ls hl => ?_)
    refine lv_iconst (v := (1 : Int32)) hx hb dL_isWalk_65 (by decide) ?_
    refine lv_istore (lv' := [(6, .int (1 : Int32)), (5, .int (0 : Int32)), (4, .int v16), (3, .int v9), (2, .int v2), (0, .ref qc), (1, .int va2)]) hx hb dL_isWalk_66 hl (by decide) rfl (fun ls hl => ?_)
    exact B68 N (v2) (v9) (v16) ((0 : Int32)) ((1 : Int32)) (g) _ _ hX ls (lv_sub hl [5, 6, 4, 3, 2, 1, 0] rfl) hf
  · have hf := kneg hc_23 hf
    refine lv_aload_n hx hb dL_isWalk_26 rfl (lv_at hl 3 rfl) ?_
    refine lv_iload_n hx hb dL_isWalk_27 rfl (lv_at hl 4 rfl) ?_
    refine lv_iconst (v := (2 : Int32)) hx hb dL_isWalk_28 (by decide) ?_
    obtain ⟨v29, hv_29, hf⟩ := bV_s hf
    refine q_walk C hcs ⟨Nat.le_of_ble_eq_true rfl, Nat.le_of_ble_eq_true rfl⟩ hl hX gL_isWalk_X10_walk dL_isWalk_29 hv_29 (Nat.le_of_ble_eq_true rfl) (fun H locs hX => ?_)
    refine lv_iload_n hx hb dL_isWalk_32 rfl (lv_at hl 1 rfl) ?_
    refine lv_iconst (v := (1 : Int32)) hx hb dL_isWalk_33 (by decide) ?_
    refine lv_iadd hx hb dL_isWalk_34 ?_
    refine lv_icmp_gt (tgt := 62) hx hb dL_isWalk_35 (by decide) (fun hc_35 => ?_) (fun hc_35 => ?_)
    · have hf := kpos hc_35 hf
      refine lv_iconst (v := (0 : Int32)) hx hb dL_isWalk_62 (by decide) ?_
      refine lv_istore (lv' := [(5, .int (0 : Int32)), (4, .int v16), (3, .int v9), (2, .int v2), (0, .ref qc), (1, .int va2)]) hx hb dL_isWalk_63 hl (by decide) rfl (fun ls hl => ?_)
      refine lv_iconst (v := (1 : Int32)) hx hb dL_isWalk_65 (by decide) ?_
      refine lv_istore (lv' := [(6, .int (1 : Int32)), (5, .int (0 : Int32)), (4, .int v16), (3, .int v9), (2, .int v2), (0, .ref qc), (1, .int va2)]) hx hb dL_isWalk_66 hl (by decide) rfl (fun ls hl => ?_)
      exact B68 N (v2) (v9) (v16) ((0 : Int32)) ((1 : Int32)) (g) _ _ hX ls (lv_sub hl [5, 6, 4, 3, 2, 1, 0] rfl) hf
    · have hf := kneg hc_35 hf
      refine lv_aload_n hx hb dL_isWalk_38 rfl (lv_at hl 3 rfl) ?_
      refine lv_iconst (v := (0 : Int32)) hx hb dL_isWalk_39 (by decide) ?_
      refine lv_iconst (v := (0 : Int32)) hx hb dL_isWalk_40 (by decide) ?_
      obtain ⟨v41, hv_41, hf⟩ := bV_s hf
      refine q_walk C hcs ⟨Nat.le_of_ble_eq_true rfl, Nat.le_of_ble_eq_true rfl⟩ hl hX gL_isWalk_X10_walk dL_isWalk_41 hv_41 (Nat.le_of_ble_eq_true rfl) (fun H locs hX => ?_)
      refine lv_iload hx hb dL_isWalk_44 (lv_at hl 0 rfl) ?_
      refine lv_icmp_ne (tgt := 62) hx hb dL_isWalk_46 (by decide) (fun hc_46 => ?_) (fun hc_46 => ?_)
      · have hf := kneg hc_46 hf
        refine lv_iconst (v := (0 : Int32)) hx hb dL_isWalk_62 (by decide) ?_
        refine lv_istore (lv' := [(5, .int (0 : Int32)), (4, .int v16), (3, .int v9), (2, .int v2), (0, .ref qc), (1, .int va2)]) hx hb dL_isWalk_63 hl (by decide) rfl (fun ls hl => ?_)
        refine lv_iconst (v := (1 : Int32)) hx hb dL_isWalk_65 (by decide) ?_
        refine lv_istore (lv' := [(6, .int (1 : Int32)), (5, .int (0 : Int32)), (4, .int v16), (3, .int v9), (2, .int v2), (0, .ref qc), (1, .int va2)]) hx hb dL_isWalk_66 hl (by decide) rfl (fun ls hl => ?_)
        exact B68 N (v2) (v9) (v16) ((0 : Int32)) ((1 : Int32)) (g) _ _ hX ls (lv_sub hl [5, 6, 4, 3, 2, 1, 0] rfl) hf
      · have hf := kpos hc_46 hf
        refine lv_aload_n hx hb dL_isWalk_49 rfl (lv_at hl 3 rfl) ?_
        refine lv_iconst (v := (0 : Int32)) hx hb dL_isWalk_50 (by decide) ?_
        refine lv_iconst (v := (1 : Int32)) hx hb dL_isWalk_51 (by decide) ?_
        obtain ⟨v52, hv_52, hf⟩ := bV_s hf
        refine q_walk C hcs ⟨Nat.le_of_ble_eq_true rfl, Nat.le_of_ble_eq_true rfl⟩ hl hX gL_isWalk_X10_walk dL_isWalk_52 hv_52 (Nat.le_of_ble_eq_true rfl) (fun H locs hX => ?_)
        refine lv_if_ne (tgt := 62) hx hb dL_isWalk_55 (by decide) (fun hc_55 => ?_) (fun hc_55 => ?_)
        · have hf := kneg hc_55 hf
          refine lv_iconst (v := (0 : Int32)) hx hb dL_isWalk_62 (by decide) ?_
          refine lv_istore (lv' := [(5, .int (0 : Int32)), (4, .int v16), (3, .int v9), (2, .int v2), (0, .ref qc), (1, .int va2)]) hx hb dL_isWalk_63 hl (by decide) rfl (fun ls hl => ?_)
          refine lv_iconst (v := (1 : Int32)) hx hb dL_isWalk_65 (by decide) ?_
          refine lv_istore (lv' := [(6, .int (1 : Int32)), (5, .int (0 : Int32)), (4, .int v16), (3, .int v9), (2, .int v2), (0, .ref qc), (1, .int va2)]) hx hb dL_isWalk_66 hl (by decide) rfl (fun ls hl => ?_)
          exact B68 N (v2) (v9) (v16) ((0 : Int32)) ((1 : Int32)) (g) _ _ hX ls (lv_sub hl [5, 6, 4, 3, 2, 1, 0] rfl) hf
        · have hf := kpos hc_55 hf
          refine lv_iconst (v := (1 : Int32)) hx hb dL_isWalk_58 (by decide) ?_
          refine lv_goto (tgt := 63) hx hb dL_isWalk_59 (by decide) ?_
          refine lv_istore (lv' := [(5, .int (1 : Int32)), (4, .int v16), (3, .int v9), (2, .int v2), (0, .ref qc), (1, .int va2)]) hx hb dL_isWalk_63 hl (by decide) rfl (fun ls hl => ?_)
          refine lv_iconst (v := (1 : Int32)) hx hb dL_isWalk_65 (by decide) ?_
          refine lv_istore (lv' := [(6, .int (1 : Int32)), (5, .int (1 : Int32)), (4, .int v16), (3, .int v9), (2, .int v2), (0, .ref qc), (1, .int va2)]) hx hb dL_isWalk_66 hl (by decide) rfl (fun ls hl => ?_)
          exact B68 N (v2) (v9) (v16) ((1 : Int32)) ((1 : Int32)) (g) _ _ hX ls (lv_sub hl [5, 6, 4, 3, 2, 1, 0] rfl) hf
theorem hdL_isWalk : yL_isWalk.cls = RL ∧ yL_isWalk.cls ≠ "java/lang/invoke/MethodHandle" ∧ yL_isWalk.cls ≠ "java/lang/invoke/VarHandle" ∧ (parseMethodDescriptor yL_isWalk.desc).map (fun d => d.parameters.length) = some 2 := by decide +kernel

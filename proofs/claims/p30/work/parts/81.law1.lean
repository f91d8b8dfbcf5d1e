-- contracts of the law's methods (written by wip/p30/genL.py)
abbrev rm_L_print : Room := { frames := 7, cells := 0, slots := 0, locals := 162 }
set_option maxHeartbeats 8000000 in
set_option maxRecDepth 100000 in
theorem c_L_print (l : Launch) (dC : Nat → ClassId) (dI : Nat → Nat → Nat) (cy : gC) (G : gT) (sz qc : Nat) (ws : va_W) (N : Nat) (g : gS) (out : Int64 × gS) (hI : IsW cy qc g ws) (hf : f_L_print N g = some out) : Met l yL_print wsL_print rm_L_print (va_Pc [.ref qc] (kP (dC, dI) cy G ws sz)) (va_Ql (fun r (_ : Unit) => r = out.1) (fun _ => kQX (dC, dI) cy qc out.2 (va_A ws sz)) (va_A ws sz)) 0 0 (va_A ws sz) := by
  refine Met.ofW (cc := cL_print) (maxL := 4) (ret := (some .long)) (by decide) rfl ?_
  intro p e s m args below meth c s₁ B hml hv
  obtain ⟨rfl, hsz, hP, hK, hD0, hG⟩ := hv
  have hx := B.exec
  have hb := B.bytes
  have hr := B.returns
  have hts := atoms_spec (ws := wsL_print) B.pre
  have hown : s.vm.findClass RL = some m.cls := findClass_of_methodNamed B.named
  have hlocks := B.notSynchronized
  subst hsz
  have hD := hD0.self (sz := s.heap.size)
  generalize hAe : va_A ws s.heap.size = A at hD hG ⊢
  have hA : ∀ q : Nat, s.heap.size ≤ q → A q := fun q h => by rw [← hAe]; exact Or.inr h
  have hX : WX dC dI cy qc A s g s.heap [] := ⟨ws, hI, hP, hD, va_S.rf⟩
  have C : CX p s m c ([.ref qc] : List Value).toArray cL_print wsL_print 4 A dC dI cy G := ⟨hx, hb, hml, hown, hts, hK, hG, hA⟩
  have hcs : 0 ≤ (headSpec wsL_print rm_L_print).room.cells ∧ 0 ≤ (headSpec wsL_print rm_L_print).room.slots := ⟨Nat.zero_le _, Nat.zero_le _⟩
  have hl := lv_entry ([.ref qc]) (n := 4) (Nat.le_of_ble_eq_true rfl)
  rw [lg_entry_eq]
  generalize (lg_sl ([.ref qc]) ++ List.replicate (4 - (lg_sl ([.ref qc])).length) Slot.unset).toArray = ls at hl ⊢
  have hl : lv_has ls 4 [(0, .ref qc)] := hl
  refine kgen (fun Q hQ => ?_)
  have hX0 := hX
  have B33 : ∀ (n33 : Nat) (l1 : Int64) (l3 : Int32) (cg : gS) (H : Heap) (locs : List Loc), WX dC dI cy qc A s cg H locs → ∀ (ls : Array Slot), lv_has ls 4 [(0, .ref qc), (1, .long l1), (3, .int l3)] → b_L_print_33 N n33 l1 l3 cg = some out → W p l e (headSpec wsL_print rm_L_print).room s m ([.ref qc] : List Value).toArray below meth c H locs 0 0 Q (F0 m 33 ls []) := by
    intro n33
    induction n33 with
    | zero => intro l1 l3 cg H locs hX ls hl hf; rw [b_L_print_33] at hf; cases hf
    | succ n33 ih33 =>
      intro l1 l3 cg H locs hX ls hl hf
      rw [b_L_print_33] at hf
      refine lv_iload_n hx hb dL_print_33 rfl (lv_at hl 2 rfl) ?_
      refine lv_bipush (v := (6 : Int32)) hx hb dL_print_34 (by decide) ?_
      refine lv_aload_n hx hb dL_print_36 rfl (lv_at hl 0 rfl) ?_
      refine lv_iconst (v := (1 : Int32)) hx hb dL_print_37 (by decide) ?_
      obtain ⟨v38, hv_38, hf⟩ := bV_s hf
      refine q_count C hcs ⟨Nat.le_of_ble_eq_true rfl, Nat.le_of_ble_eq_true rfl⟩ hl hX gL_print_X10_count dL_print_38 hv_38 (Nat.le_of_ble_eq_true rfl) (fun H locs hX => ?_)
      refine lv_imul hx hb dL_print_41 ?_
      refine lv_icmp_ge (tgt := 75) hx hb dL_print_42 (by decide) (fun hc_42 => ?_) (fun hc_42 => ?_)
      · have hf := kpos hc_42 hf
        refine lv_ldc2 (v := (31 : Int64)) hx hb hown (hts _ (List.mem_cons_of_mem _ (List.mem_append_left _ (List.mem_append_left _ (List.mem_append_left _ (List.mem_append_left _ (List.mem_append_left _ (List.mem_append_left _ (List.mem_append_left _ (List.mem_append_left _ (List.mem_append_left _ (List.mem_append_left _ (List.mem_of_getElem? (i := 1) rfl))))))))))))) dL_print_75 ?_
        refine lv_lload_n hx hb dL_print_78 rfl (lv_at hl 1 rfl) ?_
        refine lv_lmul hx hb dL_print_79 ?_
        refine lv_aload_n hx hb dL_print_80 rfl (lv_at hl 0 rfl) ?_
        refine lv_bipush (v := (9 : Int32)) hx hb dL_print_81 (by decide) ?_
        refine lv_iconst (v := (0 : Int32)) hx hb dL_print_83 (by decide) ?_
        obtain ⟨v84, hv_84, hf⟩ := bV_s hf
        refine q_walk C hcs ⟨Nat.le_of_ble_eq_true rfl, Nat.le_of_ble_eq_true rfl⟩ hl hX gL_print_X10_walk dL_print_84 hv_84 (Nat.le_of_ble_eq_true rfl) (fun H locs hX => ?_)
        refine lv_i2l (v := (v84).toInt64) hx hb dL_print_87 rfl ?_
        refine lv_ladd hx hb dL_print_88 ?_
        cases hf
        subst hQ
        exact klretX C hr hlocks hX rfl dL_print_89
      · have hf := kneg hc_42 hf
        refine lv_ldc2 (v := (31 : Int64)) hx hb hown (hts _ (List.mem_cons_of_mem _ (List.mem_append_left _ (List.mem_append_left _ (List.mem_append_left _ (List.mem_append_left _ (List.mem_append_left _ (List.mem_append_left _ (List.mem_append_left _ (List.mem_append_left _ (List.mem_append_left _ (List.mem_append_left _ (List.mem_of_getElem? (i := 1) rfl))))))))))))) dL_print_45 ?_
        refine lv_ldc2 (v := (31 : Int64)) hx hb hown (hts _ (List.mem_cons_of_mem _ (List.mem_append_left _ (List.mem_append_left _ (List.mem_append_left _ (List.mem_append_left _ (List.mem_append_left _ (List.mem_append_left _ (List.mem_append_left _ (List.mem_append_left _ (List.mem_append_left _ (List.mem_append_left _ (List.mem_of_getElem? (i := 1) rfl))))))))))))) dL_print_48 ?_
        refine lv_lload_n hx hb dL_print_51 rfl (lv_at hl 1 rfl) ?_
        refine lv_lmul hx hb dL_print_52 ?_
        refine lv_aload_n hx hb dL_print_53 rfl (lv_at hl 0 rfl) ?_
        refine lv_iload_n hx hb dL_print_54 rfl (lv_at hl 2 rfl) ?_
        obtain ⟨v55, hv_55, hf⟩ := bV_s hf
        refine q_doors C hcs ⟨Nat.le_of_ble_eq_true rfl, Nat.le_of_ble_eq_true rfl⟩ hl hX gL_print_X10_doors dL_print_55 hv_55 (Nat.le_of_ble_eq_true rfl) (fun H locs hX => ?_)
        refine lv_i2l (v := (v55).toInt64) hx hb dL_print_58 rfl ?_
        refine lv_ladd hx hb dL_print_59 ?_
        refine lv_lmul hx hb dL_print_60 ?_
        refine lv_aload_n hx hb dL_print_61 rfl (lv_at hl 0 rfl) ?_
        refine lv_iload_n hx hb dL_print_62 rfl (lv_at hl 2 rfl) ?_
        obtain ⟨v63, hv_63, hf⟩ := bV_s hf
        refine q_points C hcs ⟨Nat.le_of_ble_eq_true rfl, Nat.le_of_ble_eq_true rfl⟩ hl hX gL_print_X10_points dL_print_63 hv_63 (Nat.le_of_ble_eq_true rfl) (fun H locs hX => ?_)
        refine lv_i2l (v := (v63).toInt64) hx hb dL_print_66 rfl ?_
        refine lv_ladd hx hb dL_print_67 ?_
        refine lv_lstore_n (lv' := [(1, .long (((31 : Int64) * (((31 : Int64) * l1) + (v55).toInt64)) + (v63).toInt64)), (0, .ref qc), (3, .int l3)]) hx hb dL_print_68 rfl hl (by decide) rfl (fun ls hl => ?_)
        refine lv_iinc (v := (l3 + (1 : Int32))) (lv' := [(3, .int (l3 + (1 : Int32))), (1, .long (((31 : Int64) * (((31 : Int64) * l1) + (v55).toInt64)) + (v63).toInt64)), (0, .ref qc)]) hx hb dL_print_69 hl (k := 2) rfl rfl (by decide) rfl (fun ls hl => ?_)
        refine lv_goto (tgt := 33) hx hb dL_print_72 (by decide) ?_
        exact ih33 ((((31 : Int64) * (((31 : Int64) * l1) + (v55).toInt64)) + (v63).toInt64)) ((l3 + (1 : Int32))) (cg) _ _ hX ls (lv_sub hl [2, 1, 0] rfl) hf
  have B6 : ∀ (n6 : Nat) (l1 : Int64) (l3 : Int32) (cg : gS) (H : Heap) (locs : List Loc), WX dC dI cy qc A s cg H locs → ∀ (ls : Array Slot), lv_has ls 4 [(0, .ref qc), (1, .long l1), (3, .int l3)] → b_L_print_6 N n6 l1 l3 cg = some out → W p l e (headSpec wsL_print rm_L_print).room s m ([.ref qc] : List Value).toArray below meth c H locs 0 0 Q (F0 m 6 ls []) := by
    intro n6
    induction n6 with
    | zero => intro l1 l3 cg H locs hX ls hl hf; rw [b_L_print_6] at hf; cases hf
    | succ n6 ih6 =>
      intro l1 l3 cg H locs hX ls hl hf
      rw [b_L_print_6] at hf
      refine lv_iload_n hx hb dL_print_6 rfl (lv_at hl 2 rfl) ?_
      refine lv_bipush (v := (14 : Int32)) hx hb dL_print_7 (by decide) ?_
      refine lv_icmp_ge (tgt := 31) hx hb dL_print_9 (by decide) (fun hc_9 => ?_) (fun hc_9 => ?_)
      · have hf := kpos hc_9 hf
        refine lv_iconst (v := (0 : Int32)) hx hb dL_print_31 (by decide) ?_
        refine lv_istore_n (lv' := [(3, .int (0 : Int32)), (0, .ref qc), (1, .long l1)]) hx hb dL_print_32 rfl hl (by decide) rfl (fun ls hl => ?_)
        exact B33 N (l1) ((0 : Int32)) (cg) _ _ hX ls (lv_sub hl [1, 2, 0] rfl) hf
      · have hf := kneg hc_9 hf
        refine lv_ldc2 (v := (31 : Int64)) hx hb hown (hts _ (List.mem_cons_of_mem _ (List.mem_append_left _ (List.mem_append_left _ (List.mem_append_left _ (List.mem_append_left _ (List.mem_append_left _ (List.mem_append_left _ (List.mem_append_left _ (List.mem_append_left _ (List.mem_append_left _ (List.mem_append_left _ (List.mem_of_getElem? (i := 1) rfl))))))))))))) dL_print_12 ?_
        refine lv_lload_n hx hb dL_print_15 rfl (lv_at hl 1 rfl) ?_
        refine lv_lmul hx hb dL_print_16 ?_
        refine lv_aload_n hx hb dL_print_17 rfl (lv_at hl 0 rfl) ?_
        refine lv_iload_n hx hb dL_print_18 rfl (lv_at hl 2 rfl) ?_
        obtain ⟨v19, hv_19, hf⟩ := bV_s hf
        refine q_count C hcs ⟨Nat.le_of_ble_eq_true rfl, Nat.le_of_ble_eq_true rfl⟩ hl hX gL_print_X10_count dL_print_19 hv_19 (Nat.le_of_ble_eq_true rfl) (fun H locs hX => ?_)
        refine lv_i2l (v := (v19).toInt64) hx hb dL_print_22 rfl ?_
        refine lv_ladd hx hb dL_print_23 ?_
        refine lv_lstore_n (lv' := [(1, .long (((31 : Int64) * l1) + (v19).toInt64)), (0, .ref qc), (3, .int l3)]) hx hb dL_print_24 rfl hl (by decide) rfl (fun ls hl => ?_)
        refine lv_iinc (v := (l3 + (1 : Int32))) (lv' := [(3, .int (l3 + (1 : Int32))), (1, .long (((31 : Int64) * l1) + (v19).toInt64)), (0, .ref qc)]) hx hb dL_print_25 hl (k := 2) rfl rfl (by decide) rfl (fun ls hl => ?_)
        refine lv_goto (tgt := 6) hx hb dL_print_28 (by decide) ?_
        exact ih6 ((((31 : Int64) * l1) + (v19).toInt64)) ((l3 + (1 : Int32))) (cg) _ _ hX ls (lv_sub hl [2, 1, 0] rfl) hf
  rw [f_L_print] at hf
  refine lv_ldc2 (v := (127 : Int64)) hx hb hown (hts _ (List.mem_cons_of_mem _ (List.mem_append_left _ (List.mem_append_left _ (List.mem_append_left _ (List.mem_append_left _ (List.mem_append_left _ (List.mem_append_left _ (List.mem_append_left _ (List.mem_append_left _ (List.mem_append_left _ (List.mem_append_left _ (List.mem_of_getElem? (i := 0) rfl))))))))))))) dL_print_0 ?_
  refine lv_lstore_n (lv' := [(1, .long (127 : Int64)), (0, .ref qc)]) hx hb dL_print_3 rfl hl (by decide) rfl (fun ls hl => ?_)
  refine lv_iconst (v := (0 : Int32)) hx hb dL_print_4 (by decide) ?_
  refine lv_istore_n (lv' := [(3, .int (0 : Int32)), (1, .long (127 : Int64)), (0, .ref qc)]) hx hb dL_print_5 rfl hl (by decide) rfl (fun ls hl => ?_)
  exact B6 N ((127 : Int64)) ((0 : Int32)) (g) _ _ hX ls (lv_sub hl [2, 1, 0] rfl) hf
theorem hdL_print : yL_print.cls = RL ∧ yL_print.cls ≠ "java/lang/invoke/MethodHandle" ∧ yL_print.cls ≠ "java/lang/invoke/VarHandle" ∧ (parseMethodDescriptor yL_print.desc).map (fun d => d.parameters.length) = some 1 := by decide +kernel

noncomputable def f_J6_bitCount_0f7a4 (va1 : Int32) : Option (Int32) :=
  some (((((((((va1 - ((((va1).toUInt32 >>> (((1 : Int32)).toUInt32 &&& Int32.toUInt32 31)).toInt32) &&& (1431655765 : Int32))) &&& (858993459 : Int32)) + (((((va1 - ((((va1).toUInt32 >>> (((1 : Int32)).toUInt32 &&& Int32.toUInt32 31)).toInt32) &&& (1431655765 : Int32)))).toUInt32 >>> (((2 : Int32)).toUInt32 &&& Int32.toUInt32 31)).toInt32) &&& (858993459 : Int32))) + ((((((va1 - ((((va1).toUInt32 >>> (((1 : Int32)).toUInt32 &&& Int32.toUInt32 31)).toInt32) &&& (1431655765 : Int32))) &&& (858993459 : Int32)) + (((((va1 - ((((va1).toUInt32 >>> (((1 : Int32)).toUInt32 &&& Int32.toUInt32 31)).toInt32) &&& (1431655765 : Int32)))).toUInt32 >>> (((2 : Int32)).toUInt32 &&& Int32.toUInt32 31)).toInt32) &&& (858993459 : Int32)))).toUInt32 >>> (((4 : Int32)).toUInt32 &&& Int32.toUInt32 31)).toInt32)) &&& (252645135 : Int32)) + ((((((((va1 - ((((va1).toUInt32 >>> (((1 : Int32)).toUInt32 &&& Int32.toUInt32 31)).toInt32) &&& (1431655765 : Int32))) &&& (858993459 : Int32)) + (((((va1 - ((((va1).toUInt32 >>> (((1 : Int32)).toUInt32 &&& Int32.toUInt32 31)).toInt32) &&& (1431655765 : Int32)))).toUInt32 >>> (((2 : Int32)).toUInt32 &&& Int32.toUInt32 31)).toInt32) &&& (858993459 : Int32))) + ((((((va1 - ((((va1).toUInt32 >>> (((1 : Int32)).toUInt32 &&& Int32.toUInt32 31)).toInt32) &&& (1431655765 : Int32))) &&& (858993459 : Int32)) + (((((va1 - ((((va1).toUInt32 >>> (((1 : Int32)).toUInt32 &&& Int32.toUInt32 31)).toInt32) &&& (1431655765 : Int32)))).toUInt32 >>> (((2 : Int32)).toUInt32 &&& Int32.toUInt32 31)).toInt32) &&& (858993459 : Int32)))).toUInt32 >>> (((4 : Int32)).toUInt32 &&& Int32.toUInt32 31)).toInt32)) &&& (252645135 : Int32))).toUInt32 >>> (((8 : Int32)).toUInt32 &&& Int32.toUInt32 31)).toInt32)) + (((((((((va1 - ((((va1).toUInt32 >>> (((1 : Int32)).toUInt32 &&& Int32.toUInt32 31)).toInt32) &&& (1431655765 : Int32))) &&& (858993459 : Int32)) + (((((va1 - ((((va1).toUInt32 >>> (((1 : Int32)).toUInt32 &&& Int32.toUInt32 31)).toInt32) &&& (1431655765 : Int32)))).toUInt32 >>> (((2 : Int32)).toUInt32 &&& Int32.toUInt32 31)).toInt32) &&& (858993459 : Int32))) + ((((((va1 - ((((va1).toUInt32 >>> (((1 : Int32)).toUInt32 &&& Int32.toUInt32 31)).toInt32) &&& (1431655765 : Int32))) &&& (858993459 : Int32)) + (((((va1 - ((((va1).toUInt32 >>> (((1 : Int32)).toUInt32 &&& Int32.toUInt32 31)).toInt32) &&& (1431655765 : Int32)))).toUInt32 >>> (((2 : Int32)).toUInt32 &&& Int32.toUInt32 31)).toInt32) &&& (858993459 : Int32)))).toUInt32 >>> (((4 : Int32)).toUInt32 &&& Int32.toUInt32 31)).toInt32)) &&& (252645135 : Int32)) + ((((((((va1 - ((((va1).toUInt32 >>> (((1 : Int32)).toUInt32 &&& Int32.toUInt32 31)).toInt32) &&& (1431655765 : Int32))) &&& (858993459 : Int32)) + (((((va1 - ((((va1).toUInt32 >>> (((1 : Int32)).toUInt32 &&& Int32.toUInt32 31)).toInt32) &&& (1431655765 : Int32)))).toUInt32 >>> (((2 : Int32)).toUInt32 &&& Int32.toUInt32 31)).toInt32) &&& (858993459 : Int32))) + ((((((va1 - ((((va1).toUInt32 >>> (((1 : Int32)).toUInt32 &&& Int32.toUInt32 31)).toInt32) &&& (1431655765 : Int32))) &&& (858993459 : Int32)) + (((((va1 - ((((va1).toUInt32 >>> (((1 : Int32)).toUInt32 &&& Int32.toUInt32 31)).toInt32) &&& (1431655765 : Int32)))).toUInt32 >>> (((2 : Int32)).toUInt32 &&& Int32.toUInt32 31)).toInt32) &&& (858993459 : Int32)))).toUInt32 >>> (((4 : Int32)).toUInt32 &&& Int32.toUInt32 31)).toInt32)) &&& (252645135 : Int32))).toUInt32 >>> (((8 : Int32)).toUInt32 &&& Int32.toUInt32 31)).toInt32))).toUInt32 >>> (((16 : Int32)).toUInt32 &&& Int32.toUInt32 31)).toInt32)) &&& (63 : Int32)))
abbrev rm_J6_bitCount_0f7a4 : Room := { frames := 0, cells := 0, slots := 0, locals := 0 }
set_option maxHeartbeats 4000000 in
set_option maxRecDepth 100000 in
theorem c_J6_bitCount_0f7a4 (l : Launch) (dC : Nat → ClassId) (dI : Nat → Nat → Nat) (cy : gC) (G : gT) (sz : Nat) (va1 : Int32) (out : Int32) (hf : f_J6_bitCount_0f7a4 va1 = some out) : Met l yJ6_bitCount_0f7a4 wsJ6_bitCount_0f7a4 rm_J6_bitCount_0f7a4 (va_Pc [.int va1] (kP (dC, dI) cy G [] sz)) (va_Qi (fun r (_ : Unit) => r = out) (fun _ => kQ (dC, dI) cy [] (va_A [] sz)) (va_A [] sz)) 0 0 (va_A [] sz) := by
  refine Met.ofW (cc := cJ6_bitCount_0f7a4) (maxL := 1) (ret := (some .int)) (by decide) rfl ?_
  intro p e s m args below meth c s₁ B hml hv
  obtain ⟨rfl, hsz, hP, hK, hD0, hG⟩ := hv
  have hx := B.exec
  have hb := B.bytes
  have hr := B.returns
  have hts := atoms_spec (ws := wsJ6_bitCount_0f7a4) B.pre
  have hown : s.vm.findClass RJ6 = some m.cls := findClass_of_methodNamed B.named
  have hlocks := B.notSynchronized
  subst hsz
  have hD := hD0.self (sz := s.heap.size)
  generalize hAe : va_A [] s.heap.size = A at hD hG ⊢
  have hA : ∀ q : Nat, s.heap.size ≤ q → A q := fun q h => by rw [← hAe]; exact Or.inr h
  have hS : va_S A s.heap s.heap [] := va_S.rf
  have hP : va_P (dC, dI) vwCl [] s.heap := hP
  have hl := lv_entry ([.int va1]) (n := 1) (Nat.le_of_ble_eq_true rfl)
  rw [lg_entry_eq]
  generalize (lg_sl ([.int va1]) ++ List.replicate (1 - (lg_sl ([.int va1])).length) Slot.unset).toArray = ls at hl ⊢
  have hl : lv_has ls 1 [(0, .int va1)] := hl
  refine kgen (fun Q hQ => ?_)
  rw [f_J6_bitCount_0f7a4] at hf
  refine lv_iload_n hx hb dJ6_bitCount_0f7a4_0 rfl (lv_at hl 0 rfl) ?_
  refine lv_iload_n hx hb dJ6_bitCount_0f7a4_1 rfl (lv_at hl 0 rfl) ?_
  refine lv_iconst (v := (1 : Int32)) hx hb dJ6_bitCount_0f7a4_2 (by decide) ?_
  refine lv_iushr (v := (((va1).toUInt32 >>> (((1 : Int32)).toUInt32 &&& Int32.toUInt32 31)).toInt32)) hx hb dJ6_bitCount_0f7a4_3 rfl ?_
  refine lv_ldcw (v := (1431655765 : Int32)) hx hb hown (hts _ (List.mem_cons_of_mem _ (List.mem_of_getElem? (i := 0) rfl))) dJ6_bitCount_0f7a4_4 ?_
  refine lv_iand hx hb dJ6_bitCount_0f7a4_7 ?_
  refine lv_isub hx hb dJ6_bitCount_0f7a4_8 ?_
  refine lv_istore_n (lv' := [(0, .int (va1 - ((((va1).toUInt32 >>> (((1 : Int32)).toUInt32 &&& Int32.toUInt32 31)).toInt32) &&& (1431655765 : Int32))))]) hx hb dJ6_bitCount_0f7a4_9 rfl hl (by decide) rfl (fun ls hl => ?_)
  refine lv_iload_n hx hb dJ6_bitCount_0f7a4_10 rfl (lv_at hl 0 rfl) ?_
  refine lv_ldcw (v := (858993459 : Int32)) hx hb hown (hts _ (List.mem_cons_of_mem _ (List.mem_of_getElem? (i := 1) rfl))) dJ6_bitCount_0f7a4_11 ?_
  refine lv_iand hx hb dJ6_bitCount_0f7a4_14 ?_
  refine lv_iload_n hx hb dJ6_bitCount_0f7a4_15 rfl (lv_at hl 0 rfl) ?_
  refine lv_iconst (v := (2 : Int32)) hx hb dJ6_bitCount_0f7a4_16 (by decide) ?_
  refine lv_iushr (v := ((((va1 - ((((va1).toUInt32 >>> (((1 : Int32)).toUInt32 &&& Int32.toUInt32 31)).toInt32) &&& (1431655765 : Int32)))).toUInt32 >>> (((2 : Int32)).toUInt32 &&& Int32.toUInt32 31)).toInt32)) hx hb dJ6_bitCount_0f7a4_17 rfl ?_
  refine lv_ldcw (v := (858993459 : Int32)) hx hb hown (hts _ (List.mem_cons_of_mem _ (List.mem_of_getElem? (i := 1) rfl))) dJ6_bitCount_0f7a4_18 ?_
  refine lv_iand hx hb dJ6_bitCount_0f7a4_21 ?_
  refine lv_iadd hx hb dJ6_bitCount_0f7a4_22 ?_
  refine lv_istore_n (lv' := [(0, .int (((va1 - ((((va1).toUInt32 >>> (((1 : Int32)).toUInt32 &&& Int32.toUInt32 31)).toInt32) &&& (1431655765 : Int32))) &&& (858993459 : Int32)) + (((((va1 - ((((va1).toUInt32 >>> (((1 : Int32)).toUInt32 &&& Int32.toUInt32 31)).toInt32) &&& (1431655765 : Int32)))).toUInt32 >>> (((2 : Int32)).toUInt32 &&& Int32.toUInt32 31)).toInt32) &&& (858993459 : Int32))))]) hx hb dJ6_bitCount_0f7a4_23 rfl hl (by decide) rfl (fun ls hl => ?_)
  refine lv_iload_n hx hb dJ6_bitCount_0f7a4_24 rfl (lv_at hl 0 rfl) ?_
  refine lv_iload_n hx hb dJ6_bitCount_0f7a4_25 rfl (lv_at hl 0 rfl) ?_
  refine lv_iconst (v := (4 : Int32)) hx hb dJ6_bitCount_0f7a4_26 (by decide) ?_
  refine lv_iushr (v := ((((((va1 - ((((va1).toUInt32 >>> (((1 : Int32)).toUInt32 &&& Int32.toUInt32 31)).toInt32) &&& (1431655765 : Int32))) &&& (858993459 : Int32)) + (((((va1 - ((((va1).toUInt32 >>> (((1 : Int32)).toUInt32 &&& Int32.toUInt32 31)).toInt32) &&& (1431655765 : Int32)))).toUInt32 >>> (((2 : Int32)).toUInt32 &&& Int32.toUInt32 31)).toInt32) &&& (858993459 : Int32)))).toUInt32 >>> (((4 : Int32)).toUInt32 &&& Int32.toUInt32 31)).toInt32)) hx hb dJ6_bitCount_0f7a4_27 rfl ?_
  refine lv_iadd hx hb dJ6_bitCount_0f7a4_28 ?_
  refine lv_ldcw (v := (252645135 : Int32)) hx hb hown (hts _ (List.mem_cons_of_mem _ (List.mem_of_getElem? (i := 2) rfl))) dJ6_bitCount_0f7a4_29 ?_
  refine lv_iand hx hb dJ6_bitCount_0f7a4_32 ?_
  refine lv_istore_n (lv' := [(0, .int (((((va1 - ((((va1).toUInt32 >>> (((1 : Int32)).toUInt32 &&& Int32.toUInt32 31)).toInt32) &&& (1431655765 : Int32))) &&& (858993459 : Int32)) + (((((va1 - ((((va1).toUInt32 >>> (((1 : Int32)).toUInt32 &&& Int32.toUInt32 31)).toInt32) &&& (1431655765 : Int32)))).toUInt32 >>> (((2 : Int32)).toUInt32 &&& Int32.toUInt32 31)).toInt32) &&& (858993459 : Int32))) + ((((((va1 - ((((va1).toUInt32 >>> (((1 : Int32)).toUInt32 &&& Int32.toUInt32 31)).toInt32) &&& (1431655765 : Int32))) &&& (858993459 : Int32)) + (((((va1 - ((((va1).toUInt32 >>> (((1 : Int32)).toUInt32 &&& Int32.toUInt32 31)).toInt32) &&& (1431655765 : Int32)))).toUInt32 >>> (((2 : Int32)).toUInt32 &&& Int32.toUInt32 31)).toInt32) &&& (858993459 : Int32)))).toUInt32 >>> (((4 : Int32)).toUInt32 &&& Int32.toUInt32 31)).toInt32)) &&& (252645135 : Int32)))]) hx hb dJ6_bitCount_0f7a4_33 rfl hl (by decide) rfl (fun ls hl => ?_)
  refine lv_iload_n hx hb dJ6_bitCount_0f7a4_34 rfl (lv_at hl 0 rfl) ?_
  refine lv_iload_n hx hb dJ6_bitCount_0f7a4_35 rfl (lv_at hl 0 rfl) ?_
  refine lv_bipush (v := (8 : Int32)) hx hb dJ6_bitCount_0f7a4_36 (by decide) ?_
  refine lv_iushr (v := ((((((((va1 - ((((va1).toUInt32 >>> (((1 : Int32)).toUInt32 &&& Int32.toUInt32 31)).toInt32) &&& (1431655765 : Int32))) &&& (858993459 : Int32)) + (((((va1 - ((((va1).toUInt32 >>> (((1 : Int32)).toUInt32 &&& Int32.toUInt32 31)).toInt32) &&& (1431655765 : Int32)))).toUInt32 >>> (((2 : Int32)).toUInt32 &&& Int32.toUInt32 31)).toInt32) &&& (858993459 : Int32))) + ((((((va1 - ((((va1).toUInt32 >>> (((1 : Int32)).toUInt32 &&& Int32.toUInt32 31)).toInt32) &&& (1431655765 : Int32))) &&& (858993459 : Int32)) + (((((va1 - ((((va1).toUInt32 >>> (((1 : Int32)).toUInt32 &&& Int32.toUInt32 31)).toInt32) &&& (1431655765 : Int32)))).toUInt32 >>> (((2 : Int32)).toUInt32 &&& Int32.toUInt32 31)).toInt32) &&& (858993459 : Int32)))).toUInt32 >>> (((4 : Int32)).toUInt32 &&& Int32.toUInt32 31)).toInt32)) &&& (252645135 : Int32))).toUInt32 >>> (((8 : Int32)).toUInt32 &&& Int32.toUInt32 31)).toInt32)) hx hb dJ6_bitCount_0f7a4_38 rfl ?_
  refine lv_iadd hx hb dJ6_bitCount_0f7a4_39 ?_
  refine lv_istore_n (lv' := [(0, .int ((((((va1 - ((((va1).toUInt32 >>> (((1 : Int32)).toUInt32 &&& Int32.toUInt32 31)).toInt32) &&& (1431655765 : Int32))) &&& (858993459 : Int32)) + (((((va1 - ((((va1).toUInt32 >>> (((1 : Int32)).toUInt32 &&& Int32.toUInt32 31)).toInt32) &&& (1431655765 : Int32)))).toUInt32 >>> (((2 : Int32)).toUInt32 &&& Int32.toUInt32 31)).toInt32) &&& (858993459 : Int32))) + ((((((va1 - ((((va1).toUInt32 >>> (((1 : Int32)).toUInt32 &&& Int32.toUInt32 31)).toInt32) &&& (1431655765 : Int32))) &&& (858993459 : Int32)) + (((((va1 - ((((va1).toUInt32 >>> (((1 : Int32)).toUInt32 &&& Int32.toUInt32 31)).toInt32) &&& (1431655765 : Int32)))).toUInt32 >>> (((2 : Int32)).toUInt32 &&& Int32.toUInt32 31)).toInt32) &&& (858993459 : Int32)))).toUInt32 >>> (((4 : Int32)).toUInt32 &&& Int32.toUInt32 31)).toInt32)) &&& (252645135 : Int32)) + ((((((((va1 - ((((va1).toUInt32 >>> (((1 : Int32)).toUInt32 &&& Int32.toUInt32 31)).toInt32) &&& (1431655765 : Int32))) &&& (858993459 : Int32)) + (((((va1 - ((((va1).toUInt32 >>> (((1 : Int32)).toUInt32 &&& Int32.toUInt32 31)).toInt32) &&& (1431655765 : Int32)))).toUInt32 >>> (((2 : Int32)).toUInt32 &&& Int32.toUInt32 31)).toInt32) &&& (858993459 : Int32))) + ((((((va1 - ((((va1).toUInt32 >>> (((1 : Int32)).toUInt32 &&& Int32.toUInt32 31)).toInt32) &&& (1431655765 : Int32))) &&& (858993459 : Int32)) + (((((va1 - ((((va1).toUInt32 >>> (((1 : Int32)).toUInt32 &&& Int32.toUInt32 31)).toInt32) &&& (1431655765 : Int32)))).toUInt32 >>> (((2 : Int32)).toUInt32 &&& Int32.toUInt32 31)).toInt32) &&& (858993459 : Int32)))).toUInt32 >>> (((4 : Int32)).toUInt32 &&& Int32.toUInt32 31)).toInt32)) &&& (252645135 : Int32))).toUInt32 >>> (((8 : Int32)).toUInt32 &&& Int32.toUInt32 31)).toInt32)))]) hx hb dJ6_bitCount_0f7a4_40 rfl hl (by decide) rfl (fun ls hl => ?_)
  refine lv_iload_n hx hb dJ6_bitCount_0f7a4_41 rfl (lv_at hl 0 rfl) ?_
  refine lv_iload_n hx hb dJ6_bitCount_0f7a4_42 rfl (lv_at hl 0 rfl) ?_
  refine lv_bipush (v := (16 : Int32)) hx hb dJ6_bitCount_0f7a4_43 (by decide) ?_
  refine lv_iushr (v := (((((((((va1 - ((((va1).toUInt32 >>> (((1 : Int32)).toUInt32 &&& Int32.toUInt32 31)).toInt32) &&& (1431655765 : Int32))) &&& (858993459 : Int32)) + (((((va1 - ((((va1).toUInt32 >>> (((1 : Int32)).toUInt32 &&& Int32.toUInt32 31)).toInt32) &&& (1431655765 : Int32)))).toUInt32 >>> (((2 : Int32)).toUInt32 &&& Int32.toUInt32 31)).toInt32) &&& (858993459 : Int32))) + ((((((va1 - ((((va1).toUInt32 >>> (((1 : Int32)).toUInt32 &&& Int32.toUInt32 31)).toInt32) &&& (1431655765 : Int32))) &&& (858993459 : Int32)) + (((((va1 - ((((va1).toUInt32 >>> (((1 : Int32)).toUInt32 &&& Int32.toUInt32 31)).toInt32) &&& (1431655765 : Int32)))).toUInt32 >>> (((2 : Int32)).toUInt32 &&& Int32.toUInt32 31)).toInt32) &&& (858993459 : Int32)))).toUInt32 >>> (((4 : Int32)).toUInt32 &&& Int32.toUInt32 31)).toInt32)) &&& (252645135 : Int32)) + ((((((((va1 - ((((va1).toUInt32 >>> (((1 : Int32)).toUInt32 &&& Int32.toUInt32 31)).toInt32) &&& (1431655765 : Int32))) &&& (858993459 : Int32)) + (((((va1 - ((((va1).toUInt32 >>> (((1 : Int32)).toUInt32 &&& Int32.toUInt32 31)).toInt32) &&& (1431655765 : Int32)))).toUInt32 >>> (((2 : Int32)).toUInt32 &&& Int32.toUInt32 31)).toInt32) &&& (858993459 : Int32))) + ((((((va1 - ((((va1).toUInt32 >>> (((1 : Int32)).toUInt32 &&& Int32.toUInt32 31)).toInt32) &&& (1431655765 : Int32))) &&& (858993459 : Int32)) + (((((va1 - ((((va1).toUInt32 >>> (((1 : Int32)).toUInt32 &&& Int32.toUInt32 31)).toInt32) &&& (1431655765 : Int32)))).toUInt32 >>> (((2 : Int32)).toUInt32 &&& Int32.toUInt32 31)).toInt32) &&& (858993459 : Int32)))).toUInt32 >>> (((4 : Int32)).toUInt32 &&& Int32.toUInt32 31)).toInt32)) &&& (252645135 : Int32))).toUInt32 >>> (((8 : Int32)).toUInt32 &&& Int32.toUInt32 31)).toInt32))).toUInt32 >>> (((16 : Int32)).toUInt32 &&& Int32.toUInt32 31)).toInt32)) hx hb dJ6_bitCount_0f7a4_45 rfl ?_
  refine lv_iadd hx hb dJ6_bitCount_0f7a4_46 ?_
  refine lv_istore_n (lv' := [(0, .int (((((((va1 - ((((va1).toUInt32 >>> (((1 : Int32)).toUInt32 &&& Int32.toUInt32 31)).toInt32) &&& (1431655765 : Int32))) &&& (858993459 : Int32)) + (((((va1 - ((((va1).toUInt32 >>> (((1 : Int32)).toUInt32 &&& Int32.toUInt32 31)).toInt32) &&& (1431655765 : Int32)))).toUInt32 >>> (((2 : Int32)).toUInt32 &&& Int32.toUInt32 31)).toInt32) &&& (858993459 : Int32))) + ((((((va1 - ((((va1).toUInt32 >>> (((1 : Int32)).toUInt32 &&& Int32.toUInt32 31)).toInt32) &&& (1431655765 : Int32))) &&& (858993459 : Int32)) + (((((va1 - ((((va1).toUInt32 >>> (((1 : Int32)).toUInt32 &&& Int32.toUInt32 31)).toInt32) &&& (1431655765 : Int32)))).toUInt32 >>> (((2 : Int32)).toUInt32 &&& Int32.toUInt32 31)).toInt32) &&& (858993459 : Int32)))).toUInt32 >>> (((4 : Int32)).toUInt32 &&& Int32.toUInt32 31)).toInt32)) &&& (252645135 : Int32)) + ((((((((va1 - ((((va1).toUInt32 >>> (((1 : Int32)).toUInt32 &&& Int32.toUInt32 31)).toInt32) &&& (1431655765 : Int32))) &&& (858993459 : Int32)) + (((((va1 - ((((va1).toUInt32 >>> (((1 : Int32)).toUInt32 &&& Int32.toUInt32 31)).toInt32) &&& (1431655765 : Int32)))).toUInt32 >>> (((2 : Int32)).toUInt32 &&& Int32.toUInt32 31)).toInt32) &&& (858993459 : Int32))) + ((((((va1 - ((((va1).toUInt32 >>> (((1 : Int32)).toUInt32 &&& Int32.toUInt32 31)).toInt32) &&& (1431655765 : Int32))) &&& (858993459 : Int32)) + (((((va1 - ((((va1).toUInt32 >>> (((1 : Int32)).toUInt32 &&& Int32.toUInt32 31)).toInt32) &&& (1431655765 : Int32)))).toUInt32 >>> (((2 : Int32)).toUInt32 &&& Int32.toUInt32 31)).toInt32) &&& (858993459 : Int32)))).toUInt32 >>> (((4 : Int32)).toUInt32 &&& Int32.toUInt32 31)).toInt32)) &&& (252645135 : Int32))).toUInt32 >>> (((8 : Int32)).toUInt32 &&& Int32.toUInt32 31)).toInt32)) + (((((((((va1 - ((((va1).toUInt32 >>> (((1 : Int32)).toUInt32 &&& Int32.toUInt32 31)).toInt32) &&& (1431655765 : Int32))) &&& (858993459 : Int32)) + (((((va1 - ((((va1).toUInt32 >>> (((1 : Int32)).toUInt32 &&& Int32.toUInt32 31)).toInt32) &&& (1431655765 : Int32)))).toUInt32 >>> (((2 : Int32)).toUInt32 &&& Int32.toUInt32 31)).toInt32) &&& (858993459 : Int32))) + ((((((va1 - ((((va1).toUInt32 >>> (((1 : Int32)).toUInt32 &&& Int32.toUInt32 31)).toInt32) &&& (1431655765 : Int32))) &&& (858993459 : Int32)) + (((((va1 - ((((va1).toUInt32 >>> (((1 : Int32)).toUInt32 &&& Int32.toUInt32 31)).toInt32) &&& (1431655765 : Int32)))).toUInt32 >>> (((2 : Int32)).toUInt32 &&& Int32.toUInt32 31)).toInt32) &&& (858993459 : Int32)))).toUInt32 >>> (((4 : Int32)).toUInt32 &&& Int32.toUInt32 31)).toInt32)) &&& (252645135 : Int32)) + ((((((((va1 - ((((va1).toUInt32 >>> (((1 : Int32)).toUInt32 &&& Int32.toUInt32 31)).toInt32) &&& (1431655765 : Int32))) &&& (858993459 : Int32)) + (((((va1 - ((((va1).toUInt32 >>> (((1 : Int32)).toUInt32 &&& Int32.toUInt32 31)).toInt32) &&& (1431655765 : Int32)))).toUInt32 >>> (((2 : Int32)).toUInt32 &&& Int32.toUInt32 31)).toInt32) &&& (858993459 : Int32))) + ((((((va1 - ((((va1).toUInt32 >>> (((1 : Int32)).toUInt32 &&& Int32.toUInt32 31)).toInt32) &&& (1431655765 : Int32))) &&& (858993459 : Int32)) + (((((va1 - ((((va1).toUInt32 >>> (((1 : Int32)).toUInt32 &&& Int32.toUInt32 31)).toInt32) &&& (1431655765 : Int32)))).toUInt32 >>> (((2 : Int32)).toUInt32 &&& Int32.toUInt32 31)).toInt32) &&& (858993459 : Int32)))).toUInt32 >>> (((4 : Int32)).toUInt32 &&& Int32.toUInt32 31)).toInt32)) &&& (252645135 : Int32))).toUInt32 >>> (((8 : Int32)).toUInt32 &&& Int32.toUInt32 31)).toInt32))).toUInt32 >>> (((16 : Int32)).toUInt32 &&& Int32.toUInt32 31)).toInt32)))]) hx hb dJ6_bitCount_0f7a4_47 rfl hl (by decide) rfl (fun ls hl => ?_)
  refine lv_iload_n hx hb dJ6_bitCount_0f7a4_48 rfl (lv_at hl 0 rfl) ?_
  refine lv_bipush (v := (63 : Int32)) hx hb dJ6_bitCount_0f7a4_49 (by decide) ?_
  refine lv_iand hx hb dJ6_bitCount_0f7a4_51 ?_
  cases hf
  subst hQ
  exact kiret hx hb hr hlocks hK (hP.sub [] rfl) (hD.sub [] (by decide) rfl) hS rfl dJ6_bitCount_0f7a4_52
theorem hdJ6_bitCount_0f7a4 : yJ6_bitCount_0f7a4.cls = RJ6 ∧ yJ6_bitCount_0f7a4.cls ≠ "java/lang/invoke/MethodHandle" ∧ yJ6_bitCount_0f7a4.cls ≠ "java/lang/invoke/VarHandle" ∧ (parseMethodDescriptor yJ6_bitCount_0f7a4.desc).map (fun d => d.parameters.length) = some 1 := by decide +kernel
noncomputable def t_J6_bitCount_0f7a4 (va1 : Int32) : Int32 :=
  ((((((((va1 - ((((va1).toUInt32 >>> (((1 : Int32)).toUInt32 &&& Int32.toUInt32 31)).toInt32) &&& (1431655765 : Int32))) &&& (858993459 : Int32)) + (((((va1 - ((((va1).toUInt32 >>> (((1 : Int32)).toUInt32 &&& Int32.toUInt32 31)).toInt32) &&& (1431655765 : Int32)))).toUInt32 >>> (((2 : Int32)).toUInt32 &&& Int32.toUInt32 31)).toInt32) &&& (858993459 : Int32))) + ((((((va1 - ((((va1).toUInt32 >>> (((1 : Int32)).toUInt32 &&& Int32.toUInt32 31)).toInt32) &&& (1431655765 : Int32))) &&& (858993459 : Int32)) + (((((va1 - ((((va1).toUInt32 >>> (((1 : Int32)).toUInt32 &&& Int32.toUInt32 31)).toInt32) &&& (1431655765 : Int32)))).toUInt32 >>> (((2 : Int32)).toUInt32 &&& Int32.toUInt32 31)).toInt32) &&& (858993459 : Int32)))).toUInt32 >>> (((4 : Int32)).toUInt32 &&& Int32.toUInt32 31)).toInt32)) &&& (252645135 : Int32)) + ((((((((va1 - ((((va1).toUInt32 >>> (((1 : Int32)).toUInt32 &&& Int32.toUInt32 31)).toInt32) &&& (1431655765 : Int32))) &&& (858993459 : Int32)) + (((((va1 - ((((va1).toUInt32 >>> (((1 : Int32)).toUInt32 &&& Int32.toUInt32 31)).toInt32) &&& (1431655765 : Int32)))).toUInt32 >>> (((2 : Int32)).toUInt32 &&& Int32.toUInt32 31)).toInt32) &&& (858993459 : Int32))) + ((((((va1 - ((((va1).toUInt32 >>> (((1 : Int32)).toUInt32 &&& Int32.toUInt32 31)).toInt32) &&& (1431655765 : Int32))) &&& (858993459 : Int32)) + (((((va1 - ((((va1).toUInt32 >>> (((1 : Int32)).toUInt32 &&& Int32.toUInt32 31)).toInt32) &&& (1431655765 : Int32)))).toUInt32 >>> (((2 : Int32)).toUInt32 &&& Int32.toUInt32 31)).toInt32) &&& (858993459 : Int32)))).toUInt32 >>> (((4 : Int32)).toUInt32 &&& Int32.toUInt32 31)).toInt32)) &&& (252645135 : Int32))).toUInt32 >>> (((8 : Int32)).toUInt32 &&& Int32.toUInt32 31)).toInt32)) + (((((((((va1 - ((((va1).toUInt32 >>> (((1 : Int32)).toUInt32 &&& Int32.toUInt32 31)).toInt32) &&& (1431655765 : Int32))) &&& (858993459 : Int32)) + (((((va1 - ((((va1).toUInt32 >>> (((1 : Int32)).toUInt32 &&& Int32.toUInt32 31)).toInt32) &&& (1431655765 : Int32)))).toUInt32 >>> (((2 : Int32)).toUInt32 &&& Int32.toUInt32 31)).toInt32) &&& (858993459 : Int32))) + ((((((va1 - ((((va1).toUInt32 >>> (((1 : Int32)).toUInt32 &&& Int32.toUInt32 31)).toInt32) &&& (1431655765 : Int32))) &&& (858993459 : Int32)) + (((((va1 - ((((va1).toUInt32 >>> (((1 : Int32)).toUInt32 &&& Int32.toUInt32 31)).toInt32) &&& (1431655765 : Int32)))).toUInt32 >>> (((2 : Int32)).toUInt32 &&& Int32.toUInt32 31)).toInt32) &&& (858993459 : Int32)))).toUInt32 >>> (((4 : Int32)).toUInt32 &&& Int32.toUInt32 31)).toInt32)) &&& (252645135 : Int32)) + ((((((((va1 - ((((va1).toUInt32 >>> (((1 : Int32)).toUInt32 &&& Int32.toUInt32 31)).toInt32) &&& (1431655765 : Int32))) &&& (858993459 : Int32)) + (((((va1 - ((((va1).toUInt32 >>> (((1 : Int32)).toUInt32 &&& Int32.toUInt32 31)).toInt32) &&& (1431655765 : Int32)))).toUInt32 >>> (((2 : Int32)).toUInt32 &&& Int32.toUInt32 31)).toInt32) &&& (858993459 : Int32))) + ((((((va1 - ((((va1).toUInt32 >>> (((1 : Int32)).toUInt32 &&& Int32.toUInt32 31)).toInt32) &&& (1431655765 : Int32))) &&& (858993459 : Int32)) + (((((va1 - ((((va1).toUInt32 >>> (((1 : Int32)).toUInt32 &&& Int32.toUInt32 31)).toInt32) &&& (1431655765 : Int32)))).toUInt32 >>> (((2 : Int32)).toUInt32 &&& Int32.toUInt32 31)).toInt32) &&& (858993459 : Int32)))).toUInt32 >>> (((4 : Int32)).toUInt32 &&& Int32.toUInt32 31)).toInt32)) &&& (252645135 : Int32))).toUInt32 >>> (((8 : Int32)).toUInt32 &&& Int32.toUInt32 31)).toInt32))).toUInt32 >>> (((16 : Int32)).toUInt32 &&& Int32.toUInt32 31)).toInt32)) &&& (63 : Int32))
theorem tot_J6_bitCount_0f7a4 (va1 : Int32) : f_J6_bitCount_0f7a4 va1 = some (t_J6_bitCount_0f7a4 va1) := by
  simp only [f_J6_bitCount_0f7a4, t_J6_bitCount_0f7a4]
noncomputable def b_J7_fill_53178_5 (N : Nat) (na1 : Nat) (va2 : Int32) : Nat → Int32 → Int32 → (Nat → Int32) → Option ((Nat → Int32))
  | 0, _, _, _ => none
  | n + 1, l2, l3, cfa1 =>
    if l3 ≤ l2 then
      some (cfa1)
    else
      if l2 < 0 ∨ na1 ≤ (l2).toNatClampNeg then none else
      b_J7_fill_53178_5 N na1 va2 n ((l2 + (1 : Int32))) (l3) ((upd cfa1 (l2).toNatClampNeg va2))
noncomputable def f_J7_fill_53178 (N : Nat) (na1 : Nat) (fa1 : Nat → Int32) (va2 : Int32) : Option ((Nat → Int32)) :=
  b_J7_fill_53178_5 N na1 va2 N ((0 : Int32)) ((nI na1)) (fa1)
abbrev rm_J7_fill_53178 : Room := { frames := 0, cells := 0, slots := 0, locals := 0 }
set_option maxHeartbeats 4000000 in
set_option maxRecDepth 100000 in
theorem c_J7_fill_53178 (l : Launch) (dC : Nat → ClassId) (dI : Nat → Nat → Nat) (cy : gC) (G : gT) (sz : Nat) (qa1 : Nat) (N : Nat) (na1 : Nat) (fa1 : Nat → Int32) (va2 : Int32) (hna1 : na1 < 2 ^ 31) (out : (Nat → Int32)) (hf : f_J7_fill_53178 N na1 fa1 va2 = some out) : Met l yJ7_fill_53178 wsJ7_fill_53178 rm_J7_fill_53178 (va_Pc [.ref qa1, .int va2] (kP (dC, dI) cy G [(qa1, .inl (cy.1, na1, .inl (fa1)))] sz)) (va_Qv (fun (_ : Unit) => True) (fun _ => kQ (dC, dI) cy [(qa1, .inl (cy.1, na1, .inl (out)))] (va_A [(qa1, .inl (cy.1, na1, .inl (fa1)))] sz)) (va_A [(qa1, .inl (cy.1, na1, .inl (fa1)))] sz)) 0 0 (va_A [(qa1, .inl (cy.1, na1, .inl (fa1)))] sz) := by
  refine Met.ofW (cc := cJ7_fill_53178) (maxL := 4) (ret := none) (by decide) rfl ?_
  intro p e s m args below meth c s₁ B hml hv
  obtain ⟨rfl, hsz, hP, hK, hD0, hG⟩ := hv
  have hx := B.exec
  have hb := B.bytes
  have hr := B.returns
  have hts := atoms_spec (ws := wsJ7_fill_53178) B.pre
  have hown : s.vm.findClass RJ7 = some m.cls := findClass_of_methodNamed B.named
  have hlocks := B.notSynchronized
  subst hsz
  have hD := hD0.self (sz := s.heap.size)
  generalize hAe : va_A [(qa1, .inl (cy.1, na1, .inl (fa1)))] s.heap.size = A at hD hG ⊢
  have hA : ∀ q : Nat, s.heap.size ≤ q → A q := fun q h => by rw [← hAe]; exact Or.inr h
  have hS : va_S A s.heap s.heap [] := va_S.rf
  have hP : va_P (dC, dI) vwCl [(qa1, .inl (cy.1, na1, .inl (fa1)))] s.heap := hP
  have hl := lv_entry ([.ref qa1, .int va2]) (n := 4) (Nat.le_of_ble_eq_true rfl)
  rw [lg_entry_eq]
  generalize (lg_sl ([.ref qa1, .int va2]) ++ List.replicate (4 - (lg_sl ([.ref qa1, .int va2])).length) Slot.unset).toArray = ls at hl ⊢
  have hl : lv_has ls 4 [(0, .ref qa1), (1, .int va2)] := hl
  refine kgen (fun Q hQ => ?_)
  have B5 : ∀ (n5 : Nat) (l2 : Int32) (l3 : Int32) (cfa1 : Nat → Int32) (H : Heap) (locs : List Loc), va_P (dC, dI) vwCl [(qa1, .inl (cy.1, na1, .inl (cfa1)))] H → va_D A [(qa1, .inl (cy.1, na1, .inl (cfa1)))] → va_S A s.heap H locs → ∀ (ls : Array Slot), lv_has ls 4 [(0, .ref qa1), (1, .int va2), (2, .int l2), (3, .int l3)] → b_J7_fill_53178_5 N na1 va2 n5 l2 l3 cfa1 = some out → W p l e (headSpec wsJ7_fill_53178 rm_J7_fill_53178).room s m ([.ref qa1, .int va2] : List Value).toArray below meth c H locs 0 0 Q (F0 m 5 ls []) := by
    intro n5
    induction n5 with
    | zero => intro l2 l3 cfa1 H locs hP hD hS ls hl hf; rw [b_J7_fill_53178_5] at hf; cases hf
    | succ n5 ih5 =>
      intro l2 l3 cfa1 H locs hP hD hS ls hl hf
      rw [b_J7_fill_53178_5] at hf
      refine lv_iload_n hx hb dJ7_fill_53178_5 rfl (lv_at hl 2 rfl) ?_
      refine lv_iload_n hx hb dJ7_fill_53178_6 rfl (lv_at hl 3 rfl) ?_
      refine lv_icmp_ge (tgt := 20) hx hb dJ7_fill_53178_7 (by decide) (fun hc_7 => ?_) (fun hc_7 => ?_)
      · rw [if_pos hc_7] at hf
        cases hf
        subst hQ
        exact kvret hx hb hr hlocks hK (hP.sub [0] rfl) (hD.sub [0] (by decide) rfl) hS trivial dJ7_fill_53178_20
      · rw [if_neg hc_7] at hf
        refine lv_aload_n hx hb dJ7_fill_53178_10 rfl (lv_at hl 0 rfl) ?_
        refine lv_iload_n hx hb dJ7_fill_53178_11 rfl (lv_at hl 2 rfl) ?_
        refine lv_iload_n hx hb dJ7_fill_53178_12 rfl (lv_at hl 1 rfl) ?_
        obtain ⟨hk_13, hf⟩ := chk_s hf
        refine va_iast hx hb hK hP hD hS 0 0 rfl rfl hk_13 dJ7_fill_53178_13 (fun H locs hP hD hS => ?_)
        have hP : va_P (dC, dI) vwCl [(qa1, .inl (cy.1, na1, .inl ((upd cfa1 (l2).toNatClampNeg va2))))] H := hP
        have hD : va_D A [(qa1, .inl (cy.1, na1, .inl ((upd cfa1 (l2).toNatClampNeg va2))))] := hD
        refine lv_iinc (v := (l2 + (1 : Int32))) (lv' := [(2, .int (l2 + (1 : Int32))), (0, .ref qa1), (1, .int va2), (3, .int l3)]) hx hb dJ7_fill_53178_14 hl (k := 2) rfl rfl (by decide) rfl (fun ls hl => ?_)
        refine lv_goto (tgt := 5) hx hb dJ7_fill_53178_17 (by decide) ?_
        exact ih5 ((l2 + (1 : Int32))) (l3) ((upd cfa1 (l2).toNatClampNeg va2)) _ _ (hP.sub [0] rfl) (hD.sub [0] (by decide) rfl) hS _ (lv_sub hl [1, 2, 0, 3] rfl) hf
  rw [f_J7_fill_53178] at hf
  refine lv_iconst (v := (0 : Int32)) hx hb dJ7_fill_53178_0 (by decide) ?_
  refine lv_istore_n (lv' := [(2, .int (0 : Int32)), (0, .ref qa1), (1, .int va2)]) hx hb dJ7_fill_53178_1 rfl hl (by decide) rfl (fun ls hl => ?_)
  refine lv_aload_n hx hb dJ7_fill_53178_2 rfl (lv_at hl 1 rfl) ?_
  refine va_alen (v := (nI na1)) hx hb hK hP 0 0 rfl rfl rfl dJ7_fill_53178_3 ?_
  refine lv_istore_n (lv' := [(3, .int (nI na1)), (2, .int (0 : Int32)), (0, .ref qa1), (1, .int va2)]) hx hb dJ7_fill_53178_4 rfl hl (by decide) rfl (fun ls hl => ?_)
  exact B5 N ((0 : Int32)) ((nI na1)) (fa1) _ _ (hP.sub [0] rfl) (hD.sub [0] (by decide) rfl) hS _ (lv_sub hl [2, 3, 1, 0] rfl) hf
theorem hdJ7_fill_53178 : yJ7_fill_53178.cls = RJ7 ∧ yJ7_fill_53178.cls ≠ "java/lang/invoke/MethodHandle" ∧ yJ7_fill_53178.cls ≠ "java/lang/invoke/VarHandle" ∧ (parseMethodDescriptor yJ7_fill_53178.desc).map (fun d => d.parameters.length) = some 2 := by decide +kernel
noncomputable def f_J0_coder_7d493_s0 : Option (Int32) :=
  some ((0 : Int32))
abbrev rm_J0_coder_7d493_s0 : Room := { frames := 0, cells := 0, slots := 0, locals := 0 }
set_option maxHeartbeats 4000000 in
set_option maxRecDepth 100000 in
theorem c_J0_coder_7d493_s0 (l : Launch) (dC : Nat → ClassId) (dI : Nat → Nat → Nat) (cy : gC) (G : gT) (sz : Nat) (out : Int32) (hf : f_J0_coder_7d493_s0 = some out) : Met l yJ0_coder_7d493 wsJ0_coder_7d493 rm_J0_coder_7d493_s0 (va_Pc [.ref (G.2.1 0)] (kP (dC, dI) cy G [] sz)) (va_Qi (fun r (_ : Unit) => r = out) (fun _ => kQ (dC, dI) cy [] (va_A [] sz)) (va_A [] sz)) 0 0 (va_A [] sz) := by
  refine Met.ofW (cc := cJ0_coder_7d493) (maxL := 1) (ret := (some .byte)) (by decide) rfl ?_
  intro p e s m args below meth c s₁ B hml hv
  obtain ⟨rfl, hsz, hP, hK, hD0, hG⟩ := hv
  have hx := B.exec
  have hb := B.bytes
  have hr := B.returns
  have hts := atoms_spec (ws := wsJ0_coder_7d493) B.pre
  have hown : s.vm.findClass RJ0 = some m.cls := findClass_of_methodNamed B.named
  have hlocks := B.notSynchronized
  subst hsz
  have hD := hD0.self (sz := s.heap.size)
  generalize hAe : va_A [] s.heap.size = A at hD hG ⊢
  have hA : ∀ q : Nat, s.heap.size ≤ q → A q := fun q h => by rw [← hAe]; exact Or.inr h
  have hS : va_S A s.heap s.heap [] := va_S.rf
  have hP : va_P (dC, dI) vwCl [] s.heap := hP
  have hl := lv_entry ([.ref (G.2.1 0)]) (n := 1) (Nat.le_of_ble_eq_true rfl)
  rw [lg_entry_eq]
  generalize (lg_sl ([.ref (G.2.1 0)]) ++ List.replicate (1 - (lg_sl ([.ref (G.2.1 0)])).length) Slot.unset).toArray = ls at hl ⊢
  have hl : lv_has ls 1 [(0, .ref (G.2.1 0))] := hl
  refine kgen (fun Q hQ => ?_)
  rw [f_J0_coder_7d493_s0] at hf
  refine va_gets hx hb hG.2.2.1 hS hown (hts _ (List.mem_cons_of_mem _ (List.mem_of_getElem? (i := 0) rfl))) (fun _ h => h) dJ0_coder_7d493_0 ?_
  refine lv_if_eq (tgt := 13) hx hb dJ0_coder_7d493_3 (by decide) (fun c => absurd c (by decide)) (fun _ => ?_)
  refine lv_aload_n hx hb dJ0_coder_7d493_6 rfl (lv_at hl 0 rfl) ?_
  refine vk_getf hx hb (hG.2.2.2.1.1 0 (by decide)).2.1 hS hown (hts _ (List.mem_cons_of_mem _ (List.mem_of_getElem? (i := 1) rfl))) (fun _ h => h) dJ0_coder_7d493_7 ?_
  refine lv_goto (tgt := 14) hx hb dJ0_coder_7d493_10 (by decide) ?_
  cases hf
  subst hQ
  exact kzret hx hb hr hlocks rfl hK (hP.sub [] rfl) (hD.sub [] (by decide) rfl) hS rfl dJ0_coder_7d493_14
theorem hdJ0_coder_7d493 : yJ0_coder_7d493.cls = RJ0 ∧ yJ0_coder_7d493.cls ≠ "java/lang/invoke/MethodHandle" ∧ yJ0_coder_7d493.cls ≠ "java/lang/invoke/VarHandle" ∧ (parseMethodDescriptor yJ0_coder_7d493.desc).map (fun d => d.parameters.length) = some 0 := by decide +kernel
noncomputable def t_J0_coder_7d493_s0 : Int32 :=
  (0 : Int32)
theorem tot_J0_coder_7d493_s0 : f_J0_coder_7d493_s0  = some (t_J0_coder_7d493_s0 ) := by
  simp only [f_J0_coder_7d493_s0, t_J0_coder_7d493_s0]
noncomputable def f_J0_coder_7d493_s1 : Option (Int32) :=
  some ((0 : Int32))
abbrev rm_J0_coder_7d493_s1 : Room := { frames := 0, cells := 0, slots := 0, locals := 0 }
set_option maxHeartbeats 4000000 in
set_option maxRecDepth 100000 in
theorem c_J0_coder_7d493_s1 (l : Launch) (dC : Nat → ClassId) (dI : Nat → Nat → Nat) (cy : gC) (G : gT) (sz : Nat) (out : Int32) (hf : f_J0_coder_7d493_s1 = some out) : Met l yJ0_coder_7d493 wsJ0_coder_7d493 rm_J0_coder_7d493_s1 (va_Pc [.ref (G.2.1 1)] (kP (dC, dI) cy G [] sz)) (va_Qi (fun r (_ : Unit) => r = out) (fun _ => kQ (dC, dI) cy [] (va_A [] sz)) (va_A [] sz)) 0 0 (va_A [] sz) := by
  refine Met.ofW (cc := cJ0_coder_7d493) (maxL := 1) (ret := (some .byte)) (by decide) rfl ?_
  intro p e s m args below meth c s₁ B hml hv
  obtain ⟨rfl, hsz, hP, hK, hD0, hG⟩ := hv
  have hx := B.exec
  have hb := B.bytes
  have hr := B.returns
  have hts := atoms_spec (ws := wsJ0_coder_7d493) B.pre
  have hown : s.vm.findClass RJ0 = some m.cls := findClass_of_methodNamed B.named
  have hlocks := B.notSynchronized
  subst hsz
  have hD := hD0.self (sz := s.heap.size)
  generalize hAe : va_A [] s.heap.size = A at hD hG ⊢
  have hA : ∀ q : Nat, s.heap.size ≤ q → A q := fun q h => by rw [← hAe]; exact Or.inr h
  have hS : va_S A s.heap s.heap [] := va_S.rf
  have hP : va_P (dC, dI) vwCl [] s.heap := hP
  have hl := lv_entry ([.ref (G.2.1 1)]) (n := 1) (Nat.le_of_ble_eq_true rfl)
  rw [lg_entry_eq]
  generalize (lg_sl ([.ref (G.2.1 1)]) ++ List.replicate (1 - (lg_sl ([.ref (G.2.1 1)])).length) Slot.unset).toArray = ls at hl ⊢
  have hl : lv_has ls 1 [(0, .ref (G.2.1 1))] := hl
  refine kgen (fun Q hQ => ?_)
  rw [f_J0_coder_7d493_s1] at hf
  refine va_gets hx hb hG.2.2.1 hS hown (hts _ (List.mem_cons_of_mem _ (List.mem_of_getElem? (i := 0) rfl))) (fun _ h => h) dJ0_coder_7d493_0 ?_
  refine lv_if_eq (tgt := 13) hx hb dJ0_coder_7d493_3 (by decide) (fun c => absurd c (by decide)) (fun _ => ?_)
  refine lv_aload_n hx hb dJ0_coder_7d493_6 rfl (lv_at hl 0 rfl) ?_
  refine vk_getf hx hb (hG.2.2.2.1.1 1 (by decide)).2.1 hS hown (hts _ (List.mem_cons_of_mem _ (List.mem_of_getElem? (i := 1) rfl))) (fun _ h => h) dJ0_coder_7d493_7 ?_
  refine lv_goto (tgt := 14) hx hb dJ0_coder_7d493_10 (by decide) ?_
  cases hf
  subst hQ
  exact kzret hx hb hr hlocks rfl hK (hP.sub [] rfl) (hD.sub [] (by decide) rfl) hS rfl dJ0_coder_7d493_14
noncomputable def t_J0_coder_7d493_s1 : Int32 :=
  (0 : Int32)
theorem tot_J0_coder_7d493_s1 : f_J0_coder_7d493_s1  = some (t_J0_coder_7d493_s1 ) := by
  simp only [f_J0_coder_7d493_s1, t_J0_coder_7d493_s1]
noncomputable def f_J0_isLatin1_aae02_s0 : Option (Int32) :=
  some ((1 : Int32))
abbrev rm_J0_isLatin1_aae02_s0 : Room := { frames := 0, cells := 0, slots := 0, locals := 0 }
set_option maxHeartbeats 4000000 in
set_option maxRecDepth 100000 in
theorem c_J0_isLatin1_aae02_s0 (l : Launch) (dC : Nat → ClassId) (dI : Nat → Nat → Nat) (cy : gC) (G : gT) (sz : Nat) (out : Int32) (hf : f_J0_isLatin1_aae02_s0 = some out) : Met l yJ0_isLatin1_aae02 wsJ0_isLatin1_aae02 rm_J0_isLatin1_aae02_s0 (va_Pc [.ref (G.2.1 0)] (kP (dC, dI) cy G [] sz)) (va_Qi (fun r (_ : Unit) => r = out) (fun _ => kQ (dC, dI) cy [] (va_A [] sz)) (va_A [] sz)) 0 0 (va_A [] sz) := by
  refine Met.ofW (cc := cJ0_isLatin1_aae02) (maxL := 1) (ret := (some .boolean)) (by decide) rfl ?_
  intro p e s m args below meth c s₁ B hml hv
  obtain ⟨rfl, hsz, hP, hK, hD0, hG⟩ := hv
  have hx := B.exec
  have hb := B.bytes
  have hr := B.returns
  have hts := atoms_spec (ws := wsJ0_isLatin1_aae02) B.pre
  have hown : s.vm.findClass RJ0 = some m.cls := findClass_of_methodNamed B.named
  have hlocks := B.notSynchronized
  subst hsz
  have hD := hD0.self (sz := s.heap.size)
  generalize hAe : va_A [] s.heap.size = A at hD hG ⊢
  have hA : ∀ q : Nat, s.heap.size ≤ q → A q := fun q h => by rw [← hAe]; exact Or.inr h
  have hS : va_S A s.heap s.heap [] := va_S.rf
  have hP : va_P (dC, dI) vwCl [] s.heap := hP
  have hl := lv_entry ([.ref (G.2.1 0)]) (n := 1) (Nat.le_of_ble_eq_true rfl)
  rw [lg_entry_eq]
  generalize (lg_sl ([.ref (G.2.1 0)]) ++ List.replicate (1 - (lg_sl ([.ref (G.2.1 0)])).length) Slot.unset).toArray = ls at hl ⊢
  have hl : lv_has ls 1 [(0, .ref (G.2.1 0))] := hl
  refine kgen (fun Q hQ => ?_)
  rw [f_J0_isLatin1_aae02_s0] at hf
  refine va_gets hx hb hG.2.2.1 hS hown (hts _ (List.mem_cons_of_mem _ (List.mem_of_getElem? (i := 0) rfl))) (fun _ h => h) dJ0_isLatin1_aae02_0 ?_
  refine lv_if_eq (tgt := 17) hx hb dJ0_isLatin1_aae02_3 (by decide) (fun c => absurd c (by decide)) (fun _ => ?_)
  refine lv_aload_n hx hb dJ0_isLatin1_aae02_6 rfl (lv_at hl 0 rfl) ?_
  refine vk_getf hx hb (hG.2.2.2.1.1 0 (by decide)).2.1 hS hown (hts _ (List.mem_cons_of_mem _ (List.mem_of_getElem? (i := 1) rfl))) (fun _ h => h) dJ0_isLatin1_aae02_7 ?_
  refine lv_if_ne (tgt := 17) hx hb dJ0_isLatin1_aae02_10 (by decide) (fun c => absurd c (by decide)) (fun _ => ?_)
  refine lv_iconst (v := (1 : Int32)) hx hb dJ0_isLatin1_aae02_13 (by decide) ?_
  refine lv_goto (tgt := 18) hx hb dJ0_isLatin1_aae02_14 (by decide) ?_
  cases hf
  subst hQ
  exact kzret hx hb hr hlocks rfl hK (hP.sub [] rfl) (hD.sub [] (by decide) rfl) hS rfl dJ0_isLatin1_aae02_18
theorem hdJ0_isLatin1_aae02 : yJ0_isLatin1_aae02.cls = RJ0 ∧ yJ0_isLatin1_aae02.cls ≠ "java/lang/invoke/MethodHandle" ∧ yJ0_isLatin1_aae02.cls ≠ "java/lang/invoke/VarHandle" ∧ (parseMethodDescriptor yJ0_isLatin1_aae02.desc).map (fun d => d.parameters.length) = some 0 := by decide +kernel
noncomputable def t_J0_isLatin1_aae02_s0 : Int32 :=
  (1 : Int32)
theorem tot_J0_isLatin1_aae02_s0 : f_J0_isLatin1_aae02_s0  = some (t_J0_isLatin1_aae02_s0 ) := by
  simp only [f_J0_isLatin1_aae02_s0, t_J0_isLatin1_aae02_s0]
theorem bl_J0_isLatin1_aae02_s0 : t_J0_isLatin1_aae02_s0  = 0 ∨ t_J0_isLatin1_aae02_s0  = 1 := by
  unfold t_J0_isLatin1_aae02_s0
  repeat' (first | exact Or.inl rfl | exact Or.inr rfl | fail | split)
noncomputable def f_J0_isLatin1_aae02_s1 : Option (Int32) :=
  some ((1 : Int32))
abbrev rm_J0_isLatin1_aae02_s1 : Room := { frames := 0, cells := 0, slots := 0, locals := 0 }
set_option maxHeartbeats 4000000 in
set_option maxRecDepth 100000 in
theorem c_J0_isLatin1_aae02_s1 (l : Launch) (dC : Nat → ClassId) (dI : Nat → Nat → Nat) (cy : gC) (G : gT) (sz : Nat) (out : Int32) (hf : f_J0_isLatin1_aae02_s1 = some out) : Met l yJ0_isLatin1_aae02 wsJ0_isLatin1_aae02 rm_J0_isLatin1_aae02_s1 (va_Pc [.ref (G.2.1 1)] (kP (dC, dI) cy G [] sz)) (va_Qi (fun r (_ : Unit) => r = out) (fun _ => kQ (dC, dI) cy [] (va_A [] sz)) (va_A [] sz)) 0 0 (va_A [] sz) := by
  refine Met.ofW (cc := cJ0_isLatin1_aae02) (maxL := 1) (ret := (some .boolean)) (by decide) rfl ?_
  intro p e s m args below meth c s₁ B hml hv
  obtain ⟨rfl, hsz, hP, hK, hD0, hG⟩ := hv
  have hx := B.exec
  have hb := B.bytes
  have hr := B.returns
  have hts := atoms_spec (ws := wsJ0_isLatin1_aae02) B.pre
  have hown : s.vm.findClass RJ0 = some m.cls := findClass_of_methodNamed B.named
  have hlocks := B.notSynchronized
  subst hsz
  have hD := hD0.self (sz := s.heap.size)
  generalize hAe : va_A [] s.heap.size = A at hD hG ⊢
  have hA : ∀ q : Nat, s.heap.size ≤ q → A q := fun q h => by rw [← hAe]; exact Or.inr h
  have hS : va_S A s.heap s.heap [] := va_S.rf
  have hP : va_P (dC, dI) vwCl [] s.heap := hP
  have hl := lv_entry ([.ref (G.2.1 1)]) (n := 1) (Nat.le_of_ble_eq_true rfl)
  rw [lg_entry_eq]
  generalize (lg_sl ([.ref (G.2.1 1)]) ++ List.replicate (1 - (lg_sl ([.ref (G.2.1 1)])).length) Slot.unset).toArray = ls at hl ⊢
  have hl : lv_has ls 1 [(0, .ref (G.2.1 1))] := hl
  refine kgen (fun Q hQ => ?_)
  rw [f_J0_isLatin1_aae02_s1] at hf
  refine va_gets hx hb hG.2.2.1 hS hown (hts _ (List.mem_cons_of_mem _ (List.mem_of_getElem? (i := 0) rfl))) (fun _ h => h) dJ0_isLatin1_aae02_0 ?_
  refine lv_if_eq (tgt := 17) hx hb dJ0_isLatin1_aae02_3 (by decide) (fun c => absurd c (by decide)) (fun _ => ?_)
  refine lv_aload_n hx hb dJ0_isLatin1_aae02_6 rfl (lv_at hl 0 rfl) ?_
  refine vk_getf hx hb (hG.2.2.2.1.1 1 (by decide)).2.1 hS hown (hts _ (List.mem_cons_of_mem _ (List.mem_of_getElem? (i := 1) rfl))) (fun _ h => h) dJ0_isLatin1_aae02_7 ?_
  refine lv_if_ne (tgt := 17) hx hb dJ0_isLatin1_aae02_10 (by decide) (fun c => absurd c (by decide)) (fun _ => ?_)
  refine lv_iconst (v := (1 : Int32)) hx hb dJ0_isLatin1_aae02_13 (by decide) ?_
  refine lv_goto (tgt := 18) hx hb dJ0_isLatin1_aae02_14 (by decide) ?_
  cases hf
  subst hQ
  exact kzret hx hb hr hlocks rfl hK (hP.sub [] rfl) (hD.sub [] (by decide) rfl) hS rfl dJ0_isLatin1_aae02_18
noncomputable def t_J0_isLatin1_aae02_s1 : Int32 :=
  (1 : Int32)
theorem tot_J0_isLatin1_aae02_s1 : f_J0_isLatin1_aae02_s1  = some (t_J0_isLatin1_aae02_s1 ) := by
  simp only [f_J0_isLatin1_aae02_s1, t_J0_isLatin1_aae02_s1]
theorem bl_J0_isLatin1_aae02_s1 : t_J0_isLatin1_aae02_s1  = 0 ∨ t_J0_isLatin1_aae02_s1  = 1 := by
  unfold t_J0_isLatin1_aae02_s1
  repeat' (first | exact Or.inl rfl | exact Or.inr rfl | fail | split)
noncomputable def f_J0_length_8abf5_s0 : Option (Int32) :=
  some (((15 : Int32) >>> ((0 : Int32) &&& 31)))
abbrev rm_J0_length_8abf5_s0 : Room := { frames := 1, cells := 0, slots := 0, locals := 20 }
set_option maxHeartbeats 4000000 in
set_option maxRecDepth 100000 in
theorem c_J0_length_8abf5_s0 (l : Launch) (dC : Nat → ClassId) (dI : Nat → Nat → Nat) (cy : gC) (G : gT) (sz : Nat) (out : Int32) (hf : f_J0_length_8abf5_s0 = some out) : Met l yJ0_length_8abf5 wsJ0_length_8abf5 rm_J0_length_8abf5_s0 (va_Pc [.ref (G.2.1 0)] (kP (dC, dI) cy G [] sz)) (va_Qi (fun r (_ : Unit) => r = out) (fun _ => kQ (dC, dI) cy [] (va_A [] sz)) (va_A [] sz)) 0 0 (va_A [] sz) := by
  refine Met.ofW (cc := cJ0_length_8abf5) (maxL := 1) (ret := (some .int)) (by decide) rfl ?_
  intro p e s m args below meth c s₁ B hml hv
  obtain ⟨rfl, hsz, hP, hK, hD0, hG⟩ := hv
  have hx := B.exec
  have hb := B.bytes
  have hr := B.returns
  have hts := atoms_spec (ws := wsJ0_length_8abf5) B.pre
  have hown : s.vm.findClass RJ0 = some m.cls := findClass_of_methodNamed B.named
  have hlocks := B.notSynchronized
  subst hsz
  have hD := hD0.self (sz := s.heap.size)
  generalize hAe : va_A [] s.heap.size = A at hD hG ⊢
  have hA : ∀ q : Nat, s.heap.size ≤ q → A q := fun q h => by rw [← hAe]; exact Or.inr h
  have hS : va_S A s.heap s.heap [] := va_S.rf
  have hP : va_P (dC, dI) vwCl [] s.heap := hP
  have hl := lv_entry ([.ref (G.2.1 0)]) (n := 1) (Nat.le_of_ble_eq_true rfl)
  rw [lg_entry_eq]
  generalize (lg_sl ([.ref (G.2.1 0)]) ++ List.replicate (1 - (lg_sl ([.ref (G.2.1 0)])).length) Slot.unset).toArray = ls at hl ⊢
  have hl : lv_has ls 1 [(0, .ref (G.2.1 0))] := hl
  refine kgen (fun Q hQ => ?_)
  rw [f_J0_length_8abf5_s0] at hf
  refine lv_aload_n hx hb dJ0_length_8abf5_0 rfl (lv_at hl 0 rfl) ?_
  refine vk_getf hx hb (hG.2.2.2.1.1 0 (by decide)).2.2.1 hS hown (hts _ (List.mem_cons_of_mem _ (List.mem_of_getElem? (i := 0) rfl))) (fun _ h => h) dJ0_length_8abf5_1 ?_
  refine va_tlen (v := (15 : Int32)) hx hb (hG.2.2.2.1.1 0 (by decide)).2.2.2 hS rfl dJ0_length_8abf5_4 ?_
  refine lv_aload_n hx hb dJ0_length_8abf5_5 rfl (lv_at hl 0 rfl) ?_
  refine kcalli (wc := []) (wr := []) (w1 := []) hK hP hD hS hA hG [] [] rfl rfl rfl rfl rfl (fun hU hPc => va_runV (As := []) (rest := [.int (15 : Int32)]) ⟨hx, hb, hml, hown, hts⟩ (c_J0_coder_7d493_s0 l dC dI cy G s.heap.size t_J0_coder_7d493_s0 (tot_J0_coder_7d493_s0)) (cwV 0 hts gJ0_length_8abf5_J0_coder_7d493 rfl rfl rfl hdJ0_coder_7d493 ⟨Nat.le_of_ble_eq_true rfl, Nat.le_of_ble_eq_true rfl⟩) ⟨kBlind, (vk_recv hG.2.2.2.1 (i := 0) (by decide) hS), fun U h1 h2 => ⟨rfl, hU U h1 h2⟩⟩ rfl rfl hl.1 rfl (lv_room (Nat.le_of_ble_eq_true rfl)) dJ0_length_8abf5_6 ⟨Nat.zero_le _, Nat.zero_le _⟩) (t_J0_coder_7d493_s0) (fun _ _ h => h) (fun _ _ h => h) (fun H locs hP hD hS => ?_)
  refine kcst (y := (0 : Int32)) rfl ?_
  refine lv_ishr hx hb dJ0_length_8abf5_9 ?_
  cases hf
  subst hQ
  exact kiret hx hb hr hlocks hK (hP.sub [] rfl) (hD.sub [] (by decide) rfl) hS rfl dJ0_length_8abf5_10
theorem hdJ0_length_8abf5 : yJ0_length_8abf5.cls = RJ0 ∧ yJ0_length_8abf5.cls ≠ "java/lang/invoke/MethodHandle" ∧ yJ0_length_8abf5.cls ≠ "java/lang/invoke/VarHandle" ∧ (parseMethodDescriptor yJ0_length_8abf5.desc).map (fun d => d.parameters.length) = some 0 := by decide +kernel
noncomputable def t_J0_length_8abf5_s0 : Int32 :=
  ((15 : Int32) >>> ((0 : Int32) &&& 31))
theorem tot_J0_length_8abf5_s0 : f_J0_length_8abf5_s0  = some (t_J0_length_8abf5_s0 ) := by
  simp only [f_J0_length_8abf5_s0, t_J0_length_8abf5_s0]
noncomputable def f_J0_length_8abf5_s1 : Option (Int32) :=
  some (((4 : Int32) >>> ((0 : Int32) &&& 31)))
abbrev rm_J0_length_8abf5_s1 : Room := { frames := 1, cells := 0, slots := 0, locals := 20 }
set_option maxHeartbeats 4000000 in
set_option maxRecDepth 100000 in
theorem c_J0_length_8abf5_s1 (l : Launch) (dC : Nat → ClassId) (dI : Nat → Nat → Nat) (cy : gC) (G : gT) (sz : Nat) (out : Int32) (hf : f_J0_length_8abf5_s1 = some out) : Met l yJ0_length_8abf5 wsJ0_length_8abf5 rm_J0_length_8abf5_s1 (va_Pc [.ref (G.2.1 1)] (kP (dC, dI) cy G [] sz)) (va_Qi (fun r (_ : Unit) => r = out) (fun _ => kQ (dC, dI) cy [] (va_A [] sz)) (va_A [] sz)) 0 0 (va_A [] sz) := by
  refine Met.ofW (cc := cJ0_length_8abf5) (maxL := 1) (ret := (some .int)) (by decide) rfl ?_
  intro p e s m args below meth c s₁ B hml hv
  obtain ⟨rfl, hsz, hP, hK, hD0, hG⟩ := hv
  have hx := B.exec
  have hb := B.bytes
  have hr := B.returns
  have hts := atoms_spec (ws := wsJ0_length_8abf5) B.pre
  have hown : s.vm.findClass RJ0 = some m.cls := findClass_of_methodNamed B.named
  have hlocks := B.notSynchronized
  subst hsz
  have hD := hD0.self (sz := s.heap.size)
  generalize hAe : va_A [] s.heap.size = A at hD hG ⊢
  have hA : ∀ q : Nat, s.heap.size ≤ q → A q := fun q h => by rw [← hAe]; exact Or.inr h
  have hS : va_S A s.heap s.heap [] := va_S.rf
  have hP : va_P (dC, dI) vwCl [] s.heap := hP
  have hl := lv_entry ([.ref (G.2.1 1)]) (n := 1) (Nat.le_of_ble_eq_true rfl)
  rw [lg_entry_eq]
  generalize (lg_sl ([.ref (G.2.1 1)]) ++ List.replicate (1 - (lg_sl ([.ref (G.2.1 1)])).length) Slot.unset).toArray = ls at hl ⊢
  have hl : lv_has ls 1 [(0, .ref (G.2.1 1))] := hl
  refine kgen (fun Q hQ => ?_)
  rw [f_J0_length_8abf5_s1] at hf
  refine lv_aload_n hx hb dJ0_length_8abf5_0 rfl (lv_at hl 0 rfl) ?_
  refine vk_getf hx hb (hG.2.2.2.1.1 1 (by decide)).2.2.1 hS hown (hts _ (List.mem_cons_of_mem _ (List.mem_of_getElem? (i := 0) rfl))) (fun _ h => h) dJ0_length_8abf5_1 ?_
  refine va_tlen (v := (4 : Int32)) hx hb (hG.2.2.2.1.1 1 (by decide)).2.2.2 hS rfl dJ0_length_8abf5_4 ?_
  refine lv_aload_n hx hb dJ0_length_8abf5_5 rfl (lv_at hl 0 rfl) ?_
  refine kcalli (wc := []) (wr := []) (w1 := []) hK hP hD hS hA hG [] [] rfl rfl rfl rfl rfl (fun hU hPc => va_runV (As := []) (rest := [.int (4 : Int32)]) ⟨hx, hb, hml, hown, hts⟩ (c_J0_coder_7d493_s1 l dC dI cy G s.heap.size t_J0_coder_7d493_s1 (tot_J0_coder_7d493_s1)) (cwV 0 hts gJ0_length_8abf5_J0_coder_7d493 rfl rfl rfl hdJ0_coder_7d493 ⟨Nat.le_of_ble_eq_true rfl, Nat.le_of_ble_eq_true rfl⟩) ⟨kBlind, (vk_recv hG.2.2.2.1 (i := 1) (by decide) hS), fun U h1 h2 => ⟨rfl, hU U h1 h2⟩⟩ rfl rfl hl.1 rfl (lv_room (Nat.le_of_ble_eq_true rfl)) dJ0_length_8abf5_6 ⟨Nat.zero_le _, Nat.zero_le _⟩) (t_J0_coder_7d493_s1) (fun _ _ h => h) (fun _ _ h => h) (fun H locs hP hD hS => ?_)
  refine kcst (y := (0 : Int32)) rfl ?_
  refine lv_ishr hx hb dJ0_length_8abf5_9 ?_
  cases hf
  subst hQ
  exact kiret hx hb hr hlocks hK (hP.sub [] rfl) (hD.sub [] (by decide) rfl) hS rfl dJ0_length_8abf5_10
noncomputable def t_J0_length_8abf5_s1 : Int32 :=
  ((4 : Int32) >>> ((0 : Int32) &&& 31))
theorem tot_J0_length_8abf5_s1 : f_J0_length_8abf5_s1  = some (t_J0_length_8abf5_s1 ) := by
  simp only [f_J0_length_8abf5_s1, t_J0_length_8abf5_s1]
noncomputable def f_J1_canEncode_9a6ad (va1 : Int32) : Option (Int32) :=
  if va1 < 0 then
    some ((0 : Int32))
  else
    if (255 : Int32) < va1 then
      some ((0 : Int32))
    else
      some ((1 : Int32))
abbrev rm_J1_canEncode_9a6ad : Room := { frames := 0, cells := 0, slots := 0, locals := 0 }
set_option maxHeartbeats 4000000 in
set_option maxRecDepth 100000 in
theorem c_J1_canEncode_9a6ad (l : Launch) (dC : Nat → ClassId) (dI : Nat → Nat → Nat) (cy : gC) (G : gT) (sz : Nat) (va1 : Int32) (out : Int32) (hf : f_J1_canEncode_9a6ad va1 = some out) : Met l yJ1_canEncode_9a6ad wsJ1_canEncode_9a6ad rm_J1_canEncode_9a6ad (va_Pc [.int va1] (kP (dC, dI) cy G [] sz)) (va_Qi (fun r (_ : Unit) => r = out) (fun _ => kQ (dC, dI) cy [] (va_A [] sz)) (va_A [] sz)) 0 0 (va_A [] sz) := by
  refine Met.ofW (cc := cJ1_canEncode_9a6ad) (maxL := 1) (ret := (some .boolean)) (by decide) rfl ?_
  intro p e s m args below meth c s₁ B hml hv
  obtain ⟨rfl, hsz, hP, hK, hD0, hG⟩ := hv
  have hx := B.exec
  have hb := B.bytes
  have hr := B.returns
  have hts := atoms_spec (ws := wsJ1_canEncode_9a6ad) B.pre
  have hown : s.vm.findClass RJ1 = some m.cls := findClass_of_methodNamed B.named
  have hlocks := B.notSynchronized
  subst hsz
  have hD := hD0.self (sz := s.heap.size)
  generalize hAe : va_A [] s.heap.size = A at hD hG ⊢
  have hA : ∀ q : Nat, s.heap.size ≤ q → A q := fun q h => by rw [← hAe]; exact Or.inr h
  have hS : va_S A s.heap s.heap [] := va_S.rf
  have hP : va_P (dC, dI) vwCl [] s.heap := hP
  have hl := lv_entry ([.int va1]) (n := 1) (Nat.le_of_ble_eq_true rfl)
  rw [lg_entry_eq]
  generalize (lg_sl ([.int va1]) ++ List.replicate (1 - (lg_sl ([.int va1])).length) Slot.unset).toArray = ls at hl ⊢
  have hl : lv_has ls 1 [(0, .int va1)] := hl
  refine kgen (fun Q hQ => ?_)
  rw [f_J1_canEncode_9a6ad] at hf
  refine lv_iload_n hx hb dJ1_canEncode_9a6ad_0 rfl (lv_at hl 0 rfl) ?_
  refine lv_if_lt (tgt := 15) hx hb dJ1_canEncode_9a6ad_1 (by decide) (fun hc_1 => ?_) (fun hc_1 => ?_)
  · rw [if_pos hc_1] at hf
    refine lv_iconst (v := (0 : Int32)) hx hb dJ1_canEncode_9a6ad_15 (by decide) ?_
    cases hf
    subst hQ
    exact kzret hx hb hr hlocks rfl hK (hP.sub [] rfl) (hD.sub [] (by decide) rfl) hS rfl dJ1_canEncode_9a6ad_16
  · rw [if_neg hc_1] at hf
    refine lv_iload_n hx hb dJ1_canEncode_9a6ad_4 rfl (lv_at hl 0 rfl) ?_
    refine lv_sipush (v := (255 : Int32)) hx hb dJ1_canEncode_9a6ad_5 (by decide) ?_
    refine lv_icmp_gt (tgt := 15) hx hb dJ1_canEncode_9a6ad_8 (by decide) (fun hc_8 => ?_) (fun hc_8 => ?_)
    · rw [if_pos hc_8] at hf
      refine lv_iconst (v := (0 : Int32)) hx hb dJ1_canEncode_9a6ad_15 (by decide) ?_
      cases hf
      subst hQ
      exact kzret hx hb hr hlocks rfl hK (hP.sub [] rfl) (hD.sub [] (by decide) rfl) hS rfl dJ1_canEncode_9a6ad_16
    · rw [if_neg hc_8] at hf
      refine lv_iconst (v := (1 : Int32)) hx hb dJ1_canEncode_9a6ad_11 (by decide) ?_
      refine lv_goto (tgt := 16) hx hb dJ1_canEncode_9a6ad_12 (by decide) ?_
      cases hf
      subst hQ
      exact kzret hx hb hr hlocks rfl hK (hP.sub [] rfl) (hD.sub [] (by decide) rfl) hS rfl dJ1_canEncode_9a6ad_16
theorem hdJ1_canEncode_9a6ad : yJ1_canEncode_9a6ad.cls = RJ1 ∧ yJ1_canEncode_9a6ad.cls ≠ "java/lang/invoke/MethodHandle" ∧ yJ1_canEncode_9a6ad.cls ≠ "java/lang/invoke/VarHandle" ∧ (parseMethodDescriptor yJ1_canEncode_9a6ad.desc).map (fun d => d.parameters.length) = some 1 := by decide +kernel
noncomputable def t_J1_canEncode_9a6ad (va1 : Int32) : Int32 :=
  if va1 < 0 then
    (0 : Int32)
  else
    if (255 : Int32) < va1 then
      (0 : Int32)
    else
      (1 : Int32)
theorem tot_J1_canEncode_9a6ad (va1 : Int32) : f_J1_canEncode_9a6ad va1 = some (t_J1_canEncode_9a6ad va1) := by
  by_cases hc_1 : va1 < 0
  · simp only [f_J1_canEncode_9a6ad, t_J1_canEncode_9a6ad, if_pos hc_1]
  · by_cases hc_8 : (255 : Int32) < va1
    · simp only [f_J1_canEncode_9a6ad, t_J1_canEncode_9a6ad, if_neg hc_1, if_pos hc_8]
    · simp only [f_J1_canEncode_9a6ad, t_J1_canEncode_9a6ad, if_neg hc_1, if_neg hc_8]
theorem bl_J1_canEncode_9a6ad (va1 : Int32) : t_J1_canEncode_9a6ad va1 = 0 ∨ t_J1_canEncode_9a6ad va1 = 1 := by
  unfold t_J1_canEncode_9a6ad
  repeat' (first | exact Or.inl rfl | exact Or.inr rfl | fail | split)
noncomputable def b_J1_indexOfChar_4cfef_s0_7 (N : Nat) (va2 : Int32) (va3 : Int32) (va4 : Int32) : Nat → Int32 → Int32 → Option (Int32)
  | 0, _, _ => none
  | n + 1, l4, l5 =>
    if va4 ≤ l5 then
      some ((-1 : Int32))
    else
      if l5 < 0 ∨ (strN.getD 0 0) ≤ (l5).toNatClampNeg then none else
      if ((strL.getD 0 []).getD (l5).toNatClampNeg 0) = l4 then
        some (l5)
      else
        b_J1_indexOfChar_4cfef_s0_7 N va2 va3 va4 n (l4) ((l5 + (1 : Int32)))
noncomputable def f_J1_indexOfChar_4cfef_s0 (N : Nat) (va2 : Int32) (va3 : Int32) (va4 : Int32) : Option (Int32) :=
  b_J1_indexOfChar_4cfef_s0_7 N va2 va3 va4 N (((va2).toInt8.toInt32)) (va3)
abbrev rm_J1_indexOfChar_4cfef_s0 : Room := { frames := 0, cells := 0, slots := 0, locals := 0 }
set_option maxHeartbeats 4000000 in
set_option maxRecDepth 100000 in
theorem c_J1_indexOfChar_4cfef_s0 (l : Launch) (dC : Nat → ClassId) (dI : Nat → Nat → Nat) (cy : gC) (G : gT) (sz : Nat) (N : Nat) (va2 : Int32) (va3 : Int32) (va4 : Int32) (out : Int32) (hf : f_J1_indexOfChar_4cfef_s0 N va2 va3 va4 = some out) : Met l yJ1_indexOfChar_4cfef wsJ1_indexOfChar_4cfef rm_J1_indexOfChar_4cfef_s0 (va_Pc [.ref (G.2.2 0), .int va2, .int va3, .int va4] (kP (dC, dI) cy G [] sz)) (va_Qi (fun r (_ : Unit) => r = out) (fun _ => kQ (dC, dI) cy [] (va_A [] sz)) (va_A [] sz)) 0 0 (va_A [] sz) := by
  refine Met.ofW (cc := cJ1_indexOfChar_4cfef) (maxL := 6) (ret := (some .int)) (by decide) rfl ?_
  intro p e s m args below meth c s₁ B hml hv
  obtain ⟨rfl, hsz, hP, hK, hD0, hG⟩ := hv
  have hx := B.exec
  have hb := B.bytes
  have hr := B.returns
  have hts := atoms_spec (ws := wsJ1_indexOfChar_4cfef) B.pre
  have hown : s.vm.findClass RJ1 = some m.cls := findClass_of_methodNamed B.named
  have hlocks := B.notSynchronized
  subst hsz
  have hD := hD0.self (sz := s.heap.size)
  generalize hAe : va_A [] s.heap.size = A at hD hG ⊢
  have hA : ∀ q : Nat, s.heap.size ≤ q → A q := fun q h => by rw [← hAe]; exact Or.inr h
  have hS : va_S A s.heap s.heap [] := va_S.rf
  have hP : va_P (dC, dI) vwCl [] s.heap := hP
  have hl := lv_entry ([.ref (G.2.2 0), .int va2, .int va3, .int va4]) (n := 6) (Nat.le_of_ble_eq_true rfl)
  rw [lg_entry_eq]
  generalize (lg_sl ([.ref (G.2.2 0), .int va2, .int va3, .int va4]) ++ List.replicate (6 - (lg_sl ([.ref (G.2.2 0), .int va2, .int va3, .int va4])).length) Slot.unset).toArray = ls at hl ⊢
  have hl : lv_has ls 6 [(0, .ref (G.2.2 0)), (1, .int va2), (2, .int va3), (3, .int va4)] := hl
  refine kgen (fun Q hQ => ?_)
  have B7 : ∀ (n7 : Nat) (l4 : Int32) (l5 : Int32) (H : Heap) (locs : List Loc), va_P (dC, dI) vwCl [] H → va_D A [] → va_S A s.heap H locs → ∀ (ls : Array Slot), lv_has ls 6 [(0, .ref (G.2.2 0)), (3, .int va4), (4, .int l4), (5, .int l5)] → b_J1_indexOfChar_4cfef_s0_7 N va2 va3 va4 n7 l4 l5 = some out → W p l e (headSpec wsJ1_indexOfChar_4cfef rm_J1_indexOfChar_4cfef_s0).room s m ([.ref (G.2.2 0), .int va2, .int va3, .int va4] : List Value).toArray below meth c H locs 0 0 Q (F0 m 7 ls []) := by
    intro n7
    induction n7 with
    | zero => intro l4 l5 H locs hP hD hS ls hl hf; rw [b_J1_indexOfChar_4cfef_s0_7] at hf; cases hf
    | succ n7 ih7 =>
      intro l4 l5 H locs hP hD hS ls hl hf
      rw [b_J1_indexOfChar_4cfef_s0_7] at hf
      refine lv_iload hx hb dJ1_indexOfChar_4cfef_7 (lv_at hl 3 rfl) ?_
      refine lv_iload_n hx hb dJ1_indexOfChar_4cfef_9 rfl (lv_at hl 1 rfl) ?_
      refine lv_icmp_ge (tgt := 31) hx hb dJ1_indexOfChar_4cfef_10 (by decide) (fun hc_10 => ?_) (fun hc_10 => ?_)
      · rw [if_pos hc_10] at hf
        refine lv_iconst (v := (-1 : Int32)) hx hb dJ1_indexOfChar_4cfef_31 (by decide) ?_
        cases hf
        subst hQ
        exact kiret hx hb hr hlocks hK (hP.sub [] rfl) (hD.sub [] (by decide) rfl) hS rfl dJ1_indexOfChar_4cfef_32
      · rw [if_neg hc_10] at hf
        refine lv_aload_n hx hb dJ1_indexOfChar_4cfef_13 rfl (lv_at hl 0 rfl) ?_
        refine lv_iload hx hb dJ1_indexOfChar_4cfef_14 (lv_at hl 3 rfl) ?_
        obtain ⟨hk_16, hf⟩ := chk_s hf
        refine va_tb hx hb (hG.2.2.2.1.1 0 (by decide)).2.2.2 hS hk_16 rfl dJ1_indexOfChar_4cfef_16 ?_
        refine lv_iload hx hb dJ1_indexOfChar_4cfef_17 (lv_at hl 2 rfl) ?_
        refine lv_icmp_ne (tgt := 25) hx hb dJ1_indexOfChar_4cfef_19 (by decide) (fun hc_19 => ?_) (fun hc_19 => ?_)
        · rw [if_neg hc_19] at hf
          refine lv_iinc (v := (l5 + (1 : Int32))) (lv' := [(5, .int (l5 + (1 : Int32))), (0, .ref (G.2.2 0)), (3, .int va4), (4, .int l4)]) hx hb dJ1_indexOfChar_4cfef_25 hl (k := 3) rfl rfl (by decide) rfl (fun ls hl => ?_)
          refine lv_goto (tgt := 7) hx hb dJ1_indexOfChar_4cfef_28 (by decide) ?_
          exact ih7 (l4) ((l5 + (1 : Int32))) _ _ (hP.sub [] rfl) (hD.sub [] (by decide) rfl) hS _ (lv_sub hl [1, 2, 3, 0] rfl) hf
        · rw [if_pos hc_19] at hf
          refine lv_iload hx hb dJ1_indexOfChar_4cfef_22 (lv_at hl 3 rfl) ?_
          cases hf
          subst hQ
          exact kiret hx hb hr hlocks hK (hP.sub [] rfl) (hD.sub [] (by decide) rfl) hS rfl dJ1_indexOfChar_4cfef_24
  rw [f_J1_indexOfChar_4cfef_s0] at hf
  refine lv_iload_n hx hb dJ1_indexOfChar_4cfef_0 rfl (lv_at hl 1 rfl) ?_
  refine lv_i2b (v := (va2).toInt8.toInt32) hx hb dJ1_indexOfChar_4cfef_1 rfl ?_
  refine lv_istore (lv' := [(4, .int ((va2).toInt8.toInt32)), (0, .ref (G.2.2 0)), (1, .int va2), (2, .int va3), (3, .int va4)]) hx hb dJ1_indexOfChar_4cfef_2 hl (by decide) rfl (fun ls hl => ?_)
  refine lv_iload_n hx hb dJ1_indexOfChar_4cfef_4 rfl (lv_at hl 3 rfl) ?_
  refine lv_istore (lv' := [(5, .int va3), (4, .int ((va2).toInt8.toInt32)), (0, .ref (G.2.2 0)), (1, .int va2), (2, .int va3), (3, .int va4)]) hx hb dJ1_indexOfChar_4cfef_5 hl (by decide) rfl (fun ls hl => ?_)
  exact B7 N (((va2).toInt8.toInt32)) (va3) _ _ (hP.sub [] rfl) (hD.sub [] (by decide) rfl) hS _ (lv_sub hl [2, 5, 1, 0] rfl) hf
theorem hdJ1_indexOfChar_4cfef : yJ1_indexOfChar_4cfef.cls = RJ1 ∧ yJ1_indexOfChar_4cfef.cls ≠ "java/lang/invoke/MethodHandle" ∧ yJ1_indexOfChar_4cfef.cls ≠ "java/lang/invoke/VarHandle" ∧ (parseMethodDescriptor yJ1_indexOfChar_4cfef.desc).map (fun d => d.parameters.length) = some 4 := by decide +kernel
noncomputable def b_J1_indexOfChar_4cfef_s1_7 (N : Nat) (va2 : Int32) (va3 : Int32) (va4 : Int32) : Nat → Int32 → Int32 → Option (Int32)
  | 0, _, _ => none
  | n + 1, l4, l5 =>
    if va4 ≤ l5 then
      some ((-1 : Int32))
    else
      if l5 < 0 ∨ (strN.getD 1 0) ≤ (l5).toNatClampNeg then none else
      if ((strL.getD 1 []).getD (l5).toNatClampNeg 0) = l4 then
        some (l5)
      else
        b_J1_indexOfChar_4cfef_s1_7 N va2 va3 va4 n (l4) ((l5 + (1 : Int32)))
noncomputable def f_J1_indexOfChar_4cfef_s1 (N : Nat) (va2 : Int32) (va3 : Int32) (va4 : Int32) : Option (Int32) :=
  b_J1_indexOfChar_4cfef_s1_7 N va2 va3 va4 N (((va2).toInt8.toInt32)) (va3)
abbrev rm_J1_indexOfChar_4cfef_s1 : Room := { frames := 0, cells := 0, slots := 0, locals := 0 }
set_option maxHeartbeats 4000000 in
set_option maxRecDepth 100000 in
theorem c_J1_indexOfChar_4cfef_s1 (l : Launch) (dC : Nat → ClassId) (dI : Nat → Nat → Nat) (cy : gC) (G : gT) (sz : Nat) (N : Nat) (va2 : Int32) (va3 : Int32) (va4 : Int32) (out : Int32) (hf : f_J1_indexOfChar_4cfef_s1 N va2 va3 va4 = some out) : Met l yJ1_indexOfChar_4cfef wsJ1_indexOfChar_4cfef rm_J1_indexOfChar_4cfef_s1 (va_Pc [.ref (G.2.2 1), .int va2, .int va3, .int va4] (kP (dC, dI) cy G [] sz)) (va_Qi (fun r (_ : Unit) => r = out) (fun _ => kQ (dC, dI) cy [] (va_A [] sz)) (va_A [] sz)) 0 0 (va_A [] sz) := by
  refine Met.ofW (cc := cJ1_indexOfChar_4cfef) (maxL := 6) (ret := (some .int)) (by decide) rfl ?_
  intro p e s m args below meth c s₁ B hml hv
  obtain ⟨rfl, hsz, hP, hK, hD0, hG⟩ := hv
  have hx := B.exec
  have hb := B.bytes
  have hr := B.returns
  have hts := atoms_spec (ws := wsJ1_indexOfChar_4cfef) B.pre
  have hown : s.vm.findClass RJ1 = some m.cls := findClass_of_methodNamed B.named
  have hlocks := B.notSynchronized
  subst hsz
  have hD := hD0.self (sz := s.heap.size)
  generalize hAe : va_A [] s.heap.size = A at hD hG ⊢
  have hA : ∀ q : Nat, s.heap.size ≤ q → A q := fun q h => by rw [← hAe]; exact Or.inr h
  have hS : va_S A s.heap s.heap [] := va_S.rf
  have hP : va_P (dC, dI) vwCl [] s.heap := hP
  have hl := lv_entry ([.ref (G.2.2 1), .int va2, .int va3, .int va4]) (n := 6) (Nat.le_of_ble_eq_true rfl)
  rw [lg_entry_eq]
  generalize (lg_sl ([.ref (G.2.2 1), .int va2, .int va3, .int va4]) ++ List.replicate (6 - (lg_sl ([.ref (G.2.2 1), .int va2, .int va3, .int va4])).length) Slot.unset).toArray = ls at hl ⊢
  have hl : lv_has ls 6 [(0, .ref (G.2.2 1)), (1, .int va2), (2, .int va3), (3, .int va4)] := hl
  refine kgen (fun Q hQ => ?_)
  have B7 : ∀ (n7 : Nat) (l4 : Int32) (l5 : Int32) (H : Heap) (locs : List Loc), va_P (dC, dI) vwCl [] H → va_D A [] → va_S A s.heap H locs → ∀ (ls : Array Slot), lv_has ls 6 [(0, .ref (G.2.2 1)), (3, .int va4), (4, .int l4), (5, .int l5)] → b_J1_indexOfChar_4cfef_s1_7 N va2 va3 va4 n7 l4 l5 = some out → W p l e (headSpec wsJ1_indexOfChar_4cfef rm_J1_indexOfChar_4cfef_s1).room s m ([.ref (G.2.2 1), .int va2, .int va3, .int va4] : List Value).toArray below meth c H locs 0 0 Q (F0 m 7 ls []) := by
    intro n7
    induction n7 with
    | zero => intro l4 l5 H locs hP hD hS ls hl hf; rw [b_J1_indexOfChar_4cfef_s1_7] at hf; cases hf
    | succ n7 ih7 =>
      intro l4 l5 H locs hP hD hS ls hl hf
      rw [b_J1_indexOfChar_4cfef_s1_7] at hf
      refine lv_iload hx hb dJ1_indexOfChar_4cfef_7 (lv_at hl 3 rfl) ?_
      refine lv_iload_n hx hb dJ1_indexOfChar_4cfef_9 rfl (lv_at hl 1 rfl) ?_
      refine lv_icmp_ge (tgt := 31) hx hb dJ1_indexOfChar_4cfef_10 (by decide) (fun hc_10 => ?_) (fun hc_10 => ?_)
      · rw [if_pos hc_10] at hf
        refine lv_iconst (v := (-1 : Int32)) hx hb dJ1_indexOfChar_4cfef_31 (by decide) ?_
        cases hf
        subst hQ
        exact kiret hx hb hr hlocks hK (hP.sub [] rfl) (hD.sub [] (by decide) rfl) hS rfl dJ1_indexOfChar_4cfef_32
      · rw [if_neg hc_10] at hf
        refine lv_aload_n hx hb dJ1_indexOfChar_4cfef_13 rfl (lv_at hl 0 rfl) ?_
        refine lv_iload hx hb dJ1_indexOfChar_4cfef_14 (lv_at hl 3 rfl) ?_
        obtain ⟨hk_16, hf⟩ := chk_s hf
        refine va_tb hx hb (hG.2.2.2.1.1 1 (by decide)).2.2.2 hS hk_16 rfl dJ1_indexOfChar_4cfef_16 ?_
        refine lv_iload hx hb dJ1_indexOfChar_4cfef_17 (lv_at hl 2 rfl) ?_
        refine lv_icmp_ne (tgt := 25) hx hb dJ1_indexOfChar_4cfef_19 (by decide) (fun hc_19 => ?_) (fun hc_19 => ?_)
        · rw [if_neg hc_19] at hf
          refine lv_iinc (v := (l5 + (1 : Int32))) (lv' := [(5, .int (l5 + (1 : Int32))), (0, .ref (G.2.2 1)), (3, .int va4), (4, .int l4)]) hx hb dJ1_indexOfChar_4cfef_25 hl (k := 3) rfl rfl (by decide) rfl (fun ls hl => ?_)
          refine lv_goto (tgt := 7) hx hb dJ1_indexOfChar_4cfef_28 (by decide) ?_
          exact ih7 (l4) ((l5 + (1 : Int32))) _ _ (hP.sub [] rfl) (hD.sub [] (by decide) rfl) hS _ (lv_sub hl [1, 2, 3, 0] rfl) hf
        · rw [if_pos hc_19] at hf
          refine lv_iload hx hb dJ1_indexOfChar_4cfef_22 (lv_at hl 3 rfl) ?_
          cases hf
          subst hQ
          exact kiret hx hb hr hlocks hK (hP.sub [] rfl) (hD.sub [] (by decide) rfl) hS rfl dJ1_indexOfChar_4cfef_24
  rw [f_J1_indexOfChar_4cfef_s1] at hf
  refine lv_iload_n hx hb dJ1_indexOfChar_4cfef_0 rfl (lv_at hl 1 rfl) ?_
  refine lv_i2b (v := (va2).toInt8.toInt32) hx hb dJ1_indexOfChar_4cfef_1 rfl ?_
  refine lv_istore (lv' := [(4, .int ((va2).toInt8.toInt32)), (0, .ref (G.2.2 1)), (1, .int va2), (2, .int va3), (3, .int va4)]) hx hb dJ1_indexOfChar_4cfef_2 hl (by decide) rfl (fun ls hl => ?_)
  refine lv_iload_n hx hb dJ1_indexOfChar_4cfef_4 rfl (lv_at hl 3 rfl) ?_
  refine lv_istore (lv' := [(5, .int va3), (4, .int ((va2).toInt8.toInt32)), (0, .ref (G.2.2 1)), (1, .int va2), (2, .int va3), (3, .int va4)]) hx hb dJ1_indexOfChar_4cfef_5 hl (by decide) rfl (fun ls hl => ?_)
  exact B7 N (((va2).toInt8.toInt32)) (va3) _ _ (hP.sub [] rfl) (hD.sub [] (by decide) rfl) hS _ (lv_sub hl [2, 5, 1, 0] rfl) hf
noncomputable def f_J1_indexOf_4cfef_s0 (N : Nat) (va2 : Int32) (va3 : Int32) (va4 : Int32) : Option (Int32) :=
  if (t_J1_canEncode_9a6ad (va2)) = 0 then
    some ((-1 : Int32))
  else
    if (if va3 < (0 : Int32) then (0 : Int32) else va3) < (if (15 : Int32) < va4 then (15 : Int32) else va4) then
      bnd1 (f_J1_indexOfChar_4cfef_s0 N (va2) ((if va3 < (0 : Int32) then (0 : Int32) else va3)) ((if (15 : Int32) < va4 then (15 : Int32) else va4))) fun r33 =>
      some (r33)
    else
      some ((-1 : Int32))
abbrev rm_J1_indexOf_4cfef_s0 : Room := { frames := 1, cells := 0, slots := 0, locals := 25 }
set_option maxHeartbeats 4000000 in
set_option maxRecDepth 100000 in
theorem c_J1_indexOf_4cfef_s0 (l : Launch) (dC : Nat → ClassId) (dI : Nat → Nat → Nat) (cy : gC) (G : gT) (sz : Nat) (N : Nat) (va2 : Int32) (va3 : Int32) (va4 : Int32) (out : Int32) (hf : f_J1_indexOf_4cfef_s0 N va2 va3 va4 = some out) : Met l yJ1_indexOf_4cfef wsJ1_indexOf_4cfef rm_J1_indexOf_4cfef_s0 (va_Pc [.ref (G.2.2 0), .int va2, .int va3, .int va4] (kP (dC, dI) cy G [] sz)) (va_Qi (fun r (_ : Unit) => r = out) (fun _ => kQ (dC, dI) cy [] (va_A [] sz)) (va_A [] sz)) 0 0 (va_A [] sz) := by
  refine Met.ofW (cc := cJ1_indexOf_4cfef) (maxL := 4) (ret := (some .int)) (by decide) rfl ?_
  intro p e s m args below meth c s₁ B hml hv
  obtain ⟨rfl, hsz, hP, hK, hD0, hG⟩ := hv
  have hx := B.exec
  have hb := B.bytes
  have hr := B.returns
  have hts := atoms_spec (ws := wsJ1_indexOf_4cfef) B.pre
  have hown : s.vm.findClass RJ1 = some m.cls := findClass_of_methodNamed B.named
  have hlocks := B.notSynchronized
  subst hsz
  have hD := hD0.self (sz := s.heap.size)
  generalize hAe : va_A [] s.heap.size = A at hD hG ⊢
  have hA : ∀ q : Nat, s.heap.size ≤ q → A q := fun q h => by rw [← hAe]; exact Or.inr h
  have hS : va_S A s.heap s.heap [] := va_S.rf
  have hP : va_P (dC, dI) vwCl [] s.heap := hP
  have hl := lv_entry ([.ref (G.2.2 0), .int va2, .int va3, .int va4]) (n := 4) (Nat.le_of_ble_eq_true rfl)
  rw [lg_entry_eq]
  generalize (lg_sl ([.ref (G.2.2 0), .int va2, .int va3, .int va4]) ++ List.replicate (4 - (lg_sl ([.ref (G.2.2 0), .int va2, .int va3, .int va4])).length) Slot.unset).toArray = ls at hl ⊢
  have hl : lv_has ls 4 [(0, .ref (G.2.2 0)), (1, .int va2), (2, .int va3), (3, .int va4)] := hl
  refine kgen (fun Q hQ => ?_)
  rw [f_J1_indexOf_4cfef_s0] at hf
  refine lv_iload_n hx hb dJ1_indexOf_4cfef_0 rfl (lv_at hl 1 rfl) ?_
  refine kcalli (wc := []) (wr := []) (w1 := []) hK hP hD hS hA hG [] [] rfl rfl rfl rfl rfl (fun hU hPc => va_runS (As := [.int va2]) (rest := []) ⟨hx, hb, hml, hown, hts⟩ (c_J1_canEncode_9a6ad l dC dI cy G s.heap.size (va2) (t_J1_canEncode_9a6ad (va2)) (tot_J1_canEncode_9a6ad (va2))) (va_cwS 1 hts gJ1_indexOf_4cfef_J1_canEncode_9a6ad rfl rfl rfl hdJ1_canEncode_9a6ad.2 ⟨Nat.le_of_ble_eq_true rfl, Nat.le_of_ble_eq_true rfl⟩) ⟨kBlind, fun U h1 h2 => ⟨rfl, hU U h1 h2⟩⟩ rfl rfl hl.1 rfl (lv_room (Nat.le_of_ble_eq_true rfl)) dJ1_indexOf_4cfef_1 ⟨Nat.zero_le _, Nat.zero_le _⟩) ((t_J1_canEncode_9a6ad (va2))) (fun _ _ h => h) (fun _ _ h => h) (fun H locs hP hD hS => ?_)
  refine lv_if_ne (tgt := 9) hx hb dJ1_indexOf_4cfef_4 (by decide) (fun hc_4 => ?_) (fun hc_4 => ?_)
  · rw [if_neg hc_4] at hf
    refine lv_iload_n hx hb dJ1_indexOf_4cfef_9 rfl (lv_at hl 2 rfl) ?_
    refine lv_iconst (v := (0 : Int32)) hx hb dJ1_indexOf_4cfef_10 (by decide) ?_
    refine va_mmax hx hb (hml.trans hl.1.symm) hown (hts _ (List.mem_cons_of_mem _ (List.mem_of_getElem? (i := 0) rfl))) (hts _ (List.mem_cons_of_mem _ (List.mem_of_getElem? (i := 1) rfl))) (hts _ (List.mem_cons_of_mem _ (List.mem_of_getElem? (i := 2) rfl))) (hts _ (List.mem_cons_of_mem _ (List.mem_of_getElem? (i := 3) rfl))) (Nat.le_of_ble_eq_true rfl) (Nat.le_of_ble_eq_true rfl) (Nat.zero_le _) (Nat.zero_le _) dJ1_indexOf_4cfef_11 ?_
    refine lv_istore_n (lv' := [(2, .int (if va3 < (0 : Int32) then (0 : Int32) else va3)), (0, .ref (G.2.2 0)), (1, .int va2), (3, .int va4)]) hx hb dJ1_indexOf_4cfef_14 rfl hl (by decide) rfl (fun ls hl => ?_)
    refine lv_iload_n hx hb dJ1_indexOf_4cfef_15 rfl (lv_at hl 3 rfl) ?_
    refine lv_aload_n hx hb dJ1_indexOf_4cfef_16 rfl (lv_at hl 1 rfl) ?_
    refine va_tlen (v := (15 : Int32)) hx hb (hG.2.2.2.1.1 0 (by decide)).2.2.2 hS rfl dJ1_indexOf_4cfef_17 ?_
    refine va_mmin hx hb (hml.trans hl.1.symm) hown (hts _ (List.mem_cons_of_mem _ (List.mem_of_getElem? (i := 4) rfl))) (hts _ (List.mem_cons_of_mem _ (List.mem_of_getElem? (i := 5) rfl))) (hts _ (List.mem_cons_of_mem _ (List.mem_of_getElem? (i := 2) rfl))) (hts _ (List.mem_cons_of_mem _ (List.mem_of_getElem? (i := 6) rfl))) (Nat.le_of_ble_eq_true rfl) (Nat.le_of_ble_eq_true rfl) (Nat.zero_le _) (Nat.zero_le _) dJ1_indexOf_4cfef_18 ?_
    refine lv_istore_n (lv' := [(3, .int (if (15 : Int32) < va4 then (15 : Int32) else va4)), (2, .int (if va3 < (0 : Int32) then (0 : Int32) else va3)), (0, .ref (G.2.2 0)), (1, .int va2)]) hx hb dJ1_indexOf_4cfef_21 rfl hl (by decide) rfl (fun ls hl => ?_)
    refine lv_iload_n hx hb dJ1_indexOf_4cfef_22 rfl (lv_at hl 1 rfl) ?_
    refine lv_iload_n hx hb dJ1_indexOf_4cfef_23 rfl (lv_at hl 0 rfl) ?_
    refine lv_icmp_lt (tgt := 29) hx hb dJ1_indexOf_4cfef_24 (by decide) (fun hc_24 => ?_) (fun hc_24 => ?_)
    · rw [if_pos hc_24] at hf
      refine lv_aload_n hx hb dJ1_indexOf_4cfef_29 rfl (lv_at hl 2 rfl) ?_
      refine lv_iload_n hx hb dJ1_indexOf_4cfef_30 rfl (lv_at hl 3 rfl) ?_
      refine lv_iload_n hx hb dJ1_indexOf_4cfef_31 rfl (lv_at hl 1 rfl) ?_
      refine lv_iload_n hx hb dJ1_indexOf_4cfef_32 rfl (lv_at hl 0 rfl) ?_
      obtain ⟨r33, hq_33, hf⟩ := bnd1_s hf
      refine kcalli (wc := []) (wr := []) (w1 := []) hK hP hD hS hA hG [] [] rfl rfl rfl rfl rfl (fun hU hPc => va_runS (As := [.ref (G.2.2 0), .int va2, .int (if va3 < (0 : Int32) then (0 : Int32) else va3), .int (if (15 : Int32) < va4 then (15 : Int32) else va4)]) (rest := []) ⟨hx, hb, hml, hown, hts⟩ (c_J1_indexOfChar_4cfef_s0 l dC dI cy G H.size N (va2) ((if va3 < (0 : Int32) then (0 : Int32) else va3)) ((if (15 : Int32) < va4 then (15 : Int32) else va4)) r33 hq_33) (va_cwS 4 hts gJ1_indexOf_4cfef_J1_indexOfChar_4cfef rfl rfl rfl hdJ1_indexOfChar_4cfef.2 ⟨Nat.le_of_ble_eq_true rfl, Nat.le_of_ble_eq_true rfl⟩) ⟨kBlind, fun U h1 h2 => ⟨rfl, hU U h1 h2⟩⟩ rfl rfl hl.1 rfl (lv_room (Nat.le_of_ble_eq_true rfl)) dJ1_indexOf_4cfef_33 ⟨Nat.zero_le _, Nat.zero_le _⟩) (r33) (fun _ _ h => h) (fun _ _ h => h) (fun H locs hP hD hS => ?_)
      cases hf
      subst hQ
      exact kiret hx hb hr hlocks hK (hP.sub [] rfl) (hD.sub [] (by decide) rfl) hS rfl dJ1_indexOf_4cfef_36
    · rw [if_neg hc_24] at hf
      refine lv_iconst (v := (-1 : Int32)) hx hb dJ1_indexOf_4cfef_27 (by decide) ?_
      cases hf
      subst hQ
      exact kiret hx hb hr hlocks hK (hP.sub [] rfl) (hD.sub [] (by decide) rfl) hS rfl dJ1_indexOf_4cfef_28
  · rw [if_pos hc_4] at hf
    refine lv_iconst (v := (-1 : Int32)) hx hb dJ1_indexOf_4cfef_7 (by decide) ?_
    cases hf
    subst hQ
    exact kiret hx hb hr hlocks hK (hP.sub [] rfl) (hD.sub [] (by decide) rfl) hS rfl dJ1_indexOf_4cfef_8
theorem hdJ1_indexOf_4cfef : yJ1_indexOf_4cfef.cls = RJ1 ∧ yJ1_indexOf_4cfef.cls ≠ "java/lang/invoke/MethodHandle" ∧ yJ1_indexOf_4cfef.cls ≠ "java/lang/invoke/VarHandle" ∧ (parseMethodDescriptor yJ1_indexOf_4cfef.desc).map (fun d => d.parameters.length) = some 4 := by decide +kernel
noncomputable def f_J1_indexOf_4cfef_s1 (N : Nat) (va2 : Int32) (va3 : Int32) (va4 : Int32) : Option (Int32) :=
  if (t_J1_canEncode_9a6ad (va2)) = 0 then
    some ((-1 : Int32))
  else
    if (if va3 < (0 : Int32) then (0 : Int32) else va3) < (if (4 : Int32) < va4 then (4 : Int32) else va4) then
      bnd1 (f_J1_indexOfChar_4cfef_s1 N (va2) ((if va3 < (0 : Int32) then (0 : Int32) else va3)) ((if (4 : Int32) < va4 then (4 : Int32) else va4))) fun r33 =>
      some (r33)
    else
      some ((-1 : Int32))
abbrev rm_J1_indexOf_4cfef_s1 : Room := { frames := 1, cells := 0, slots := 0, locals := 25 }
set_option maxHeartbeats 4000000 in
set_option maxRecDepth 100000 in
theorem c_J1_indexOf_4cfef_s1 (l : Launch) (dC : Nat → ClassId) (dI : Nat → Nat → Nat) (cy : gC) (G : gT) (sz : Nat) (N : Nat) (va2 : Int32) (va3 : Int32) (va4 : Int32) (out : Int32) (hf : f_J1_indexOf_4cfef_s1 N va2 va3 va4 = some out) : Met l yJ1_indexOf_4cfef wsJ1_indexOf_4cfef rm_J1_indexOf_4cfef_s1 (va_Pc [.ref (G.2.2 1), .int va2, .int va3, .int va4] (kP (dC, dI) cy G [] sz)) (va_Qi (fun r (_ : Unit) => r = out) (fun _ => kQ (dC, dI) cy [] (va_A [] sz)) (va_A [] sz)) 0 0 (va_A [] sz) := by
  refine Met.ofW (cc := cJ1_indexOf_4cfef) (maxL := 4) (ret := (some .int)) (by decide) rfl ?_
  intro p e s m args below meth c s₁ B hml hv
  obtain ⟨rfl, hsz, hP, hK, hD0, hG⟩ := hv
  have hx := B.exec
  have hb := B.bytes
  have hr := B.returns
  have hts := atoms_spec (ws := wsJ1_indexOf_4cfef) B.pre
  have hown : s.vm.findClass RJ1 = some m.cls := findClass_of_methodNamed B.named
  have hlocks := B.notSynchronized
  subst hsz
  have hD := hD0.self (sz := s.heap.size)
  generalize hAe : va_A [] s.heap.size = A at hD hG ⊢
  have hA : ∀ q : Nat, s.heap.size ≤ q → A q := fun q h => by rw [← hAe]; exact Or.inr h
  have hS : va_S A s.heap s.heap [] := va_S.rf
  have hP : va_P (dC, dI) vwCl [] s.heap := hP
  have hl := lv_entry ([.ref (G.2.2 1), .int va2, .int va3, .int va4]) (n := 4) (Nat.le_of_ble_eq_true rfl)
  rw [lg_entry_eq]
  generalize (lg_sl ([.ref (G.2.2 1), .int va2, .int va3, .int va4]) ++ List.replicate (4 - (lg_sl ([.ref (G.2.2 1), .int va2, .int va3, .int va4])).length) Slot.unset).toArray = ls at hl ⊢
  have hl : lv_has ls 4 [(0, .ref (G.2.2 1)), (1, .int va2), (2, .int va3), (3, .int va4)] := hl
  refine kgen (fun Q hQ => ?_)
  rw [f_J1_indexOf_4cfef_s1] at hf
  refine lv_iload_n hx hb dJ1_indexOf_4cfef_0 rfl (lv_at hl 1 rfl) ?_
  refine kcalli (wc := []) (wr := []) (w1 := []) hK hP hD hS hA hG [] [] rfl rfl rfl rfl rfl (fun hU hPc => va_runS (As := [.int va2]) (rest := []) ⟨hx, hb, hml, hown, hts⟩ (c_J1_canEncode_9a6ad l dC dI cy G s.heap.size (va2) (t_J1_canEncode_9a6ad (va2)) (tot_J1_canEncode_9a6ad (va2))) (va_cwS 1 hts gJ1_indexOf_4cfef_J1_canEncode_9a6ad rfl rfl rfl hdJ1_canEncode_9a6ad.2 ⟨Nat.le_of_ble_eq_true rfl, Nat.le_of_ble_eq_true rfl⟩) ⟨kBlind, fun U h1 h2 => ⟨rfl, hU U h1 h2⟩⟩ rfl rfl hl.1 rfl (lv_room (Nat.le_of_ble_eq_true rfl)) dJ1_indexOf_4cfef_1 ⟨Nat.zero_le _, Nat.zero_le _⟩) ((t_J1_canEncode_9a6ad (va2))) (fun _ _ h => h) (fun _ _ h => h) (fun H locs hP hD hS => ?_)
  refine lv_if_ne (tgt := 9) hx hb dJ1_indexOf_4cfef_4 (by decide) (fun hc_4 => ?_) (fun hc_4 => ?_)
  · rw [if_neg hc_4] at hf
    refine lv_iload_n hx hb dJ1_indexOf_4cfef_9 rfl (lv_at hl 2 rfl) ?_
    refine lv_iconst (v := (0 : Int32)) hx hb dJ1_indexOf_4cfef_10 (by decide) ?_
    refine va_mmax hx hb (hml.trans hl.1.symm) hown (hts _ (List.mem_cons_of_mem _ (List.mem_of_getElem? (i := 0) rfl))) (hts _ (List.mem_cons_of_mem _ (List.mem_of_getElem? (i := 1) rfl))) (hts _ (List.mem_cons_of_mem _ (List.mem_of_getElem? (i := 2) rfl))) (hts _ (List.mem_cons_of_mem _ (List.mem_of_getElem? (i := 3) rfl))) (Nat.le_of_ble_eq_true rfl) (Nat.le_of_ble_eq_true rfl) (Nat.zero_le _) (Nat.zero_le _) dJ1_indexOf_4cfef_11 ?_
    refine lv_istore_n (lv' := [(2, .int (if va3 < (0 : Int32) then (0 : Int32) else va3)), (0, .ref (G.2.2 1)), (1, .int va2), (3, .int va4)]) hx hb dJ1_indexOf_4cfef_14 rfl hl (by decide) rfl (fun ls hl => ?_)
    refine lv_iload_n hx hb dJ1_indexOf_4cfef_15 rfl (lv_at hl 3 rfl) ?_
    refine lv_aload_n hx hb dJ1_indexOf_4cfef_16 rfl (lv_at hl 1 rfl) ?_
    refine va_tlen (v := (4 : Int32)) hx hb (hG.2.2.2.1.1 1 (by decide)).2.2.2 hS rfl dJ1_indexOf_4cfef_17 ?_
    refine va_mmin hx hb (hml.trans hl.1.symm) hown (hts _ (List.mem_cons_of_mem _ (List.mem_of_getElem? (i := 4) rfl))) (hts _ (List.mem_cons_of_mem _ (List.mem_of_getElem? (i := 5) rfl))) (hts _ (List.mem_cons_of_mem _ (List.mem_of_getElem? (i := 2) rfl))) (hts _ (List.mem_cons_of_mem _ (List.mem_of_getElem? (i := 6) rfl))) (Nat.le_of_ble_eq_true rfl) (Nat.le_of_ble_eq_true rfl) (Nat.zero_le _) (Nat.zero_le _) dJ1_indexOf_4cfef_18 ?_
    refine lv_istore_n (lv' := [(3, .int (if (4 : Int32) < va4 then (4 : Int32) else va4)), (2, .int (if va3 < (0 : Int32) then (0 : Int32) else va3)), (0, .ref (G.2.2 1)), (1, .int va2)]) hx hb dJ1_indexOf_4cfef_21 rfl hl (by decide) rfl (fun ls hl => ?_)
    refine lv_iload_n hx hb dJ1_indexOf_4cfef_22 rfl (lv_at hl 1 rfl) ?_
    refine lv_iload_n hx hb dJ1_indexOf_4cfef_23 rfl (lv_at hl 0 rfl) ?_
    refine lv_icmp_lt (tgt := 29) hx hb dJ1_indexOf_4cfef_24 (by decide) (fun hc_24 => ?_) (fun hc_24 => ?_)
    · rw [if_pos hc_24] at hf
      refine lv_aload_n hx hb dJ1_indexOf_4cfef_29 rfl (lv_at hl 2 rfl) ?_
      refine lv_iload_n hx hb dJ1_indexOf_4cfef_30 rfl (lv_at hl 3 rfl) ?_
      refine lv_iload_n hx hb dJ1_indexOf_4cfef_31 rfl (lv_at hl 1 rfl) ?_
      refine lv_iload_n hx hb dJ1_indexOf_4cfef_32 rfl (lv_at hl 0 rfl) ?_
      obtain ⟨r33, hq_33, hf⟩ := bnd1_s hf
      refine kcalli (wc := []) (wr := []) (w1 := []) hK hP hD hS hA hG [] [] rfl rfl rfl rfl rfl (fun hU hPc => va_runS (As := [.ref (G.2.2 1), .int va2, .int (if va3 < (0 : Int32) then (0 : Int32) else va3), .int (if (4 : Int32) < va4 then (4 : Int32) else va4)]) (rest := []) ⟨hx, hb, hml, hown, hts⟩ (c_J1_indexOfChar_4cfef_s1 l dC dI cy G H.size N (va2) ((if va3 < (0 : Int32) then (0 : Int32) else va3)) ((if (4 : Int32) < va4 then (4 : Int32) else va4)) r33 hq_33) (va_cwS 4 hts gJ1_indexOf_4cfef_J1_indexOfChar_4cfef rfl rfl rfl hdJ1_indexOfChar_4cfef.2 ⟨Nat.le_of_ble_eq_true rfl, Nat.le_of_ble_eq_true rfl⟩) ⟨kBlind, fun U h1 h2 => ⟨rfl, hU U h1 h2⟩⟩ rfl rfl hl.1 rfl (lv_room (Nat.le_of_ble_eq_true rfl)) dJ1_indexOf_4cfef_33 ⟨Nat.zero_le _, Nat.zero_le _⟩) (r33) (fun _ _ h => h) (fun _ _ h => h) (fun H locs hP hD hS => ?_)
      cases hf
      subst hQ
      exact kiret hx hb hr hlocks hK (hP.sub [] rfl) (hD.sub [] (by decide) rfl) hS rfl dJ1_indexOf_4cfef_36
    · rw [if_neg hc_24] at hf
      refine lv_iconst (v := (-1 : Int32)) hx hb dJ1_indexOf_4cfef_27 (by decide) ?_
      cases hf
      subst hQ
      exact kiret hx hb hr hlocks hK (hP.sub [] rfl) (hD.sub [] (by decide) rfl) hS rfl dJ1_indexOf_4cfef_28
  · rw [if_pos hc_4] at hf
    refine lv_iconst (v := (-1 : Int32)) hx hb dJ1_indexOf_4cfef_7 (by decide) ?_
    cases hf
    subst hQ
    exact kiret hx hb hr hlocks hK (hP.sub [] rfl) (hD.sub [] (by decide) rfl) hS rfl dJ1_indexOf_4cfef_8
noncomputable def f_J0_indexOf_7cf53_s0 (N : Nat) (va1 : Int32) (va2 : Int32) : Option (Int32) :=
  bnd1 (f_J1_indexOf_4cfef_s0 N (va1) (va2) (t_J0_length_8abf5_s0)) fun r17 =>
  some (r17)
abbrev rm_J0_indexOf_7cf53_s0 : Room := { frames := 2, cells := 0, slots := 0, locals := 48 }
set_option maxHeartbeats 4000000 in
set_option maxRecDepth 100000 in
theorem c_J0_indexOf_7cf53_s0 (l : Launch) (dC : Nat → ClassId) (dI : Nat → Nat → Nat) (cy : gC) (G : gT) (sz : Nat) (N : Nat) (va1 : Int32) (va2 : Int32) (out : Int32) (hf : f_J0_indexOf_7cf53_s0 N va1 va2 = some out) : Met l yJ0_indexOf_7cf53 wsJ0_indexOf_7cf53 rm_J0_indexOf_7cf53_s0 (va_Pc [.ref (G.2.1 0), .int va1, .int va2] (kP (dC, dI) cy G [] sz)) (va_Qi (fun r (_ : Unit) => r = out) (fun _ => kQ (dC, dI) cy [] (va_A [] sz)) (va_A [] sz)) 0 0 (va_A [] sz) := by
  refine Met.ofW (cc := cJ0_indexOf_7cf53) (maxL := 3) (ret := (some .int)) (by decide) rfl ?_
  intro p e s m args below meth c s₁ B hml hv
  obtain ⟨rfl, hsz, hP, hK, hD0, hG⟩ := hv
  have hx := B.exec
  have hb := B.bytes
  have hr := B.returns
  have hts := atoms_spec (ws := wsJ0_indexOf_7cf53) B.pre
  have hown : s.vm.findClass RJ0 = some m.cls := findClass_of_methodNamed B.named
  have hlocks := B.notSynchronized
  subst hsz
  have hD := hD0.self (sz := s.heap.size)
  generalize hAe : va_A [] s.heap.size = A at hD hG ⊢
  have hA : ∀ q : Nat, s.heap.size ≤ q → A q := fun q h => by rw [← hAe]; exact Or.inr h
  have hS : va_S A s.heap s.heap [] := va_S.rf
  have hP : va_P (dC, dI) vwCl [] s.heap := hP
  have hl := lv_entry ([.ref (G.2.1 0), .int va1, .int va2]) (n := 3) (Nat.le_of_ble_eq_true rfl)
  rw [lg_entry_eq]
  generalize (lg_sl ([.ref (G.2.1 0), .int va1, .int va2]) ++ List.replicate (3 - (lg_sl ([.ref (G.2.1 0), .int va1, .int va2])).length) Slot.unset).toArray = ls at hl ⊢
  have hl : lv_has ls 3 [(0, .ref (G.2.1 0)), (1, .int va1), (2, .int va2)] := hl
  refine kgen (fun Q hQ => ?_)
  rw [f_J0_indexOf_7cf53_s0] at hf
  refine lv_aload_n hx hb dJ0_indexOf_7cf53_0 rfl (lv_at hl 0 rfl) ?_
  refine kcalli (wc := []) (wr := []) (w1 := []) hK hP hD hS hA hG [] [] rfl rfl rfl rfl rfl (fun hU hPc => va_runV (As := []) (rest := []) ⟨hx, hb, hml, hown, hts⟩ (c_J0_isLatin1_aae02_s0 l dC dI cy G s.heap.size t_J0_isLatin1_aae02_s0 (tot_J0_isLatin1_aae02_s0)) (cwV 0 hts gJ0_indexOf_7cf53_J0_isLatin1_aae02 rfl rfl rfl hdJ0_isLatin1_aae02 ⟨Nat.le_of_ble_eq_true rfl, Nat.le_of_ble_eq_true rfl⟩) ⟨kBlind, (vk_recv hG.2.2.2.1 (i := 0) (by decide) hS), fun U h1 h2 => ⟨rfl, hU U h1 h2⟩⟩ rfl rfl hl.1 rfl (lv_room (Nat.le_of_ble_eq_true rfl)) dJ0_indexOf_7cf53_1 ⟨Nat.zero_le _, Nat.zero_le _⟩) (t_J0_isLatin1_aae02_s0) (fun _ _ h => h) (fun _ _ h => h) (fun H locs hP hD hS => ?_)
  refine kcst (y := (1 : Int32)) rfl ?_
  refine lv_if_eq (tgt := 23) hx hb dJ0_indexOf_7cf53_4 (by decide) (fun c => absurd c (by decide)) (fun _ => ?_)
  refine lv_aload_n hx hb dJ0_indexOf_7cf53_7 rfl (lv_at hl 0 rfl) ?_
  refine vk_getf hx hb (hG.2.2.2.1.1 0 (by decide)).2.2.1 hS hown (hts _ (List.mem_cons_of_mem _ (List.mem_append_left _ (List.mem_of_getElem? (i := 0) rfl)))) (fun _ h => h) dJ0_indexOf_7cf53_8 ?_
  refine lv_iload_n hx hb dJ0_indexOf_7cf53_11 rfl (lv_at hl 1 rfl) ?_
  refine lv_iload_n hx hb dJ0_indexOf_7cf53_12 rfl (lv_at hl 2 rfl) ?_
  refine lv_aload_n hx hb dJ0_indexOf_7cf53_13 rfl (lv_at hl 0 rfl) ?_
  refine kcalli (wc := []) (wr := []) (w1 := []) hK hP hD hS hA hG [] [] rfl rfl rfl rfl rfl (fun hU hPc => va_runV (As := []) (rest := [.int va2, .int va1, .ref (G.2.2 0)]) ⟨hx, hb, hml, hown, hts⟩ (c_J0_length_8abf5_s0 l dC dI cy G H.size t_J0_length_8abf5_s0 (tot_J0_length_8abf5_s0)) (cwV 0 hts gJ0_indexOf_7cf53_J0_length_8abf5 rfl rfl rfl hdJ0_length_8abf5 ⟨Nat.le_of_ble_eq_true rfl, Nat.le_of_ble_eq_true rfl⟩) ⟨kBlind, (vk_recv hG.2.2.2.1 (i := 0) (by decide) hS), fun U h1 h2 => ⟨rfl, hU U h1 h2⟩⟩ rfl rfl hl.1 rfl (lv_room (Nat.le_of_ble_eq_true rfl)) dJ0_indexOf_7cf53_14 ⟨Nat.zero_le _, Nat.zero_le _⟩) (t_J0_length_8abf5_s0) (fun _ _ h => h) (fun _ _ h => h) (fun H locs hP hD hS => ?_)
  obtain ⟨r17, hq_17, hf⟩ := bnd1_s hf
  refine kcalli (wc := []) (wr := []) (w1 := []) hK hP hD hS hA hG [] [] rfl rfl rfl rfl rfl (fun hU hPc => va_runS (As := [.ref (G.2.2 0), .int va1, .int va2, .int t_J0_length_8abf5_s0]) (rest := []) ⟨hx, hb, hml, hown, hts⟩ (c_J1_indexOf_4cfef_s0 l dC dI cy G H.size N (va1) (va2) (t_J0_length_8abf5_s0) r17 hq_17) (va_cwS 4 hts gJ0_indexOf_7cf53_J1_indexOf_4cfef rfl rfl rfl hdJ1_indexOf_4cfef.2 ⟨Nat.le_of_ble_eq_true rfl, Nat.le_of_ble_eq_true rfl⟩) ⟨kBlind, fun U h1 h2 => ⟨rfl, hU U h1 h2⟩⟩ rfl rfl hl.1 rfl (lv_room (Nat.le_of_ble_eq_true rfl)) dJ0_indexOf_7cf53_17 ⟨Nat.zero_le _, Nat.zero_le _⟩) (r17) (fun _ _ h => h) (fun _ _ h => h) (fun H locs hP hD hS => ?_)
  refine lv_goto (tgt := 36) hx hb dJ0_indexOf_7cf53_20 (by decide) ?_
  cases hf
  subst hQ
  exact kiret hx hb hr hlocks hK (hP.sub [] rfl) (hD.sub [] (by decide) rfl) hS rfl dJ0_indexOf_7cf53_36
theorem hdJ0_indexOf_7cf53 : yJ0_indexOf_7cf53.cls = RJ0 ∧ yJ0_indexOf_7cf53.cls ≠ "java/lang/invoke/MethodHandle" ∧ yJ0_indexOf_7cf53.cls ≠ "java/lang/invoke/VarHandle" ∧ (parseMethodDescriptor yJ0_indexOf_7cf53.desc).map (fun d => d.parameters.length) = some 2 := by decide +kernel
noncomputable def f_J0_indexOf_7cf53_s1 (N : Nat) (va1 : Int32) (va2 : Int32) : Option (Int32) :=
  bnd1 (f_J1_indexOf_4cfef_s1 N (va1) (va2) (t_J0_length_8abf5_s1)) fun r17 =>
  some (r17)
abbrev rm_J0_indexOf_7cf53_s1 : Room := { frames := 2, cells := 0, slots := 0, locals := 48 }
set_option maxHeartbeats 4000000 in
set_option maxRecDepth 100000 in
theorem c_J0_indexOf_7cf53_s1 (l : Launch) (dC : Nat → ClassId) (dI : Nat → Nat → Nat) (cy : gC) (G : gT) (sz : Nat) (N : Nat) (va1 : Int32) (va2 : Int32) (out : Int32) (hf : f_J0_indexOf_7cf53_s1 N va1 va2 = some out) : Met l yJ0_indexOf_7cf53 wsJ0_indexOf_7cf53 rm_J0_indexOf_7cf53_s1 (va_Pc [.ref (G.2.1 1), .int va1, .int va2] (kP (dC, dI) cy G [] sz)) (va_Qi (fun r (_ : Unit) => r = out) (fun _ => kQ (dC, dI) cy [] (va_A [] sz)) (va_A [] sz)) 0 0 (va_A [] sz) := by
  refine Met.ofW (cc := cJ0_indexOf_7cf53) (maxL := 3) (ret := (some .int)) (by decide) rfl ?_
  intro p e s m args below meth c s₁ B hml hv
  obtain ⟨rfl, hsz, hP, hK, hD0, hG⟩ := hv
  have hx := B.exec
  have hb := B.bytes
  have hr := B.returns
  have hts := atoms_spec (ws := wsJ0_indexOf_7cf53) B.pre
  have hown : s.vm.findClass RJ0 = some m.cls := findClass_of_methodNamed B.named
  have hlocks := B.notSynchronized
  subst hsz
  have hD := hD0.self (sz := s.heap.size)
  generalize hAe : va_A [] s.heap.size = A at hD hG ⊢
  have hA : ∀ q : Nat, s.heap.size ≤ q → A q := fun q h => by rw [← hAe]; exact Or.inr h
  have hS : va_S A s.heap s.heap [] := va_S.rf
  have hP : va_P (dC, dI) vwCl [] s.heap := hP
  have hl := lv_entry ([.ref (G.2.1 1), .int va1, .int va2]) (n := 3) (Nat.le_of_ble_eq_true rfl)
  rw [lg_entry_eq]
  generalize (lg_sl ([.ref (G.2.1 1), .int va1, .int va2]) ++ List.replicate (3 - (lg_sl ([.ref (G.2.1 1), .int va1, .int va2])).length) Slot.unset).toArray = ls at hl ⊢
  have hl : lv_has ls 3 [(0, .ref (G.2.1 1)), (1, .int va1), (2, .int va2)] := hl
  refine kgen (fun Q hQ => ?_)
  rw [f_J0_indexOf_7cf53_s1] at hf
  refine lv_aload_n hx hb dJ0_indexOf_7cf53_0 rfl (lv_at hl 0 rfl) ?_
  refine kcalli (wc := []) (wr := []) (w1 := []) hK hP hD hS hA hG [] [] rfl rfl rfl rfl rfl (fun hU hPc => va_runV (As := []) (rest := []) ⟨hx, hb, hml, hown, hts⟩ (c_J0_isLatin1_aae02_s1 l dC dI cy G s.heap.size t_J0_isLatin1_aae02_s1 (tot_J0_isLatin1_aae02_s1)) (cwV 0 hts gJ0_indexOf_7cf53_J0_isLatin1_aae02 rfl rfl rfl hdJ0_isLatin1_aae02 ⟨Nat.le_of_ble_eq_true rfl, Nat.le_of_ble_eq_true rfl⟩) ⟨kBlind, (vk_recv hG.2.2.2.1 (i := 1) (by decide) hS), fun U h1 h2 => ⟨rfl, hU U h1 h2⟩⟩ rfl rfl hl.1 rfl (lv_room (Nat.le_of_ble_eq_true rfl)) dJ0_indexOf_7cf53_1 ⟨Nat.zero_le _, Nat.zero_le _⟩) (t_J0_isLatin1_aae02_s1) (fun _ _ h => h) (fun _ _ h => h) (fun H locs hP hD hS => ?_)
  refine kcst (y := (1 : Int32)) rfl ?_
  refine lv_if_eq (tgt := 23) hx hb dJ0_indexOf_7cf53_4 (by decide) (fun c => absurd c (by decide)) (fun _ => ?_)
  refine lv_aload_n hx hb dJ0_indexOf_7cf53_7 rfl (lv_at hl 0 rfl) ?_
  refine vk_getf hx hb (hG.2.2.2.1.1 1 (by decide)).2.2.1 hS hown (hts _ (List.mem_cons_of_mem _ (List.mem_append_left _ (List.mem_of_getElem? (i := 0) rfl)))) (fun _ h => h) dJ0_indexOf_7cf53_8 ?_
  refine lv_iload_n hx hb dJ0_indexOf_7cf53_11 rfl (lv_at hl 1 rfl) ?_
  refine lv_iload_n hx hb dJ0_indexOf_7cf53_12 rfl (lv_at hl 2 rfl) ?_
  refine lv_aload_n hx hb dJ0_indexOf_7cf53_13 rfl (lv_at hl 0 rfl) ?_
  refine kcalli (wc := []) (wr := []) (w1 := []) hK hP hD hS hA hG [] [] rfl rfl rfl rfl rfl (fun hU hPc => va_runV (As := []) (rest := [.int va2, .int va1, .ref (G.2.2 1)]) ⟨hx, hb, hml, hown, hts⟩ (c_J0_length_8abf5_s1 l dC dI cy G H.size t_J0_length_8abf5_s1 (tot_J0_length_8abf5_s1)) (cwV 0 hts gJ0_indexOf_7cf53_J0_length_8abf5 rfl rfl rfl hdJ0_length_8abf5 ⟨Nat.le_of_ble_eq_true rfl, Nat.le_of_ble_eq_true rfl⟩) ⟨kBlind, (vk_recv hG.2.2.2.1 (i := 1) (by decide) hS), fun U h1 h2 => ⟨rfl, hU U h1 h2⟩⟩ rfl rfl hl.1 rfl (lv_room (Nat.le_of_ble_eq_true rfl)) dJ0_indexOf_7cf53_14 ⟨Nat.zero_le _, Nat.zero_le _⟩) (t_J0_length_8abf5_s1) (fun _ _ h => h) (fun _ _ h => h) (fun H locs hP hD hS => ?_)
  obtain ⟨r17, hq_17, hf⟩ := bnd1_s hf
  refine kcalli (wc := []) (wr := []) (w1 := []) hK hP hD hS hA hG [] [] rfl rfl rfl rfl rfl (fun hU hPc => va_runS (As := [.ref (G.2.2 1), .int va1, .int va2, .int t_J0_length_8abf5_s1]) (rest := []) ⟨hx, hb, hml, hown, hts⟩ (c_J1_indexOf_4cfef_s1 l dC dI cy G H.size N (va1) (va2) (t_J0_length_8abf5_s1) r17 hq_17) (va_cwS 4 hts gJ0_indexOf_7cf53_J1_indexOf_4cfef rfl rfl rfl hdJ1_indexOf_4cfef.2 ⟨Nat.le_of_ble_eq_true rfl, Nat.le_of_ble_eq_true rfl⟩) ⟨kBlind, fun U h1 h2 => ⟨rfl, hU U h1 h2⟩⟩ rfl rfl hl.1 rfl (lv_room (Nat.le_of_ble_eq_true rfl)) dJ0_indexOf_7cf53_17 ⟨Nat.zero_le _, Nat.zero_le _⟩) (r17) (fun _ _ h => h) (fun _ _ h => h) (fun H locs hP hD hS => ?_)
  refine lv_goto (tgt := 36) hx hb dJ0_indexOf_7cf53_20 (by decide) ?_
  cases hf
  subst hQ
  exact kiret hx hb hr hlocks hK (hP.sub [] rfl) (hD.sub [] (by decide) rfl) hS rfl dJ0_indexOf_7cf53_36
noncomputable def f_J0_indexOf_0f7a4_s0 (N : Nat) (va1 : Int32) : Option (Int32) :=
  bnd1 (f_J0_indexOf_7cf53_s0 N (va1) ((0 : Int32))) fun r3 =>
  some (r3)
abbrev rm_J0_indexOf_0f7a4_s0 : Room := { frames := 3, cells := 0, slots := 0, locals := 70 }
set_option maxHeartbeats 4000000 in
set_option maxRecDepth 100000 in
theorem c_J0_indexOf_0f7a4_s0 (l : Launch) (dC : Nat → ClassId) (dI : Nat → Nat → Nat) (cy : gC) (G : gT) (sz : Nat) (N : Nat) (va1 : Int32) (out : Int32) (hf : f_J0_indexOf_0f7a4_s0 N va1 = some out) : Met l yJ0_indexOf_0f7a4 wsJ0_indexOf_0f7a4 rm_J0_indexOf_0f7a4_s0 (va_Pc [.ref (G.2.1 0), .int va1] (kP (dC, dI) cy G [] sz)) (va_Qi (fun r (_ : Unit) => r = out) (fun _ => kQ (dC, dI) cy [] (va_A [] sz)) (va_A [] sz)) 0 0 (va_A [] sz) := by
  refine Met.ofW (cc := cJ0_indexOf_0f7a4) (maxL := 2) (ret := (some .int)) (by decide) rfl ?_
  intro p e s m args below meth c s₁ B hml hv
  obtain ⟨rfl, hsz, hP, hK, hD0, hG⟩ := hv
  have hx := B.exec
  have hb := B.bytes
  have hr := B.returns
  have hts := atoms_spec (ws := wsJ0_indexOf_0f7a4) B.pre
  have hown : s.vm.findClass RJ0 = some m.cls := findClass_of_methodNamed B.named
  have hlocks := B.notSynchronized
  subst hsz
  have hD := hD0.self (sz := s.heap.size)
  generalize hAe : va_A [] s.heap.size = A at hD hG ⊢
  have hA : ∀ q : Nat, s.heap.size ≤ q → A q := fun q h => by rw [← hAe]; exact Or.inr h
  have hS : va_S A s.heap s.heap [] := va_S.rf
  have hP : va_P (dC, dI) vwCl [] s.heap := hP
  have hl := lv_entry ([.ref (G.2.1 0), .int va1]) (n := 2) (Nat.le_of_ble_eq_true rfl)
  rw [lg_entry_eq]
  generalize (lg_sl ([.ref (G.2.1 0), .int va1]) ++ List.replicate (2 - (lg_sl ([.ref (G.2.1 0), .int va1])).length) Slot.unset).toArray = ls at hl ⊢
  have hl : lv_has ls 2 [(0, .ref (G.2.1 0)), (1, .int va1)] := hl
  refine kgen (fun Q hQ => ?_)
  rw [f_J0_indexOf_0f7a4_s0] at hf
  refine lv_aload_n hx hb dJ0_indexOf_0f7a4_0 rfl (lv_at hl 0 rfl) ?_
  refine lv_iload_n hx hb dJ0_indexOf_0f7a4_1 rfl (lv_at hl 1 rfl) ?_
  refine lv_iconst (v := (0 : Int32)) hx hb dJ0_indexOf_0f7a4_2 (by decide) ?_
  obtain ⟨r3, hq_3, hf⟩ := bnd1_s hf
  refine kcalli (wc := []) (wr := []) (w1 := []) hK hP hD hS hA hG [] [] rfl rfl rfl rfl rfl (fun hU hPc => va_runV (As := [.int va1, .int (0 : Int32)]) (rest := []) ⟨hx, hb, hml, hown, hts⟩ (c_J0_indexOf_7cf53_s0 l dC dI cy G s.heap.size N (va1) ((0 : Int32)) r3 hq_3) (cwV 2 hts gJ0_indexOf_0f7a4_J0_indexOf_7cf53 rfl rfl rfl hdJ0_indexOf_7cf53 ⟨Nat.le_of_ble_eq_true rfl, Nat.le_of_ble_eq_true rfl⟩) ⟨kBlind, (vk_recv hG.2.2.2.1 (i := 0) (by decide) hS), fun U h1 h2 => ⟨rfl, hU U h1 h2⟩⟩ rfl rfl hl.1 rfl (lv_room (Nat.le_of_ble_eq_true rfl)) dJ0_indexOf_0f7a4_3 ⟨Nat.zero_le _, Nat.zero_le _⟩) (r3) (fun _ _ h => h) (fun _ _ h => h) (fun H locs hP hD hS => ?_)
  cases hf
  subst hQ
  exact kiret hx hb hr hlocks hK (hP.sub [] rfl) (hD.sub [] (by decide) rfl) hS rfl dJ0_indexOf_0f7a4_6
theorem hdJ0_indexOf_0f7a4 : yJ0_indexOf_0f7a4.cls = RJ0 ∧ yJ0_indexOf_0f7a4.cls ≠ "java/lang/invoke/MethodHandle" ∧ yJ0_indexOf_0f7a4.cls ≠ "java/lang/invoke/VarHandle" ∧ (parseMethodDescriptor yJ0_indexOf_0f7a4.desc).map (fun d => d.parameters.length) = some 1 := by decide +kernel
noncomputable def f_J0_indexOf_0f7a4_s1 (N : Nat) (va1 : Int32) : Option (Int32) :=
  bnd1 (f_J0_indexOf_7cf53_s1 N (va1) ((0 : Int32))) fun r3 =>
  some (r3)
abbrev rm_J0_indexOf_0f7a4_s1 : Room := { frames := 3, cells := 0, slots := 0, locals := 70 }
set_option maxHeartbeats 4000000 in
set_option maxRecDepth 100000 in
theorem c_J0_indexOf_0f7a4_s1 (l : Launch) (dC : Nat → ClassId) (dI : Nat → Nat → Nat) (cy : gC) (G : gT) (sz : Nat) (N : Nat) (va1 : Int32) (out : Int32) (hf : f_J0_indexOf_0f7a4_s1 N va1 = some out) : Met l yJ0_indexOf_0f7a4 wsJ0_indexOf_0f7a4 rm_J0_indexOf_0f7a4_s1 (va_Pc [.ref (G.2.1 1), .int va1] (kP (dC, dI) cy G [] sz)) (va_Qi (fun r (_ : Unit) => r = out) (fun _ => kQ (dC, dI) cy [] (va_A [] sz)) (va_A [] sz)) 0 0 (va_A [] sz) := by
  refine Met.ofW (cc := cJ0_indexOf_0f7a4) (maxL := 2) (ret := (some .int)) (by decide) rfl ?_
  intro p e s m args below meth c s₁ B hml hv
  obtain ⟨rfl, hsz, hP, hK, hD0, hG⟩ := hv
  have hx := B.exec
  have hb := B.bytes
  have hr := B.returns
  have hts := atoms_spec (ws := wsJ0_indexOf_0f7a4) B.pre
  have hown : s.vm.findClass RJ0 = some m.cls := findClass_of_methodNamed B.named
  have hlocks := B.notSynchronized
  subst hsz
  have hD := hD0.self (sz := s.heap.size)
  generalize hAe : va_A [] s.heap.size = A at hD hG ⊢
  have hA : ∀ q : Nat, s.heap.size ≤ q → A q := fun q h => by rw [← hAe]; exact Or.inr h
  have hS : va_S A s.heap s.heap [] := va_S.rf
  have hP : va_P (dC, dI) vwCl [] s.heap := hP
  have hl := lv_entry ([.ref (G.2.1 1), .int va1]) (n := 2) (Nat.le_of_ble_eq_true rfl)
  rw [lg_entry_eq]
  generalize (lg_sl ([.ref (G.2.1 1), .int va1]) ++ List.replicate (2 - (lg_sl ([.ref (G.2.1 1), .int va1])).length) Slot.unset).toArray = ls at hl ⊢
  have hl : lv_has ls 2 [(0, .ref (G.2.1 1)), (1, .int va1)] := hl
  refine kgen (fun Q hQ => ?_)
  rw [f_J0_indexOf_0f7a4_s1] at hf
  refine lv_aload_n hx hb dJ0_indexOf_0f7a4_0 rfl (lv_at hl 0 rfl) ?_
  refine lv_iload_n hx hb dJ0_indexOf_0f7a4_1 rfl (lv_at hl 1 rfl) ?_
  refine lv_iconst (v := (0 : Int32)) hx hb dJ0_indexOf_0f7a4_2 (by decide) ?_
  obtain ⟨r3, hq_3, hf⟩ := bnd1_s hf
  refine kcalli (wc := []) (wr := []) (w1 := []) hK hP hD hS hA hG [] [] rfl rfl rfl rfl rfl (fun hU hPc => va_runV (As := [.int va1, .int (0 : Int32)]) (rest := []) ⟨hx, hb, hml, hown, hts⟩ (c_J0_indexOf_7cf53_s1 l dC dI cy G s.heap.size N (va1) ((0 : Int32)) r3 hq_3) (cwV 2 hts gJ0_indexOf_0f7a4_J0_indexOf_7cf53 rfl rfl rfl hdJ0_indexOf_7cf53 ⟨Nat.le_of_ble_eq_true rfl, Nat.le_of_ble_eq_true rfl⟩) ⟨kBlind, (vk_recv hG.2.2.2.1 (i := 1) (by decide) hS), fun U h1 h2 => ⟨rfl, hU U h1 h2⟩⟩ rfl rfl hl.1 rfl (lv_room (Nat.le_of_ble_eq_true rfl)) dJ0_indexOf_0f7a4_3 ⟨Nat.zero_le _, Nat.zero_le _⟩) (r3) (fun _ _ h => h) (fun _ _ h => h) (fun H locs hP hD hS => ?_)
  cases hf
  subst hQ
  exact kiret hx hb hr hlocks hK (hP.sub [] rfl) (hD.sub [] (by decide) rfl) hS rfl dJ0_indexOf_0f7a4_6
noncomputable def f_X4_take (nt_values : Nat) (na1_values : Nat) (ft : Nat → Int32) (fa1 : Nat → Int32) : Option ((Nat → Int32)) :=
  some ((va_cpy fa1 ft (0 : Int32).toNatClampNeg (0 : Int32).toNatClampNeg ((if (nI nt_values) < (nI na1_values) then (nI nt_values) else (nI na1_values))).toNatClampNeg))
abbrev rm_X4_take : Room := { frames := 1, cells := 0, slots := 0, locals := 60 }
set_option maxHeartbeats 4000000 in
set_option maxRecDepth 100000 in
theorem c_X4_take (l : Launch) (dC : Nat → ClassId) (dI : Nat → Nat → Nat) (cy : gC) (G : gT) (sz : Nat) (qt : Nat) (qt_values : Nat) (qa1 : Nat) (qa1_values : Nat) (nt_values : Nat) (na1_values : Nat) (ft : Nat → Int32) (fa1 : Nat → Int32) (hnt_values : nt_values < 2 ^ 31) (hna1_values : na1_values < 2 ^ 31) (out : (Nat → Int32)) (hf : f_X4_take nt_values na1_values ft fa1 = some out) : Met l yX4_take wsX4_take rm_X4_take (va_Pc [.ref qt, .ref qa1] (kP (dC, dI) cy G [(qt, .inr (4, [.ref qt_values])), (qt_values, .inl (cy.1, nt_values, .inl (ft))), (qa1, .inr (4, [.ref qa1_values])), (qa1_values, .inl (cy.1, na1_values, .inl (fa1)))] sz)) (va_Qv (fun (_ : Unit) => True) (fun _ => kQ (dC, dI) cy [(qt, .inr (4, [.ref qt_values])), (qt_values, .inl (cy.1, nt_values, .inl (out))), (qa1, .inr (4, [.ref qa1_values])), (qa1_values, .inl (cy.1, na1_values, .inl (fa1)))] (va_A [(qt, .inr (4, [.ref qt_values])), (qt_values, .inl (cy.1, nt_values, .inl (ft))), (qa1, .inr (4, [.ref qa1_values])), (qa1_values, .inl (cy.1, na1_values, .inl (fa1)))] sz)) (va_A [(qt, .inr (4, [.ref qt_values])), (qt_values, .inl (cy.1, nt_values, .inl (ft))), (qa1, .inr (4, [.ref qa1_values])), (qa1_values, .inl (cy.1, na1_values, .inl (fa1)))] sz)) 0 0 (va_A [(qt, .inr (4, [.ref qt_values])), (qt_values, .inl (cy.1, nt_values, .inl (ft))), (qa1, .inr (4, [.ref qa1_values])), (qa1_values, .inl (cy.1, na1_values, .inl (fa1)))] sz) := by
  refine Met.ofW (cc := cX4_take) (maxL := 2) (ret := none) (by decide) rfl ?_
  intro p e s m args below meth c s₁ B hml hv
  obtain ⟨rfl, hsz, hP, hK, hD0, hG⟩ := hv
  have hx := B.exec
  have hb := B.bytes
  have hr := B.returns
  have hts := atoms_spec (ws := wsX4_take) B.pre
  have hown : s.vm.findClass RX4 = some m.cls := findClass_of_methodNamed B.named
  have hlocks := B.notSynchronized
  subst hsz
  have hD := hD0.self (sz := s.heap.size)
  generalize hAe : va_A [(qt, .inr (4, [.ref qt_values])), (qt_values, .inl (cy.1, nt_values, .inl (ft))), (qa1, .inr (4, [.ref qa1_values])), (qa1_values, .inl (cy.1, na1_values, .inl (fa1)))] s.heap.size = A at hD hG ⊢
  have hA : ∀ q : Nat, s.heap.size ≤ q → A q := fun q h => by rw [← hAe]; exact Or.inr h
  have hS : va_S A s.heap s.heap [] := va_S.rf
  have hP : va_P (dC, dI) vwCl [(qt, .inr (4, [.ref qt_values])), (qt_values, .inl (cy.1, nt_values, .inl (ft))), (qa1, .inr (4, [.ref qa1_values])), (qa1_values, .inl (cy.1, na1_values, .inl (fa1)))] s.heap := hP
  have hl := lv_entry ([.ref qt, .ref qa1]) (n := 2) (Nat.le_of_ble_eq_true rfl)
  rw [lg_entry_eq]
  generalize (lg_sl ([.ref qt, .ref qa1]) ++ List.replicate (2 - (lg_sl ([.ref qt, .ref qa1])).length) Slot.unset).toArray = ls at hl ⊢
  have hl : lv_has ls 2 [(0, .ref qt), (1, .ref qa1)] := hl
  refine kgen (fun Q hQ => ?_)
  rw [f_X4_take] at hf
  refine lv_aload_n hx hb dX4_take_0 rfl (lv_at hl 1 rfl) ?_
  refine va_get (D := (dC, dI)) (ci := 4) (C := RX4) (T := TX4) (N := 1) hx hb hts (fun _ h => (List.mem_cons_of_mem _ (List.mem_append_right _ h))) hown hK hP 2 rfl rfl 0 (by decide) (hts _ (List.mem_cons_of_mem _ (List.mem_append_left _ (List.mem_of_getElem? (i := 0) rfl)))) (fun _ h => h) rfl dX4_take_1 ?_
  refine lv_iconst (v := (0 : Int32)) hx hb dX4_take_4 (by decide) ?_
  refine lv_aload_n hx hb dX4_take_5 rfl (lv_at hl 0 rfl) ?_
  refine va_get (D := (dC, dI)) (ci := 4) (C := RX4) (T := TX4) (N := 1) hx hb hts (fun _ h => (List.mem_cons_of_mem _ (List.mem_append_right _ h))) hown hK hP 0 rfl rfl 0 (by decide) (hts _ (List.mem_cons_of_mem _ (List.mem_append_left _ (List.mem_of_getElem? (i := 0) rfl)))) (fun _ h => h) rfl dX4_take_6 ?_
  refine lv_iconst (v := (0 : Int32)) hx hb dX4_take_9 (by decide) ?_
  refine lv_aload_n hx hb dX4_take_10 rfl (lv_at hl 1 rfl) ?_
  refine va_get (D := (dC, dI)) (ci := 4) (C := RX4) (T := TX4) (N := 1) hx hb hts (fun _ h => (List.mem_cons_of_mem _ (List.mem_append_right _ h))) hown hK hP 2 rfl rfl 0 (by decide) (hts _ (List.mem_cons_of_mem _ (List.mem_append_left _ (List.mem_of_getElem? (i := 0) rfl)))) (fun _ h => h) rfl dX4_take_11 ?_
  refine va_alen (v := (nI na1_values)) hx hb hK hP 3 0 rfl rfl rfl dX4_take_14 ?_
  refine lv_aload_n hx hb dX4_take_15 rfl (lv_at hl 0 rfl) ?_
  refine va_get (D := (dC, dI)) (ci := 4) (C := RX4) (T := TX4) (N := 1) hx hb hts (fun _ h => (List.mem_cons_of_mem _ (List.mem_append_right _ h))) hown hK hP 0 rfl rfl 0 (by decide) (hts _ (List.mem_cons_of_mem _ (List.mem_append_left _ (List.mem_of_getElem? (i := 0) rfl)))) (fun _ h => h) rfl dX4_take_16 ?_
  refine va_alen (v := (nI nt_values)) hx hb hK hP 1 0 rfl rfl rfl dX4_take_19 ?_
  refine va_mmin hx hb (hml.trans hl.1.symm) hown (hts _ (List.mem_cons_of_mem _ (List.mem_append_left _ (List.mem_of_getElem? (i := 1) rfl)))) (hts _ (List.mem_cons_of_mem _ (List.mem_append_left _ (List.mem_of_getElem? (i := 2) rfl)))) (hts _ (List.mem_cons_of_mem _ (List.mem_append_left _ (List.mem_of_getElem? (i := 3) rfl)))) (hts _ (List.mem_cons_of_mem _ (List.mem_append_left _ (List.mem_of_getElem? (i := 4) rfl)))) (Nat.le_of_ble_eq_true rfl) (Nat.le_of_ble_eq_true rfl) (Nat.zero_le _) (Nat.zero_le _) dX4_take_20 ?_
  refine va_copyi hx hb (hml.trans hl.1.symm) hown (hts _ (List.mem_cons_of_mem _ (List.mem_append_left _ (List.mem_of_getElem? (i := 5) rfl)))) (hts _ (List.mem_cons_of_mem _ (List.mem_append_left _ (List.mem_of_getElem? (i := 6) rfl)))) (hts _ (List.mem_cons_of_mem _ (List.mem_append_left _ (List.mem_of_getElem? (i := 7) rfl)))) (hts _ (List.mem_cons_of_mem _ (List.mem_append_left _ (List.mem_of_getElem? (i := 8) rfl)))) hK hP hD hS 3 1 0 0 rfl rfl rfl rfl rfl (by decide) (by decide) (kmn hna1_values hnt_values).1 (kmn hna1_values hnt_values).2.1 (kmn hna1_values hnt_values).2.2 (fun _ _ => rfl) (Nat.le_of_ble_eq_true rfl) (Nat.le_of_ble_eq_true rfl) dX4_take_23 (fun H locs hP hD hS => ?_)
  have hP : va_P (dC, dI) vwCl [(qt, .inr (4, [.ref qt_values])), (qt_values, .inl (cy.1, nt_values, .inl ((va_cpy fa1 ft (0 : Int32).toNatClampNeg (0 : Int32).toNatClampNeg ((if (nI nt_values) < (nI na1_values) then (nI nt_values) else (nI na1_values))).toNatClampNeg)))), (qa1, .inr (4, [.ref qa1_values])), (qa1_values, .inl (cy.1, na1_values, .inl (fa1)))] H := hP
  have hD : va_D A [(qt, .inr (4, [.ref qt_values])), (qt_values, .inl (cy.1, nt_values, .inl ((va_cpy fa1 ft (0 : Int32).toNatClampNeg (0 : Int32).toNatClampNeg ((if (nI nt_values) < (nI na1_values) then (nI nt_values) else (nI na1_values))).toNatClampNeg)))), (qa1, .inr (4, [.ref qa1_values])), (qa1_values, .inl (cy.1, na1_values, .inl (fa1)))] := hD
  cases hf
  subst hQ
  exact kvret hx hb hr hlocks hK (hP.sub [0, 1, 2, 3] rfl) (hD.sub [0, 1, 2, 3] (by decide) rfl) hS trivial dX4_take_26
theorem hdX4_take : yX4_take.cls = RX4 ∧ yX4_take.cls ≠ "java/lang/invoke/MethodHandle" ∧ yX4_take.cls ≠ "java/lang/invoke/VarHandle" ∧ (parseMethodDescriptor yX4_take.desc).map (fun d => d.parameters.length) = some 1 := by decide +kernel
noncomputable def t_X4_take (nt_values : Nat) (na1_values : Nat) (ft : Nat → Int32) (fa1 : Nat → Int32) : Nat → Int32 :=
  (va_cpy fa1 ft (0 : Int32).toNatClampNeg (0 : Int32).toNatClampNeg ((if (nI nt_values) < (nI na1_values) then (nI nt_values) else (nI na1_values))).toNatClampNeg)
theorem tot_X4_take (nt_values : Nat) (na1_values : Nat) (ft : Nat → Int32) (fa1 : Nat → Int32) : f_X4_take nt_values na1_values ft fa1 = some (t_X4_take nt_values na1_values ft fa1) := by
  simp only [f_X4_take, t_X4_take]
noncomputable def f_X4_fill (N : Nat) (nt_values : Nat) (ft : Nat → Int32) (va1 : Int32) : Option ((Nat → Int32)) :=
  bnd1 (f_J7_fill_53178 N nt_values (ft) (va1)) fun o5_0 =>
  some (o5_0)
abbrev rm_X4_fill : Room := { frames := 1, cells := 0, slots := 0, locals := 23 }
set_option maxHeartbeats 4000000 in
set_option maxRecDepth 100000 in
theorem c_X4_fill (l : Launch) (dC : Nat → ClassId) (dI : Nat → Nat → Nat) (cy : gC) (G : gT) (sz : Nat) (qt : Nat) (qt_values : Nat) (N : Nat) (nt_values : Nat) (ft : Nat → Int32) (va1 : Int32) (hnt_values : nt_values < 2 ^ 31) (out : (Nat → Int32)) (hf : f_X4_fill N nt_values ft va1 = some out) : Met l yX4_fill wsX4_fill rm_X4_fill (va_Pc [.ref qt, .int va1] (kP (dC, dI) cy G [(qt, .inr (4, [.ref qt_values])), (qt_values, .inl (cy.1, nt_values, .inl (ft)))] sz)) (va_Qv (fun (_ : Unit) => True) (fun _ => kQ (dC, dI) cy [(qt, .inr (4, [.ref qt_values])), (qt_values, .inl (cy.1, nt_values, .inl (out)))] (va_A [(qt, .inr (4, [.ref qt_values])), (qt_values, .inl (cy.1, nt_values, .inl (ft)))] sz)) (va_A [(qt, .inr (4, [.ref qt_values])), (qt_values, .inl (cy.1, nt_values, .inl (ft)))] sz)) 0 0 (va_A [(qt, .inr (4, [.ref qt_values])), (qt_values, .inl (cy.1, nt_values, .inl (ft)))] sz) := by
  refine Met.ofW (cc := cX4_fill) (maxL := 2) (ret := none) (by decide) rfl ?_
  intro p e s m args below meth c s₁ B hml hv
  obtain ⟨rfl, hsz, hP, hK, hD0, hG⟩ := hv
  have hx := B.exec
  have hb := B.bytes
  have hr := B.returns
  have hts := atoms_spec (ws := wsX4_fill) B.pre
  have hown : s.vm.findClass RX4 = some m.cls := findClass_of_methodNamed B.named
  have hlocks := B.notSynchronized
  subst hsz
  have hD := hD0.self (sz := s.heap.size)
  generalize hAe : va_A [(qt, .inr (4, [.ref qt_values])), (qt_values, .inl (cy.1, nt_values, .inl (ft)))] s.heap.size = A at hD hG ⊢
  have hA : ∀ q : Nat, s.heap.size ≤ q → A q := fun q h => by rw [← hAe]; exact Or.inr h
  have hS : va_S A s.heap s.heap [] := va_S.rf
  have hP : va_P (dC, dI) vwCl [(qt, .inr (4, [.ref qt_values])), (qt_values, .inl (cy.1, nt_values, .inl (ft)))] s.heap := hP
  have hl := lv_entry ([.ref qt, .int va1]) (n := 2) (Nat.le_of_ble_eq_true rfl)
  rw [lg_entry_eq]
  generalize (lg_sl ([.ref qt, .int va1]) ++ List.replicate (2 - (lg_sl ([.ref qt, .int va1])).length) Slot.unset).toArray = ls at hl ⊢
  have hl : lv_has ls 2 [(0, .ref qt), (1, .int va1)] := hl
  refine kgen (fun Q hQ => ?_)
  rw [f_X4_fill] at hf
  refine lv_aload_n hx hb dX4_fill_0 rfl (lv_at hl 0 rfl) ?_
  refine va_get (D := (dC, dI)) (ci := 4) (C := RX4) (T := TX4) (N := 1) hx hb hts (fun _ h => (List.mem_cons_of_mem _ (List.mem_append_right _ h))) hown hK hP 0 rfl rfl 0 (by decide) (hts _ (List.mem_cons_of_mem _ (List.mem_append_left _ (List.mem_of_getElem? (i := 0) rfl)))) (fun _ h => h) rfl dX4_fill_1 ?_
  refine lv_iload_n hx hb dX4_fill_4 rfl (lv_at hl 1 rfl) ?_
  obtain ⟨o5_0, hq_5, hf⟩ := bnd1_s hf
  refine kcallv (wc := [(qt_values, .inl (cy.1, nt_values, .inl (ft)))]) (wr := [(qt, .inr (4, [.ref qt_values]))]) (w1 := [(qt_values, .inl (cy.1, nt_values, .inl (o5_0)))]) hK hP hD hS hA hG [1] [0] rfl rfl rfl rfl rfl (fun hU hPc => va_runS (As := [.ref qt_values, .int va1]) (rest := []) ⟨hx, hb, hml, hown, hts⟩ (c_J7_fill_53178 l dC dI cy G s.heap.size qt_values N nt_values (ft) (va1) hnt_values o5_0 hq_5) (va_cwS 2 hts gX4_fill_J7_fill_53178 rfl rfl rfl hdJ7_fill_53178.2 ⟨Nat.le_of_ble_eq_true rfl, Nat.le_of_ble_eq_true rfl⟩) ⟨kBlind, fun U h1 h2 => ⟨rfl, hU U h1 h2⟩⟩ rfl rfl hl.1 rfl (lv_room (Nat.le_of_ble_eq_true rfl)) dX4_fill_5 ⟨Nat.zero_le _, Nat.zero_le _⟩) (fun _ _ h => h) (fun H locs hP hD hS => ?_)
  have hP : va_P (dC, dI) vwCl [(qt, .inr (4, [.ref qt_values])), (qt_values, .inl (cy.1, nt_values, .inl (o5_0)))] H := hP
  have hD : va_D A [(qt, .inr (4, [.ref qt_values])), (qt_values, .inl (cy.1, nt_values, .inl (o5_0)))] := hD
  cases hf
  subst hQ
  exact kvret hx hb hr hlocks hK (hP.sub [0, 1] rfl) (hD.sub [0, 1] (by decide) rfl) hS trivial dX4_fill_8
theorem hdX4_fill : yX4_fill.cls = RX4 ∧ yX4_fill.cls ≠ "java/lang/invoke/MethodHandle" ∧ yX4_fill.cls ≠ "java/lang/invoke/VarHandle" ∧ (parseMethodDescriptor yX4_fill.desc).map (fun d => d.parameters.length) = some 1 := by decide +kernel
noncomputable def f_X4_at (nt_values : Nat) (ft : Nat → Int32) (va1 : Int32) : Option (Int32) :=
  if va1 < 0 then
    some ((0 : Int32))
  else
    if (nI nt_values) ≤ va1 then
      some ((0 : Int32))
    else
      some ((ft (va1).toNatClampNeg))
abbrev rm_X4_at : Room := { frames := 0, cells := 0, slots := 0, locals := 0 }
set_option maxHeartbeats 4000000 in
set_option maxRecDepth 100000 in
theorem c_X4_at (l : Launch) (dC : Nat → ClassId) (dI : Nat → Nat → Nat) (cy : gC) (G : gT) (sz : Nat) (qt : Nat) (qt_values : Nat) (nt_values : Nat) (ft : Nat → Int32) (va1 : Int32) (hnt_values : nt_values < 2 ^ 31) (out : Int32) (hf : f_X4_at nt_values ft va1 = some out) : Met l yX4_at wsX4_at rm_X4_at (va_Pc [.ref qt, .int va1] (kP (dC, dI) cy G [(qt, .inr (4, [.ref qt_values])), (qt_values, .inl (cy.1, nt_values, .inl (ft)))] sz)) (va_Qi (fun r (_ : Unit) => r = out) (fun _ => kQ (dC, dI) cy [(qt, .inr (4, [.ref qt_values])), (qt_values, .inl (cy.1, nt_values, .inl (ft)))] (va_A [(qt, .inr (4, [.ref qt_values])), (qt_values, .inl (cy.1, nt_values, .inl (ft)))] sz)) (va_A [(qt, .inr (4, [.ref qt_values])), (qt_values, .inl (cy.1, nt_values, .inl (ft)))] sz)) 0 0 (va_A [(qt, .inr (4, [.ref qt_values])), (qt_values, .inl (cy.1, nt_values, .inl (ft)))] sz) := by
  refine Met.ofW (cc := cX4_at) (maxL := 2) (ret := (some .int)) (by decide) rfl ?_
  intro p e s m args below meth c s₁ B hml hv
  obtain ⟨rfl, hsz, hP, hK, hD0, hG⟩ := hv
  have hx := B.exec
  have hb := B.bytes
  have hr := B.returns
  have hts := atoms_spec (ws := wsX4_at) B.pre
  have hown : s.vm.findClass RX4 = some m.cls := findClass_of_methodNamed B.named
  have hlocks := B.notSynchronized
  subst hsz
  have hD := hD0.self (sz := s.heap.size)
  generalize hAe : va_A [(qt, .inr (4, [.ref qt_values])), (qt_values, .inl (cy.1, nt_values, .inl (ft)))] s.heap.size = A at hD hG ⊢
  have hA : ∀ q : Nat, s.heap.size ≤ q → A q := fun q h => by rw [← hAe]; exact Or.inr h
  have hS : va_S A s.heap s.heap [] := va_S.rf
  have hP : va_P (dC, dI) vwCl [(qt, .inr (4, [.ref qt_values])), (qt_values, .inl (cy.1, nt_values, .inl (ft)))] s.heap := hP
  have hl := lv_entry ([.ref qt, .int va1]) (n := 2) (Nat.le_of_ble_eq_true rfl)
  rw [lg_entry_eq]
  generalize (lg_sl ([.ref qt, .int va1]) ++ List.replicate (2 - (lg_sl ([.ref qt, .int va1])).length) Slot.unset).toArray = ls at hl ⊢
  have hl : lv_has ls 2 [(0, .ref qt), (1, .int va1)] := hl
  refine kgen (fun Q hQ => ?_)
  rw [f_X4_at] at hf
  refine lv_iload_n hx hb dX4_at_0 rfl (lv_at hl 1 rfl) ?_
  refine lv_if_lt (tgt := 22) hx hb dX4_at_1 (by decide) (fun hc_1 => ?_) (fun hc_1 => ?_)
  · rw [if_pos hc_1] at hf
    refine lv_iconst (v := (0 : Int32)) hx hb dX4_at_22 (by decide) ?_
    cases hf
    subst hQ
    exact kiret hx hb hr hlocks hK (hP.sub [0, 1] rfl) (hD.sub [0, 1] (by decide) rfl) hS rfl dX4_at_23
  · rw [if_neg hc_1] at hf
    refine lv_iload_n hx hb dX4_at_4 rfl (lv_at hl 1 rfl) ?_
    refine lv_aload_n hx hb dX4_at_5 rfl (lv_at hl 0 rfl) ?_
    refine va_get (D := (dC, dI)) (ci := 4) (C := RX4) (T := TX4) (N := 1) hx hb hts (fun _ h => (List.mem_cons_of_mem _ (List.mem_append_right _ h))) hown hK hP 0 rfl rfl 0 (by decide) (hts _ (List.mem_cons_of_mem _ (List.mem_append_left _ (List.mem_of_getElem? (i := 0) rfl)))) (fun _ h => h) rfl dX4_at_6 ?_
    refine va_alen (v := (nI nt_values)) hx hb hK hP 1 0 rfl rfl rfl dX4_at_9 ?_
    refine lv_icmp_ge (tgt := 22) hx hb dX4_at_10 (by decide) (fun hc_10 => ?_) (fun hc_10 => ?_)
    · rw [if_pos hc_10] at hf
      refine lv_iconst (v := (0 : Int32)) hx hb dX4_at_22 (by decide) ?_
      cases hf
      subst hQ
      exact kiret hx hb hr hlocks hK (hP.sub [0, 1] rfl) (hD.sub [0, 1] (by decide) rfl) hS rfl dX4_at_23
    · rw [if_neg hc_10] at hf
      refine lv_aload_n hx hb dX4_at_13 rfl (lv_at hl 0 rfl) ?_
      refine va_get (D := (dC, dI)) (ci := 4) (C := RX4) (T := TX4) (N := 1) hx hb hts (fun _ h => (List.mem_cons_of_mem _ (List.mem_append_right _ h))) hown hK hP 0 rfl rfl 0 (by decide) (hts _ (List.mem_cons_of_mem _ (List.mem_append_left _ (List.mem_of_getElem? (i := 0) rfl)))) (fun _ h => h) rfl dX4_at_14 ?_
      refine lv_iload_n hx hb dX4_at_17 rfl (lv_at hl 1 rfl) ?_
      refine va_iald hx hb hK hP 1 0 rfl rfl (vin_n hnt_values hc_1 hc_10) dX4_at_18 ?_
      refine lv_goto (tgt := 23) hx hb dX4_at_19 (by decide) ?_
      cases hf
      subst hQ
      exact kiret hx hb hr hlocks hK (hP.sub [0, 1] rfl) (hD.sub [0, 1] (by decide) rfl) hS rfl dX4_at_23
theorem hdX4_at : yX4_at.cls = RX4 ∧ yX4_at.cls ≠ "java/lang/invoke/MethodHandle" ∧ yX4_at.cls ≠ "java/lang/invoke/VarHandle" ∧ (parseMethodDescriptor yX4_at.desc).map (fun d => d.parameters.length) = some 1 := by decide +kernel
noncomputable def t_X4_at (nt_values : Nat) (ft : Nat → Int32) (va1 : Int32) : Int32 :=
  if va1 < 0 then
    (0 : Int32)
  else
    if (nI nt_values) ≤ va1 then
      (0 : Int32)
    else
      (ft (va1).toNatClampNeg)
theorem tot_X4_at (nt_values : Nat) (ft : Nat → Int32) (va1 : Int32) : f_X4_at nt_values ft va1 = some (t_X4_at nt_values ft va1) := by
  by_cases hc_1 : va1 < 0
  · simp only [f_X4_at, t_X4_at, if_pos hc_1]
  · by_cases hc_10 : (nI nt_values) ≤ va1
    · simp only [f_X4_at, t_X4_at, if_neg hc_1, if_pos hc_10]
    · simp only [f_X4_at, t_X4_at, if_neg hc_1, if_neg hc_10]
noncomputable def f_X4_put (nt_values : Nat) (ft : Nat → Int32) (va1 : Int32) (va2 : Int32) : Option ((Nat → Int32)) :=
  if va1 < 0 then
    some (ft)
  else
    if (nI nt_values) ≤ va1 then
      some (ft)
    else
      some ((upd ft (va1).toNatClampNeg va2))
abbrev rm_X4_put : Room := { frames := 0, cells := 0, slots := 0, locals := 0 }
set_option maxHeartbeats 4000000 in
set_option maxRecDepth 100000 in
theorem c_X4_put (l : Launch) (dC : Nat → ClassId) (dI : Nat → Nat → Nat) (cy : gC) (G : gT) (sz : Nat) (qt : Nat) (qt_values : Nat) (nt_values : Nat) (ft : Nat → Int32) (va1 : Int32) (va2 : Int32) (hnt_values : nt_values < 2 ^ 31) (out : (Nat → Int32)) (hf : f_X4_put nt_values ft va1 va2 = some out) : Met l yX4_put wsX4_put rm_X4_put (va_Pc [.ref qt, .int va1, .int va2] (kP (dC, dI) cy G [(qt, .inr (4, [.ref qt_values])), (qt_values, .inl (cy.1, nt_values, .inl (ft)))] sz)) (va_Qv (fun (_ : Unit) => True) (fun _ => kQ (dC, dI) cy [(qt, .inr (4, [.ref qt_values])), (qt_values, .inl (cy.1, nt_values, .inl (out)))] (va_A [(qt, .inr (4, [.ref qt_values])), (qt_values, .inl (cy.1, nt_values, .inl (ft)))] sz)) (va_A [(qt, .inr (4, [.ref qt_values])), (qt_values, .inl (cy.1, nt_values, .inl (ft)))] sz)) 0 0 (va_A [(qt, .inr (4, [.ref qt_values])), (qt_values, .inl (cy.1, nt_values, .inl (ft)))] sz) := by
  refine Met.ofW (cc := cX4_put) (maxL := 3) (ret := none) (by decide) rfl ?_
  intro p e s m args below meth c s₁ B hml hv
  obtain ⟨rfl, hsz, hP, hK, hD0, hG⟩ := hv
  have hx := B.exec
  have hb := B.bytes
  have hr := B.returns
  have hts := atoms_spec (ws := wsX4_put) B.pre
  have hown : s.vm.findClass RX4 = some m.cls := findClass_of_methodNamed B.named
  have hlocks := B.notSynchronized
  subst hsz
  have hD := hD0.self (sz := s.heap.size)
  generalize hAe : va_A [(qt, .inr (4, [.ref qt_values])), (qt_values, .inl (cy.1, nt_values, .inl (ft)))] s.heap.size = A at hD hG ⊢
  have hA : ∀ q : Nat, s.heap.size ≤ q → A q := fun q h => by rw [← hAe]; exact Or.inr h
  have hS : va_S A s.heap s.heap [] := va_S.rf
  have hP : va_P (dC, dI) vwCl [(qt, .inr (4, [.ref qt_values])), (qt_values, .inl (cy.1, nt_values, .inl (ft)))] s.heap := hP
  have hl := lv_entry ([.ref qt, .int va1, .int va2]) (n := 3) (Nat.le_of_ble_eq_true rfl)
  rw [lg_entry_eq]
  generalize (lg_sl ([.ref qt, .int va1, .int va2]) ++ List.replicate (3 - (lg_sl ([.ref qt, .int va1, .int va2])).length) Slot.unset).toArray = ls at hl ⊢
  have hl : lv_has ls 3 [(0, .ref qt), (1, .int va1), (2, .int va2)] := hl
  refine kgen (fun Q hQ => ?_)
  rw [f_X4_put] at hf
  refine lv_iload_n hx hb dX4_put_0 rfl (lv_at hl 1 rfl) ?_
  refine lv_if_lt (tgt := 20) hx hb dX4_put_1 (by decide) (fun hc_1 => ?_) (fun hc_1 => ?_)
  · rw [if_pos hc_1] at hf
    cases hf
    subst hQ
    exact kvret hx hb hr hlocks hK (hP.sub [0, 1] rfl) (hD.sub [0, 1] (by decide) rfl) hS trivial dX4_put_20
  · rw [if_neg hc_1] at hf
    refine lv_iload_n hx hb dX4_put_4 rfl (lv_at hl 1 rfl) ?_
    refine lv_aload_n hx hb dX4_put_5 rfl (lv_at hl 0 rfl) ?_
    refine va_get (D := (dC, dI)) (ci := 4) (C := RX4) (T := TX4) (N := 1) hx hb hts (fun _ h => (List.mem_cons_of_mem _ (List.mem_append_right _ h))) hown hK hP 0 rfl rfl 0 (by decide) (hts _ (List.mem_cons_of_mem _ (List.mem_append_left _ (List.mem_of_getElem? (i := 0) rfl)))) (fun _ h => h) rfl dX4_put_6 ?_
    refine va_alen (v := (nI nt_values)) hx hb hK hP 1 0 rfl rfl rfl dX4_put_9 ?_
    refine lv_icmp_ge (tgt := 20) hx hb dX4_put_10 (by decide) (fun hc_10 => ?_) (fun hc_10 => ?_)
    · rw [if_pos hc_10] at hf
      cases hf
      subst hQ
      exact kvret hx hb hr hlocks hK (hP.sub [0, 1] rfl) (hD.sub [0, 1] (by decide) rfl) hS trivial dX4_put_20
    · rw [if_neg hc_10] at hf
      refine lv_aload_n hx hb dX4_put_13 rfl (lv_at hl 0 rfl) ?_
      refine va_get (D := (dC, dI)) (ci := 4) (C := RX4) (T := TX4) (N := 1) hx hb hts (fun _ h => (List.mem_cons_of_mem _ (List.mem_append_right _ h))) hown hK hP 0 rfl rfl 0 (by decide) (hts _ (List.mem_cons_of_mem _ (List.mem_append_left _ (List.mem_of_getElem? (i := 0) rfl)))) (fun _ h => h) rfl dX4_put_14 ?_
      refine lv_iload_n hx hb dX4_put_17 rfl (lv_at hl 1 rfl) ?_
      refine lv_iload_n hx hb dX4_put_18 rfl (lv_at hl 2 rfl) ?_
      refine va_iast hx hb hK hP hD hS 1 0 rfl rfl (vin_n hnt_values hc_1 hc_10) dX4_put_19 (fun H locs hP hD hS => ?_)
      have hP : va_P (dC, dI) vwCl [(qt, .inr (4, [.ref qt_values])), (qt_values, .inl (cy.1, nt_values, .inl ((upd ft (va1).toNatClampNeg va2))))] H := hP
      have hD : va_D A [(qt, .inr (4, [.ref qt_values])), (qt_values, .inl (cy.1, nt_values, .inl ((upd ft (va1).toNatClampNeg va2))))] := hD
      cases hf
      subst hQ
      exact kvret hx hb hr hlocks hK (hP.sub [0, 1] rfl) (hD.sub [0, 1] (by decide) rfl) hS trivial dX4_put_20
theorem hdX4_put : yX4_put.cls = RX4 ∧ yX4_put.cls ≠ "java/lang/invoke/MethodHandle" ∧ yX4_put.cls ≠ "java/lang/invoke/VarHandle" ∧ (parseMethodDescriptor yX4_put.desc).map (fun d => d.parameters.length) = some 2 := by decide +kernel
noncomputable def t_X4_put (nt_values : Nat) (ft : Nat → Int32) (va1 : Int32) (va2 : Int32) : Nat → Int32 :=
  if va1 < 0 then
    ft
  else
    if (nI nt_values) ≤ va1 then
      ft
    else
      (upd ft (va1).toNatClampNeg va2)
theorem tot_X4_put (nt_values : Nat) (ft : Nat → Int32) (va1 : Int32) (va2 : Int32) : f_X4_put nt_values ft va1 va2 = some (t_X4_put nt_values ft va1 va2) := by
  by_cases hc_1 : va1 < 0
  · simp only [f_X4_put, t_X4_put, if_pos hc_1]
  · by_cases hc_10 : (nI nt_values) ≤ va1
    · simp only [f_X4_put, t_X4_put, if_neg hc_1, if_pos hc_10]
    · simp only [f_X4_put, t_X4_put, if_neg hc_1, if_neg hc_10]

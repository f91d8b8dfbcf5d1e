-- the law's loop
section LOOP
variable {p : Program} {l : Launch} {e : Env} {s : State} {m : MethodId} {below : List Frame} {meth : Method} {c : Code} {b : Nat} {H : Heap} {locs : List Loc} {cells slots pc : Nat} {Q : State → Prop} {ls : Array Slot} {lvs : List (Nat × Value)} {rest : List Value} {A : Nat → Prop} {dC : Nat → ClassId} {dI : Nat → Nat → Nat} {cy : gC} {G : gT} {N : Nat} {qc qm : Nat} {ac ah am : Nat → Nat}
variable {L : Nat} {xs : Nat → Int32}
set_option maxHeartbeats 4000000 in
set_option maxRecDepth 100000 in
theorem z_switch {i : Nat} {x : Int32} (C : LC p s m c b A dC dI cy G) (hr : cells ≤ room_1.cells ∧ slots ≤ room_1.slots) (hX : va_X b L xs s s.heap) (hbl : b < s.heap.size) (hbA : ¬ A b) (hl : lv_has ls 4 [(3, .int (nI i)), (2, .ref qm), (1, .ref qc), (0, .ref b)]) (hi : i + 4 ≤ L) (hL : L ≤ 2048) (hI : LInv s A dC dI cy qc qm H locs) (KK : ∀ (H1 : Heap) (locs1 : List Loc), LInv s A dC dI cy qc qm H1 locs1 → W p l e room_1 s m #[Value.ref b] below meth c H1 locs1 cells slots Q (F0 m 827 ls [])) : W p l e room_1 s m #[Value.ref b] below meth c H locs cells slots Q (F0 m 32 ls [.int (x &&& 31)]) := by
  obtain ⟨hx, hb, -⟩ := id C
  obtain ⟨j, hj, ej⟩ := pk_andE x (m := 31) 5 (by decide +kernel)
  refine kcst ej ?_
  have hj : j < 32 := hj
  have hto : (nI j).toInt = (j : Int) := nI_toInt (by omega)
  by_cases h27 : j < 27
  · rcases (show j = 0 ∨ j = 1 ∨ j = 2 ∨ j = 3 ∨ j = 4 ∨ j = 5 ∨ j = 6 ∨ j = 7 ∨ j = 8 ∨ j = 9 ∨ j = 10 ∨ j = 11 ∨ j = 12 ∨ j = 13 ∨ j = 14 ∨ j = 15 ∨ j = 16 ∨ j = 17 ∨ j = 18 ∨ j = 19 ∨ j = 20 ∨ j = 21 ∨ j = 22 ∨ j = 23 ∨ j = 24 ∨ j = 25 ∨ j = 26 by omega) with rfl | rfl | rfl | rfl | rfl | rfl | rfl | rfl | rfl | rfl | rfl | rfl | rfl | rfl | rfl | rfl | rfl | rfl | rfl | rfl | rfl | rfl | rfl | rfl | rfl | rfl | rfl
    · exact lv_tableIn (off := 124) (tgt := 156) hx hb dL_law_32 (by decide) (by decide) rfl (by decide) (z_word C hr hX hbl hbA hl hi hL hI KK)
    · exact lv_tableIn (off := 137) (tgt := 169) hx hb dL_law_32 (by decide) (by decide) rfl (by decide) (z_letterOf C hr hX hbl hbA hl hi hL hI KK)
    · exact lv_tableIn (off := 160) (tgt := 192) hx hb dL_law_32 (by decide) (by decide) rfl (by decide) (z_letter C hr hX hbl hbA hl hi hL hI KK)
    · exact lv_tableIn (off := 193) (tgt := 225) hx hb dL_law_32 (by decide) (by decide) rfl (by decide) (z_isRoom C hr hX hbl hbA hl hi hL hI KK)
    · exact lv_tableIn (off := 216) (tgt := 248) hx hb dL_law_32 (by decide) (by decide) rfl (by decide) (z_make C hr hX hbl hbA hl hi hL hI KK)
    · exact lv_tableIn (off := 239) (tgt := 271) hx hb dL_law_32 (by decide) (by decide) rfl (by decide) (z_door C hr hX hbl hbA hl hi hL hI KK)
    · exact lv_tableIn (off := 282) (tgt := 314) hx hb dL_law_32 (by decide) (by decide) rfl (by decide) (z_doors C hr hX hbl hbA hl hi hL hI KK)
    · exact lv_tableIn (off := 305) (tgt := 337) hx hb dL_law_32 (by decide) (by decide) rfl (by decide) (z_count C hr hX hbl hbA hl hi hL hI KK)
    · exact lv_tableIn (off := 328) (tgt := 360) hx hb dL_law_32 (by decide) (by decide) rfl (by decide) (z_part C hr hX hbl hbA hl hi hL hI KK)
    · exact lv_tableIn (off := 351) (tgt := 383) hx hb dL_law_32 (by decide) (by decide) rfl (by decide) (z_start C hr hX hbl hbA hl hi hL hI KK)
    · exact lv_tableIn (off := 374) (tgt := 406) hx hb dL_law_32 (by decide) (by decide) rfl (by decide) (z_goal C hr hX hbl hbA hl hi hL hI KK)
    · exact lv_tableIn (off := 397) (tgt := 429) hx hb dL_law_32 (by decide) (by decide) rfl (by decide) (z_distance C hr hX hbl hbA hl hi hL hI KK)
    · exact lv_tableIn (off := 430) (tgt := 462) hx hb dL_law_32 (by decide) (by decide) rfl (by decide) (z_again C hr hX hbl hbA hl hi hL hI KK)
    · exact lv_tableIn (off := 463) (tgt := 495) hx hb dL_law_32 (by decide) (by decide) rfl (by decide) (z_way C hr hX hbl hbA hl hi hL hI KK)
    · exact lv_tableIn (off := 506) (tgt := 538) hx hb dL_law_32 (by decide) (by decide) rfl (by decide) (z_farthest C hr hX hbl hbA hl hi hL hI KK)
    · exact lv_tableIn (off := 539) (tgt := 571) hx hb dL_law_32 (by decide) (by decide) rfl (by decide) (z_longest C hr hX hbl hbA hl hi hL hI KK)
    · exact lv_tableIn (off := 562) (tgt := 594) hx hb dL_law_32 (by decide) (by decide) rfl (by decide) (z_grade C hr hX hbl hbA hl hi hL hI KK)
    · exact lv_tableIn (off := 575) (tgt := 607) hx hb dL_law_32 (by decide) (by decide) rfl (by decide) (z_sign C hr hX hbl hbA hl hi hL hI KK)
    · exact lv_tableIn (off := 618) (tgt := 650) hx hb dL_law_32 (by decide) (by decide) rfl (by decide) (z_unsign C hr hX hbl hbA hl hi hL hI KK)
    · exact lv_tableIn (off := 641) (tgt := 673) hx hb dL_law_32 (by decide) (by decide) rfl (by decide) (z_points C hr hX hbl hbA hl hi hL hI KK)
    · exact lv_tableIn (off := 664) (tgt := 696) hx hb dL_law_32 (by decide) (by decide) rfl (by decide) (z_walk C hr hX hbl hbA hl hi hL hI KK)
    · exact lv_tableIn (off := 697) (tgt := 729) hx hb dL_law_32 (by decide) (by decide) rfl (by decide) (z_walked C hr hX hbl hbA hl hi hL hI KK)
    · exact lv_tableIn (off := 710) (tgt := 742) hx hb dL_law_32 (by decide) (by decide) rfl (by decide) (z_undo C hr hX hbl hbA hl hi hL hI KK)
    · exact lv_tableIn (off := 723) (tgt := 755) hx hb dL_law_32 (by decide) (by decide) rfl (by decide) (z_type C hr hX hbl hbA hl hi hL hI KK)
    · exact lv_tableIn (off := 746) (tgt := 778) hx hb dL_law_32 (by decide) (by decide) rfl (by decide) (z_clearText C hr hX hbl hbA hl hi hL hI KK)
    · exact lv_tableIn (off := 759) (tgt := 791) hx hb dL_law_32 (by decide) (by decide) rfl (by decide) (z_fault C hr hX hbl hbA hl hi hL hI KK)
    · exact lv_tableIn (off := 782) (tgt := 814) hx hb dL_law_32 (by decide) (by decide) rfl (by decide) (z_moved C hr hX hbl hbA hl hi hL hI KK)
  · exact lv_tableOut (tgt := 827) hx hb dL_law_32 (Or.inr (by rw [hto]; omega)) (by decide) (KK H locs hI)
set_option maxHeartbeats 4000000 in
set_option maxRecDepth 100000 in
theorem z_loop (C : LC p s m c b A dC dI cy G) (hr : cells ≤ room_1.cells ∧ slots ≤ room_1.slots) (hX : va_X b L xs s s.heap) (hbl : b < s.heap.size) (hbA : ¬ A b) (hL : L ≤ 2048) (KE : ∀ (H1 : Heap) (locs1 : List Loc) (ls1 : Array Slot), va_S A s.heap H1 locs1 → W p l e room_1 s m #[Value.ref b] below meth c H1 locs1 cells slots Q (F0 m 833 ls1 [])) : ∀ (f i : Nat), i ≤ L → L - i < f → ∀ (H : Heap) (locs : List Loc) (ls : Array Slot), lv_has ls 4 [(3, .int (nI i)), (2, .ref qm), (1, .ref qc), (0, .ref b)] → LInv s A dC dI cy qc qm H locs → W p l e room_1 s m #[Value.ref b] below meth c H locs cells slots Q (F0 m 18 ls []) := by
  obtain ⟨hx, hb, -⟩ := id C
  intro f
  induction f with
  | zero => intro i _ hf; omega
  | succ f ih =>
    intro i hiL hf H locs ls hl hI
    have hS : va_S A s.heap H locs := by
      obtain ⟨ac, ah, am, it_maze_shape_width, it_maze_shape_cellCount, it_maze_shape_roomCount, it_maze_shape_doorCount, it_maze_shape_lowest, ft_maze_shape_owners, it_maze_state_size, it_maze_state_start, it_maze_state_goal, ft_maze_state_letters, ft_maze_state_open, ft_maze_state_signs, it_history_length, yz, ya, yg, yl, yo, ys, it_opener_z, ft_opener_order, ft_opener_labels, it_ways_reached, it_ways_longestDistance, it_ways_longestFirst, it_ways_longestOther, ft_ways_distances, ft_ways_parts, ft_ways_queue, it_walker_comingFrom, it_walker_room, it_walker_steps, it_walker_different, ft_walker_visited, it_text_length, ft_text_codes, it_moves_index, it_moves_reason, it_moves_room, it_saved, it_length, it_doorMany, it_drawn, it_walker, it_from, it_steps, it_faultAt, it_mover, ft_now, ft_past, ft_text, ft_doors, ft_label, ft_far, ft_ring, ft_was, R, hP, hD, hS⟩ := hI
      exact hS
    refine lv_iload_n hx hb dL_law_18 rfl (lv_at hl 0 rfl) ?_
    refine lv_aload_n hx hb dL_law_19 rfl (lv_at hl 3 rfl) ?_
    refine va_slen hx hb hX hbl hbA hS dL_law_20 ?_
    refine lv_iconst (v := nI 4) hx hb dL_law_21 (by decide) ?_
    refine lv_isub hx hb dL_law_22 ?_
    have hsub : (nI L - nI 4).toInt = (L : Int) - 4 := pk_sub_toInt (by omega) (by omega)
    have hiI : (nI i).toInt = (i : Int) := nI_toInt (by omega)
    refine lv_icmp_gt (tgt := 833) hx hb dL_law_23 (by decide) (fun _ => KE H locs ls hS) (fun hc => ?_)
    have hi4 : i + 4 ≤ L := by
      have h1 : ¬ (nI L - nI 4).toInt < (nI i).toInt := fun h => hc (Int32.lt_iff_toInt_lt.mpr h)
      rw [hsub, hiI] at h1
      omega
    refine lv_aload_n hx hb dL_law_26 rfl (lv_at hl 3 rfl) ?_
    refine lv_iload_n hx hb dL_law_27 rfl (lv_at hl 0 rfl) ?_
    refine va_sld hx hb hX hbl hbA hS (vp_in_nI (by omega) (by omega)) dL_law_28 ?_
    refine lv_bipush (v := 31) hx hb dL_law_29 (by decide) ?_
    refine lv_iand hx hb dL_law_31 ?_
    refine z_switch C hr hX hbl hbA hl hi4 hL hI (fun H1 locs1 hI1 => ?_)
    refine lv_iinc (k := 0) (v := nI (i + 4)) (lv' := [(3, .int (nI (i + 4))), (2, .ref qm), (1, .ref qc), (0, .ref b)]) hx hb dL_law_827 hl rfl (nI_add i 4) (by decide) rfl (fun ls1 hl1 => ?_)
    refine lv_goto (tgt := 18) hx hb dL_law_830 (by decide) ?_
    exact ih (i + 4) (by omega) (by omega) H1 locs1 ls1 hl1 hI1
end LOOP

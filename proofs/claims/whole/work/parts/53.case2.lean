-- the law's cases
section CASES
variable {p : Program} {l : Launch} {e : Env} {s : State} {m : MethodId} {below : List Frame} {meth : Method} {c : Code} {b : Nat} {H : Heap} {locs : List Loc} {cells slots pc : Nat} {Q : State → Prop} {ls : Array Slot} {lvs : List (Nat × Value)} {rest : List Value} {A : Nat → Prop} {dC : Nat → ClassId} {dI : Nat → Nat → Nat} {cy : gC} {G : gT} {N : Nat} {qc qm : Nat} {ac ah am : Nat → Nat}
variable {L : Nat} {xs : Nat → Int32} {i : Nat}
set_option maxHeartbeats 4000000 in
set_option maxRecDepth 100000 in
theorem z_farthest (C : LC p s m c b A dC dI cy G) (hr : cells ≤ room_1.cells ∧ slots ≤ room_1.slots) (hX : va_X b L xs s s.heap) (hbl : b < s.heap.size) (hbA : ¬ A b) (hl : lv_has ls 4 [(3, .int (nI i)), (2, .ref qm), (1, .ref qc), (0, .ref b)]) (hi : i + 4 ≤ L) (hL : L ≤ 2048) (hI : LInv s A dC dI cy qc qm H locs) (KK : ∀ (H1 : Heap) (locs1 : List Loc), LInv s A dC dI cy qc qm H1 locs1 → W p l e room_1 s m #[Value.ref b] below meth c H1 locs1 cells slots Q (F0 m 827 ls [])) : W p l e room_1 s m #[Value.ref b] below meth c H locs cells slots Q (F0 m 538 ls []) := by
  obtain ⟨ac, ah, am, it_maze_shape_width, it_maze_shape_cellCount, it_maze_shape_roomCount, it_maze_shape_doorCount, it_maze_shape_lowest, ft_maze_shape_owners, it_maze_state_size, it_maze_state_start, it_maze_state_goal, ft_maze_state_letters, ft_maze_state_open, ft_maze_state_signs, it_history_length, yz, ya, yg, yl, yo, ys, it_opener_z, ft_opener_order, ft_opener_labels, it_ways_reached, it_ways_longestDistance, it_ways_longestFirst, it_ways_longestOther, ft_ways_distances, ft_ways_parts, ft_ways_queue, it_walker_comingFrom, it_walker_room, it_walker_steps, it_walker_different, ft_walker_visited, it_text_length, ft_text_codes, it_moves_index, it_moves_reason, it_moves_room, it_saved, it_length, it_doorMany, it_drawn, it_walker, it_from, it_steps, it_faultAt, it_mover, ft_now, ft_past, ft_text, ft_doors, ft_label, ft_far, ft_ring, ft_was, R, hP, hD, hS⟩ := hI
  obtain ⟨hx, hb, -⟩ := id C
  obtain ⟨N, hN⟩ : ∃ N : Nat, 10000 ≤ N := ⟨10000, Nat.le_refl _⟩
  have hN1 : 1000 ≤ N := by omega
  obtain ⟨h, hs, hc, ⟨hh, e1, e2, hhi⟩, ⟨tt, e3, e4, htx⟩⟩ := id R
  obtain ⟨hsz, hst, hgo, hle, ho, hsg⟩ := id hc
  obtain ⟨r0, re', D', Q', far', ring', hf1, hf2⟩ := o_farthest h hs ho hN1 it_ways_reached ft_ways_distances ft_ways_queue ft_far ft_ring (xs (i + 1)) (xs (i + 2))
  refine lv_aload_n hx hb dL_law_538 rfl (lv_at hl 2 rfl) ?_
  refine kArg1 hx hb hX hbl hbA hS hl hi hL dL_law_539 dL_law_540 dL_law_541 dL_law_542 dL_law_543 ?_
  refine kArg2 hx hb hX hbl hbA hS hl hi hL dL_law_544 dL_law_545 dL_law_546 dL_law_547 dL_law_548 ?_
  refine k10_farthest C hr hl hP hD hS hf1 dL_law_549 (fun H1 locs1 hP hD hS => ?_)
  refine lv_aload_n hx hb dL_law_552 rfl (lv_at hl 1 rfl) ?_
  refine kArg1 hx hb hX hbl hbA hS hl hi hL dL_law_553 dL_law_554 dL_law_555 dL_law_556 dL_law_557 ?_
  refine kArg2 hx hb hX hbl hbA hS hl hi hL dL_law_558 dL_law_559 dL_law_560 dL_law_561 dL_law_562 ?_
  refine k11_farthest C hr hl hP hD hS hf2 dL_law_563 (fun H2 locs2 hP hD hS => ?_)
  refine kEnd hx hb dL_law_566 (by decide) ?_
  exact KK H2 locs2 ⟨ac, ah, am, it_maze_shape_width, it_maze_shape_cellCount, it_maze_shape_roomCount, it_maze_shape_doorCount, it_maze_shape_lowest, ft_maze_shape_owners, it_maze_state_size, it_maze_state_start, it_maze_state_goal, ft_maze_state_letters, ft_maze_state_open, ft_maze_state_signs, it_history_length, yz, ya, yg, yl, yo, ys, it_opener_z, ft_opener_order, ft_opener_labels, re', it_ways_longestDistance, it_ways_longestFirst, it_ways_longestOther, D', ft_ways_parts, Q', it_walker_comingFrom, it_walker_room, it_walker_steps, it_walker_different, ft_walker_visited, it_text_length, ft_text_codes, it_moves_index, it_moves_reason, it_moves_room, it_saved, it_length, it_doorMany, it_drawn, it_walker, it_from, it_steps, it_faultAt, it_mover, ft_now, ft_past, ft_text, ft_doors, ft_label, far', ring', ft_was, R, hP, hD, hS⟩
set_option maxHeartbeats 4000000 in
set_option maxRecDepth 100000 in
theorem z_longest (C : LC p s m c b A dC dI cy G) (hr : cells ≤ room_1.cells ∧ slots ≤ room_1.slots) (hX : va_X b L xs s s.heap) (hbl : b < s.heap.size) (hbA : ¬ A b) (hl : lv_has ls 4 [(3, .int (nI i)), (2, .ref qm), (1, .ref qc), (0, .ref b)]) (hi : i + 4 ≤ L) (hL : L ≤ 2048) (hI : LInv s A dC dI cy qc qm H locs) (KK : ∀ (H1 : Heap) (locs1 : List Loc), LInv s A dC dI cy qc qm H1 locs1 → W p l e room_1 s m #[Value.ref b] below meth c H1 locs1 cells slots Q (F0 m 827 ls [])) : W p l e room_1 s m #[Value.ref b] below meth c H locs cells slots Q (F0 m 571 ls []) := by
  obtain ⟨ac, ah, am, it_maze_shape_width, it_maze_shape_cellCount, it_maze_shape_roomCount, it_maze_shape_doorCount, it_maze_shape_lowest, ft_maze_shape_owners, it_maze_state_size, it_maze_state_start, it_maze_state_goal, ft_maze_state_letters, ft_maze_state_open, ft_maze_state_signs, it_history_length, yz, ya, yg, yl, yo, ys, it_opener_z, ft_opener_order, ft_opener_labels, it_ways_reached, it_ways_longestDistance, it_ways_longestFirst, it_ways_longestOther, ft_ways_distances, ft_ways_parts, ft_ways_queue, it_walker_comingFrom, it_walker_room, it_walker_steps, it_walker_different, ft_walker_visited, it_text_length, ft_text_codes, it_moves_index, it_moves_reason, it_moves_room, it_saved, it_length, it_doorMany, it_drawn, it_walker, it_from, it_steps, it_faultAt, it_mover, ft_now, ft_past, ft_text, ft_doors, ft_label, ft_far, ft_ring, ft_was, R, hP, hD, hS⟩ := hI
  obtain ⟨hx, hb, -⟩ := id C
  obtain ⟨N, hN⟩ : ∃ N : Nat, 10000 ≤ N := ⟨10000, Nat.le_refl _⟩
  have hN1 : 1000 ≤ N := by omega
  obtain ⟨h, hs, hc, ⟨hh, e1, e2, hhi⟩, ⟨tt, e3, e4, htx⟩⟩ := id R
  obtain ⟨hsz, hst, hgo, hle, ho, hsg⟩ := id hc
  obtain ⟨r0, re', ld', lf', lt', D', Q', far', ring', hf1, hf2⟩ := o_longest h hs ho hN1 it_ways_reached it_ways_longestDistance it_ways_longestFirst it_ways_longestOther ft_ways_distances ft_ways_queue ft_far ft_ring (xs (i + 1))
  refine lv_aload_n hx hb dL_law_571 rfl (lv_at hl 2 rfl) ?_
  refine kArg1 hx hb hX hbl hbA hS hl hi hL dL_law_572 dL_law_573 dL_law_574 dL_law_575 dL_law_576 ?_
  refine k10_longest C hr hl hP hD hS hf1 dL_law_577 (fun H1 locs1 hP hD hS => ?_)
  refine lv_aload_n hx hb dL_law_580 rfl (lv_at hl 1 rfl) ?_
  refine kArg1 hx hb hX hbl hbA hS hl hi hL dL_law_581 dL_law_582 dL_law_583 dL_law_584 dL_law_585 ?_
  refine k11_longest C hr hl hP hD hS hf2 dL_law_586 (fun H2 locs2 hP hD hS => ?_)
  refine kEnd hx hb dL_law_589 (by decide) ?_
  exact KK H2 locs2 ⟨ac, ah, am, it_maze_shape_width, it_maze_shape_cellCount, it_maze_shape_roomCount, it_maze_shape_doorCount, it_maze_shape_lowest, ft_maze_shape_owners, it_maze_state_size, it_maze_state_start, it_maze_state_goal, ft_maze_state_letters, ft_maze_state_open, ft_maze_state_signs, it_history_length, yz, ya, yg, yl, yo, ys, it_opener_z, ft_opener_order, ft_opener_labels, re', ld', lf', lt', D', ft_ways_parts, Q', it_walker_comingFrom, it_walker_room, it_walker_steps, it_walker_different, ft_walker_visited, it_text_length, ft_text_codes, it_moves_index, it_moves_reason, it_moves_room, it_saved, it_length, it_doorMany, it_drawn, it_walker, it_from, it_steps, it_faultAt, it_mover, ft_now, ft_past, ft_text, ft_doors, ft_label, far', ring', ft_was, R, hP, hD, hS⟩
set_option maxHeartbeats 4000000 in
set_option maxRecDepth 100000 in
theorem z_grade (C : LC p s m c b A dC dI cy G) (hr : cells ≤ room_1.cells ∧ slots ≤ room_1.slots) (hX : va_X b L xs s s.heap) (hbl : b < s.heap.size) (hbA : ¬ A b) (hl : lv_has ls 4 [(3, .int (nI i)), (2, .ref qm), (1, .ref qc), (0, .ref b)]) (hi : i + 4 ≤ L) (hL : L ≤ 2048) (hI : LInv s A dC dI cy qc qm H locs) (KK : ∀ (H1 : Heap) (locs1 : List Loc), LInv s A dC dI cy qc qm H1 locs1 → W p l e room_1 s m #[Value.ref b] below meth c H1 locs1 cells slots Q (F0 m 827 ls [])) : W p l e room_1 s m #[Value.ref b] below meth c H locs cells slots Q (F0 m 594 ls []) := by
  obtain ⟨ac, ah, am, it_maze_shape_width, it_maze_shape_cellCount, it_maze_shape_roomCount, it_maze_shape_doorCount, it_maze_shape_lowest, ft_maze_shape_owners, it_maze_state_size, it_maze_state_start, it_maze_state_goal, ft_maze_state_letters, ft_maze_state_open, ft_maze_state_signs, it_history_length, yz, ya, yg, yl, yo, ys, it_opener_z, ft_opener_order, ft_opener_labels, it_ways_reached, it_ways_longestDistance, it_ways_longestFirst, it_ways_longestOther, ft_ways_distances, ft_ways_parts, ft_ways_queue, it_walker_comingFrom, it_walker_room, it_walker_steps, it_walker_different, ft_walker_visited, it_text_length, ft_text_codes, it_moves_index, it_moves_reason, it_moves_room, it_saved, it_length, it_doorMany, it_drawn, it_walker, it_from, it_steps, it_faultAt, it_mover, ft_now, ft_past, ft_text, ft_doors, ft_label, ft_far, ft_ring, ft_was, R, hP, hD, hS⟩ := hI
  obtain ⟨hx, hb, -⟩ := id C
  obtain ⟨N, hN⟩ : ∃ N : Nat, 10000 ≤ N := ⟨10000, Nat.le_refl _⟩
  have hN1 : 1000 ≤ N := by omega
  obtain ⟨h, hs, hc, ⟨hh, e1, e2, hhi⟩, ⟨tt, e3, e4, htx⟩⟩ := id R
  obtain ⟨hsz, hst, hgo, hle, ho, hsg⟩ := id hc
  obtain ⟨r0, re', D', Q', far', ring', hf1, hf2⟩ := o_grade h ho hN1 hst hgo it_ways_reached ft_ways_distances ft_ways_queue ft_far ft_ring
  rw [← hs.1] at hf1
  refine lv_aload_n hx hb dL_law_594 rfl (lv_at hl 2 rfl) ?_
  refine k10_grade C hr hl hP hD hS hf1 dL_law_595 (fun H1 locs1 hP hD hS => ?_)
  refine lv_aload_n hx hb dL_law_598 rfl (lv_at hl 1 rfl) ?_
  refine k11_grade C hr hl hP hD hS hf2 dL_law_599 (fun H2 locs2 hP hD hS => ?_)
  refine kEnd hx hb dL_law_602 (by decide) ?_
  exact KK H2 locs2 ⟨ac, ah, am, it_maze_shape_width, it_maze_shape_cellCount, it_maze_shape_roomCount, it_maze_shape_doorCount, it_maze_shape_lowest, ft_maze_shape_owners, it_maze_state_size, it_maze_state_start, it_maze_state_goal, ft_maze_state_letters, ft_maze_state_open, ft_maze_state_signs, it_history_length, yz, ya, yg, yl, yo, ys, it_opener_z, ft_opener_order, ft_opener_labels, re', it_ways_longestDistance, it_ways_longestFirst, it_ways_longestOther, D', ft_ways_parts, Q', it_walker_comingFrom, it_walker_room, it_walker_steps, it_walker_different, ft_walker_visited, it_text_length, ft_text_codes, it_moves_index, it_moves_reason, it_moves_room, it_saved, it_length, it_doorMany, it_drawn, it_walker, it_from, it_steps, it_faultAt, it_mover, ft_now, ft_past, ft_text, ft_doors, ft_label, far', ring', ft_was, R, hP, hD, hS⟩
set_option maxHeartbeats 4000000 in
set_option maxRecDepth 100000 in
theorem z_sign (C : LC p s m c b A dC dI cy G) (hr : cells ≤ room_1.cells ∧ slots ≤ room_1.slots) (hX : va_X b L xs s s.heap) (hbl : b < s.heap.size) (hbA : ¬ A b) (hl : lv_has ls 4 [(3, .int (nI i)), (2, .ref qm), (1, .ref qc), (0, .ref b)]) (hi : i + 4 ≤ L) (hL : L ≤ 2048) (hI : LInv s A dC dI cy qc qm H locs) (KK : ∀ (H1 : Heap) (locs1 : List Loc), LInv s A dC dI cy qc qm H1 locs1 → W p l e room_1 s m #[Value.ref b] below meth c H1 locs1 cells slots Q (F0 m 827 ls [])) : W p l e room_1 s m #[Value.ref b] below meth c H locs cells slots Q (F0 m 607 ls []) := by
  obtain ⟨ac, ah, am, it_maze_shape_width, it_maze_shape_cellCount, it_maze_shape_roomCount, it_maze_shape_doorCount, it_maze_shape_lowest, ft_maze_shape_owners, it_maze_state_size, it_maze_state_start, it_maze_state_goal, ft_maze_state_letters, ft_maze_state_open, ft_maze_state_signs, it_history_length, yz, ya, yg, yl, yo, ys, it_opener_z, ft_opener_order, ft_opener_labels, it_ways_reached, it_ways_longestDistance, it_ways_longestFirst, it_ways_longestOther, ft_ways_distances, ft_ways_parts, ft_ways_queue, it_walker_comingFrom, it_walker_room, it_walker_steps, it_walker_different, ft_walker_visited, it_text_length, ft_text_codes, it_moves_index, it_moves_reason, it_moves_room, it_saved, it_length, it_doorMany, it_drawn, it_walker, it_from, it_steps, it_faultAt, it_mover, ft_now, ft_past, ft_text, ft_doors, ft_label, ft_far, ft_ring, ft_was, R, hP, hD, hS⟩ := hI
  obtain ⟨hx, hb, -⟩ := id C
  obtain ⟨N, hN⟩ : ∃ N : Nat, 10000 ≤ N := ⟨10000, Nat.le_refl _⟩
  have hN1 : 1000 ≤ N := by omega
  obtain ⟨h, hs, hc, ⟨hh, e1, e2, hhi⟩, ⟨tt, e3, e4, htx⟩⟩ := id R
  obtain ⟨hsz, hst, hgo, hle, ho, hsg⟩ := id hc
  obtain ⟨r0, sg', hn', yl', yo', ys', yz', ya', yg', saved', now', past', hf1, hf2, R⟩ := o_sign R hN (xs (i + 1)) (xs (i + 2)) (xs (i + 3))
  refine lv_aload_n hx hb dL_law_607 rfl (lv_at hl 2 rfl) ?_
  refine kArg1 hx hb hX hbl hbA hS hl hi hL dL_law_608 dL_law_609 dL_law_610 dL_law_611 dL_law_612 ?_
  refine kArg2 hx hb hX hbl hbA hS hl hi hL dL_law_613 dL_law_614 dL_law_615 dL_law_616 dL_law_617 ?_
  refine kArg3 hx hb hX hbl hbA hS hl hi hL dL_law_618 dL_law_619 dL_law_620 dL_law_621 dL_law_622 ?_
  refine k10_sign C hr hl hP hD hS hf1 dL_law_623 (fun ah' H1 locs1 hP hD hS => ?_)
  refine lv_aload_n hx hb dL_law_626 rfl (lv_at hl 1 rfl) ?_
  refine kArg1 hx hb hX hbl hbA hS hl hi hL dL_law_627 dL_law_628 dL_law_629 dL_law_630 dL_law_631 ?_
  refine kArg2 hx hb hX hbl hbA hS hl hi hL dL_law_632 dL_law_633 dL_law_634 dL_law_635 dL_law_636 ?_
  refine kArg3 hx hb hX hbl hbA hS hl hi hL dL_law_637 dL_law_638 dL_law_639 dL_law_640 dL_law_641 ?_
  refine k11_sign C hr hl hP hD hS hf2 dL_law_642 (fun H2 locs2 hP hD hS => ?_)
  refine kEnd hx hb dL_law_645 (by decide) ?_
  exact KK H2 locs2 ⟨ac, ah', am, it_maze_shape_width, it_maze_shape_cellCount, it_maze_shape_roomCount, it_maze_shape_doorCount, it_maze_shape_lowest, ft_maze_shape_owners, it_maze_state_size, it_maze_state_start, it_maze_state_goal, ft_maze_state_letters, ft_maze_state_open, sg', hn', yz', ya', yg', yl', yo', ys', it_opener_z, ft_opener_order, ft_opener_labels, it_ways_reached, it_ways_longestDistance, it_ways_longestFirst, it_ways_longestOther, ft_ways_distances, ft_ways_parts, ft_ways_queue, it_walker_comingFrom, it_walker_room, it_walker_steps, it_walker_different, ft_walker_visited, it_text_length, ft_text_codes, it_moves_index, it_moves_reason, it_moves_room, saved', it_length, it_doorMany, it_drawn, it_walker, it_from, it_steps, it_faultAt, it_mover, now', past', ft_text, ft_doors, ft_label, ft_far, ft_ring, ft_was, R, hP, hD, hS⟩
set_option maxHeartbeats 4000000 in
set_option maxRecDepth 100000 in
theorem z_unsign (C : LC p s m c b A dC dI cy G) (hr : cells ≤ room_1.cells ∧ slots ≤ room_1.slots) (hX : va_X b L xs s s.heap) (hbl : b < s.heap.size) (hbA : ¬ A b) (hl : lv_has ls 4 [(3, .int (nI i)), (2, .ref qm), (1, .ref qc), (0, .ref b)]) (hi : i + 4 ≤ L) (hL : L ≤ 2048) (hI : LInv s A dC dI cy qc qm H locs) (KK : ∀ (H1 : Heap) (locs1 : List Loc), LInv s A dC dI cy qc qm H1 locs1 → W p l e room_1 s m #[Value.ref b] below meth c H1 locs1 cells slots Q (F0 m 827 ls [])) : W p l e room_1 s m #[Value.ref b] below meth c H locs cells slots Q (F0 m 650 ls []) := by
  obtain ⟨ac, ah, am, it_maze_shape_width, it_maze_shape_cellCount, it_maze_shape_roomCount, it_maze_shape_doorCount, it_maze_shape_lowest, ft_maze_shape_owners, it_maze_state_size, it_maze_state_start, it_maze_state_goal, ft_maze_state_letters, ft_maze_state_open, ft_maze_state_signs, it_history_length, yz, ya, yg, yl, yo, ys, it_opener_z, ft_opener_order, ft_opener_labels, it_ways_reached, it_ways_longestDistance, it_ways_longestFirst, it_ways_longestOther, ft_ways_distances, ft_ways_parts, ft_ways_queue, it_walker_comingFrom, it_walker_room, it_walker_steps, it_walker_different, ft_walker_visited, it_text_length, ft_text_codes, it_moves_index, it_moves_reason, it_moves_room, it_saved, it_length, it_doorMany, it_drawn, it_walker, it_from, it_steps, it_faultAt, it_mover, ft_now, ft_past, ft_text, ft_doors, ft_label, ft_far, ft_ring, ft_was, R, hP, hD, hS⟩ := hI
  obtain ⟨hx, hb, -⟩ := id C
  obtain ⟨N, hN⟩ : ∃ N : Nat, 10000 ≤ N := ⟨10000, Nat.le_refl _⟩
  have hN1 : 1000 ≤ N := by omega
  obtain ⟨h, hs, hc, ⟨hh, e1, e2, hhi⟩, ⟨tt, e3, e4, htx⟩⟩ := id R
  obtain ⟨hsz, hst, hgo, hle, ho, hsg⟩ := id hc
  obtain ⟨r0, sg', hn', yl', yo', ys', yz', ya', yg', saved', now', past', hf1, hf2, R⟩ := o_unsign R hN (xs (i + 1))
  refine lv_aload_n hx hb dL_law_650 rfl (lv_at hl 2 rfl) ?_
  refine kArg1 hx hb hX hbl hbA hS hl hi hL dL_law_651 dL_law_652 dL_law_653 dL_law_654 dL_law_655 ?_
  refine k10_unsign C hr hl hP hD hS hf1 dL_law_656 (fun ah' H1 locs1 hP hD hS => ?_)
  refine lv_aload_n hx hb dL_law_659 rfl (lv_at hl 1 rfl) ?_
  refine kArg1 hx hb hX hbl hbA hS hl hi hL dL_law_660 dL_law_661 dL_law_662 dL_law_663 dL_law_664 ?_
  refine k11_unsign C hr hl hP hD hS hf2 dL_law_665 (fun H2 locs2 hP hD hS => ?_)
  refine kEnd hx hb dL_law_668 (by decide) ?_
  exact KK H2 locs2 ⟨ac, ah', am, it_maze_shape_width, it_maze_shape_cellCount, it_maze_shape_roomCount, it_maze_shape_doorCount, it_maze_shape_lowest, ft_maze_shape_owners, it_maze_state_size, it_maze_state_start, it_maze_state_goal, ft_maze_state_letters, ft_maze_state_open, sg', hn', yz', ya', yg', yl', yo', ys', it_opener_z, ft_opener_order, ft_opener_labels, it_ways_reached, it_ways_longestDistance, it_ways_longestFirst, it_ways_longestOther, ft_ways_distances, ft_ways_parts, ft_ways_queue, it_walker_comingFrom, it_walker_room, it_walker_steps, it_walker_different, ft_walker_visited, it_text_length, ft_text_codes, it_moves_index, it_moves_reason, it_moves_room, saved', it_length, it_doorMany, it_drawn, it_walker, it_from, it_steps, it_faultAt, it_mover, now', past', ft_text, ft_doors, ft_label, ft_far, ft_ring, ft_was, R, hP, hD, hS⟩
set_option maxHeartbeats 4000000 in
set_option maxRecDepth 100000 in
theorem z_points (C : LC p s m c b A dC dI cy G) (hr : cells ≤ room_1.cells ∧ slots ≤ room_1.slots) (hX : va_X b L xs s s.heap) (hbl : b < s.heap.size) (hbA : ¬ A b) (hl : lv_has ls 4 [(3, .int (nI i)), (2, .ref qm), (1, .ref qc), (0, .ref b)]) (hi : i + 4 ≤ L) (hL : L ≤ 2048) (hI : LInv s A dC dI cy qc qm H locs) (KK : ∀ (H1 : Heap) (locs1 : List Loc), LInv s A dC dI cy qc qm H1 locs1 → W p l e room_1 s m #[Value.ref b] below meth c H1 locs1 cells slots Q (F0 m 827 ls [])) : W p l e room_1 s m #[Value.ref b] below meth c H locs cells slots Q (F0 m 673 ls []) := by
  obtain ⟨ac, ah, am, it_maze_shape_width, it_maze_shape_cellCount, it_maze_shape_roomCount, it_maze_shape_doorCount, it_maze_shape_lowest, ft_maze_shape_owners, it_maze_state_size, it_maze_state_start, it_maze_state_goal, ft_maze_state_letters, ft_maze_state_open, ft_maze_state_signs, it_history_length, yz, ya, yg, yl, yo, ys, it_opener_z, ft_opener_order, ft_opener_labels, it_ways_reached, it_ways_longestDistance, it_ways_longestFirst, it_ways_longestOther, ft_ways_distances, ft_ways_parts, ft_ways_queue, it_walker_comingFrom, it_walker_room, it_walker_steps, it_walker_different, ft_walker_visited, it_text_length, ft_text_codes, it_moves_index, it_moves_reason, it_moves_room, it_saved, it_length, it_doorMany, it_drawn, it_walker, it_from, it_steps, it_faultAt, it_mover, ft_now, ft_past, ft_text, ft_doors, ft_label, ft_far, ft_ring, ft_was, R, hP, hD, hS⟩ := hI
  obtain ⟨hx, hb, -⟩ := id C
  obtain ⟨N, hN⟩ : ∃ N : Nat, 10000 ≤ N := ⟨10000, Nat.le_refl _⟩
  have hN1 : 1000 ≤ N := by omega
  obtain ⟨h, hs, hc, ⟨hh, e1, e2, hhi⟩, ⟨tt, e3, e4, htx⟩⟩ := id R
  obtain ⟨hsz, hst, hgo, hle, ho, hsg⟩ := id hc
  obtain ⟨r0, re', D', Q', far', ring', hf1, hf2⟩ := o_points h hs hc hN1 it_ways_reached ft_ways_distances ft_ways_queue ft_far ft_ring (xs (i + 1))
  refine lv_aload_n hx hb dL_law_673 rfl (lv_at hl 2 rfl) ?_
  refine kArg1 hx hb hX hbl hbA hS hl hi hL dL_law_674 dL_law_675 dL_law_676 dL_law_677 dL_law_678 ?_
  refine k10_points C hr hl hP hD hS hf1 dL_law_679 (fun H1 locs1 hP hD hS => ?_)
  refine lv_aload_n hx hb dL_law_682 rfl (lv_at hl 1 rfl) ?_
  refine kArg1 hx hb hX hbl hbA hS hl hi hL dL_law_683 dL_law_684 dL_law_685 dL_law_686 dL_law_687 ?_
  refine k11_points C hr hl hP hD hS hf2 dL_law_688 (fun H2 locs2 hP hD hS => ?_)
  refine kEnd hx hb dL_law_691 (by decide) ?_
  exact KK H2 locs2 ⟨ac, ah, am, it_maze_shape_width, it_maze_shape_cellCount, it_maze_shape_roomCount, it_maze_shape_doorCount, it_maze_shape_lowest, ft_maze_shape_owners, it_maze_state_size, it_maze_state_start, it_maze_state_goal, ft_maze_state_letters, ft_maze_state_open, ft_maze_state_signs, it_history_length, yz, ya, yg, yl, yo, ys, it_opener_z, ft_opener_order, ft_opener_labels, re', it_ways_longestDistance, it_ways_longestFirst, it_ways_longestOther, D', ft_ways_parts, Q', it_walker_comingFrom, it_walker_room, it_walker_steps, it_walker_different, ft_walker_visited, it_text_length, ft_text_codes, it_moves_index, it_moves_reason, it_moves_room, it_saved, it_length, it_doorMany, it_drawn, it_walker, it_from, it_steps, it_faultAt, it_mover, ft_now, ft_past, ft_text, ft_doors, ft_label, far', ring', ft_was, R, hP, hD, hS⟩
set_option maxHeartbeats 4000000 in
set_option maxRecDepth 100000 in
theorem z_walk (C : LC p s m c b A dC dI cy G) (hr : cells ≤ room_1.cells ∧ slots ≤ room_1.slots) (hX : va_X b L xs s s.heap) (hbl : b < s.heap.size) (hbA : ¬ A b) (hl : lv_has ls 4 [(3, .int (nI i)), (2, .ref qm), (1, .ref qc), (0, .ref b)]) (hi : i + 4 ≤ L) (hL : L ≤ 2048) (hI : LInv s A dC dI cy qc qm H locs) (KK : ∀ (H1 : Heap) (locs1 : List Loc), LInv s A dC dI cy qc qm H1 locs1 → W p l e room_1 s m #[Value.ref b] below meth c H1 locs1 cells slots Q (F0 m 827 ls [])) : W p l e room_1 s m #[Value.ref b] below meth c H locs cells slots Q (F0 m 696 ls []) := by
  obtain ⟨ac, ah, am, it_maze_shape_width, it_maze_shape_cellCount, it_maze_shape_roomCount, it_maze_shape_doorCount, it_maze_shape_lowest, ft_maze_shape_owners, it_maze_state_size, it_maze_state_start, it_maze_state_goal, ft_maze_state_letters, ft_maze_state_open, ft_maze_state_signs, it_history_length, yz, ya, yg, yl, yo, ys, it_opener_z, ft_opener_order, ft_opener_labels, it_ways_reached, it_ways_longestDistance, it_ways_longestFirst, it_ways_longestOther, ft_ways_distances, ft_ways_parts, ft_ways_queue, it_walker_comingFrom, it_walker_room, it_walker_steps, it_walker_different, ft_walker_visited, it_text_length, ft_text_codes, it_moves_index, it_moves_reason, it_moves_room, it_saved, it_length, it_doorMany, it_drawn, it_walker, it_from, it_steps, it_faultAt, it_mover, ft_now, ft_past, ft_text, ft_doors, ft_label, ft_far, ft_ring, ft_was, R, hP, hD, hS⟩ := hI
  obtain ⟨hx, hb, -⟩ := id C
  obtain ⟨N, hN⟩ : ∃ N : Nat, 10000 ≤ N := ⟨10000, Nat.le_refl _⟩
  have hN1 : 1000 ≤ N := by omega
  obtain ⟨h, hs, hc, ⟨hh, e1, e2, hhi⟩, ⟨tt, e3, e4, htx⟩⟩ := id R
  obtain ⟨hsz, hst, hgo, hle, ho, hsg⟩ := id hc
  obtain ⟨r0, re', D', Q', cf', room', steps', diff', V', wk', fr', stp', far', ring', Wa', hf1, hf2⟩ := o_walk h hs hc hN it_ways_reached it_walker_comingFrom it_walker_room it_walker_steps it_walker_different ft_ways_distances ft_ways_queue ft_walker_visited it_walker it_from it_steps ft_far ft_ring ft_was (xs (i + 1)) (xs (i + 2))
  refine lv_aload_n hx hb dL_law_696 rfl (lv_at hl 2 rfl) ?_
  refine kArg1 hx hb hX hbl hbA hS hl hi hL dL_law_697 dL_law_698 dL_law_699 dL_law_700 dL_law_701 ?_
  refine kArg2 hx hb hX hbl hbA hS hl hi hL dL_law_702 dL_law_703 dL_law_704 dL_law_705 dL_law_706 ?_
  refine k10_walk C hr hl hP hD hS hf1 dL_law_707 (fun H1 locs1 hP hD hS => ?_)
  refine lv_aload_n hx hb dL_law_710 rfl (lv_at hl 1 rfl) ?_
  refine kArg1 hx hb hX hbl hbA hS hl hi hL dL_law_711 dL_law_712 dL_law_713 dL_law_714 dL_law_715 ?_
  refine kArg2 hx hb hX hbl hbA hS hl hi hL dL_law_716 dL_law_717 dL_law_718 dL_law_719 dL_law_720 ?_
  refine k11_walk C hr hl hP hD hS hf2 dL_law_721 (fun H2 locs2 hP hD hS => ?_)
  refine kEnd hx hb dL_law_724 (by decide) ?_
  exact KK H2 locs2 ⟨ac, ah, am, it_maze_shape_width, it_maze_shape_cellCount, it_maze_shape_roomCount, it_maze_shape_doorCount, it_maze_shape_lowest, ft_maze_shape_owners, it_maze_state_size, it_maze_state_start, it_maze_state_goal, ft_maze_state_letters, ft_maze_state_open, ft_maze_state_signs, it_history_length, yz, ya, yg, yl, yo, ys, it_opener_z, ft_opener_order, ft_opener_labels, re', it_ways_longestDistance, it_ways_longestFirst, it_ways_longestOther, D', ft_ways_parts, Q', cf', room', steps', diff', V', it_text_length, ft_text_codes, it_moves_index, it_moves_reason, it_moves_room, it_saved, it_length, it_doorMany, it_drawn, wk', fr', stp', it_faultAt, it_mover, ft_now, ft_past, ft_text, ft_doors, ft_label, far', ring', Wa', R, hP, hD, hS⟩
set_option maxHeartbeats 4000000 in
set_option maxRecDepth 100000 in
theorem z_walked (C : LC p s m c b A dC dI cy G) (hr : cells ≤ room_1.cells ∧ slots ≤ room_1.slots) (hX : va_X b L xs s s.heap) (hbl : b < s.heap.size) (hbA : ¬ A b) (hl : lv_has ls 4 [(3, .int (nI i)), (2, .ref qm), (1, .ref qc), (0, .ref b)]) (hi : i + 4 ≤ L) (hL : L ≤ 2048) (hI : LInv s A dC dI cy qc qm H locs) (KK : ∀ (H1 : Heap) (locs1 : List Loc), LInv s A dC dI cy qc qm H1 locs1 → W p l e room_1 s m #[Value.ref b] below meth c H1 locs1 cells slots Q (F0 m 827 ls [])) : W p l e room_1 s m #[Value.ref b] below meth c H locs cells slots Q (F0 m 729 ls []) := by
  obtain ⟨ac, ah, am, it_maze_shape_width, it_maze_shape_cellCount, it_maze_shape_roomCount, it_maze_shape_doorCount, it_maze_shape_lowest, ft_maze_shape_owners, it_maze_state_size, it_maze_state_start, it_maze_state_goal, ft_maze_state_letters, ft_maze_state_open, ft_maze_state_signs, it_history_length, yz, ya, yg, yl, yo, ys, it_opener_z, ft_opener_order, ft_opener_labels, it_ways_reached, it_ways_longestDistance, it_ways_longestFirst, it_ways_longestOther, ft_ways_distances, ft_ways_parts, ft_ways_queue, it_walker_comingFrom, it_walker_room, it_walker_steps, it_walker_different, ft_walker_visited, it_text_length, ft_text_codes, it_moves_index, it_moves_reason, it_moves_room, it_saved, it_length, it_doorMany, it_drawn, it_walker, it_from, it_steps, it_faultAt, it_mover, ft_now, ft_past, ft_text, ft_doors, ft_label, ft_far, ft_ring, ft_was, R, hP, hD, hS⟩ := hI
  obtain ⟨hx, hb, -⟩ := id C
  obtain ⟨N, hN⟩ : ∃ N : Nat, 10000 ≤ N := ⟨10000, Nat.le_refl _⟩
  have hN1 : 1000 ≤ N := by omega
  obtain ⟨h, hs, hc, ⟨hh, e1, e2, hhi⟩, ⟨tt, e3, e4, htx⟩⟩ := id R
  obtain ⟨hsz, hst, hgo, hle, ho, hsg⟩ := id hc
  obtain ⟨r0, re', D', Q', cf', room', steps', diff', V', wk', fr', stp', far', ring', Wa', hf1, hf2⟩ := o_walked h hs hc hN it_ways_reached it_walker_comingFrom it_walker_room it_walker_steps it_walker_different ft_ways_distances ft_ways_queue ft_walker_visited it_walker it_from it_steps ft_far ft_ring ft_was
  refine lv_aload_n hx hb dL_law_729 rfl (lv_at hl 2 rfl) ?_
  refine k10_walked C hr hl hP hD hS hf1 dL_law_730 (fun H1 locs1 hP hD hS => ?_)
  refine lv_aload_n hx hb dL_law_733 rfl (lv_at hl 1 rfl) ?_
  refine k11_walked C hr hl hP hD hS hf2 dL_law_734 (fun H2 locs2 hP hD hS => ?_)
  refine kEnd hx hb dL_law_737 (by decide) ?_
  exact KK H2 locs2 ⟨ac, ah, am, it_maze_shape_width, it_maze_shape_cellCount, it_maze_shape_roomCount, it_maze_shape_doorCount, it_maze_shape_lowest, ft_maze_shape_owners, it_maze_state_size, it_maze_state_start, it_maze_state_goal, ft_maze_state_letters, ft_maze_state_open, ft_maze_state_signs, it_history_length, yz, ya, yg, yl, yo, ys, it_opener_z, ft_opener_order, ft_opener_labels, re', it_ways_longestDistance, it_ways_longestFirst, it_ways_longestOther, D', ft_ways_parts, Q', cf', room', steps', diff', V', it_text_length, ft_text_codes, it_moves_index, it_moves_reason, it_moves_room, it_saved, it_length, it_doorMany, it_drawn, wk', fr', stp', it_faultAt, it_mover, ft_now, ft_past, ft_text, ft_doors, ft_label, far', ring', Wa', R, hP, hD, hS⟩
set_option maxHeartbeats 4000000 in
set_option maxRecDepth 100000 in
theorem z_undo (C : LC p s m c b A dC dI cy G) (hr : cells ≤ room_1.cells ∧ slots ≤ room_1.slots) (hX : va_X b L xs s s.heap) (hbl : b < s.heap.size) (hbA : ¬ A b) (hl : lv_has ls 4 [(3, .int (nI i)), (2, .ref qm), (1, .ref qc), (0, .ref b)]) (hi : i + 4 ≤ L) (hL : L ≤ 2048) (hI : LInv s A dC dI cy qc qm H locs) (KK : ∀ (H1 : Heap) (locs1 : List Loc), LInv s A dC dI cy qc qm H1 locs1 → W p l e room_1 s m #[Value.ref b] below meth c H1 locs1 cells slots Q (F0 m 827 ls [])) : W p l e room_1 s m #[Value.ref b] below meth c H locs cells slots Q (F0 m 742 ls []) := by
  obtain ⟨ac, ah, am, it_maze_shape_width, it_maze_shape_cellCount, it_maze_shape_roomCount, it_maze_shape_doorCount, it_maze_shape_lowest, ft_maze_shape_owners, it_maze_state_size, it_maze_state_start, it_maze_state_goal, ft_maze_state_letters, ft_maze_state_open, ft_maze_state_signs, it_history_length, yz, ya, yg, yl, yo, ys, it_opener_z, ft_opener_order, ft_opener_labels, it_ways_reached, it_ways_longestDistance, it_ways_longestFirst, it_ways_longestOther, ft_ways_distances, ft_ways_parts, ft_ways_queue, it_walker_comingFrom, it_walker_room, it_walker_steps, it_walker_different, ft_walker_visited, it_text_length, ft_text_codes, it_moves_index, it_moves_reason, it_moves_room, it_saved, it_length, it_doorMany, it_drawn, it_walker, it_from, it_steps, it_faultAt, it_mover, ft_now, ft_past, ft_text, ft_doors, ft_label, ft_far, ft_ring, ft_was, R, hP, hD, hS⟩ := hI
  obtain ⟨hx, hb, -⟩ := id C
  obtain ⟨N, hN⟩ : ∃ N : Nat, 10000 ≤ N := ⟨10000, Nat.le_refl _⟩
  have hN1 : 1000 ≤ N := by omega
  obtain ⟨h, hs, hc, ⟨hh, e1, e2, hhi⟩, ⟨tt, e3, e4, htx⟩⟩ := id R
  obtain ⟨hsz, hst, hgo, hle, ho, hsg⟩ := id hc
  obtain ⟨r0, w', cc', rc', dc', lo', ow', sz', st', go', le', op', sg', hn', saved', now', hf1, hf2, R⟩ := o_undo R hN
  refine lv_aload_n hx hb dL_law_742 rfl (lv_at hl 2 rfl) ?_
  refine k10_undo C hr hl hP hD hS hf1 dL_law_743 (fun ah' H1 locs1 hP hD hS => ?_)
  refine lv_aload_n hx hb dL_law_746 rfl (lv_at hl 1 rfl) ?_
  refine k11_undo C hr hl hP hD hS hf2 dL_law_747 (fun H2 locs2 hP hD hS => ?_)
  refine kEnd hx hb dL_law_750 (by decide) ?_
  exact KK H2 locs2 ⟨ac, ah', am, w', cc', rc', dc', lo', ow', sz', st', go', le', op', sg', hn', yz, ya, yg, yl, yo, ys, it_opener_z, ft_opener_order, ft_opener_labels, it_ways_reached, it_ways_longestDistance, it_ways_longestFirst, it_ways_longestOther, ft_ways_distances, ft_ways_parts, ft_ways_queue, it_walker_comingFrom, it_walker_room, it_walker_steps, it_walker_different, ft_walker_visited, it_text_length, ft_text_codes, it_moves_index, it_moves_reason, it_moves_room, saved', it_length, it_doorMany, it_drawn, it_walker, it_from, it_steps, it_faultAt, it_mover, now', ft_past, ft_text, ft_doors, ft_label, ft_far, ft_ring, ft_was, R, hP, hD, hS⟩
set_option maxHeartbeats 4000000 in
set_option maxRecDepth 100000 in
theorem z_type (C : LC p s m c b A dC dI cy G) (hr : cells ≤ room_1.cells ∧ slots ≤ room_1.slots) (hX : va_X b L xs s s.heap) (hbl : b < s.heap.size) (hbA : ¬ A b) (hl : lv_has ls 4 [(3, .int (nI i)), (2, .ref qm), (1, .ref qc), (0, .ref b)]) (hi : i + 4 ≤ L) (hL : L ≤ 2048) (hI : LInv s A dC dI cy qc qm H locs) (KK : ∀ (H1 : Heap) (locs1 : List Loc), LInv s A dC dI cy qc qm H1 locs1 → W p l e room_1 s m #[Value.ref b] below meth c H1 locs1 cells slots Q (F0 m 827 ls [])) : W p l e room_1 s m #[Value.ref b] below meth c H locs cells slots Q (F0 m 755 ls []) := by
  obtain ⟨ac, ah, am, it_maze_shape_width, it_maze_shape_cellCount, it_maze_shape_roomCount, it_maze_shape_doorCount, it_maze_shape_lowest, ft_maze_shape_owners, it_maze_state_size, it_maze_state_start, it_maze_state_goal, ft_maze_state_letters, ft_maze_state_open, ft_maze_state_signs, it_history_length, yz, ya, yg, yl, yo, ys, it_opener_z, ft_opener_order, ft_opener_labels, it_ways_reached, it_ways_longestDistance, it_ways_longestFirst, it_ways_longestOther, ft_ways_distances, ft_ways_parts, ft_ways_queue, it_walker_comingFrom, it_walker_room, it_walker_steps, it_walker_different, ft_walker_visited, it_text_length, ft_text_codes, it_moves_index, it_moves_reason, it_moves_room, it_saved, it_length, it_doorMany, it_drawn, it_walker, it_from, it_steps, it_faultAt, it_mover, ft_now, ft_past, ft_text, ft_doors, ft_label, ft_far, ft_ring, ft_was, R, hP, hD, hS⟩ := hI
  obtain ⟨hx, hb, -⟩ := id C
  obtain ⟨N, hN⟩ : ∃ N : Nat, 10000 ≤ N := ⟨10000, Nat.le_refl _⟩
  have hN1 : 1000 ≤ N := by omega
  obtain ⟨h, hs, hc, ⟨hh, e1, e2, hhi⟩, ⟨tt, e3, e4, htx⟩⟩ := id R
  obtain ⟨hsz, hst, hgo, hle, ho, hsg⟩ := id hc
  obtain ⟨r0, tl', tc', length', text', hf1, hf2, R⟩ := o_type R (xs (i + 1))
  refine lv_aload_n hx hb dL_law_755 rfl (lv_at hl 2 rfl) ?_
  refine kArg1 hx hb hX hbl hbA hS hl hi hL dL_law_756 dL_law_757 dL_law_758 dL_law_759 dL_law_760 ?_
  refine k10_type C hr hl hP hD hS hf1 dL_law_761 (fun H1 locs1 hP hD hS => ?_)
  refine lv_aload_n hx hb dL_law_764 rfl (lv_at hl 1 rfl) ?_
  refine kArg1 hx hb hX hbl hbA hS hl hi hL dL_law_765 dL_law_766 dL_law_767 dL_law_768 dL_law_769 ?_
  refine k11_type C hr hl hP hD hS hf2 dL_law_770 (fun H2 locs2 hP hD hS => ?_)
  refine kEnd hx hb dL_law_773 (by decide) ?_
  exact KK H2 locs2 ⟨ac, ah, am, it_maze_shape_width, it_maze_shape_cellCount, it_maze_shape_roomCount, it_maze_shape_doorCount, it_maze_shape_lowest, ft_maze_shape_owners, it_maze_state_size, it_maze_state_start, it_maze_state_goal, ft_maze_state_letters, ft_maze_state_open, ft_maze_state_signs, it_history_length, yz, ya, yg, yl, yo, ys, it_opener_z, ft_opener_order, ft_opener_labels, it_ways_reached, it_ways_longestDistance, it_ways_longestFirst, it_ways_longestOther, ft_ways_distances, ft_ways_parts, ft_ways_queue, it_walker_comingFrom, it_walker_room, it_walker_steps, it_walker_different, ft_walker_visited, tl', tc', it_moves_index, it_moves_reason, it_moves_room, it_saved, length', it_doorMany, it_drawn, it_walker, it_from, it_steps, it_faultAt, it_mover, ft_now, ft_past, text', ft_doors, ft_label, ft_far, ft_ring, ft_was, R, hP, hD, hS⟩
set_option maxHeartbeats 4000000 in
set_option maxRecDepth 100000 in
theorem z_clearText (C : LC p s m c b A dC dI cy G) (hr : cells ≤ room_1.cells ∧ slots ≤ room_1.slots) (hX : va_X b L xs s s.heap) (hbl : b < s.heap.size) (hbA : ¬ A b) (hl : lv_has ls 4 [(3, .int (nI i)), (2, .ref qm), (1, .ref qc), (0, .ref b)]) (hi : i + 4 ≤ L) (hL : L ≤ 2048) (hI : LInv s A dC dI cy qc qm H locs) (KK : ∀ (H1 : Heap) (locs1 : List Loc), LInv s A dC dI cy qc qm H1 locs1 → W p l e room_1 s m #[Value.ref b] below meth c H1 locs1 cells slots Q (F0 m 827 ls [])) : W p l e room_1 s m #[Value.ref b] below meth c H locs cells slots Q (F0 m 778 ls []) := by
  obtain ⟨ac, ah, am, it_maze_shape_width, it_maze_shape_cellCount, it_maze_shape_roomCount, it_maze_shape_doorCount, it_maze_shape_lowest, ft_maze_shape_owners, it_maze_state_size, it_maze_state_start, it_maze_state_goal, ft_maze_state_letters, ft_maze_state_open, ft_maze_state_signs, it_history_length, yz, ya, yg, yl, yo, ys, it_opener_z, ft_opener_order, ft_opener_labels, it_ways_reached, it_ways_longestDistance, it_ways_longestFirst, it_ways_longestOther, ft_ways_distances, ft_ways_parts, ft_ways_queue, it_walker_comingFrom, it_walker_room, it_walker_steps, it_walker_different, ft_walker_visited, it_text_length, ft_text_codes, it_moves_index, it_moves_reason, it_moves_room, it_saved, it_length, it_doorMany, it_drawn, it_walker, it_from, it_steps, it_faultAt, it_mover, ft_now, ft_past, ft_text, ft_doors, ft_label, ft_far, ft_ring, ft_was, R, hP, hD, hS⟩ := hI
  obtain ⟨hx, hb, -⟩ := id C
  obtain ⟨N, hN⟩ : ∃ N : Nat, 10000 ≤ N := ⟨10000, Nat.le_refl _⟩
  have hN1 : 1000 ≤ N := by omega
  obtain ⟨h, hs, hc, ⟨hh, e1, e2, hhi⟩, ⟨tt, e3, e4, htx⟩⟩ := id R
  obtain ⟨hsz, hst, hgo, hle, ho, hsg⟩ := id hc
  obtain ⟨r0, tl', length', hf1, hf2, R⟩ := o_clearText R
  refine lv_aload_n hx hb dL_law_778 rfl (lv_at hl 2 rfl) ?_
  refine k10_clearText C hr hl hP hD hS hf1 dL_law_779 (fun H1 locs1 hP hD hS => ?_)
  refine lv_aload_n hx hb dL_law_782 rfl (lv_at hl 1 rfl) ?_
  refine k11_clearText C hr hl hP hD hS hf2 dL_law_783 (fun H2 locs2 hP hD hS => ?_)
  refine kEnd hx hb dL_law_786 (by decide) ?_
  exact KK H2 locs2 ⟨ac, ah, am, it_maze_shape_width, it_maze_shape_cellCount, it_maze_shape_roomCount, it_maze_shape_doorCount, it_maze_shape_lowest, ft_maze_shape_owners, it_maze_state_size, it_maze_state_start, it_maze_state_goal, ft_maze_state_letters, ft_maze_state_open, ft_maze_state_signs, it_history_length, yz, ya, yg, yl, yo, ys, it_opener_z, ft_opener_order, ft_opener_labels, it_ways_reached, it_ways_longestDistance, it_ways_longestFirst, it_ways_longestOther, ft_ways_distances, ft_ways_parts, ft_ways_queue, it_walker_comingFrom, it_walker_room, it_walker_steps, it_walker_different, ft_walker_visited, tl', ft_text_codes, it_moves_index, it_moves_reason, it_moves_room, it_saved, length', it_doorMany, it_drawn, it_walker, it_from, it_steps, it_faultAt, it_mover, ft_now, ft_past, ft_text, ft_doors, ft_label, ft_far, ft_ring, ft_was, R, hP, hD, hS⟩
set_option maxHeartbeats 4000000 in
set_option maxRecDepth 100000 in
theorem z_fault (C : LC p s m c b A dC dI cy G) (hr : cells ≤ room_1.cells ∧ slots ≤ room_1.slots) (hX : va_X b L xs s s.heap) (hbl : b < s.heap.size) (hbA : ¬ A b) (hl : lv_has ls 4 [(3, .int (nI i)), (2, .ref qm), (1, .ref qc), (0, .ref b)]) (hi : i + 4 ≤ L) (hL : L ≤ 2048) (hI : LInv s A dC dI cy qc qm H locs) (KK : ∀ (H1 : Heap) (locs1 : List Loc), LInv s A dC dI cy qc qm H1 locs1 → W p l e room_1 s m #[Value.ref b] below meth c H1 locs1 cells slots Q (F0 m 827 ls [])) : W p l e room_1 s m #[Value.ref b] below meth c H locs cells slots Q (F0 m 791 ls []) := by
  obtain ⟨ac, ah, am, it_maze_shape_width, it_maze_shape_cellCount, it_maze_shape_roomCount, it_maze_shape_doorCount, it_maze_shape_lowest, ft_maze_shape_owners, it_maze_state_size, it_maze_state_start, it_maze_state_goal, ft_maze_state_letters, ft_maze_state_open, ft_maze_state_signs, it_history_length, yz, ya, yg, yl, yo, ys, it_opener_z, ft_opener_order, ft_opener_labels, it_ways_reached, it_ways_longestDistance, it_ways_longestFirst, it_ways_longestOther, ft_ways_distances, ft_ways_parts, ft_ways_queue, it_walker_comingFrom, it_walker_room, it_walker_steps, it_walker_different, ft_walker_visited, it_text_length, ft_text_codes, it_moves_index, it_moves_reason, it_moves_room, it_saved, it_length, it_doorMany, it_drawn, it_walker, it_from, it_steps, it_faultAt, it_mover, ft_now, ft_past, ft_text, ft_doors, ft_label, ft_far, ft_ring, ft_was, R, hP, hD, hS⟩ := hI
  obtain ⟨hx, hb, -⟩ := id C
  obtain ⟨N, hN⟩ : ∃ N : Nat, 10000 ≤ N := ⟨10000, Nat.le_refl _⟩
  have hN1 : 1000 ≤ N := by omega
  obtain ⟨h, hs, hc, ⟨hh, e1, e2, hhi⟩, ⟨tt, e3, e4, htx⟩⟩ := id R
  obtain ⟨hsz, hst, hgo, hle, ho, hsg⟩ := id hc
  obtain ⟨r0, i', r', m', fa', mv', hf1, hf2⟩ := o_fault R hN1 it_moves_index it_moves_reason it_moves_room it_faultAt it_mover (xs (i + 1))
  refine lv_aload_n hx hb dL_law_791 rfl (lv_at hl 2 rfl) ?_
  refine kArg1 hx hb hX hbl hbA hS hl hi hL dL_law_792 dL_law_793 dL_law_794 dL_law_795 dL_law_796 ?_
  refine k10_fault C hr hl hP hD hS hf1 dL_law_797 (fun H1 locs1 hP hD hS => ?_)
  refine lv_aload_n hx hb dL_law_800 rfl (lv_at hl 1 rfl) ?_
  refine kArg1 hx hb hX hbl hbA hS hl hi hL dL_law_801 dL_law_802 dL_law_803 dL_law_804 dL_law_805 ?_
  refine k11_fault C hr hl hP hD hS hf2 dL_law_806 (fun H2 locs2 hP hD hS => ?_)
  refine kEnd hx hb dL_law_809 (by decide) ?_
  exact KK H2 locs2 ⟨ac, ah, am, it_maze_shape_width, it_maze_shape_cellCount, it_maze_shape_roomCount, it_maze_shape_doorCount, it_maze_shape_lowest, ft_maze_shape_owners, it_maze_state_size, it_maze_state_start, it_maze_state_goal, ft_maze_state_letters, ft_maze_state_open, ft_maze_state_signs, it_history_length, yz, ya, yg, yl, yo, ys, it_opener_z, ft_opener_order, ft_opener_labels, it_ways_reached, it_ways_longestDistance, it_ways_longestFirst, it_ways_longestOther, ft_ways_distances, ft_ways_parts, ft_ways_queue, it_walker_comingFrom, it_walker_room, it_walker_steps, it_walker_different, ft_walker_visited, it_text_length, ft_text_codes, i', r', m', it_saved, it_length, it_doorMany, it_drawn, it_walker, it_from, it_steps, fa', mv', ft_now, ft_past, ft_text, ft_doors, ft_label, ft_far, ft_ring, ft_was, R, hP, hD, hS⟩
set_option maxHeartbeats 4000000 in
set_option maxRecDepth 100000 in
theorem z_moved (C : LC p s m c b A dC dI cy G) (hr : cells ≤ room_1.cells ∧ slots ≤ room_1.slots) (hX : va_X b L xs s s.heap) (hbl : b < s.heap.size) (hbA : ¬ A b) (hl : lv_has ls 4 [(3, .int (nI i)), (2, .ref qm), (1, .ref qc), (0, .ref b)]) (hi : i + 4 ≤ L) (hL : L ≤ 2048) (hI : LInv s A dC dI cy qc qm H locs) (KK : ∀ (H1 : Heap) (locs1 : List Loc), LInv s A dC dI cy qc qm H1 locs1 → W p l e room_1 s m #[Value.ref b] below meth c H1 locs1 cells slots Q (F0 m 827 ls [])) : W p l e room_1 s m #[Value.ref b] below meth c H locs cells slots Q (F0 m 814 ls []) := by
  obtain ⟨ac, ah, am, it_maze_shape_width, it_maze_shape_cellCount, it_maze_shape_roomCount, it_maze_shape_doorCount, it_maze_shape_lowest, ft_maze_shape_owners, it_maze_state_size, it_maze_state_start, it_maze_state_goal, ft_maze_state_letters, ft_maze_state_open, ft_maze_state_signs, it_history_length, yz, ya, yg, yl, yo, ys, it_opener_z, ft_opener_order, ft_opener_labels, it_ways_reached, it_ways_longestDistance, it_ways_longestFirst, it_ways_longestOther, ft_ways_distances, ft_ways_parts, ft_ways_queue, it_walker_comingFrom, it_walker_room, it_walker_steps, it_walker_different, ft_walker_visited, it_text_length, ft_text_codes, it_moves_index, it_moves_reason, it_moves_room, it_saved, it_length, it_doorMany, it_drawn, it_walker, it_from, it_steps, it_faultAt, it_mover, ft_now, ft_past, ft_text, ft_doors, ft_label, ft_far, ft_ring, ft_was, R, hP, hD, hS⟩ := hI
  obtain ⟨hx, hb, -⟩ := id C
  obtain ⟨N, hN⟩ : ∃ N : Nat, 10000 ≤ N := ⟨10000, Nat.le_refl _⟩
  have hN1 : 1000 ≤ N := by omega
  obtain ⟨h, hs, hc, ⟨hh, e1, e2, hhi⟩, ⟨tt, e3, e4, htx⟩⟩ := id R
  obtain ⟨hsz, hst, hgo, hle, ho, hsg⟩ := id hc
  obtain ⟨r0, i', r', m', fa', mv', hf1, hf2⟩ := o_moved R hN1 it_moves_index it_moves_reason it_moves_room it_faultAt it_mover
  refine lv_aload_n hx hb dL_law_814 rfl (lv_at hl 2 rfl) ?_
  refine k10_moved C hr hl hP hD hS hf1 dL_law_815 (fun H1 locs1 hP hD hS => ?_)
  refine lv_aload_n hx hb dL_law_818 rfl (lv_at hl 1 rfl) ?_
  refine k11_moved C hr hl hP hD hS hf2 dL_law_819 (fun H2 locs2 hP hD hS => ?_)
  refine kEnd hx hb dL_law_822 (by decide) ?_
  exact KK H2 locs2 ⟨ac, ah, am, it_maze_shape_width, it_maze_shape_cellCount, it_maze_shape_roomCount, it_maze_shape_doorCount, it_maze_shape_lowest, ft_maze_shape_owners, it_maze_state_size, it_maze_state_start, it_maze_state_goal, ft_maze_state_letters, ft_maze_state_open, ft_maze_state_signs, it_history_length, yz, ya, yg, yl, yo, ys, it_opener_z, ft_opener_order, ft_opener_labels, it_ways_reached, it_ways_longestDistance, it_ways_longestFirst, it_ways_longestOther, ft_ways_distances, ft_ways_parts, ft_ways_queue, it_walker_comingFrom, it_walker_room, it_walker_steps, it_walker_different, ft_walker_visited, it_text_length, ft_text_codes, i', r', m', it_saved, it_length, it_doorMany, it_drawn, it_walker, it_from, it_steps, fa', mv', ft_now, ft_past, ft_text, ft_doors, ft_label, ft_far, ft_ring, ft_was, R, hP, hD, hS⟩
end CASES

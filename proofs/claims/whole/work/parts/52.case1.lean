-- the law's cases
section CASES
variable {p : Program} {l : Launch} {e : Env} {s : State} {m : MethodId} {below : List Frame} {meth : Method} {c : Code} {b : Nat} {H : Heap} {locs : List Loc} {cells slots pc : Nat} {Q : State → Prop} {ls : Array Slot} {lvs : List (Nat × Value)} {rest : List Value} {A : Nat → Prop} {dC : Nat → ClassId} {dI : Nat → Nat → Nat} {cy : gC} {G : gT} {N : Nat} {qc qm : Nat} {ac ah am : Nat → Nat}
variable {L : Nat} {xs : Nat → Int32} {i : Nat}
set_option maxHeartbeats 4000000 in
set_option maxRecDepth 100000 in
theorem z_word (C : LC p s m c b A dC dI cy G) (hr : cells ≤ room_1.cells ∧ slots ≤ room_1.slots) (hX : va_X b L xs s s.heap) (hbl : b < s.heap.size) (hbA : ¬ A b) (hl : lv_has ls 4 [(3, .int (nI i)), (2, .ref qm), (1, .ref qc), (0, .ref b)]) (hi : i + 4 ≤ L) (hL : L ≤ 2048) (hI : LInv s A dC dI cy qc qm H locs) (KK : ∀ (H1 : Heap) (locs1 : List Loc), LInv s A dC dI cy qc qm H1 locs1 → W p l e room_1 s m #[Value.ref b] below meth c H1 locs1 cells slots Q (F0 m 827 ls [])) : W p l e room_1 s m #[Value.ref b] below meth c H locs cells slots Q (F0 m 156 ls []) := by
  obtain ⟨ac, ah, am, it_maze_shape_width, it_maze_shape_cellCount, it_maze_shape_roomCount, it_maze_shape_doorCount, it_maze_shape_lowest, ft_maze_shape_owners, it_maze_state_size, it_maze_state_start, it_maze_state_goal, ft_maze_state_letters, ft_maze_state_open, ft_maze_state_signs, it_history_length, yz, ya, yg, yl, yo, ys, it_opener_z, ft_opener_order, ft_opener_labels, it_ways_reached, it_ways_longestDistance, it_ways_longestFirst, it_ways_longestOther, ft_ways_distances, ft_ways_parts, ft_ways_queue, it_walker_comingFrom, it_walker_room, it_walker_steps, it_walker_different, ft_walker_visited, it_text_length, ft_text_codes, it_moves_index, it_moves_reason, it_moves_room, it_saved, it_length, it_doorMany, it_drawn, it_walker, it_from, it_steps, it_faultAt, it_mover, ft_now, ft_past, ft_text, ft_doors, ft_label, ft_far, ft_ring, ft_was, R, hP, hD, hS⟩ := hI
  obtain ⟨hx, hb, -⟩ := id C
  obtain ⟨N, hN⟩ : ∃ N : Nat, 10000 ≤ N := ⟨10000, Nat.le_refl _⟩
  have hN1 : 1000 ≤ N := by omega
  obtain ⟨h, hs, hc, ⟨hh, e1, e2, hhi⟩, ⟨tt, e3, e4, htx⟩⟩ := id R
  obtain ⟨hsz, hst, hgo, hle, ho, hsg⟩ := id hc
  obtain ⟨r0, w', cc', rc', dc', lo', ow', sz', st', go', le', op', sg', hn', yl', yo', ys', yz', ya', yg', saved', now', past', hf1, hf2, R⟩ := o_word R hN
  refine lv_aload_n hx hb dL_law_156 rfl (lv_at hl 2 rfl) ?_
  refine k10_word C hr hl hP hD hS hf1 dL_law_157 (fun ah' H1 locs1 hP hD hS => ?_)
  refine lv_aload_n hx hb dL_law_160 rfl (lv_at hl 1 rfl) ?_
  refine k11_word C hr hl hP hD hS hf2 dL_law_161 (fun H2 locs2 hP hD hS => ?_)
  refine kEnd hx hb dL_law_164 (by decide) ?_
  exact KK H2 locs2 ⟨ac, ah', am, w', cc', rc', dc', lo', ow', sz', st', go', le', op', sg', hn', yz', ya', yg', yl', yo', ys', it_opener_z, ft_opener_order, ft_opener_labels, it_ways_reached, it_ways_longestDistance, it_ways_longestFirst, it_ways_longestOther, ft_ways_distances, ft_ways_parts, ft_ways_queue, it_walker_comingFrom, it_walker_room, it_walker_steps, it_walker_different, ft_walker_visited, it_text_length, ft_text_codes, it_moves_index, it_moves_reason, it_moves_room, saved', it_length, it_doorMany, it_drawn, it_walker, it_from, it_steps, it_faultAt, it_mover, now', past', ft_text, ft_doors, ft_label, ft_far, ft_ring, ft_was, R, hP, hD, hS⟩
set_option maxHeartbeats 4000000 in
set_option maxRecDepth 100000 in
theorem z_letterOf (C : LC p s m c b A dC dI cy G) (hr : cells ≤ room_1.cells ∧ slots ≤ room_1.slots) (hX : va_X b L xs s s.heap) (hbl : b < s.heap.size) (hbA : ¬ A b) (hl : lv_has ls 4 [(3, .int (nI i)), (2, .ref qm), (1, .ref qc), (0, .ref b)]) (hi : i + 4 ≤ L) (hL : L ≤ 2048) (hI : LInv s A dC dI cy qc qm H locs) (KK : ∀ (H1 : Heap) (locs1 : List Loc), LInv s A dC dI cy qc qm H1 locs1 → W p l e room_1 s m #[Value.ref b] below meth c H1 locs1 cells slots Q (F0 m 827 ls [])) : W p l e room_1 s m #[Value.ref b] below meth c H locs cells slots Q (F0 m 169 ls []) := by
  obtain ⟨ac, ah, am, it_maze_shape_width, it_maze_shape_cellCount, it_maze_shape_roomCount, it_maze_shape_doorCount, it_maze_shape_lowest, ft_maze_shape_owners, it_maze_state_size, it_maze_state_start, it_maze_state_goal, ft_maze_state_letters, ft_maze_state_open, ft_maze_state_signs, it_history_length, yz, ya, yg, yl, yo, ys, it_opener_z, ft_opener_order, ft_opener_labels, it_ways_reached, it_ways_longestDistance, it_ways_longestFirst, it_ways_longestOther, ft_ways_distances, ft_ways_parts, ft_ways_queue, it_walker_comingFrom, it_walker_room, it_walker_steps, it_walker_different, ft_walker_visited, it_text_length, ft_text_codes, it_moves_index, it_moves_reason, it_moves_room, it_saved, it_length, it_doorMany, it_drawn, it_walker, it_from, it_steps, it_faultAt, it_mover, ft_now, ft_past, ft_text, ft_doors, ft_label, ft_far, ft_ring, ft_was, R, hP, hD, hS⟩ := hI
  obtain ⟨hx, hb, -⟩ := id C
  obtain ⟨N, hN⟩ : ∃ N : Nat, 10000 ≤ N := ⟨10000, Nat.le_refl _⟩
  have hN1 : 1000 ≤ N := by omega
  obtain ⟨h, hs, hc, ⟨hh, e1, e2, hhi⟩, ⟨tt, e3, e4, htx⟩⟩ := id R
  obtain ⟨hsz, hst, hgo, hle, ho, hsg⟩ := id hc
  have hf1 := tot_X10_letterOf ft_maze_shape_owners (xs (i + 1))
  have hf2 := o_letterOf h hs (xs (i + 1))
  refine lv_aload_n hx hb dL_law_169 rfl (lv_at hl 2 rfl) ?_
  refine kArg1 hx hb hX hbl hbA hS hl hi hL dL_law_170 dL_law_171 dL_law_172 dL_law_173 dL_law_174 ?_
  refine k10_letterOf C hr hl hP hD hS hf1 dL_law_175 (fun H1 locs1 hP hD hS => ?_)
  refine lv_aload_n hx hb dL_law_178 rfl (lv_at hl 1 rfl) ?_
  refine kArg1 hx hb hX hbl hbA hS hl hi hL dL_law_179 dL_law_180 dL_law_181 dL_law_182 dL_law_183 ?_
  refine k11_letterOf C hr hl hP hD hS hf2 dL_law_184 (fun H2 locs2 hP hD hS => ?_)
  refine kEnd hx hb dL_law_187 (by decide) ?_
  exact KK H2 locs2 ⟨ac, ah, am, it_maze_shape_width, it_maze_shape_cellCount, it_maze_shape_roomCount, it_maze_shape_doorCount, it_maze_shape_lowest, ft_maze_shape_owners, it_maze_state_size, it_maze_state_start, it_maze_state_goal, ft_maze_state_letters, ft_maze_state_open, ft_maze_state_signs, it_history_length, yz, ya, yg, yl, yo, ys, it_opener_z, ft_opener_order, ft_opener_labels, it_ways_reached, it_ways_longestDistance, it_ways_longestFirst, it_ways_longestOther, ft_ways_distances, ft_ways_parts, ft_ways_queue, it_walker_comingFrom, it_walker_room, it_walker_steps, it_walker_different, ft_walker_visited, it_text_length, ft_text_codes, it_moves_index, it_moves_reason, it_moves_room, it_saved, it_length, it_doorMany, it_drawn, it_walker, it_from, it_steps, it_faultAt, it_mover, ft_now, ft_past, ft_text, ft_doors, ft_label, ft_far, ft_ring, ft_was, R, hP, hD, hS⟩
set_option maxHeartbeats 4000000 in
set_option maxRecDepth 100000 in
theorem z_letter (C : LC p s m c b A dC dI cy G) (hr : cells ≤ room_1.cells ∧ slots ≤ room_1.slots) (hX : va_X b L xs s s.heap) (hbl : b < s.heap.size) (hbA : ¬ A b) (hl : lv_has ls 4 [(3, .int (nI i)), (2, .ref qm), (1, .ref qc), (0, .ref b)]) (hi : i + 4 ≤ L) (hL : L ≤ 2048) (hI : LInv s A dC dI cy qc qm H locs) (KK : ∀ (H1 : Heap) (locs1 : List Loc), LInv s A dC dI cy qc qm H1 locs1 → W p l e room_1 s m #[Value.ref b] below meth c H1 locs1 cells slots Q (F0 m 827 ls [])) : W p l e room_1 s m #[Value.ref b] below meth c H locs cells slots Q (F0 m 192 ls []) := by
  obtain ⟨ac, ah, am, it_maze_shape_width, it_maze_shape_cellCount, it_maze_shape_roomCount, it_maze_shape_doorCount, it_maze_shape_lowest, ft_maze_shape_owners, it_maze_state_size, it_maze_state_start, it_maze_state_goal, ft_maze_state_letters, ft_maze_state_open, ft_maze_state_signs, it_history_length, yz, ya, yg, yl, yo, ys, it_opener_z, ft_opener_order, ft_opener_labels, it_ways_reached, it_ways_longestDistance, it_ways_longestFirst, it_ways_longestOther, ft_ways_distances, ft_ways_parts, ft_ways_queue, it_walker_comingFrom, it_walker_room, it_walker_steps, it_walker_different, ft_walker_visited, it_text_length, ft_text_codes, it_moves_index, it_moves_reason, it_moves_room, it_saved, it_length, it_doorMany, it_drawn, it_walker, it_from, it_steps, it_faultAt, it_mover, ft_now, ft_past, ft_text, ft_doors, ft_label, ft_far, ft_ring, ft_was, R, hP, hD, hS⟩ := hI
  obtain ⟨hx, hb, -⟩ := id C
  obtain ⟨N, hN⟩ : ∃ N : Nat, 10000 ≤ N := ⟨10000, Nat.le_refl _⟩
  have hN1 : 1000 ≤ N := by omega
  obtain ⟨h, hs, hc, ⟨hh, e1, e2, hhi⟩, ⟨tt, e3, e4, htx⟩⟩ := id R
  obtain ⟨hsz, hst, hgo, hle, ho, hsg⟩ := id hc
  obtain ⟨r0, hf1, hf2⟩ := o_letter h hs hc hN1 (xs (i + 1)) (xs (i + 2))
  refine lv_aload_n hx hb dL_law_192 rfl (lv_at hl 2 rfl) ?_
  refine kArg1 hx hb hX hbl hbA hS hl hi hL dL_law_193 dL_law_194 dL_law_195 dL_law_196 dL_law_197 ?_
  refine kArg2 hx hb hX hbl hbA hS hl hi hL dL_law_198 dL_law_199 dL_law_200 dL_law_201 dL_law_202 ?_
  refine k10_letter C hr hl hP hD hS hf1 dL_law_203 (fun H1 locs1 hP hD hS => ?_)
  refine lv_aload_n hx hb dL_law_206 rfl (lv_at hl 1 rfl) ?_
  refine kArg1 hx hb hX hbl hbA hS hl hi hL dL_law_207 dL_law_208 dL_law_209 dL_law_210 dL_law_211 ?_
  refine kArg2 hx hb hX hbl hbA hS hl hi hL dL_law_212 dL_law_213 dL_law_214 dL_law_215 dL_law_216 ?_
  refine k11_letter C hr hl hP hD hS hf2 dL_law_217 (fun H2 locs2 hP hD hS => ?_)
  refine kEnd hx hb dL_law_220 (by decide) ?_
  exact KK H2 locs2 ⟨ac, ah, am, it_maze_shape_width, it_maze_shape_cellCount, it_maze_shape_roomCount, it_maze_shape_doorCount, it_maze_shape_lowest, ft_maze_shape_owners, it_maze_state_size, it_maze_state_start, it_maze_state_goal, ft_maze_state_letters, ft_maze_state_open, ft_maze_state_signs, it_history_length, yz, ya, yg, yl, yo, ys, it_opener_z, ft_opener_order, ft_opener_labels, it_ways_reached, it_ways_longestDistance, it_ways_longestFirst, it_ways_longestOther, ft_ways_distances, ft_ways_parts, ft_ways_queue, it_walker_comingFrom, it_walker_room, it_walker_steps, it_walker_different, ft_walker_visited, it_text_length, ft_text_codes, it_moves_index, it_moves_reason, it_moves_room, it_saved, it_length, it_doorMany, it_drawn, it_walker, it_from, it_steps, it_faultAt, it_mover, ft_now, ft_past, ft_text, ft_doors, ft_label, ft_far, ft_ring, ft_was, R, hP, hD, hS⟩
set_option maxHeartbeats 4000000 in
set_option maxRecDepth 100000 in
theorem z_isRoom (C : LC p s m c b A dC dI cy G) (hr : cells ≤ room_1.cells ∧ slots ≤ room_1.slots) (hX : va_X b L xs s s.heap) (hbl : b < s.heap.size) (hbA : ¬ A b) (hl : lv_has ls 4 [(3, .int (nI i)), (2, .ref qm), (1, .ref qc), (0, .ref b)]) (hi : i + 4 ≤ L) (hL : L ≤ 2048) (hI : LInv s A dC dI cy qc qm H locs) (KK : ∀ (H1 : Heap) (locs1 : List Loc), LInv s A dC dI cy qc qm H1 locs1 → W p l e room_1 s m #[Value.ref b] below meth c H1 locs1 cells slots Q (F0 m 827 ls [])) : W p l e room_1 s m #[Value.ref b] below meth c H locs cells slots Q (F0 m 225 ls []) := by
  obtain ⟨ac, ah, am, it_maze_shape_width, it_maze_shape_cellCount, it_maze_shape_roomCount, it_maze_shape_doorCount, it_maze_shape_lowest, ft_maze_shape_owners, it_maze_state_size, it_maze_state_start, it_maze_state_goal, ft_maze_state_letters, ft_maze_state_open, ft_maze_state_signs, it_history_length, yz, ya, yg, yl, yo, ys, it_opener_z, ft_opener_order, ft_opener_labels, it_ways_reached, it_ways_longestDistance, it_ways_longestFirst, it_ways_longestOther, ft_ways_distances, ft_ways_parts, ft_ways_queue, it_walker_comingFrom, it_walker_room, it_walker_steps, it_walker_different, ft_walker_visited, it_text_length, ft_text_codes, it_moves_index, it_moves_reason, it_moves_room, it_saved, it_length, it_doorMany, it_drawn, it_walker, it_from, it_steps, it_faultAt, it_mover, ft_now, ft_past, ft_text, ft_doors, ft_label, ft_far, ft_ring, ft_was, R, hP, hD, hS⟩ := hI
  obtain ⟨hx, hb, -⟩ := id C
  obtain ⟨N, hN⟩ : ∃ N : Nat, 10000 ≤ N := ⟨10000, Nat.le_refl _⟩
  have hN1 : 1000 ≤ N := by omega
  obtain ⟨h, hs, hc, ⟨hh, e1, e2, hhi⟩, ⟨tt, e3, e4, htx⟩⟩ := id R
  obtain ⟨hsz, hst, hgo, hle, ho, hsg⟩ := id hc
  have hf1 := tot_X10_isRoom it_maze_shape_cellCount ft_maze_shape_owners (xs (i + 1))
  have hf2 := o_isRoom h hs (xs (i + 1))
  refine lv_aload_n hx hb dL_law_225 rfl (lv_at hl 2 rfl) ?_
  refine kArg1 hx hb hX hbl hbA hS hl hi hL dL_law_226 dL_law_227 dL_law_228 dL_law_229 dL_law_230 ?_
  refine k10_isRoom C hr hl hP hD hS hf1 dL_law_231 (fun H1 locs1 hP hD hS => ?_)
  refine lv_aload_n hx hb dL_law_234 rfl (lv_at hl 1 rfl) ?_
  refine kArg1 hx hb hX hbl hbA hS hl hi hL dL_law_235 dL_law_236 dL_law_237 dL_law_238 dL_law_239 ?_
  refine k11_isRoom C hr hl hP hD hS hf2 dL_law_240 (fun H2 locs2 hP hD hS => ?_)
  refine kEnd hx hb dL_law_243 (by decide) ?_
  exact KK H2 locs2 ⟨ac, ah, am, it_maze_shape_width, it_maze_shape_cellCount, it_maze_shape_roomCount, it_maze_shape_doorCount, it_maze_shape_lowest, ft_maze_shape_owners, it_maze_state_size, it_maze_state_start, it_maze_state_goal, ft_maze_state_letters, ft_maze_state_open, ft_maze_state_signs, it_history_length, yz, ya, yg, yl, yo, ys, it_opener_z, ft_opener_order, ft_opener_labels, it_ways_reached, it_ways_longestDistance, it_ways_longestFirst, it_ways_longestOther, ft_ways_distances, ft_ways_parts, ft_ways_queue, it_walker_comingFrom, it_walker_room, it_walker_steps, it_walker_different, ft_walker_visited, it_text_length, ft_text_codes, it_moves_index, it_moves_reason, it_moves_room, it_saved, it_length, it_doorMany, it_drawn, it_walker, it_from, it_steps, it_faultAt, it_mover, ft_now, ft_past, ft_text, ft_doors, ft_label, ft_far, ft_ring, ft_was, R, hP, hD, hS⟩
set_option maxHeartbeats 4000000 in
set_option maxRecDepth 100000 in
theorem z_make (C : LC p s m c b A dC dI cy G) (hr : cells ≤ room_1.cells ∧ slots ≤ room_1.slots) (hX : va_X b L xs s s.heap) (hbl : b < s.heap.size) (hbA : ¬ A b) (hl : lv_has ls 4 [(3, .int (nI i)), (2, .ref qm), (1, .ref qc), (0, .ref b)]) (hi : i + 4 ≤ L) (hL : L ≤ 2048) (hI : LInv s A dC dI cy qc qm H locs) (KK : ∀ (H1 : Heap) (locs1 : List Loc), LInv s A dC dI cy qc qm H1 locs1 → W p l e room_1 s m #[Value.ref b] below meth c H1 locs1 cells slots Q (F0 m 827 ls [])) : W p l e room_1 s m #[Value.ref b] below meth c H locs cells slots Q (F0 m 248 ls []) := by
  obtain ⟨ac, ah, am, it_maze_shape_width, it_maze_shape_cellCount, it_maze_shape_roomCount, it_maze_shape_doorCount, it_maze_shape_lowest, ft_maze_shape_owners, it_maze_state_size, it_maze_state_start, it_maze_state_goal, ft_maze_state_letters, ft_maze_state_open, ft_maze_state_signs, it_history_length, yz, ya, yg, yl, yo, ys, it_opener_z, ft_opener_order, ft_opener_labels, it_ways_reached, it_ways_longestDistance, it_ways_longestFirst, it_ways_longestOther, ft_ways_distances, ft_ways_parts, ft_ways_queue, it_walker_comingFrom, it_walker_room, it_walker_steps, it_walker_different, ft_walker_visited, it_text_length, ft_text_codes, it_moves_index, it_moves_reason, it_moves_room, it_saved, it_length, it_doorMany, it_drawn, it_walker, it_from, it_steps, it_faultAt, it_mover, ft_now, ft_past, ft_text, ft_doors, ft_label, ft_far, ft_ring, ft_was, R, hP, hD, hS⟩ := hI
  obtain ⟨hx, hb, -⟩ := id C
  obtain ⟨N, hN⟩ : ∃ N : Nat, 10000 ≤ N := ⟨10000, Nat.le_refl _⟩
  have hN1 : 1000 ≤ N := by omega
  obtain ⟨h, hs, hc, ⟨hh, e1, e2, hhi⟩, ⟨tt, e3, e4, htx⟩⟩ := id R
  obtain ⟨hsz, hst, hgo, hle, ho, hsg⟩ := id hc
  obtain ⟨r0, op', hn', yl', yo', ys', yz', ya', yg', cz', o', lab', saved', dm', dr', now', past', doors', label', hf1, hf2, R⟩ := o_make R hN it_opener_z ft_opener_order ft_opener_labels it_doorMany it_drawn ft_doors ft_label (xs (i + 1))
  refine lv_aload_n hx hb dL_law_248 rfl (lv_at hl 2 rfl) ?_
  refine kArg1 hx hb hX hbl hbA hS hl hi hL dL_law_249 dL_law_250 dL_law_251 dL_law_252 dL_law_253 ?_
  refine k10_make C hr hl hP hD hS hf1 dL_law_254 (fun ah' H1 locs1 hP hD hS => ?_)
  refine lv_aload_n hx hb dL_law_257 rfl (lv_at hl 1 rfl) ?_
  refine kArg1 hx hb hX hbl hbA hS hl hi hL dL_law_258 dL_law_259 dL_law_260 dL_law_261 dL_law_262 ?_
  refine k11_make C hr hl hP hD hS hf2 dL_law_263 (fun H2 locs2 hP hD hS => ?_)
  refine kEnd hx hb dL_law_266 (by decide) ?_
  exact KK H2 locs2 ⟨ac, ah', am, it_maze_shape_width, it_maze_shape_cellCount, it_maze_shape_roomCount, it_maze_shape_doorCount, it_maze_shape_lowest, ft_maze_shape_owners, it_maze_state_size, it_maze_state_start, it_maze_state_goal, ft_maze_state_letters, op', ft_maze_state_signs, hn', yz', ya', yg', yl', yo', ys', cz', o', lab', it_ways_reached, it_ways_longestDistance, it_ways_longestFirst, it_ways_longestOther, ft_ways_distances, ft_ways_parts, ft_ways_queue, it_walker_comingFrom, it_walker_room, it_walker_steps, it_walker_different, ft_walker_visited, it_text_length, ft_text_codes, it_moves_index, it_moves_reason, it_moves_room, saved', it_length, dm', dr', it_walker, it_from, it_steps, it_faultAt, it_mover, now', past', ft_text, doors', label', ft_far, ft_ring, ft_was, R, hP, hD, hS⟩
set_option maxHeartbeats 4000000 in
set_option maxRecDepth 100000 in
theorem z_door (C : LC p s m c b A dC dI cy G) (hr : cells ≤ room_1.cells ∧ slots ≤ room_1.slots) (hX : va_X b L xs s s.heap) (hbl : b < s.heap.size) (hbA : ¬ A b) (hl : lv_has ls 4 [(3, .int (nI i)), (2, .ref qm), (1, .ref qc), (0, .ref b)]) (hi : i + 4 ≤ L) (hL : L ≤ 2048) (hI : LInv s A dC dI cy qc qm H locs) (KK : ∀ (H1 : Heap) (locs1 : List Loc), LInv s A dC dI cy qc qm H1 locs1 → W p l e room_1 s m #[Value.ref b] below meth c H1 locs1 cells slots Q (F0 m 827 ls [])) : W p l e room_1 s m #[Value.ref b] below meth c H locs cells slots Q (F0 m 271 ls []) := by
  obtain ⟨ac, ah, am, it_maze_shape_width, it_maze_shape_cellCount, it_maze_shape_roomCount, it_maze_shape_doorCount, it_maze_shape_lowest, ft_maze_shape_owners, it_maze_state_size, it_maze_state_start, it_maze_state_goal, ft_maze_state_letters, ft_maze_state_open, ft_maze_state_signs, it_history_length, yz, ya, yg, yl, yo, ys, it_opener_z, ft_opener_order, ft_opener_labels, it_ways_reached, it_ways_longestDistance, it_ways_longestFirst, it_ways_longestOther, ft_ways_distances, ft_ways_parts, ft_ways_queue, it_walker_comingFrom, it_walker_room, it_walker_steps, it_walker_different, ft_walker_visited, it_text_length, ft_text_codes, it_moves_index, it_moves_reason, it_moves_room, it_saved, it_length, it_doorMany, it_drawn, it_walker, it_from, it_steps, it_faultAt, it_mover, ft_now, ft_past, ft_text, ft_doors, ft_label, ft_far, ft_ring, ft_was, R, hP, hD, hS⟩ := hI
  obtain ⟨hx, hb, -⟩ := id C
  obtain ⟨N, hN⟩ : ∃ N : Nat, 10000 ≤ N := ⟨10000, Nat.le_refl _⟩
  have hN1 : 1000 ≤ N := by omega
  obtain ⟨h, hs, hc, ⟨hh, e1, e2, hhi⟩, ⟨tt, e3, e4, htx⟩⟩ := id R
  obtain ⟨hsz, hst, hgo, hle, ho, hsg⟩ := id hc
  obtain ⟨r0, op', hn', yl', yo', ys', yz', ya', yg', saved', now', past', hf1, hf2, R⟩ := o_door R hN (xs (i + 1)) (xs (i + 2)) (xs (i + 3))
  refine lv_aload_n hx hb dL_law_271 rfl (lv_at hl 2 rfl) ?_
  refine kArg1 hx hb hX hbl hbA hS hl hi hL dL_law_272 dL_law_273 dL_law_274 dL_law_275 dL_law_276 ?_
  refine kArg2 hx hb hX hbl hbA hS hl hi hL dL_law_277 dL_law_278 dL_law_279 dL_law_280 dL_law_281 ?_
  refine kArg3 hx hb hX hbl hbA hS hl hi hL dL_law_282 dL_law_283 dL_law_284 dL_law_285 dL_law_286 ?_
  refine k10_door C hr hl hP hD hS hf1 dL_law_287 (fun ah' H1 locs1 hP hD hS => ?_)
  refine lv_aload_n hx hb dL_law_290 rfl (lv_at hl 1 rfl) ?_
  refine kArg1 hx hb hX hbl hbA hS hl hi hL dL_law_291 dL_law_292 dL_law_293 dL_law_294 dL_law_295 ?_
  refine kArg2 hx hb hX hbl hbA hS hl hi hL dL_law_296 dL_law_297 dL_law_298 dL_law_299 dL_law_300 ?_
  refine kArg3 hx hb hX hbl hbA hS hl hi hL dL_law_301 dL_law_302 dL_law_303 dL_law_304 dL_law_305 ?_
  refine k11_door C hr hl hP hD hS hf2 dL_law_306 (fun H2 locs2 hP hD hS => ?_)
  refine kEnd hx hb dL_law_309 (by decide) ?_
  exact KK H2 locs2 ⟨ac, ah', am, it_maze_shape_width, it_maze_shape_cellCount, it_maze_shape_roomCount, it_maze_shape_doorCount, it_maze_shape_lowest, ft_maze_shape_owners, it_maze_state_size, it_maze_state_start, it_maze_state_goal, ft_maze_state_letters, op', ft_maze_state_signs, hn', yz', ya', yg', yl', yo', ys', it_opener_z, ft_opener_order, ft_opener_labels, it_ways_reached, it_ways_longestDistance, it_ways_longestFirst, it_ways_longestOther, ft_ways_distances, ft_ways_parts, ft_ways_queue, it_walker_comingFrom, it_walker_room, it_walker_steps, it_walker_different, ft_walker_visited, it_text_length, ft_text_codes, it_moves_index, it_moves_reason, it_moves_room, saved', it_length, it_doorMany, it_drawn, it_walker, it_from, it_steps, it_faultAt, it_mover, now', past', ft_text, ft_doors, ft_label, ft_far, ft_ring, ft_was, R, hP, hD, hS⟩
set_option maxHeartbeats 4000000 in
set_option maxRecDepth 100000 in
theorem z_doors (C : LC p s m c b A dC dI cy G) (hr : cells ≤ room_1.cells ∧ slots ≤ room_1.slots) (hX : va_X b L xs s s.heap) (hbl : b < s.heap.size) (hbA : ¬ A b) (hl : lv_has ls 4 [(3, .int (nI i)), (2, .ref qm), (1, .ref qc), (0, .ref b)]) (hi : i + 4 ≤ L) (hL : L ≤ 2048) (hI : LInv s A dC dI cy qc qm H locs) (KK : ∀ (H1 : Heap) (locs1 : List Loc), LInv s A dC dI cy qc qm H1 locs1 → W p l e room_1 s m #[Value.ref b] below meth c H1 locs1 cells slots Q (F0 m 827 ls [])) : W p l e room_1 s m #[Value.ref b] below meth c H locs cells slots Q (F0 m 314 ls []) := by
  obtain ⟨ac, ah, am, it_maze_shape_width, it_maze_shape_cellCount, it_maze_shape_roomCount, it_maze_shape_doorCount, it_maze_shape_lowest, ft_maze_shape_owners, it_maze_state_size, it_maze_state_start, it_maze_state_goal, ft_maze_state_letters, ft_maze_state_open, ft_maze_state_signs, it_history_length, yz, ya, yg, yl, yo, ys, it_opener_z, ft_opener_order, ft_opener_labels, it_ways_reached, it_ways_longestDistance, it_ways_longestFirst, it_ways_longestOther, ft_ways_distances, ft_ways_parts, ft_ways_queue, it_walker_comingFrom, it_walker_room, it_walker_steps, it_walker_different, ft_walker_visited, it_text_length, ft_text_codes, it_moves_index, it_moves_reason, it_moves_room, it_saved, it_length, it_doorMany, it_drawn, it_walker, it_from, it_steps, it_faultAt, it_mover, ft_now, ft_past, ft_text, ft_doors, ft_label, ft_far, ft_ring, ft_was, R, hP, hD, hS⟩ := hI
  obtain ⟨hx, hb, -⟩ := id C
  obtain ⟨N, hN⟩ : ∃ N : Nat, 10000 ≤ N := ⟨10000, Nat.le_refl _⟩
  have hN1 : 1000 ≤ N := by omega
  obtain ⟨h, hs, hc, ⟨hh, e1, e2, hhi⟩, ⟨tt, e3, e4, htx⟩⟩ := id R
  obtain ⟨hsz, hst, hgo, hle, ho, hsg⟩ := id hc
  have hf1 := tot_X10_doors ft_maze_shape_owners ft_maze_state_open (xs (i + 1))
  have hf2 := o_doors h hs ho hN1 (xs (i + 1))
  refine lv_aload_n hx hb dL_law_314 rfl (lv_at hl 2 rfl) ?_
  refine kArg1 hx hb hX hbl hbA hS hl hi hL dL_law_315 dL_law_316 dL_law_317 dL_law_318 dL_law_319 ?_
  refine k10_doors C hr hl hP hD hS hf1 dL_law_320 (fun H1 locs1 hP hD hS => ?_)
  refine lv_aload_n hx hb dL_law_323 rfl (lv_at hl 1 rfl) ?_
  refine kArg1 hx hb hX hbl hbA hS hl hi hL dL_law_324 dL_law_325 dL_law_326 dL_law_327 dL_law_328 ?_
  refine k11_doors C hr hl hP hD hS hf2 dL_law_329 (fun H2 locs2 hP hD hS => ?_)
  refine kEnd hx hb dL_law_332 (by decide) ?_
  exact KK H2 locs2 ⟨ac, ah, am, it_maze_shape_width, it_maze_shape_cellCount, it_maze_shape_roomCount, it_maze_shape_doorCount, it_maze_shape_lowest, ft_maze_shape_owners, it_maze_state_size, it_maze_state_start, it_maze_state_goal, ft_maze_state_letters, ft_maze_state_open, ft_maze_state_signs, it_history_length, yz, ya, yg, yl, yo, ys, it_opener_z, ft_opener_order, ft_opener_labels, it_ways_reached, it_ways_longestDistance, it_ways_longestFirst, it_ways_longestOther, ft_ways_distances, ft_ways_parts, ft_ways_queue, it_walker_comingFrom, it_walker_room, it_walker_steps, it_walker_different, ft_walker_visited, it_text_length, ft_text_codes, it_moves_index, it_moves_reason, it_moves_room, it_saved, it_length, it_doorMany, it_drawn, it_walker, it_from, it_steps, it_faultAt, it_mover, ft_now, ft_past, ft_text, ft_doors, ft_label, ft_far, ft_ring, ft_was, R, hP, hD, hS⟩
set_option maxHeartbeats 4000000 in
set_option maxRecDepth 100000 in
theorem z_count (C : LC p s m c b A dC dI cy G) (hr : cells ≤ room_1.cells ∧ slots ≤ room_1.slots) (hX : va_X b L xs s s.heap) (hbl : b < s.heap.size) (hbA : ¬ A b) (hl : lv_has ls 4 [(3, .int (nI i)), (2, .ref qm), (1, .ref qc), (0, .ref b)]) (hi : i + 4 ≤ L) (hL : L ≤ 2048) (hI : LInv s A dC dI cy qc qm H locs) (KK : ∀ (H1 : Heap) (locs1 : List Loc), LInv s A dC dI cy qc qm H1 locs1 → W p l e room_1 s m #[Value.ref b] below meth c H1 locs1 cells slots Q (F0 m 827 ls [])) : W p l e room_1 s m #[Value.ref b] below meth c H locs cells slots Q (F0 m 337 ls []) := by
  obtain ⟨ac, ah, am, it_maze_shape_width, it_maze_shape_cellCount, it_maze_shape_roomCount, it_maze_shape_doorCount, it_maze_shape_lowest, ft_maze_shape_owners, it_maze_state_size, it_maze_state_start, it_maze_state_goal, ft_maze_state_letters, ft_maze_state_open, ft_maze_state_signs, it_history_length, yz, ya, yg, yl, yo, ys, it_opener_z, ft_opener_order, ft_opener_labels, it_ways_reached, it_ways_longestDistance, it_ways_longestFirst, it_ways_longestOther, ft_ways_distances, ft_ways_parts, ft_ways_queue, it_walker_comingFrom, it_walker_room, it_walker_steps, it_walker_different, ft_walker_visited, it_text_length, ft_text_codes, it_moves_index, it_moves_reason, it_moves_room, it_saved, it_length, it_doorMany, it_drawn, it_walker, it_from, it_steps, it_faultAt, it_mover, ft_now, ft_past, ft_text, ft_doors, ft_label, ft_far, ft_ring, ft_was, R, hP, hD, hS⟩ := hI
  obtain ⟨hx, hb, -⟩ := id C
  obtain ⟨N, hN⟩ : ∃ N : Nat, 10000 ≤ N := ⟨10000, Nat.le_refl _⟩
  have hN1 : 1000 ≤ N := by omega
  obtain ⟨h, hs, hc, ⟨hh, e1, e2, hhi⟩, ⟨tt, e3, e4, htx⟩⟩ := id R
  obtain ⟨hsz, hst, hgo, hle, ho, hsg⟩ := id hc
  obtain ⟨r0, re', D', pa', Q', dm', doors', lab', hf1, hf2⟩ := o_count h hs hc hN1 it_history_length it_text_length it_ways_reached it_doorMany ft_ways_distances ft_ways_parts ft_ways_queue ft_doors ft_label (xs (i + 1))
  rw [show it_history_length = it_saved from e1.trans e2.symm, show it_text_length = it_length from e3.trans e4.symm] at hf2
  refine lv_aload_n hx hb dL_law_337 rfl (lv_at hl 2 rfl) ?_
  refine kArg1 hx hb hX hbl hbA hS hl hi hL dL_law_338 dL_law_339 dL_law_340 dL_law_341 dL_law_342 ?_
  refine k10_count C hr hl hP hD hS hf1 dL_law_343 (fun H1 locs1 hP hD hS => ?_)
  refine lv_aload_n hx hb dL_law_346 rfl (lv_at hl 1 rfl) ?_
  refine kArg1 hx hb hX hbl hbA hS hl hi hL dL_law_347 dL_law_348 dL_law_349 dL_law_350 dL_law_351 ?_
  refine k11_count C hr hl hP hD hS hf2 dL_law_352 (fun H2 locs2 hP hD hS => ?_)
  refine kEnd hx hb dL_law_355 (by decide) ?_
  exact KK H2 locs2 ⟨ac, ah, am, it_maze_shape_width, it_maze_shape_cellCount, it_maze_shape_roomCount, it_maze_shape_doorCount, it_maze_shape_lowest, ft_maze_shape_owners, it_maze_state_size, it_maze_state_start, it_maze_state_goal, ft_maze_state_letters, ft_maze_state_open, ft_maze_state_signs, it_history_length, yz, ya, yg, yl, yo, ys, it_opener_z, ft_opener_order, ft_opener_labels, re', it_ways_longestDistance, it_ways_longestFirst, it_ways_longestOther, D', pa', Q', it_walker_comingFrom, it_walker_room, it_walker_steps, it_walker_different, ft_walker_visited, it_text_length, ft_text_codes, it_moves_index, it_moves_reason, it_moves_room, it_saved, it_length, dm', it_drawn, it_walker, it_from, it_steps, it_faultAt, it_mover, ft_now, ft_past, ft_text, doors', lab', ft_far, ft_ring, ft_was, R, hP, hD, hS⟩
set_option maxHeartbeats 4000000 in
set_option maxRecDepth 100000 in
theorem z_part (C : LC p s m c b A dC dI cy G) (hr : cells ≤ room_1.cells ∧ slots ≤ room_1.slots) (hX : va_X b L xs s s.heap) (hbl : b < s.heap.size) (hbA : ¬ A b) (hl : lv_has ls 4 [(3, .int (nI i)), (2, .ref qm), (1, .ref qc), (0, .ref b)]) (hi : i + 4 ≤ L) (hL : L ≤ 2048) (hI : LInv s A dC dI cy qc qm H locs) (KK : ∀ (H1 : Heap) (locs1 : List Loc), LInv s A dC dI cy qc qm H1 locs1 → W p l e room_1 s m #[Value.ref b] below meth c H1 locs1 cells slots Q (F0 m 827 ls [])) : W p l e room_1 s m #[Value.ref b] below meth c H locs cells slots Q (F0 m 360 ls []) := by
  obtain ⟨ac, ah, am, it_maze_shape_width, it_maze_shape_cellCount, it_maze_shape_roomCount, it_maze_shape_doorCount, it_maze_shape_lowest, ft_maze_shape_owners, it_maze_state_size, it_maze_state_start, it_maze_state_goal, ft_maze_state_letters, ft_maze_state_open, ft_maze_state_signs, it_history_length, yz, ya, yg, yl, yo, ys, it_opener_z, ft_opener_order, ft_opener_labels, it_ways_reached, it_ways_longestDistance, it_ways_longestFirst, it_ways_longestOther, ft_ways_distances, ft_ways_parts, ft_ways_queue, it_walker_comingFrom, it_walker_room, it_walker_steps, it_walker_different, ft_walker_visited, it_text_length, ft_text_codes, it_moves_index, it_moves_reason, it_moves_room, it_saved, it_length, it_doorMany, it_drawn, it_walker, it_from, it_steps, it_faultAt, it_mover, ft_now, ft_past, ft_text, ft_doors, ft_label, ft_far, ft_ring, ft_was, R, hP, hD, hS⟩ := hI
  obtain ⟨hx, hb, -⟩ := id C
  obtain ⟨N, hN⟩ : ∃ N : Nat, 10000 ≤ N := ⟨10000, Nat.le_refl _⟩
  have hN1 : 1000 ≤ N := by omega
  obtain ⟨h, hs, hc, ⟨hh, e1, e2, hhi⟩, ⟨tt, e3, e4, htx⟩⟩ := id R
  obtain ⟨hsz, hst, hgo, hle, ho, hsg⟩ := id hc
  obtain ⟨r0, re', D', pa', Q', lab', hf1, hf2⟩ := o_part h hs ho hN1 it_ways_reached ft_ways_distances ft_ways_parts ft_ways_queue ft_label (xs (i + 1))
  refine lv_aload_n hx hb dL_law_360 rfl (lv_at hl 2 rfl) ?_
  refine kArg1 hx hb hX hbl hbA hS hl hi hL dL_law_361 dL_law_362 dL_law_363 dL_law_364 dL_law_365 ?_
  refine k10_part C hr hl hP hD hS hf1 dL_law_366 (fun H1 locs1 hP hD hS => ?_)
  refine lv_aload_n hx hb dL_law_369 rfl (lv_at hl 1 rfl) ?_
  refine kArg1 hx hb hX hbl hbA hS hl hi hL dL_law_370 dL_law_371 dL_law_372 dL_law_373 dL_law_374 ?_
  refine k11_part C hr hl hP hD hS hf2 dL_law_375 (fun H2 locs2 hP hD hS => ?_)
  refine kEnd hx hb dL_law_378 (by decide) ?_
  exact KK H2 locs2 ⟨ac, ah, am, it_maze_shape_width, it_maze_shape_cellCount, it_maze_shape_roomCount, it_maze_shape_doorCount, it_maze_shape_lowest, ft_maze_shape_owners, it_maze_state_size, it_maze_state_start, it_maze_state_goal, ft_maze_state_letters, ft_maze_state_open, ft_maze_state_signs, it_history_length, yz, ya, yg, yl, yo, ys, it_opener_z, ft_opener_order, ft_opener_labels, re', it_ways_longestDistance, it_ways_longestFirst, it_ways_longestOther, D', pa', Q', it_walker_comingFrom, it_walker_room, it_walker_steps, it_walker_different, ft_walker_visited, it_text_length, ft_text_codes, it_moves_index, it_moves_reason, it_moves_room, it_saved, it_length, it_doorMany, it_drawn, it_walker, it_from, it_steps, it_faultAt, it_mover, ft_now, ft_past, ft_text, ft_doors, lab', ft_far, ft_ring, ft_was, R, hP, hD, hS⟩
set_option maxHeartbeats 4000000 in
set_option maxRecDepth 100000 in
theorem z_start (C : LC p s m c b A dC dI cy G) (hr : cells ≤ room_1.cells ∧ slots ≤ room_1.slots) (hX : va_X b L xs s s.heap) (hbl : b < s.heap.size) (hbA : ¬ A b) (hl : lv_has ls 4 [(3, .int (nI i)), (2, .ref qm), (1, .ref qc), (0, .ref b)]) (hi : i + 4 ≤ L) (hL : L ≤ 2048) (hI : LInv s A dC dI cy qc qm H locs) (KK : ∀ (H1 : Heap) (locs1 : List Loc), LInv s A dC dI cy qc qm H1 locs1 → W p l e room_1 s m #[Value.ref b] below meth c H1 locs1 cells slots Q (F0 m 827 ls [])) : W p l e room_1 s m #[Value.ref b] below meth c H locs cells slots Q (F0 m 383 ls []) := by
  obtain ⟨ac, ah, am, it_maze_shape_width, it_maze_shape_cellCount, it_maze_shape_roomCount, it_maze_shape_doorCount, it_maze_shape_lowest, ft_maze_shape_owners, it_maze_state_size, it_maze_state_start, it_maze_state_goal, ft_maze_state_letters, ft_maze_state_open, ft_maze_state_signs, it_history_length, yz, ya, yg, yl, yo, ys, it_opener_z, ft_opener_order, ft_opener_labels, it_ways_reached, it_ways_longestDistance, it_ways_longestFirst, it_ways_longestOther, ft_ways_distances, ft_ways_parts, ft_ways_queue, it_walker_comingFrom, it_walker_room, it_walker_steps, it_walker_different, ft_walker_visited, it_text_length, ft_text_codes, it_moves_index, it_moves_reason, it_moves_room, it_saved, it_length, it_doorMany, it_drawn, it_walker, it_from, it_steps, it_faultAt, it_mover, ft_now, ft_past, ft_text, ft_doors, ft_label, ft_far, ft_ring, ft_was, R, hP, hD, hS⟩ := hI
  obtain ⟨hx, hb, -⟩ := id C
  obtain ⟨N, hN⟩ : ∃ N : Nat, 10000 ≤ N := ⟨10000, Nat.le_refl _⟩
  have hN1 : 1000 ≤ N := by omega
  obtain ⟨h, hs, hc, ⟨hh, e1, e2, hhi⟩, ⟨tt, e3, e4, htx⟩⟩ := id R
  obtain ⟨hsz, hst, hgo, hle, ho, hsg⟩ := id hc
  obtain ⟨r0, st', hn', yl', yo', ys', yz', ya', yg', saved', now', past', hf1, hf2, R⟩ := o_start R hN (xs (i + 1))
  refine lv_aload_n hx hb dL_law_383 rfl (lv_at hl 2 rfl) ?_
  refine kArg1 hx hb hX hbl hbA hS hl hi hL dL_law_384 dL_law_385 dL_law_386 dL_law_387 dL_law_388 ?_
  refine k10_start C hr hl hP hD hS hf1 dL_law_389 (fun ah' H1 locs1 hP hD hS => ?_)
  refine lv_aload_n hx hb dL_law_392 rfl (lv_at hl 1 rfl) ?_
  refine kArg1 hx hb hX hbl hbA hS hl hi hL dL_law_393 dL_law_394 dL_law_395 dL_law_396 dL_law_397 ?_
  refine k11_start C hr hl hP hD hS hf2 dL_law_398 (fun H2 locs2 hP hD hS => ?_)
  refine kEnd hx hb dL_law_401 (by decide) ?_
  exact KK H2 locs2 ⟨ac, ah', am, it_maze_shape_width, it_maze_shape_cellCount, it_maze_shape_roomCount, it_maze_shape_doorCount, it_maze_shape_lowest, ft_maze_shape_owners, it_maze_state_size, st', it_maze_state_goal, ft_maze_state_letters, ft_maze_state_open, ft_maze_state_signs, hn', yz', ya', yg', yl', yo', ys', it_opener_z, ft_opener_order, ft_opener_labels, it_ways_reached, it_ways_longestDistance, it_ways_longestFirst, it_ways_longestOther, ft_ways_distances, ft_ways_parts, ft_ways_queue, it_walker_comingFrom, it_walker_room, it_walker_steps, it_walker_different, ft_walker_visited, it_text_length, ft_text_codes, it_moves_index, it_moves_reason, it_moves_room, saved', it_length, it_doorMany, it_drawn, it_walker, it_from, it_steps, it_faultAt, it_mover, now', past', ft_text, ft_doors, ft_label, ft_far, ft_ring, ft_was, R, hP, hD, hS⟩
set_option maxHeartbeats 4000000 in
set_option maxRecDepth 100000 in
theorem z_goal (C : LC p s m c b A dC dI cy G) (hr : cells ≤ room_1.cells ∧ slots ≤ room_1.slots) (hX : va_X b L xs s s.heap) (hbl : b < s.heap.size) (hbA : ¬ A b) (hl : lv_has ls 4 [(3, .int (nI i)), (2, .ref qm), (1, .ref qc), (0, .ref b)]) (hi : i + 4 ≤ L) (hL : L ≤ 2048) (hI : LInv s A dC dI cy qc qm H locs) (KK : ∀ (H1 : Heap) (locs1 : List Loc), LInv s A dC dI cy qc qm H1 locs1 → W p l e room_1 s m #[Value.ref b] below meth c H1 locs1 cells slots Q (F0 m 827 ls [])) : W p l e room_1 s m #[Value.ref b] below meth c H locs cells slots Q (F0 m 406 ls []) := by
  obtain ⟨ac, ah, am, it_maze_shape_width, it_maze_shape_cellCount, it_maze_shape_roomCount, it_maze_shape_doorCount, it_maze_shape_lowest, ft_maze_shape_owners, it_maze_state_size, it_maze_state_start, it_maze_state_goal, ft_maze_state_letters, ft_maze_state_open, ft_maze_state_signs, it_history_length, yz, ya, yg, yl, yo, ys, it_opener_z, ft_opener_order, ft_opener_labels, it_ways_reached, it_ways_longestDistance, it_ways_longestFirst, it_ways_longestOther, ft_ways_distances, ft_ways_parts, ft_ways_queue, it_walker_comingFrom, it_walker_room, it_walker_steps, it_walker_different, ft_walker_visited, it_text_length, ft_text_codes, it_moves_index, it_moves_reason, it_moves_room, it_saved, it_length, it_doorMany, it_drawn, it_walker, it_from, it_steps, it_faultAt, it_mover, ft_now, ft_past, ft_text, ft_doors, ft_label, ft_far, ft_ring, ft_was, R, hP, hD, hS⟩ := hI
  obtain ⟨hx, hb, -⟩ := id C
  obtain ⟨N, hN⟩ : ∃ N : Nat, 10000 ≤ N := ⟨10000, Nat.le_refl _⟩
  have hN1 : 1000 ≤ N := by omega
  obtain ⟨h, hs, hc, ⟨hh, e1, e2, hhi⟩, ⟨tt, e3, e4, htx⟩⟩ := id R
  obtain ⟨hsz, hst, hgo, hle, ho, hsg⟩ := id hc
  obtain ⟨r0, go', hn', yl', yo', ys', yz', ya', yg', saved', now', past', hf1, hf2, R⟩ := o_goal R hN (xs (i + 1))
  refine lv_aload_n hx hb dL_law_406 rfl (lv_at hl 2 rfl) ?_
  refine kArg1 hx hb hX hbl hbA hS hl hi hL dL_law_407 dL_law_408 dL_law_409 dL_law_410 dL_law_411 ?_
  refine k10_goal C hr hl hP hD hS hf1 dL_law_412 (fun ah' H1 locs1 hP hD hS => ?_)
  refine lv_aload_n hx hb dL_law_415 rfl (lv_at hl 1 rfl) ?_
  refine kArg1 hx hb hX hbl hbA hS hl hi hL dL_law_416 dL_law_417 dL_law_418 dL_law_419 dL_law_420 ?_
  refine k11_goal C hr hl hP hD hS hf2 dL_law_421 (fun H2 locs2 hP hD hS => ?_)
  refine kEnd hx hb dL_law_424 (by decide) ?_
  exact KK H2 locs2 ⟨ac, ah', am, it_maze_shape_width, it_maze_shape_cellCount, it_maze_shape_roomCount, it_maze_shape_doorCount, it_maze_shape_lowest, ft_maze_shape_owners, it_maze_state_size, it_maze_state_start, go', ft_maze_state_letters, ft_maze_state_open, ft_maze_state_signs, hn', yz', ya', yg', yl', yo', ys', it_opener_z, ft_opener_order, ft_opener_labels, it_ways_reached, it_ways_longestDistance, it_ways_longestFirst, it_ways_longestOther, ft_ways_distances, ft_ways_parts, ft_ways_queue, it_walker_comingFrom, it_walker_room, it_walker_steps, it_walker_different, ft_walker_visited, it_text_length, ft_text_codes, it_moves_index, it_moves_reason, it_moves_room, saved', it_length, it_doorMany, it_drawn, it_walker, it_from, it_steps, it_faultAt, it_mover, now', past', ft_text, ft_doors, ft_label, ft_far, ft_ring, ft_was, R, hP, hD, hS⟩
set_option maxHeartbeats 4000000 in
set_option maxRecDepth 100000 in
theorem z_distance (C : LC p s m c b A dC dI cy G) (hr : cells ≤ room_1.cells ∧ slots ≤ room_1.slots) (hX : va_X b L xs s s.heap) (hbl : b < s.heap.size) (hbA : ¬ A b) (hl : lv_has ls 4 [(3, .int (nI i)), (2, .ref qm), (1, .ref qc), (0, .ref b)]) (hi : i + 4 ≤ L) (hL : L ≤ 2048) (hI : LInv s A dC dI cy qc qm H locs) (KK : ∀ (H1 : Heap) (locs1 : List Loc), LInv s A dC dI cy qc qm H1 locs1 → W p l e room_1 s m #[Value.ref b] below meth c H1 locs1 cells slots Q (F0 m 827 ls [])) : W p l e room_1 s m #[Value.ref b] below meth c H locs cells slots Q (F0 m 429 ls []) := by
  obtain ⟨ac, ah, am, it_maze_shape_width, it_maze_shape_cellCount, it_maze_shape_roomCount, it_maze_shape_doorCount, it_maze_shape_lowest, ft_maze_shape_owners, it_maze_state_size, it_maze_state_start, it_maze_state_goal, ft_maze_state_letters, ft_maze_state_open, ft_maze_state_signs, it_history_length, yz, ya, yg, yl, yo, ys, it_opener_z, ft_opener_order, ft_opener_labels, it_ways_reached, it_ways_longestDistance, it_ways_longestFirst, it_ways_longestOther, ft_ways_distances, ft_ways_parts, ft_ways_queue, it_walker_comingFrom, it_walker_room, it_walker_steps, it_walker_different, ft_walker_visited, it_text_length, ft_text_codes, it_moves_index, it_moves_reason, it_moves_room, it_saved, it_length, it_doorMany, it_drawn, it_walker, it_from, it_steps, it_faultAt, it_mover, ft_now, ft_past, ft_text, ft_doors, ft_label, ft_far, ft_ring, ft_was, R, hP, hD, hS⟩ := hI
  obtain ⟨hx, hb, -⟩ := id C
  obtain ⟨N, hN⟩ : ∃ N : Nat, 10000 ≤ N := ⟨10000, Nat.le_refl _⟩
  have hN1 : 1000 ≤ N := by omega
  obtain ⟨h, hs, hc, ⟨hh, e1, e2, hhi⟩, ⟨tt, e3, e4, htx⟩⟩ := id R
  obtain ⟨hsz, hst, hgo, hle, ho, hsg⟩ := id hc
  obtain ⟨r0, re', D', Q', far', ring', hf1, hf2⟩ := o_distance h hs ho hN1 it_ways_reached ft_ways_distances ft_ways_queue ft_far ft_ring (xs (i + 1)) (xs (i + 2))
  refine lv_aload_n hx hb dL_law_429 rfl (lv_at hl 2 rfl) ?_
  refine kArg1 hx hb hX hbl hbA hS hl hi hL dL_law_430 dL_law_431 dL_law_432 dL_law_433 dL_law_434 ?_
  refine kArg2 hx hb hX hbl hbA hS hl hi hL dL_law_435 dL_law_436 dL_law_437 dL_law_438 dL_law_439 ?_
  refine k10_distance C hr hl hP hD hS hf1 dL_law_440 (fun H1 locs1 hP hD hS => ?_)
  refine lv_aload_n hx hb dL_law_443 rfl (lv_at hl 1 rfl) ?_
  refine kArg1 hx hb hX hbl hbA hS hl hi hL dL_law_444 dL_law_445 dL_law_446 dL_law_447 dL_law_448 ?_
  refine kArg2 hx hb hX hbl hbA hS hl hi hL dL_law_449 dL_law_450 dL_law_451 dL_law_452 dL_law_453 ?_
  refine k11_distance C hr hl hP hD hS hf2 dL_law_454 (fun H2 locs2 hP hD hS => ?_)
  refine kEnd hx hb dL_law_457 (by decide) ?_
  exact KK H2 locs2 ⟨ac, ah, am, it_maze_shape_width, it_maze_shape_cellCount, it_maze_shape_roomCount, it_maze_shape_doorCount, it_maze_shape_lowest, ft_maze_shape_owners, it_maze_state_size, it_maze_state_start, it_maze_state_goal, ft_maze_state_letters, ft_maze_state_open, ft_maze_state_signs, it_history_length, yz, ya, yg, yl, yo, ys, it_opener_z, ft_opener_order, ft_opener_labels, re', it_ways_longestDistance, it_ways_longestFirst, it_ways_longestOther, D', ft_ways_parts, Q', it_walker_comingFrom, it_walker_room, it_walker_steps, it_walker_different, ft_walker_visited, it_text_length, ft_text_codes, it_moves_index, it_moves_reason, it_moves_room, it_saved, it_length, it_doorMany, it_drawn, it_walker, it_from, it_steps, it_faultAt, it_mover, ft_now, ft_past, ft_text, ft_doors, ft_label, far', ring', ft_was, R, hP, hD, hS⟩
set_option maxHeartbeats 4000000 in
set_option maxRecDepth 100000 in
theorem z_again (C : LC p s m c b A dC dI cy G) (hr : cells ≤ room_1.cells ∧ slots ≤ room_1.slots) (hX : va_X b L xs s s.heap) (hbl : b < s.heap.size) (hbA : ¬ A b) (hl : lv_has ls 4 [(3, .int (nI i)), (2, .ref qm), (1, .ref qc), (0, .ref b)]) (hi : i + 4 ≤ L) (hL : L ≤ 2048) (hI : LInv s A dC dI cy qc qm H locs) (KK : ∀ (H1 : Heap) (locs1 : List Loc), LInv s A dC dI cy qc qm H1 locs1 → W p l e room_1 s m #[Value.ref b] below meth c H1 locs1 cells slots Q (F0 m 827 ls [])) : W p l e room_1 s m #[Value.ref b] below meth c H locs cells slots Q (F0 m 462 ls []) := by
  obtain ⟨ac, ah, am, it_maze_shape_width, it_maze_shape_cellCount, it_maze_shape_roomCount, it_maze_shape_doorCount, it_maze_shape_lowest, ft_maze_shape_owners, it_maze_state_size, it_maze_state_start, it_maze_state_goal, ft_maze_state_letters, ft_maze_state_open, ft_maze_state_signs, it_history_length, yz, ya, yg, yl, yo, ys, it_opener_z, ft_opener_order, ft_opener_labels, it_ways_reached, it_ways_longestDistance, it_ways_longestFirst, it_ways_longestOther, ft_ways_distances, ft_ways_parts, ft_ways_queue, it_walker_comingFrom, it_walker_room, it_walker_steps, it_walker_different, ft_walker_visited, it_text_length, ft_text_codes, it_moves_index, it_moves_reason, it_moves_room, it_saved, it_length, it_doorMany, it_drawn, it_walker, it_from, it_steps, it_faultAt, it_mover, ft_now, ft_past, ft_text, ft_doors, ft_label, ft_far, ft_ring, ft_was, R, hP, hD, hS⟩ := hI
  obtain ⟨hx, hb, -⟩ := id C
  obtain ⟨N, hN⟩ : ∃ N : Nat, 10000 ≤ N := ⟨10000, Nat.le_refl _⟩
  have hN1 : 1000 ≤ N := by omega
  obtain ⟨h, hs, hc, ⟨hh, e1, e2, hhi⟩, ⟨tt, e3, e4, htx⟩⟩ := id R
  obtain ⟨hsz, hst, hgo, hle, ho, hsg⟩ := id hc
  obtain ⟨r0, re', D', pa', Q', lab', far', ring', hf1, hf2⟩ := o_again h hs ho hN1 it_ways_reached ft_ways_distances ft_ways_parts ft_ways_queue ft_label ft_far ft_ring (xs (i + 1)) (xs (i + 2))
  refine lv_aload_n hx hb dL_law_462 rfl (lv_at hl 2 rfl) ?_
  refine kArg1 hx hb hX hbl hbA hS hl hi hL dL_law_463 dL_law_464 dL_law_465 dL_law_466 dL_law_467 ?_
  refine kArg2 hx hb hX hbl hbA hS hl hi hL dL_law_468 dL_law_469 dL_law_470 dL_law_471 dL_law_472 ?_
  refine k10_again C hr hl hP hD hS hf1 dL_law_473 (fun H1 locs1 hP hD hS => ?_)
  refine lv_aload_n hx hb dL_law_476 rfl (lv_at hl 1 rfl) ?_
  refine kArg1 hx hb hX hbl hbA hS hl hi hL dL_law_477 dL_law_478 dL_law_479 dL_law_480 dL_law_481 ?_
  refine kArg2 hx hb hX hbl hbA hS hl hi hL dL_law_482 dL_law_483 dL_law_484 dL_law_485 dL_law_486 ?_
  refine k11_again C hr hl hP hD hS hf2 dL_law_487 (fun H2 locs2 hP hD hS => ?_)
  refine kEnd hx hb dL_law_490 (by decide) ?_
  exact KK H2 locs2 ⟨ac, ah, am, it_maze_shape_width, it_maze_shape_cellCount, it_maze_shape_roomCount, it_maze_shape_doorCount, it_maze_shape_lowest, ft_maze_shape_owners, it_maze_state_size, it_maze_state_start, it_maze_state_goal, ft_maze_state_letters, ft_maze_state_open, ft_maze_state_signs, it_history_length, yz, ya, yg, yl, yo, ys, it_opener_z, ft_opener_order, ft_opener_labels, re', it_ways_longestDistance, it_ways_longestFirst, it_ways_longestOther, D', pa', Q', it_walker_comingFrom, it_walker_room, it_walker_steps, it_walker_different, ft_walker_visited, it_text_length, ft_text_codes, it_moves_index, it_moves_reason, it_moves_room, it_saved, it_length, it_doorMany, it_drawn, it_walker, it_from, it_steps, it_faultAt, it_mover, ft_now, ft_past, ft_text, ft_doors, lab', far', ring', ft_was, R, hP, hD, hS⟩
set_option maxHeartbeats 4000000 in
set_option maxRecDepth 100000 in
theorem z_way (C : LC p s m c b A dC dI cy G) (hr : cells ≤ room_1.cells ∧ slots ≤ room_1.slots) (hX : va_X b L xs s s.heap) (hbl : b < s.heap.size) (hbA : ¬ A b) (hl : lv_has ls 4 [(3, .int (nI i)), (2, .ref qm), (1, .ref qc), (0, .ref b)]) (hi : i + 4 ≤ L) (hL : L ≤ 2048) (hI : LInv s A dC dI cy qc qm H locs) (KK : ∀ (H1 : Heap) (locs1 : List Loc), LInv s A dC dI cy qc qm H1 locs1 → W p l e room_1 s m #[Value.ref b] below meth c H1 locs1 cells slots Q (F0 m 827 ls [])) : W p l e room_1 s m #[Value.ref b] below meth c H locs cells slots Q (F0 m 495 ls []) := by
  obtain ⟨ac, ah, am, it_maze_shape_width, it_maze_shape_cellCount, it_maze_shape_roomCount, it_maze_shape_doorCount, it_maze_shape_lowest, ft_maze_shape_owners, it_maze_state_size, it_maze_state_start, it_maze_state_goal, ft_maze_state_letters, ft_maze_state_open, ft_maze_state_signs, it_history_length, yz, ya, yg, yl, yo, ys, it_opener_z, ft_opener_order, ft_opener_labels, it_ways_reached, it_ways_longestDistance, it_ways_longestFirst, it_ways_longestOther, ft_ways_distances, ft_ways_parts, ft_ways_queue, it_walker_comingFrom, it_walker_room, it_walker_steps, it_walker_different, ft_walker_visited, it_text_length, ft_text_codes, it_moves_index, it_moves_reason, it_moves_room, it_saved, it_length, it_doorMany, it_drawn, it_walker, it_from, it_steps, it_faultAt, it_mover, ft_now, ft_past, ft_text, ft_doors, ft_label, ft_far, ft_ring, ft_was, R, hP, hD, hS⟩ := hI
  obtain ⟨hx, hb, -⟩ := id C
  obtain ⟨N, hN⟩ : ∃ N : Nat, 10000 ≤ N := ⟨10000, Nat.le_refl _⟩
  have hN1 : 1000 ≤ N := by omega
  obtain ⟨h, hs, hc, ⟨hh, e1, e2, hhi⟩, ⟨tt, e3, e4, htx⟩⟩ := id R
  obtain ⟨hsz, hst, hgo, hle, ho, hsg⟩ := id hc
  obtain ⟨r0, re', D', Q', far', ring', hf1, hf2⟩ := o_way h hs ho hN1 it_ways_reached ft_ways_distances ft_ways_queue ft_far ft_ring (xs (i + 1)) (xs (i + 2)) (xs (i + 3))
  refine lv_aload_n hx hb dL_law_495 rfl (lv_at hl 2 rfl) ?_
  refine kArg1 hx hb hX hbl hbA hS hl hi hL dL_law_496 dL_law_497 dL_law_498 dL_law_499 dL_law_500 ?_
  refine kArg2 hx hb hX hbl hbA hS hl hi hL dL_law_501 dL_law_502 dL_law_503 dL_law_504 dL_law_505 ?_
  refine kArg3 hx hb hX hbl hbA hS hl hi hL dL_law_506 dL_law_507 dL_law_508 dL_law_509 dL_law_510 ?_
  refine k10_way C hr hl hP hD hS hf1 dL_law_511 (fun H1 locs1 hP hD hS => ?_)
  refine lv_aload_n hx hb dL_law_514 rfl (lv_at hl 1 rfl) ?_
  refine kArg1 hx hb hX hbl hbA hS hl hi hL dL_law_515 dL_law_516 dL_law_517 dL_law_518 dL_law_519 ?_
  refine kArg2 hx hb hX hbl hbA hS hl hi hL dL_law_520 dL_law_521 dL_law_522 dL_law_523 dL_law_524 ?_
  refine kArg3 hx hb hX hbl hbA hS hl hi hL dL_law_525 dL_law_526 dL_law_527 dL_law_528 dL_law_529 ?_
  refine k11_way C hr hl hP hD hS hf2 dL_law_530 (fun H2 locs2 hP hD hS => ?_)
  refine kEnd hx hb dL_law_533 (by decide) ?_
  exact KK H2 locs2 ⟨ac, ah, am, it_maze_shape_width, it_maze_shape_cellCount, it_maze_shape_roomCount, it_maze_shape_doorCount, it_maze_shape_lowest, ft_maze_shape_owners, it_maze_state_size, it_maze_state_start, it_maze_state_goal, ft_maze_state_letters, ft_maze_state_open, ft_maze_state_signs, it_history_length, yz, ya, yg, yl, yo, ys, it_opener_z, ft_opener_order, ft_opener_labels, re', it_ways_longestDistance, it_ways_longestFirst, it_ways_longestOther, D', ft_ways_parts, Q', it_walker_comingFrom, it_walker_room, it_walker_steps, it_walker_different, ft_walker_visited, it_text_length, ft_text_codes, it_moves_index, it_moves_reason, it_moves_room, it_saved, it_length, it_doorMany, it_drawn, it_walker, it_from, it_steps, it_faultAt, it_mover, ft_now, ft_past, ft_text, ft_doors, ft_label, far', ring', ft_was, R, hP, hD, hS⟩
end CASES

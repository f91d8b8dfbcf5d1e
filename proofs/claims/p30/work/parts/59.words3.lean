-- the law's words among the tables' words, segment by segment
set_option maxRecDepth 20000 in
theorem i_wsL_law_r26 : ∀ w ∈ wsL_law_r26, w ∈ lw_tbl := fun w h => (goodIn_p wsL_law_r26 [760, 764, 768, 773, 776] rfl (by decide +kernel) w h).1
set_option maxRecDepth 20000 in
theorem i_wsL_law_r27 : ∀ w ∈ wsL_law_r27, w ∈ lw_tbl := fun w h => (goodIn_p wsL_law_r27 [781, 785, 790, 794, 798] rfl (by decide +kernel) w h).1
set_option maxRecDepth 20000 in
theorem i_wsL_law_r28 : ∀ w ∈ wsL_law_r28, w ∈ lw_tbl := fun w h => (goodIn_p wsL_law_r28 [802, 809] rfl (by decide +kernel) w h).1
set_option maxRecDepth 20000 in
theorem i_wsL_law_r29 : ∀ w ∈ wsL_law_r29, w ∈ lw_tbl := fun w h => (goodIn_p wsL_law_r29 [815, 818, 821, 827, 831, 835, 558] rfl (by decide +kernel) w h).1
set_option maxRecDepth 20000 in
theorem i_wsL_law_r30 : ∀ w ∈ wsL_law_r30, w ∈ lw_tbl := fun w h => (goodIn_p wsL_law_r30 [562, 850, 824, 854, 860] rfl (by decide +kernel) w h).1
set_option maxRecDepth 20000 in
theorem i_wsL_law_r31 : ∀ w ∈ wsL_law_r31, w ∈ lw_tbl := fun w h => (goodIn_p wsL_law_r31 [864, 840, 843, 847] rfl (by decide +kernel) w h).1
set_option maxRecDepth 20000 in
theorem inX10 : ∀ w ∈ wsX100, w ∈ lw_tbl := by decide +kernel
set_option maxRecDepth 20000 in
theorem inX1 : ∀ w ∈ wsX10, w ∈ lw_tbl := by decide +kernel
set_option maxRecDepth 20000 in
theorem inX0 : ∀ w ∈ wsX00, w ∈ lw_tbl := by decide +kernel
set_option maxRecDepth 20000 in
theorem inX3 : ∀ w ∈ wsX30, w ∈ lw_tbl := by decide +kernel
set_option maxRecDepth 20000 in
theorem inX9 : ∀ w ∈ wsX90, w ∈ lw_tbl := by decide +kernel
set_option maxRecDepth 20000 in
theorem inX8 : ∀ w ∈ wsX80, w ∈ lw_tbl := by decide +kernel
set_option maxRecDepth 20000 in
theorem inX7 : ∀ w ∈ wsX70, w ∈ lw_tbl := by decide +kernel
set_option maxRecDepth 20000 in
theorem inX2 : ∀ w ∈ wsX20, w ∈ lw_tbl := by decide +kernel
set_option maxRecDepth 20000 in
theorem inX6 : ∀ w ∈ wsX60, w ∈ lw_tbl := by decide +kernel
set_option maxRecDepth 20000 in
theorem inX5 : ∀ w ∈ wsX50, w ∈ lw_tbl := by decide +kernel
set_option maxRecDepth 20000 in
theorem inX4 : ∀ w ∈ wsX40, w ∈ lw_tbl := by decide +kernel
set_option maxRecDepth 20000 in
theorem wsL_law_in : ∀ w ∈ wsL_law, w ∈ lw_tbl := fun w h => (List.mem_append.mp h).elim (fun h => (List.mem_append.mp h).elim (fun h => (List.mem_append.mp h).elim (fun h => (List.mem_append.mp h).elim (fun h => (List.mem_append.mp h).elim (fun h => (List.mem_append.mp h).elim (fun h => (List.mem_append.mp h).elim (fun h => (List.mem_append.mp h).elim (fun h => (List.mem_append.mp h).elim (fun h => (List.mem_append.mp h).elim (fun h => (List.mem_append.mp h).elim (fun h => (List.mem_append.mp h).elim (fun h => (List.mem_append.mp h).elim (i_wsL_law_r1 w) (fun h => (List.mem_append.mp h).elim (i_wsL_law_r2 w) (fun h => (List.mem_append.mp h).elim (i_wsL_law_r3 w) (fun h => (List.mem_append.mp h).elim (i_wsL_law_r4 w) (fun h => (List.mem_append.mp h).elim (i_wsL_law_r5 w) (fun h => (List.mem_append.mp h).elim (i_wsL_law_r6 w) (fun h => (List.mem_append.mp h).elim (i_wsL_law_r7 w) (fun h => (List.mem_append.mp h).elim (i_wsL_law_r8 w) (fun h => (List.mem_append.mp h).elim (i_wsL_law_r9 w) (fun h => (List.mem_append.mp h).elim (i_wsL_law_r10 w) (fun h => (List.mem_append.mp h).elim (i_wsL_law_r11 w) (fun h => (List.mem_append.mp h).elim (i_wsL_law_r12 w) (fun h => (List.mem_append.mp h).elim (i_wsL_law_r13 w) (fun h => (List.mem_append.mp h).elim (i_wsL_law_r14 w) (fun h => (List.mem_append.mp h).elim (i_wsL_law_r15 w) (fun h => (List.mem_append.mp h).elim (i_wsL_law_r16 w) (fun h => (List.mem_append.mp h).elim (i_wsL_law_r17 w) (fun h => (List.mem_append.mp h).elim (i_wsL_law_r18 w) (fun h => (List.mem_append.mp h).elim (i_wsL_law_r19 w) (fun h => (List.mem_append.mp h).elim (i_wsL_law_r20 w) (fun h => (List.mem_append.mp h).elim (i_wsL_law_r21 w) (fun h => (List.mem_append.mp h).elim (i_wsL_law_r22 w) (fun h => (List.mem_append.mp h).elim (i_wsL_law_r23 w) (fun h => (List.mem_append.mp h).elim (i_wsL_law_r24 w) (fun h => (List.mem_append.mp h).elim (i_wsL_law_r25 w) (fun h => (List.mem_append.mp h).elim (i_wsL_law_r26 w) (fun h => (List.mem_append.mp h).elim (i_wsL_law_r27 w) (fun h => (List.mem_append.mp h).elim (i_wsL_law_r28 w) (fun h => (List.mem_append.mp h).elim (i_wsL_law_r29 w) (fun h => (List.mem_append.mp h).elim (i_wsL_law_r30 w) (fun h => i_wsL_law_r31 w h))))))))))))))))))))))))))))))) (inX10 w)) (inX1 w)) (inX0 w)) (inX3 w)) (inX9 w)) (inX8 w)) (inX7 w)) (inX2 w)) (inX6 w)) (inX5 w)) (inX4 w)) (fun h => absurd h List.not_mem_nil)

-- the law's words among the tables' words, segment by segment
set_option maxRecDepth 20000 in
theorem i_wsL_law_r1 : ∀ w ∈ wsL_law_r1, w ∈ lw_tbl := fun w h => (goodIn_p wsL_law_r1 [41, 44] rfl (by decide +kernel) w h).1
set_option maxRecDepth 20000 in
theorem i_wsL_law_r2 : ∀ w ∈ wsL_law_r2, w ∈ lw_tbl := fun w h => (goodIn_p wsL_law_r2 [49] rfl (by decide +kernel) w h).1
set_option maxRecDepth 20000 in
theorem i_wsL_law_r3 : ∀ w ∈ wsL_law_r3, w ∈ lw_tbl := fun w h => (goodIn_p wsL_law_r3 [55, 61, 65, 103] rfl (by decide +kernel) w h).1
set_option maxRecDepth 20000 in
theorem i_wsL_law_r4 : ∀ w ∈ wsL_law_r4, w ∈ lw_tbl := fun w h => (goodIn_p wsL_law_r4 [162, 179, 197] rfl (by decide +kernel) w h).1
set_option maxRecDepth 20000 in
theorem i_wsL_law_r5 : ∀ w ∈ wsL_law_r5, w ∈ lw_tbl := fun w h => (goodIn_p wsL_law_r5 [233, 260, 279, 296] rfl (by decide +kernel) w h).1
set_option maxRecDepth 20000 in
theorem i_wsL_law_r6 : ∀ w ∈ wsL_law_r6, w ∈ lw_tbl := fun w h => (goodIn_p wsL_law_r6 [300, 304, 308, 311] rfl (by decide +kernel) w h).1
set_option maxRecDepth 20000 in
theorem i_wsL_law_r7 : ∀ w ∈ wsL_law_r7, w ∈ lw_tbl := fun w h => (goodIn_p wsL_law_r7 [315, 319, 322, 327, 331, 335] rfl (by decide +kernel) w h).1
set_option maxRecDepth 20000 in
theorem i_wsL_law_r8 : ∀ w ∈ wsL_law_r8, w ∈ lw_tbl := fun w h => (goodIn_p wsL_law_r8 [341, 345, 348, 355, 351, 358] rfl (by decide +kernel) w h).1
set_option maxRecDepth 20000 in
theorem i_wsL_law_r9 : ∀ w ∈ wsL_law_r9, w ∈ lw_tbl := fun w h => (goodIn_p wsL_law_r9 [361, 367, 370, 373, 376, 381] rfl (by decide +kernel) w h).1

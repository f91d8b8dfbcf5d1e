-- the law's words among the tables' words, segment by segment
set_option maxRecDepth 20000 in
theorem i_wsL_law_r18 : ∀ w ∈ wsL_law_r18, w ∈ lw_tbl := fun w h => (goodIn_p wsL_law_r18 [584, 588, 592, 596, 600, 604] rfl (by decide +kernel) w h).1
set_option maxRecDepth 20000 in
theorem i_wsL_law_r19 : ∀ w ∈ wsL_law_r19, w ∈ lw_tbl := fun w h => (goodIn_p wsL_law_r19 [608, 614, 620] rfl (by decide +kernel) w h).1
set_option maxRecDepth 20000 in
theorem i_wsL_law_r20 : ∀ w ∈ wsL_law_r20, w ∈ lw_tbl := fun w h => (goodIn_p wsL_law_r20 [626, 630, 638, 642, 646] rfl (by decide +kernel) w h).1
set_option maxRecDepth 20000 in
theorem i_wsL_law_r21 : ∀ w ∈ wsL_law_r21, w ∈ lw_tbl := fun w h => (goodIn_p wsL_law_r21 [650, 656, 660, 665, 669] rfl (by decide +kernel) w h).1
set_option maxRecDepth 20000 in
theorem i_wsL_law_r22 : ∀ w ∈ wsL_law_r22, w ∈ lw_tbl := fun w h => (goodIn_p wsL_law_r22 [673, 678, 684, 688] rfl (by decide +kernel) w h).1
set_option maxRecDepth 20000 in
theorem i_wsL_law_r23 : ∀ w ∈ wsL_law_r23, w ∈ lw_tbl := fun w h => (goodIn_p wsL_law_r23 [695, 699, 703, 710, 713] rfl (by decide +kernel) w h).1
set_option maxRecDepth 20000 in
theorem i_wsL_law_r24 : ∀ w ∈ wsL_law_r24, w ∈ lw_tbl := fun w h => (goodIn_p wsL_law_r24 [720, 724, 728, 732, 736] rfl (by decide +kernel) w h).1
set_option maxRecDepth 20000 in
theorem i_wsL_law_r25 : ∀ w ∈ wsL_law_r25, w ∈ lw_tbl := fun w h => (goodIn_p wsL_law_r25 [740, 744, 748, 752, 756] rfl (by decide +kernel) w h).1

-- the answers, fifth part: texts and changes
set_option maxRecDepth 100000 in
theorem zix_dir : ∀ q : Fin 128, ixM q.val = t_X11_directionOf (nI q.val) := by decide +kernel
theorem zdir_of (x : Int32) : t_X11_directionOf x = -1 ∨ ∃ d, d < 4 ∧ t_X11_directionOf x = nI d := by
  unfold t_X11_directionOf
  by_cases h0 : x = 85
  · rw [if_pos h0]; exact Or.inr ⟨0, by decide, rfl⟩
  · rw [if_neg h0]
    by_cases h1 : x = 82
    · rw [if_pos h1]; exact Or.inr ⟨1, by decide, rfl⟩
    · rw [if_neg h1]
      by_cases h2 : x = 68
      · rw [if_pos h2]; exact Or.inr ⟨2, by decide, rfl⟩
      · rw [if_neg h2]
        by_cases h3 : x = 76
        · rw [if_pos h3]; exact Or.inr ⟨3, by decide, rfl⟩
        · rw [if_neg h3]; exact Or.inl rfl
/-- both texts -/
def zTx (t : Nat) (tc text : Nat → Int32) : Prop := t ≤ 200 ∧ ∀ k, k < t → ∃ q, 32 ≤ q ∧ q ≤ 126 ∧ tc k = nI q ∧ text k = nI q
/-- all that both sides hold -/
def zRl (w cc rc dc lo : Int32) (ow : Nat → Int32) (sz st go : Int32) (le op sg : Nat → Int32) (hn : Int32) (yl yo ys : Nat → Nat → Int32) (yz ya yg : Nat → Int32) (tl : Int32) (tc : Nat → Int32) (now past : Nat → Int32) (saved length : Int32) (text : Nat → Int32) : Prop :=
  zwf now ∧ zsh now w cc rc dc lo ow ∧ zcl now sz st go le op sg ∧ (∃ h, hn = nI h ∧ saved = nI h ∧ zhi past h yl yo ys yz ya yg) ∧ ∃ t, tl = nI t ∧ length = nI t ∧ zTx t tc text
section OP5
variable {now past op ow sg le tc text : Nat → Int32} {w cc rc dc lo sz st go hn saved tl length : Int32} {yl yo ys : Nat → Nat → Int32} {yz ya yg : Nat → Int32} {N : Nat}
theorem o_moves (h : zwf now) (hs : zsh now w cc rc dc lo ow) (hc : zcl now sz st go le op sg) (hN : 1000 ≤ N) {t : Nat} (hx : zTx t tc text) (i0 r0 m0 fa mv : Int32) :
    ∃ i r m, f_X2_read N i0 r0 m0 w ow st go op (nI t) tc = some (i, r, m) ∧ f_X11_moves N (nI t) fa mv now text = some (r, i, m) := by
  obtain ⟨c1, c2, c3, c4, ho, c6⟩ := hc
  obtain ⟨start, e7, hst⟩ := h.2.2.1
  obtain ⟨goal, e8, hgo⟩ := h.2.2.2.1
  obtain ⟨ht, hx⟩ := hx
  have g210 := zr_210 h hgo
  unfold f_X2_read f_X11_moves
  rw [c2, show (7 : Int32).toNatClampNeg = 7 from rfl, e7, c3, e8]
  have key : ∀ k, k ≤ t → ∀ F, t - k < F → ∀ c (r0 fa : Int32), zr now c = true → ∃ i r m, b_X2_read_16 N w ow (nI start) (nI goal) op (nI t) tc F (nI k) r0 (nI c) = some (i, r, m) ∧ b_X11_moves_13 N (nI t) now text F (nI k) fa (nI c) = some (r, i, m) := by
    refine dn t ?_ ?_
    · intro F hF c r0 fa hc
      obtain ⟨F, rfl⟩ : ∃ G, F = G + 1 := ⟨F - 1, by omega⟩
      rw [b_X2_read_16, b_X11_moves_13, if_pos (nI_le (Nat.le_refl _) (by omega)), if_pos (nI_le (Nat.le_refl _) (by omega)), show (8 : Int32).toNatClampNeg = 8 from rfl, e8]
      unfold b_X2_read_103
      by_cases q : nI c = nI goal
      · rw [if_pos q, if_pos q]; exact ⟨_, _, _, rfl, rfl⟩
      · rw [if_neg q, if_neg q]; exact ⟨_, _, _, rfl, rfl⟩
    · intro k hk ih F hF c r0 fa hc
      obtain ⟨F, rfl⟩ : ∃ G, F = G + 1 := ⟨F - 1, by omega⟩
      obtain ⟨q, q1, q2, q3, q4⟩ := hx k hk
      have c210 := zr_210 h hc
      have hcl := zr_lt hc
      have ed := zix_dir ⟨q, by omega⟩
      have ed : ixM q = t_X11_directionOf (nI q) := ed
      have b90 : ∀ (d : Int32) (s0 : Int32), ¬ s0 ≤ 0 → b_X11_moves_90 N (nI t) now text (b_X11_moves_13 N (nI t) now text F) (nI k) d s0 fa (nI c) = some (s0, nI k, nI c) := by
        intro d s0 hs0
        unfold b_X11_moves_90
        rw [if_neg hs0]
      rw [b_X2_read_16, if_neg (nI_ge hk (by omega)), if_neg (show ¬ (200 : Int32) ≤ nI k from nI_ge (b := 200) (by omega) (by decide)), at_lt tc (by decide) (show k < 200 by omega), q3, zchar (by omega), bnd1_e (index_s1 (by omega) (by omega)), ed]
      rw [b_X11_moves_13, if_neg (nI_ge hk (by omega)), nI_clamp (show k < 2 ^ 31 by omega), if_neg (zck (show k < 200 by omega) (by decide)), q4]
      unfold t_X2_reasonAgainst
      rcases zdir_of (nI q) with e | ⟨d, hd, e⟩
      · rw [e, if_neg (show ¬ (0 : Int32) ≤ -1 by decide), if_neg (show ¬ (0 : Int32) ≤ -1 by decide), if_neg (show ¬ (1 : Int32) = 0 by decide), b90 _ _ (by decide)]
        exact ⟨_, _, _, rfl, rfl⟩
      · rw [e, if_pos (nI_pos' (show d < 2 ^ 31 by omega)), if_pos (nI_pos' (show d < 2 ^ 31 by omega)), c_hasDoor h hs c210 hd, hc, Bool.true_and, bnd1_e (m_beside h hcl hd)]
        cases hh : zh now c d with
        | false =>
          rw [if_neg zft, if_neg (show ¬ (0 : Int32) ≤ -1 by decide), if_pos zi_f, if_neg (show ¬ (2 : Int32) = 0 by decide), b90 _ _ (by decide)]
          exact ⟨_, _, _, rfl, rfl⟩
        | true =>
          have hN2 := zN_lt h (d := d) c210
          rw [if_pos (rfl : true = true), if_pos (nI_pos' hN2), if_neg (show ¬ zi true = 0 by decide), c_isOpen ho c210 hd, bnd1_e (m_isOpen h hcl hd)]
          cases hop : zo now c d with
          | false =>
            rw [if_pos zi_f, if_pos zi_f, if_neg (show ¬ (3 : Int32) = 0 by decide), b90 _ _ (by decide)]
            exact ⟨_, _, _, rfl, rfl⟩
          | true =>
            obtain ⟨g1, g2, g3, g4⟩ := (zgr h).1 c d hd hop
            rw [if_neg (show ¬ zi true = 0 by decide), if_neg (show ¬ zi true = 0 by decide), show (8 : Int32).toNatClampNeg = 8 from rfl, e8]
            by_cases qg : nI c = nI goal
            · rw [if_pos qg, if_pos qg, if_neg (show ¬ (4 : Int32) = 0 by decide), b90 _ _ (by decide)]
              exact ⟨_, _, _, rfl, rfl⟩
            · rw [if_neg qg, if_neg qg, if_pos rfl, hs.1, c_stride h hd hh, ← hs.1, nI_1]
              unfold b_X11_moves_90
              rw [if_pos (show (0 : Int32) ≤ 0 by decide), bnd1_e (show f_X11_beside now (nI c) (nI d) = some (nI (zN (zw now) c d)) by rw [m_beside h hcl hd, if_pos hh]), nI_1]
              exact ih F (by omega) _ _ _ g2
  exact key 0 (Nat.zero_le _) N (by omega) start r0 fa hst
theorem o_fault (R : zRl w cc rc dc lo ow sz st go le op sg hn yl yo ys yz ya yg tl tc now past saved length text) (hN : 1000 ≤ N) (i0 r0 m0 fa mv x : Int32) :
    ∃ r i' r' m' fa' mv', f_X10_fault N w ow st go op tl tc i0 r0 m0 x = some (r, i', r', m') ∧ f_X11_fault N length fa mv now text x = some (r, fa', mv') := by
  obtain ⟨h, hs, hc, -, t, e1, e2, hx⟩ := R
  unfold f_X10_fault f_X11_fault
  rcases zarg x with hx0 | ⟨j, hj, rfl⟩
  · exact ⟨-1, i0, r0, m0, fa, mv, by rw [if_pos hx0], by rw [zin_neg hx0, if_pos rfl]⟩
  rw [if_neg (nI_pos hj), show t_X11_in (nI j) 0 (1 : Int32) = zi (decide (j ≤ 1)) from zin hj (by decide)]
  by_cases q : j ≤ 1
  · obtain ⟨i, r, m, k1, k2⟩ := o_moves h hs hc hN hx i0 r0 m0 fa mv
    rw [if_pos (show nI j ≤ (1 : Int32) from nI_le q (by decide)), decide_eq_true q, if_neg (show ¬ zi true = 0 by decide), e1, e2, bnd3_e k1, bnd3_e k2]
    by_cases q0 : r = 0
    · rw [if_pos q0, if_pos q0]; exact ⟨_, _, _, _, _, _, rfl, rfl⟩
    · rw [if_neg q0, if_neg q0]
      by_cases q1 : nI j = 0
      · rw [if_pos q1, if_pos q1]; exact ⟨_, _, _, _, _, _, rfl, rfl⟩
      · rw [if_neg q1, if_neg q1]; exact ⟨_, _, _, _, _, _, rfl, rfl⟩
  · rw [if_neg (show ¬ nI j ≤ (1 : Int32) from nI_ge (a := 1) (by omega) hj), decide_eq_false q, if_pos zi_f]
    exact ⟨-1, i0, r0, m0, fa, mv, rfl, rfl⟩
theorem o_type (R : zRl w cc rc dc lo ow sz st go le op sg hn yl yo ys yz ya yg tl tc now past saved length text) (x : Int32) :
    ∃ r tl' tc' length' text', f_X10_type tl tc x = some (r, tl', tc') ∧ f_X11_type length text x = some (r, length', text') ∧ zRl w cc rc dc lo ow sz st go le op sg hn yl yo ys yz ya yg tl' tc' now past saved length' text' := by
  obtain ⟨h, hs, hc, hh, t, e1, e2, ht, hx⟩ := id R
  unfold f_X10_type f_X11_type t_X11_in
  by_cases q1 : x < 32
  · rw [if_pos q1, if_pos q1, if_pos rfl]
    exact ⟨-1, tl, tc, length, text, rfl, rfl, R⟩
  · rw [if_neg q1, if_neg q1]
    by_cases q2 : 126 < x
    · rw [if_neg (Int32.not_le.mpr q2), if_pos q2, if_pos rfl]
      exact ⟨-1, tl, tc, length, text, rfl, rfl, R⟩
    · have q3 : x ≤ 126 := Int32.not_lt.mp q2
      obtain ⟨q, hq, rfl⟩ : ∃ q, q < 2 ^ 31 ∧ x = nI q := by
        rcases zarg x with hx0 | hx0
        · exact absurd (Int32.lt_trans hx0 (show (0 : Int32) < 32 by decide)) q1
        · exact hx0
      have h32 : 32 ≤ q := by
        rcases Nat.lt_or_ge q 32 with y | y
        · exact absurd (show nI q < (32 : Int32) from nI_lt (b := 32) y (by decide)) q1
        · exact y
      have h126 : q ≤ 126 := (nI_leI hq (by decide : (126 : Nat) < 2 ^ 31)).mp q3
      rw [if_pos q3, if_neg q2, if_neg (show ¬ (1 : Int32) = 0 by decide), e1, e2]
      by_cases q4 : t = 200
      · rw [if_neg (show ¬ nI t < (200 : Int32) from nI_nlt (b := 200) (by omega) (by omega)), if_pos (show nI t = (200 : Int32) by rw [q4]; rfl)]
        exact ⟨-3, nI t, tc, nI t, text, rfl, rfl, h, hs, hc, hh, t, rfl, rfl, ht, hx⟩
      · rw [if_pos (show nI t < (200 : Int32) from nI_lt (b := 200) (by omega) (by decide)), if_neg (show ¬ nI _ = (200 : Int32) from fun e => q4 ((nI_eq (by omega) (by decide : (200 : Nat) < 2 ^ 31)).mp e)), nI_clamp (show t < 2 ^ 31 by omega), if_neg (zck (show t < 200 by omega) (by decide)), nI_1, put_lt tc _ (by decide) (show t < 200 by omega)]
        refine ⟨_, _, _, _, _, rfl, rfl, h, hs, hc, hh, t + 1, rfl, rfl, by omega, fun k hk => ?_⟩
        by_cases e : k = t
        · rw [e, pk_us, pk_us]; exact ⟨q, h32, h126, rfl, rfl⟩
        · rw [pk_un e, pk_un e]; exact hx k (by omega)
theorem o_clearText (R : zRl w cc rc dc lo ow sz st go le op sg hn yl yo ys yz ya yg tl tc now past saved length text) :
    ∃ r tl' length', f_X10_clearText tl = some (r, tl') ∧ f_X11_clearText length = some (r, length') ∧ zRl w cc rc dc lo ow sz st go le op sg hn yl yo ys yz ya yg tl' tc now past saved length' text := by
  obtain ⟨h, hs, hc, hh, t, e1, e2, ht, hx⟩ := R
  unfold f_X10_clearText f_X11_clearText
  rw [e1, e2]
  exact ⟨_, _, _, rfl, rfl, h, hs, hc, hh, 0, rfl, rfl, Nat.zero_le _, fun k hk => absurd hk (Nat.not_lt_zero k)⟩
-- start, goal
theorem zput (h : zwf now) {j c : Nat} (hj : j = 7 ∨ j = 8) (hr : zr now c = true) : zwf (upd now j (nI c)) := by
  have u : ∀ k, k ≠ j → upd now j (nI c) k = now k := fun k hk => pk_un hk
  refine zwf_of h (fun k hk => u k (by omega)) ?_ ?_ ?_ ?_ ?_ ?_
  · by_cases q : j = 7
    · exact ⟨c, by rw [q, pk_us], hr⟩
    · rw [u 7 (fun e => q e.symm)]; exact h.2.2.1
  · by_cases q : j = 8
    · exact ⟨c, by rw [q, pk_us], hr⟩
    · rw [u 8 (fun e => q e.symm)]; exact h.2.2.2.1
  · intro a ha; rw [u _ (by omega)]; exact h.2.2.2.2.1 a ha
  · intro a ha; rw [u _ (by omega)]; exact h.2.2.2.2.2.1 a ha
  · intro a ha; rw [u _ (by omega)]; exact h.2.2.2.2.2.2.1 a ha
  · rw [zCt_congr (q := fun c => decide (now (429 + c) ≠ 0)) 210 (fun a ha => by rw [u _ (by omega)])]
    exact h.2.2.2.2.2.2.2
theorem zo_lo (h : zwf now) {now' : Nat → Int32} (e : ∀ k, k < 7 ∨ (9 ≤ k ∧ k < 429) → now' k = now k) : ∀ c d, d < 4 → zo now' c d = zo now c d := by
  intro c d hd
  obtain ⟨e1, e2, e3, e4, e5⟩ := zsame h (fun k hk => e k (Or.inl hk))
  unfold zo
  rw [e4, e5]
  cases hh : zh now c d with
  | false => rfl
  | true =>
    obtain ⟨l1, l2⟩ := za_lo h hd hh
    rw [Bool.true_and, Bool.true_and, e _ (Or.inr ⟨l1, l2⟩)]
theorem zcl_of (h : zwf now) {now' : Nat → Int32} (hc : zcl now sz st go le op sg) (e : ∀ k, k < 7 → now' k = now k) (ho : ∀ c d, d < 4 → zo now' c d = zo now c d) {st' go' : Int32} {sg' : Nat → Int32} (h1 : st' = now' 7) (h2 : go' = now' 8) (h3 : ∀ c, c < 210 → sg' c = now' (429 + c)) : zcl now' sz st' go' le op sg' := by
  obtain ⟨c1, c2, c3, c4, c5, c6⟩ := hc
  have hn := zwf_n h
  have en := (zsame h e).1
  refine ⟨by rw [e 0 (by omega)]; exact c1, h1, h2, fun k hk => ?_, fun c hc => ?_, h3⟩
  · rw [en] at hk
    rw [e (1 + k) (by omega)]; exact c4 k hk
  · rw [c5 c hc]
    exact congrArg nI (zmf_congr (fun d hd => (ho c d hd).symm))
theorem o_start (R : zRl w cc rc dc lo ow sz st go le op sg hn yl yo ys yz ya yg tl tc now past saved length text) (hN : 10000 ≤ N) (x : Int32) :
    ∃ r st' hn' yl' yo' ys' yz' ya' yg' saved' now' past', f_X10_start ow sz st go le op sg hn yl yo ys yz ya yg x = some (r, st', hn', yl', yo', ys', yz', ya', yg') ∧ f_X11_start N saved now past x = some (r, saved', now', past') ∧
      zRl w cc rc dc lo ow sz st' go le op sg hn' yl' yo' ys' yz' ya' yg' tl tc now' past' saved' length text := by
  obtain ⟨h, hs, hc, ⟨hh, e1, e2, hi⟩, ht⟩ := id R
  unfold f_X10_start f_X11_start
  rcases zarg x with hx | ⟨c, hcc, rfl⟩
  · rw [c_holds_neg hx, if_pos rfl, bnd1_e (m_hasRoom_neg hx), if_pos rfl]
    exact ⟨-1, _, _, _, _, _, _, _, _, _, _, _, rfl, rfl, R⟩
  rw [c_holds h hs hcc, bnd1_e (m_hasRoom h hcc)]
  cases hr : zr now c with
  | false => exact ⟨-1, _, _, _, _, _, _, _, _, _, _, _, rfl, rfl, R⟩
  | true =>
    obtain ⟨h', yl', yo', ys', yz', ya', yg', k1, k2, k3⟩ := zkeep hN hi h hc
    have ep : f_X11_puts N (nI hh) now past 7 (nI c) = some (now 7, nI h', upd now 7 (nI c), zrec hh now past) := by
      unfold f_X11_puts
      rw [bnd2_e k2, if_neg (by decide), if_neg (by decide)]; rfl
    rw [if_neg (show ¬ zi true = 0 by decide), if_neg (show ¬ zi true = 0 by decide), e1, e2, bnd7_e k1, bnd4_e ep]
    have u : ∀ k, k ≠ 7 → upd now 7 (nI c) k = now k := fun k hk => pk_un hk
    refine ⟨st, nI c, nI h', yl', yo', ys', yz', ya', yg', nI h', upd now 7 (nI c), zrec hh now past, rfl, by rw [hc.2.1], zput h (Or.inl rfl) hr, zsh_cong h (fun k hk => u k (by omega)) hs, ?_, ⟨h', rfl, rfl, k3⟩, ht⟩
    exact zcl_of h hc (fun k hk => u k (by omega)) (zo_lo h (fun k hk => u k (by omega))) (pk_us).symm (by rw [u 8 (by decide)]; exact hc.2.2.1) (fun a ha => by rw [u _ (by omega)]; exact hc.2.2.2.2.2 a ha)
theorem o_goal (R : zRl w cc rc dc lo ow sz st go le op sg hn yl yo ys yz ya yg tl tc now past saved length text) (hN : 10000 ≤ N) (x : Int32) :
    ∃ r go' hn' yl' yo' ys' yz' ya' yg' saved' now' past', f_X10_goal ow sz st go le op sg hn yl yo ys yz ya yg x = some (r, go', hn', yl', yo', ys', yz', ya', yg') ∧ f_X11_goal N saved now past x = some (r, saved', now', past') ∧
      zRl w cc rc dc lo ow sz st go' le op sg hn' yl' yo' ys' yz' ya' yg' tl tc now' past' saved' length text := by
  obtain ⟨h, hs, hc, ⟨hh, e1, e2, hi⟩, ht⟩ := id R
  unfold f_X10_goal f_X11_goal
  rcases zarg x with hx | ⟨c, hcc, rfl⟩
  · rw [c_holds_neg hx, if_pos rfl, bnd1_e (m_hasRoom_neg hx), if_pos rfl]
    exact ⟨-1, _, _, _, _, _, _, _, _, _, _, _, rfl, rfl, R⟩
  rw [c_holds h hs hcc, bnd1_e (m_hasRoom h hcc)]
  cases hr : zr now c with
  | false => exact ⟨-1, _, _, _, _, _, _, _, _, _, _, _, rfl, rfl, R⟩
  | true =>
    obtain ⟨h', yl', yo', ys', yz', ya', yg', k1, k2, k3⟩ := zkeep hN hi h hc
    have ep : f_X11_puts N (nI hh) now past 8 (nI c) = some (now 8, nI h', upd now 8 (nI c), zrec hh now past) := by
      unfold f_X11_puts
      rw [bnd2_e k2, if_neg (by decide), if_neg (by decide)]; rfl
    rw [if_neg (show ¬ zi true = 0 by decide), if_neg (show ¬ zi true = 0 by decide), e1, e2, bnd7_e k1, bnd4_e ep]
    have u : ∀ k, k ≠ 8 → upd now 8 (nI c) k = now k := fun k hk => pk_un hk
    refine ⟨go, nI c, nI h', yl', yo', ys', yz', ya', yg', nI h', upd now 8 (nI c), zrec hh now past, rfl, by rw [hc.2.2.1], zput h (Or.inr rfl) hr, zsh_cong h (fun k hk => u k (by omega)) hs, ?_, ⟨h', rfl, rfl, k3⟩, ht⟩
    exact zcl_of h hc (fun k hk => u k (by omega)) (zo_lo h (fun k hk => u k (by omega))) (by rw [u 7 (by decide)]; exact hc.2.1) (pk_us).symm (fun a ha => by rw [u _ (by omega)]; exact hc.2.2.2.2.2 a ha)
-- a door
theorem zdoor_v (h : zwf now) {c d : Nat} (hd : d < 4) (hh : zh now c d = true) : now (za now c d) = zi (zo now c d) := by
  obtain ⟨l1, l2⟩ := za_lo h hd hh
  have hv : now (za now c d) = 0 ∨ now (za now c d) = 1 := by
    rcases Nat.lt_or_ge (za now c d) 219 with q | q
    · have := h.2.2.2.2.1 (za now c d - 9) (by omega)
      rw [show 9 + (za now c d - 9) = za now c d by omega] at this
      rcases this with e | ⟨e, -⟩
      · exact Or.inl e
      · exact Or.inr e
    · have := h.2.2.2.2.2.1 (za now c d - 219) (by omega)
      rw [show 219 + (za now c d - 219) = za now c d by omega] at this
      rcases this with e | ⟨e, -⟩
      · exact Or.inl e
      · exact Or.inr e
  unfold zo
  rw [hh, Bool.true_and]
  rcases hv with e | e <;> rw [e] <;> rfl
theorem zdirI (y : Int32) : t_X10_isDirection y = t_X11_in y 0 3 := by
  unfold t_X10_isDirection t_X11_in
  by_cases q : y < 0
  · rw [if_pos q, if_pos q]
  · rw [if_neg q, if_neg q]
    obtain ⟨k, hk, rfl⟩ := nI_of q
    by_cases q2 : k < 4
    · rw [if_neg (show ¬ (4 : Int32) ≤ nI k from nI_ge (b := 4) q2 (by decide)), if_neg (show ¬ (3 : Int32) < nI k from nI_nlt (a := 3) (by omega) (by decide))]
    · rw [if_pos (show (4 : Int32) ≤ nI k from nI_le (a := 4) (by omega) hk), if_pos (show (3 : Int32) < nI k from nI_lt (a := 3) (by omega) hk)]
theorem o_door (R : zRl w cc rc dc lo ow sz st go le op sg hn yl yo ys yz ya yg tl tc now past saved length text) (hN : 10000 ≤ N) (x y z : Int32) :
    ∃ r op' hn' yl' yo' ys' yz' ya' yg' saved' now' past', f_X10_door w ow sz st go le op sg hn yl yo ys yz ya yg x y z = some (r, op', hn', yl', yo', ys', yz', ya', yg') ∧ f_X11_door N saved now past x y z = some (r, saved', now', past') ∧
      zRl w cc rc dc lo ow sz st go le op' sg hn' yl' yo' ys' yz' ya' yg' tl tc now' past' saved' length text := by
  obtain ⟨h, hs, hc, ⟨hh, e1, e2, hi⟩, ht⟩ := id R
  unfold f_X10_door f_X11_door
  rcases zarg x with hx | ⟨c, hcc, rfl⟩
  · rw [c_holds_neg hx, if_pos rfl, bnd1_e (m_hasRoom_neg hx), if_pos rfl]
    exact ⟨-1, _, _, _, _, _, _, _, _, _, _, _, rfl, rfl, R⟩
  rw [c_holds h hs hcc, bnd1_e (m_hasRoom h hcc)]
  cases hr : zr now c with
  | false => exact ⟨-1, _, _, _, _, _, _, _, _, _, _, _, rfl, rfl, R⟩
  | true =>
    have hcl := zr_lt hr
    have c210 := zr_210 h hr
    rw [if_neg (show ¬ zi true = 0 by decide), if_neg (show ¬ zi true = 0 by decide), zdirI]
    rcases zarg y with hy | ⟨d, hdd, rfl⟩
    · rw [zin_neg hy, if_pos rfl, if_pos rfl]
      exact ⟨-1, _, _, _, _, _, _, _, _, _, _, _, rfl, rfl, R⟩
    rw [show t_X11_in (nI d) 0 (3 : Int32) = zi (decide (d ≤ 3)) from zin hdd (by decide)]
    by_cases qd : d ≤ 3
    · rw [decide_eq_true qd, if_neg (show ¬ zi true = 0 by decide), if_neg (show ¬ zi true = 0 by decide)]
      rcases zarg z with hz | ⟨v, hvv, rfl⟩
      · rw [if_pos hz, zin_neg hz, if_pos rfl]
        exact ⟨-1, _, _, _, _, _, _, _, _, _, _, _, rfl, rfl, R⟩
      rw [if_neg (nI_pos hvv), show t_X11_in (nI v) 0 (1 : Int32) = zi (decide (v ≤ 1)) from zin hvv (by decide)]
      by_cases qv : v ≤ 1
      · rw [if_pos (show nI v ≤ (1 : Int32) from nI_le qv (by decide)), decide_eq_true qv, if_neg (show ¬ zi true = 0 by decide), c_hasDoor h hs c210 (by omega), hr, Bool.true_and, bnd1_e (m_beside h hcl (by omega))]
        cases hhd : zh now c d with
        | false =>
          rw [if_pos zi_f, if_neg zft, if_neg (show ¬ (0 : Int32) ≤ -1 by decide)]
          exact ⟨-4, _, _, _, _, _, _, _, _, _, _, _, rfl, rfl, R⟩
        | true =>
          obtain ⟨h', yl', yo', ys', yz', ya', yg', k1, k2, k3⟩ := zkeep hN hi h hc
          obtain ⟨d1, d2, d3⟩ := m_doorAt h (show d < 4 by omega) hhd
          have hv := zdoor_v h (show d < 4 by omega) hhd
          rw [if_neg (show ¬ zi true = 0 by decide), if_pos (rfl : true = true), if_pos (nI_pos' (zN_lt h c210)), e1, e2, bnd7_e k1, bnd2_e k2, d1, nI_clamp (show za now c d < 2 ^ 31 by omega), if_neg (zck (show za now c d < 639 by omega) (by decide)), if_neg (zck (show za now c d < 639 by omega) (by decide)), c_isOpen hc.2.2.2.2.1 c210 (by omega), hv]
          have fin : ∀ b : Bool, nI v = zi b → zRl w cc rc dc lo ow sz st go le (t_X1_setDoor w op (nI c) (nI d) (zi b)) sg (nI h') yl' yo' ys' yz' ya' yg' tl tc (upd now (za now c d) (nI v)) (zrec hh now past) (nI h') length text := by
            intro b hb
            have u : ∀ k, k ≠ za now c d → upd now (za now c d) (nI v) k = now k := fun k hk => pk_un hk
            refine ⟨by rw [hb]; exact zwf_door h (by omega) hr hhd b, zsh_cong h (fun k hk => u k (by omega)) hs, ?_, ⟨h', rfl, rfl, k3⟩, ht⟩
            obtain ⟨c1, c2, c3, c4, c5, c6⟩ := hc
            have hnn := zwf_n h
            have en := (zsame h (now' := upd now (za now c d) (nI v)) (fun k hk => u k (by omega))).1
            refine ⟨by rw [u 0 (by omega)]; exact c1, by rw [u 7 (by omega)]; exact c2, by rw [u 8 (by omega)]; exact c3, fun k hk => ?_, fun a ha => ?_, fun a ha => by rw [u _ (by omega)]; exact c6 a ha⟩
            · rw [en] at hk
              rw [u _ (by omega)]; exact c4 k hk
            · rw [hs.1, hb]; exact c_setDoor h c5 (by omega) hr hhd b a ha
          by_cases q1 : nI v = 1
          · rw [if_pos q1]
            cases zo now c d with
            | false => rw [if_pos zi_f]; exact ⟨_, _, _, _, _, _, _, _, _, _, _, _, rfl, rfl, fin true q1⟩
            | true => rw [if_neg (show ¬ zi true = 0 by decide)]; exact ⟨_, _, _, _, _, _, _, _, _, _, _, _, rfl, rfl, fin true q1⟩
          · have q0 : nI v = zi false := by
              have : v ≠ 1 := fun e => q1 (by rw [e]; rfl)
              rw [show v = 0 by omega]; rfl
            rw [if_neg q1]
            cases zo now c d with
            | false => rw [if_pos zi_f]; exact ⟨_, _, _, _, _, _, _, _, _, _, _, _, rfl, rfl, fin false q0⟩
            | true => rw [if_neg (show ¬ zi true = 0 by decide)]; exact ⟨_, _, _, _, _, _, _, _, _, _, _, _, rfl, rfl, fin false q0⟩
      · rw [if_neg (show ¬ nI v ≤ (1 : Int32) from nI_ge (a := 1) (by omega) hvv), decide_eq_false qv, if_pos zi_f]
        exact ⟨-1, _, _, _, _, _, _, _, _, _, _, _, rfl, rfl, R⟩
    · rw [decide_eq_false qd, if_pos zi_f, if_pos zi_f]
      exact ⟨-1, _, _, _, _, _, _, _, _, _, _, _, rfl, rfl, R⟩
-- make
theorem o_make (R : zRl w cc rc dc lo ow sz st go le op sg hn yl yo ys yz ya yg tl tc now past saved length text) (hN : 10000 ≤ N) (cz : Int32) (o lab : Nat → Int32) (dm dr : Int32) (doors label : Nat → Int32) (x : Int32) :
    ∃ r op' hn' yl' yo' ys' yz' ya' yg' cz' o' lab' saved' dm' dr' now' past' doors' label', f_X10_make N w ow sz st go le op sg hn yl yo ys yz ya yg cz o lab x = some (r, op', hn', yl', yo', ys', yz', ya', yg', cz', o', lab') ∧
      f_X11_make N saved dm dr now past doors label x = some (r, saved', dm', dr', now', past', doors', label') ∧
      zRl w cc rc dc lo ow sz st go le op' sg hn' yl' yo' ys' yz' ya' yg' tl tc now' past' saved' length text := by
  obtain ⟨h, hs, hc, ⟨hh, e1, e2, hi⟩, ht⟩ := id R
  unfold f_X10_make f_X11_make
  rcases zarg x with hx | ⟨s, hsd, rfl⟩
  · rw [if_pos hx, zin_neg hx, if_pos rfl]
    exact ⟨-1, _, _, _, _, _, _, _, _, _, _, _, _, _, _, _, _, _, _, rfl, rfl, R⟩
  rw [if_neg (nI_pos hsd), show t_X11_in (nI s) 0 (65535 : Int32) = zi (decide (s ≤ 65535)) from zin hsd (by decide)]
  by_cases q : s ≤ 65535
  · obtain ⟨h', yl', yo', ys', yz', ya', yg', k1, k2, k3⟩ := zkeep hN hi h hc
    have h0 := zclr_wf h
    have hs0 := zsh_cong h zclr_lo hs
    obtain ⟨z', o', lab', op', f1, f2⟩ := c_openFrom h0 hs0 (zclr_d h) (zclr_o h) (show 1000 ≤ N by omega) (show s < 65537 by omega) cz o lab op
    obtain ⟨dm', dr', doors', label', g1⟩ := m_make (show 1000 ≤ N by omega) h (nI s) (nI h') dm dr (zrec hh now past) doors label rfl (show s < 65537 by omega)
    rw [zclr_w h] at f1 f2
    have f1 : f_X3_openFrom N cz o lab w ow op (nI s) = some (nI (zmk now s).2.2, z', o', lab', op') := f1
    rw [if_pos (show nI s ≤ (65535 : Int32) from nI_le q (by decide)), decide_eq_true q, if_neg (show ¬ zi true = 0 by decide), e1, e2, bnd7_e k1, bnd2_e k2, bnd5_e f1, g1]
    refine ⟨_, _, _, _, _, _, _, _, _, _, _, _, _, _, _, _, _, _, _, rfl, rfl, ?_⟩
    obtain ⟨m1, m2, m3, m4, m5⟩ := zmk_ok h s
    have u : ∀ k, k < 9 ∨ 429 ≤ k → (zmk now s).1 k = now k := fun k hk => by
      rw [m2 k hk]; exact if_neg (by omega)
    obtain ⟨c1, c2, c3, c4, c5, c6⟩ := hc
    have hnn := zwf_n h
    have en := (zsame h (now' := (zmk now s).1) (fun k hk => u k (by omega))).1
    refine ⟨m1, zsh_cong h (fun k hk => u k (by omega)) hs, ⟨by rw [u 0 (by omega)]; exact c1, by rw [u 7 (by omega)]; exact c2, by rw [u 8 (by omega)]; exact c3, fun k hk => ?_, f2, fun a ha => by rw [u _ (by omega)]; exact c6 a ha⟩, ⟨h', rfl, rfl, k3⟩, ht⟩
    rw [en] at hk
    rw [u _ (by omega)]; exact c4 k hk
  · rw [if_neg (show ¬ nI s ≤ (65535 : Int32) from nI_ge (a := 65535) (by omega) hsd), decide_eq_false q, if_pos zi_f]
    exact ⟨-1, _, _, _, _, _, _, _, _, _, _, _, _, _, _, _, _, _, _, rfl, rfl, R⟩
end OP5

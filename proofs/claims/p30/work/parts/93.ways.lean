-- ways fit one another
theorem zP_min {op : Nat → Nat → Bool} {nx : Nat → Nat → Nat} {E : Nat → Nat} {c j : Nat} (hj : j < zP op nx E c) : ¬ (op c j = true ∧ E (nx c j) + 1 = E c) := by
  intro h
  unfold zP at hj
  by_cases h0 : op c 0 = true ∧ E (nx c 0) + 1 = E c
  · rw [if_pos h0] at hj; exact absurd hj (Nat.not_lt_zero j)
  · rw [if_neg h0] at hj
    by_cases h1 : op c 1 = true ∧ E (nx c 1) + 1 = E c
    · rw [if_pos h1] at hj
      obtain rfl : j = 0 := by omega
      exact h0 h
    · rw [if_neg h1] at hj
      by_cases h2 : op c 2 = true ∧ E (nx c 2) + 1 = E c
      · rw [if_pos h2] at hj
        rcases (show j = 0 ∨ j = 1 by omega) with rfl | rfl
        · exact h0 h
        · exact h1 h
      · rw [if_neg h2] at hj
        by_cases h3 : op c 3 = true ∧ E (nx c 3) + 1 = E c
        · rw [if_pos h3] at hj
          rcases (show j = 0 ∨ j = 1 ∨ j = 2 by omega) with rfl | rfl | rfl
          · exact h0 h
          · exact h1 h
          · exact h2 h
        · rw [if_neg h3] at hj
          rcases (show j = 0 ∨ j = 1 ∨ j = 2 ∨ j = 3 by omega) with rfl | rfl | rfl | rfl
          · exact h0 h
          · exact h1 h
          · exact h2 h
          · exact h3 h
section WAY
variable {g : gS}
theorem zIt_s (now : Nat → Int32) (b : Nat) : ∀ k c, zIt now b (k + 1) c = zN (zw now) (zIt now b k c) (zpi now b (zIt now b k c))
  | 0, c => rfl
  | k + 1, c => zIt_s now b k (zN (zw now) c (zpi now b c))
theorem zIt_E (h : zwf g.1) {b : Nat} (hb : zr g.1 b = true) : ∀ k c, k + 1 ≤ zE g b c → zE g b (zIt g.1 b k c) + k = zE g b c
  | 0, c, _ => rfl
  | k + 1, c, hk => by
    obtain ⟨p1, p2, p3⟩ := zpi_lt h hb (c := c) (show 2 ≤ zE g b c by omega)
    have p3 : zE g b (zN (zw g.1) c (zpi g.1 b c)) + 1 = zE g b c := p3
    have := zIt_E h hb k (zN (zw g.1) c (zpi g.1 b c)) (by omega)
    show zE g b (zIt g.1 b k (zN (zw g.1) c (zpi g.1 b c))) + (k + 1) = zE g b c
    omega
theorem zE_sym (h : zwf g.1) {a b : Nat} (ha : zr g.1 a = true) (hb : zr g.1 b = true) : zE g b a = zE g a b := zF_sym (zgr h) ha hb
theorem zE_le (h : zwf g.1) {b : Nat} (hb : zr g.1 b = true) (a : Nat) : zE g b a ≤ 210 := (zF_spec (zgr h) hb).2.2.2.2.2.2.2.2 a
theorem zE_rm (h : zwf g.1) {a b : Nat} (hb : zr g.1 b = true) (q : zE g b a ≠ 0) : zr g.1 a = true := ((zF_spec (zgr h) hb).2.2.1 a q).1
-- the longest way
theorem zLo_ge (h : zwf g.1) {c : Nat} (hc : zr g.1 c = true) : ∀ k, c < k → (zBf g c).2 ≤ (zLo g.1 k).1
  | 0, hk => absurd hk (Nat.not_lt_zero c)
  | k + 1, hk => by
    rw [zLo]
    by_cases q : zr g.1 k = true ∧ (zLo g.1 k).1 < (zBs (zF (zo g.1) (zN (zw g.1)) k).1 210).2
    · rw [if_pos q]
      by_cases e : c = k
      · subst e; exact Nat.le_refl _
      · exact Nat.le_of_lt (Nat.lt_of_le_of_lt (zLo_ge h hc k (by omega)) q.2)
    · rw [if_neg q]
      by_cases e : c = k
      · subst e
        exact Nat.not_lt.mp (fun x => q ⟨hc, x⟩)
      · exact zLo_ge h hc k (by omega)
theorem zLo_at (h : zwf g.1) : ∀ k, (zLo g.1 k).1 ≠ 0 → zr g.1 (zLo g.1 k).2.1 = true ∧ (zLo g.1 k).2.2 = (zBf g (zLo g.1 k).2.1).1 ∧ (zLo g.1 k).1 = (zBf g (zLo g.1 k).2.1).2 ∧ ∀ c, c < (zLo g.1 k).2.1 → zr g.1 c = true → (zBf g c).2 < (zLo g.1 k).1
  | 0, hk => absurd rfl hk
  | k + 1, hk => by
    rw [zLo] at hk ⊢
    by_cases q : zr g.1 k = true ∧ (zLo g.1 k).1 < (zBs (zF (zo g.1) (zN (zw g.1)) k).1 210).2
    · rw [if_pos q]
      refine ⟨q.1, rfl, rfl, fun c hc hr => ?_⟩
      exact Nat.lt_of_le_of_lt (zLo_ge h hr k hc) q.2
    · rw [if_neg q] at hk ⊢
      exact zLo_at h k hk
-- the grade
theorem e_grade (h : zwf g.1) {start goal : Nat} (e7 : g.1 7 = nI start) (hst : zr g.1 start = true) (e8 : g.1 8 = nI goal) (hgo : zr g.1 goal = true) :
    (zE g goal start = 0 → V_grade g = -4) ∧ ∀ L, zE g goal start = L + 1 → ∃ n, V_grade g = nI n ∧ n ≤ 9 ∧ (L ≤ 99 → L / 10 ≤ n) ∧ (99 < L → 9 ≤ n) := by
  have hwl := zwf_w h
  obtain ⟨far', ring', e2, R2⟩ := m_lays h hgo nF_1 fz fz
  obtain ⟨s1, s2, s3, s4, s5, s6, s7, s8, s9⟩ := zF_spec (zgr h) hgo
  have l9 := s9 start
  have hm := zF_m h hgo start
  have h210 := zr_210 h hst
  have hN := nF_1
  refine ⟨fun q => ?_, fun L hL => ?_⟩
  · have q : (zF (zo g.1) (zN (zw g.1)) goal).1 start = 0 := q
    unfold V_grade f_X11_grade
    rw [show (8 : Int32).toNatClampNeg = 8 from rfl, show (7 : Int32).toNatClampNeg = 7 from rfl, e7, e8, bnd2_e e2, nI_clamp (show start < 2 ^ 31 by omega), if_neg (zck h210 (by decide)), R2.1 _ (zr_lt hst), if_neg (fun e => (zd_nn (by omega)).mp e q)]
    rfl
  · have hL : (zF (zo g.1) (zN (zw g.1)) goal).1 start = L + 1 := hL
    have q : ¬ (zF (zo g.1) (zN (zw g.1)) goal).1 start = 0 := by omega
    have hfk := zFk_le (now := g.1) goal L start
    refine ⟨min 9 ((L + 4 * zFk g.1 goal L start + ((zF (zo g.1) (zN (zw g.1)) goal).2.2 - (L + 1)) / 2) / 10), ?_, Nat.min_le_left _ _, ?_, ?_⟩
    · unfold V_grade f_X11_grade
      rw [show (8 : Int32).toNatClampNeg = 8 from rfl, show (7 : Int32).toNatClampNeg = 7 from rfl, e7, e8, bnd2_e e2, nI_clamp (show start < 2 ^ 31 by omega), if_neg (zck h210 (by decide)), R2.1 _ (zr_lt hst), if_pos ((zd_nn (by omega)).mpr q)]
      obtain ⟨g1, g2⟩ := zgrade_e (L := L) (f := zFk g.1 goal L start) (m := (zF (zo g.1) (zN (zw g.1)) goal).2.2) (by omega) (by omega) s8
      have e38 : b_X11_grade_38 nF g.1 nF (nI start) (nI goal) 0 0 far' ring' = b_X11_grade_77 nF g.1 nF (nI start) (nI goal) (nI (zF (zo g.1) (zN (zw g.1)) goal).2.2) 0 (nI start) far' ring' := by
        have ecut : (zF (zo g.1) (zN (zw g.1)) goal).2.2 = zCt (fun c => decide (0 < (zF (zo g.1) (zN (zw g.1)) goal).1 c)) (6 * zw g.1) := by
          rw [s7]
          exact zCt_cut (by omega) (fun c hc => by rw [zF_big h hgo hc]; rfl)
        rw [ecut]
        have key : ∀ k, k ≤ 6 * zw g.1 → ∀ F, 6 * zw g.1 - k < F → b_X11_grade_38 nF g.1 F (nI start) (nI goal) (nI (zCt (fun c => decide (0 < (zF (zo g.1) (zN (zw g.1)) goal).1 c)) k)) (nI k) far' ring' = b_X11_grade_77 nF g.1 nF (nI start) (nI goal) (nI (zCt (fun c => decide (0 < (zF (zo g.1) (zN (zw g.1)) goal).1 c)) (6 * zw g.1))) 0 (nI start) far' ring' := by
          refine dn _ ?_ ?_
          · intro F hF
            obtain ⟨F, rfl⟩ : ∃ G, F = G + 1 := ⟨F - 1, by omega⟩
            rw [b_X11_grade_38, m_cells h, if_pos (nI_le (Nat.le_refl _) (by omega))]
          · intro k hk ih F hF
            obtain ⟨F, rfl⟩ : ∃ G, F = G + 1 := ⟨F - 1, by omega⟩
            have hih := ih F (by omega)
            rw [zCt_s] at hih
            have hl := s9 k
            rw [b_X11_grade_38, m_cells h, if_neg (nI_ge hk (by omega)), nI_clamp (show k < 2 ^ 31 by omega), if_neg (zck (show k < 210 by omega) (by decide)), R2.1 k hk, nI_1 k]
            by_cases q0 : (zF (zo g.1) (zN (zw g.1)) goal).1 k = 0
            · rw [decide_eq_false (show ¬ 0 < (zF (zo g.1) (zN (zw g.1)) goal).1 k by omega)] at hih
              rw [if_pos ((zd_neg (by omega)).mpr q0), zs0]; exact hih
            · rw [decide_eq_true (show 0 < (zF (zo g.1) (zN (zw g.1)) goal).1 k by omega)] at hih
              rw [if_neg (fun e => q0 ((zd_neg (by omega)).mp e)), zs1]; exact hih
        exact key 0 (Nat.zero_le _) nF (by omega)
      have e77 := m_g77 h hN hst hgo R2.1 (ring := ring') (nI (zF (zo g.1) (zN (zw g.1)) goal).2.2) L 0 start nF (by omega) hL (by omega) hst
      rw [Nat.zero_add] at e77
      rw [e38, show (0 : Int32) = nI 0 from rfl, e77, b_X11_grade_77, if_pos rfl, nI_clamp (show start < 2 ^ 31 by omega), if_neg (zck h210 (by decide)), if_neg (zck h210 (by decide)), R2.1 _ (zr_lt hst), hL]
      have g2 : ((zd (L + 1) + (4 : Int32) * nI (zFk g.1 goal L start)) + (((nI (zF (zo g.1) (zN (zw g.1)) goal).2.2 - zd (L + 1)) - (1 : Int32)) / (2 : Int32))) / (10 : Int32) = _ := g2
      rw [g2]
      by_cases q9 : (L + 4 * zFk g.1 goal L start + ((zF (zo g.1) (zN (zw g.1)) goal).2.2 - (L + 1)) / 2) / 10 ≤ 9
      · rw [if_pos (show nI ((L + 4 * zFk g.1 goal L start + ((zF (zo g.1) (zN (zw g.1)) goal).2.2 - (L + 1)) / 2) / 10) ≤ (9 : Int32) from nI_le (b := 9) q9 (by decide)), Nat.min_eq_right q9]; rfl
      · rw [if_neg (show ¬ nI ((L + 4 * zFk g.1 goal L start + ((zF (zo g.1) (zN (zw g.1)) goal).2.2 - (L + 1)) / 2) / 10) ≤ (9 : Int32) from nI_ge (a := 9) (by omega) (by omega)), Nat.min_eq_left (by omega)]; rfl
    · intro h99; omega
    · intro h99; omega
theorem y506 (va2 va3 : Int32) {n L : Nat} (hn : n ≤ 9) (hL : L ≤ 210) (h1 : L ≤ 99 → L / 10 ≤ n) (h2 : 99 < L → 9 ≤ n) (s : Int32) : b_L_areWays_506 nF va2 va3 (nI n) (nI L) s s g = some (1, g) := by
  unfold b_L_areWays_506
  refine st_if rfl ?_
  refine st_el (nI_nlt (a := 9) hn (by decide)) ?_
  refine st_el (nI_pos (by omega)) ?_
  by_cases q : L ≤ 99
  · refine st_if (nI_le (b := 99) q (by decide)) ?_
    rw [show nI L / (10 : Int32) = nI (L / 10) from pk_div (d := 10) (by omega) (by decide) (by decide)]
    exact st_el (nI_nlt (h1 q) (by omega)) rfl
  · refine st_el (nI_ge (a := 99) (by omega) (by omega)) ?_
    exact st_el (nI_nlt (b := 9) (h2 (by omega)) (by omega)) rfl
theorem y446 (h : zwf g.1) (va2 va3 : Int32) : b_L_areWays_446 nF va2 va3 g = some (1, g) := by
  obtain ⟨st, e7, hst⟩ := h.2.2.1
  obtain ⟨goal, e8, hgo⟩ := h.2.2.2.1
  obtain ⟨G0, G1⟩ := e_grade h e7 hst e8 hgo
  have l9 := zE_le h hgo st
  unfold b_L_areWays_446 b_L_areWays_451
  by_cases q : zE g goal st = 0
  · refine st_bV (G0 q) ?_
    refine st_bV ((e_c10 h).trans e7) ?_
    refine st_bV ((e_c11 h).trans e8) ?_
    refine st_bV ((e_dist h hst hgo).trans (if_pos q)) ?_
    refine st_el (by decide) ?_
    refine st_if rfl ?_
    unfold b_L_areWays_494
    refine st_if rfl ?_
    unfold b_L_areWays_506
    refine st_if rfl ?_
    refine st_el (by decide) ?_
    exact st_if (by decide) rfl
  · obtain ⟨L, hL⟩ : ∃ L, zE g goal st = L + 1 := ⟨zE g goal st - 1, by omega⟩
    obtain ⟨n, n1, n2, n3, n4⟩ := G1 L hL
    refine st_bV n1 ?_
    refine st_bV ((e_c10 h).trans e7) ?_
    refine st_bV ((e_c11 h).trans e8) ?_
    refine st_bV ((e_dist h hst hgo).trans ((if_neg q).trans (by rw [hL]; rfl : _ = nI L))) ?_
    refine st_el (by decide) ?_
    refine st_el (fun e => absurd (show nI n < 0 by rw [e]; decide) (nI_pos (by omega))) ?_
    unfold b_L_areWays_494
    refine st_el (fun e => absurd (show nI L < 0 by rw [e]; decide) (nI_pos (by omega))) ?_
    exact y506 va2 va3 n2 (by omega) n3 n4 0
theorem y374 (h : zwf g.1) {a : Nat} (va3 l4 : Int32) (ha : zr g.1 a = true) (hl : ¬ nI ((zBf g a).2 - 1) < l4) : b_L_areWays_374 nF (nI a) va3 l4 (nI (zBf g a).1) (nI ((zBf g a).2 - 1)) g = some (1, g) := by
  have hw := zwf_w h
  obtain ⟨b1, b2, b3, b4⟩ : (zBf g a).1 < 6 * zw g.1 ∧ zE g a (zBf g a).1 = (zBf g a).2 ∧ 1 ≤ (zBf g a).2 ∧ (zBf g a).2 ≤ 210 := zBs_at h ha
  have hf := zE_rm h ha (a := (zBf g a).1) (by omega)
  have a210 := zr_210 h ha
  have hp := zLo_ge h ha 210 a210
  have hle := zLo_le h 210
  obtain ⟨p1, p2, p3, p4⟩ := zLo_at h 210 (by omega)
  obtain ⟨c1, c2, c3, c4⟩ : (zBf g (zLo g.1 210).2.1).1 < 6 * zw g.1 ∧ zE g (zLo g.1 210).2.1 (zBf g (zLo g.1 210).2.1).1 = (zBf g (zLo g.1 210).2.1).2 ∧ 1 ≤ (zBf g (zLo g.1 210).2.1).2 ∧ (zBf g (zLo g.1 210).2.1).2 ≤ 210 := zBs_at h p1
  have hq := zE_rm h p1 (a := (zBf g (zLo g.1 210).2.1).1) (by omega)
  rw [← p2] at c2 hq
  rw [← p3] at c2
  have p210 := zr_210 h p1
  have q210 := zr_210 h hq
  have es := zE_sym h p1 hq
  have L0 : V_longest g 0 = nI ((zLo g.1 210).1 - 1) := e_long h (i := 0) (by decide)
  have L1 : V_longest g 1 = nI (zLo g.1 210).2.1 := e_long h (i := 1) (by decide)
  have L2 : V_longest g 2 = nI (zLo g.1 210).2.2 := e_long h (i := 2) (by decide)
  unfold b_L_areWays_374
  refine st_bV ((e_dist h ha hf).trans ((if_neg (by rw [zE_sym h ha hf]; omega)).trans (by rw [zE_sym h ha hf, b2] : _ = nI ((zBf g a).2 - 1)))) ?_
  refine st_if rfl ?_
  refine st_el hl ?_
  refine st_bV L0 ?_
  refine st_el (nI_nlt (by omega) (by omega)) ?_
  refine st_bV L1 ?_
  refine st_bV L2 ?_
  refine st_bV ((e_dist h p1 hq).trans ((if_neg (by rw [es]; omega)).trans (by rw [es, c2] : _ = nI ((zLo g.1 210).1 - 1)))) ?_
  refine st_bV L0 ?_
  refine st_if rfl ?_
  refine st_bV L0 ?_
  by_cases q0 : nI ((zLo g.1 210).1 - 1) = 0
  · exact st_if q0 (y446 h _ _)
  · refine st_el q0 ?_
    refine st_bV L1 ?_
    refine st_bV L2 ?_
    refine st_el ?_ (y446 h _ _)
    refine nI_ge ?_ (by omega)
    rcases Nat.lt_trichotomy (zLo g.1 210).2.1 (zLo g.1 210).2.2 with q | q | q
    · exact q
    · exfalso
      rw [← q] at c2
      have : zE g (zLo g.1 210).2.1 (zLo g.1 210).2.1 = 1 := (zF_spec (zgr h) p1).1
      rw [this] at c2
      exact q0 (by rw [← c2]; rfl)
    · exfalso
      have k1 := p4 _ q hq
      have k2 : zE g (zLo g.1 210).2.2 (zLo g.1 210).2.1 ≤ (zBf g (zLo g.1 210).2.2).2 := (zBs_ok (zF (zo g.1) (zN (zw g.1)) (zLo g.1 210).2.2).1 210).2 _ p210
      rw [es] at k2
      omega
theorem y336 (h : zwf g.1) {a b : Nat} (ha : zr g.1 a = true) (hb : zr g.1 b = true) : b_L_areWays_336 nF (nI a) (nI b) (if zE g b a = 0 then -4 else nI (zE g b a - 1)) 1 g = some (1, g) := by
  have l9 := zE_le h hb a
  have b210 := zr_210 h hb
  obtain ⟨b1, b2, b3, b4⟩ : (zBf g a).1 < 6 * zw g.1 ∧ zE g a (zBf g a).1 = (zBf g a).2 ∧ 1 ≤ (zBf g a).2 ∧ (zBf g a).2 ≤ 210 := zBs_at h ha
  unfold b_L_areWays_336
  refine st_bV (e_far0 h ha) ?_
  refine st_bV (e_far1 h ha) ?_
  refine st_el (by decide) ?_
  by_cases q : zE g b a = 0
  · rw [if_pos q]
    refine st_if (by decide) ?_
    refine y374 h _ _ ha (fun e => absurd (Int32.lt_trans e (by decide)) (nI_pos (by omega)))
  · rw [if_neg q]
    refine st_el (nI_pos (by omega)) ?_
    refine st_bV ((e_way h ha hb (by omega)).trans (if_pos (by omega))) ?_
    have eb : zIt g.1 b (zE g b a - 1) a = b := by
      have := zIt_E h hb (zE g b a - 1) a (by omega)
      exact (zF_spec (zgr h) hb).2.1 _ (show zE g b (zIt g.1 b (zE g b a - 1) a) = 1 by omega)
    refine st_if (by rw [eb]) ?_
    refine y374 h _ _ ha (nI_nlt ?_ (by omega))
    have k2 : zE g a b ≤ (zBf g a).2 := (zBs_ok (zF (zo g.1) (zN (zw g.1)) a).1 210).2 _ b210
    have := zE_sym h ha hb
    omega
-- one step of the way
theorem y270 (h : zwf g.1) {b x L k : Nat} (va2 : Int32) (hb : zr g.1 b = true) (hx : zr g.1 x = true) (hk : k < L) (hL : L ≤ 210) (hE : zE g b x = L - k + 1) (K : Int32 → Int32 → Int32 → Int32 → gS → Option (Int32 × gS)) :
    ∀ j, j ≤ zpi g.1 b x → ∀ F, zpi g.1 b x - j < F → b_L_areWays_270 nF va2 (nI b) K F (nI (zw g.1)) (nI L) 1 (nI k) (nI x) (nI (zpi g.1 b x)) (nI j) g = K (nI (zw g.1)) (nI L) 1 (nI k + 1) g := by
  have x210 := zr_210 h hx
  have d4 := zP_le (zo g.1) (zN (zw g.1)) (zF (zo g.1) (zN (zw g.1)) b).1 x
  have d4 : zpi g.1 b x ≤ 4 := d4
  obtain ⟨s1, s2, s3, s4, s5, s6, s7, s8, s9⟩ := zF_spec (zgr h) hb
  refine dn _ ?_ ?_
  · intro F hF
    obtain ⟨F, rfl⟩ : ∃ G, F = G + 1 := ⟨F - 1, by omega⟩
    rw [b_L_areWays_270, if_pos (nI_le (Nat.le_refl _) (by omega))]
  · intro j hj ih F hF
    obtain ⟨F, rfl⟩ : ∃ G, F = G + 1 := ⟨F - 1, by omega⟩
    have hih := ih F (by omega)
    have j4 : j < 4 := by omega
    rw [b_L_areWays_270, if_neg (nI_ge hj (by omega)), if_neg (show ¬ (1 : Int32) = 0 by decide), nI_1 j]
    refine st_bV ((e_doors h (by omega)).trans (if_pos hx)) ?_
    rw [zbit_of _ j4]
    cases ho : zo g.1 x j with
    | false => exact st_if rfl hih
    | true =>
      obtain ⟨g1, g2, g3, g4⟩ := (zgr h).1 x j j4 ho
      have y1 := s5 x j j4 ho (show zE g b x ≠ 0 by omega)
      have y2 := s5 (zN (zw g.1) x j) (zO j) (zO_lt j) g3 y1.1
      rw [g4] at y2
      have y3 := zP_min (op := zo g.1) (nx := zN (zw g.1)) (E := (zF (zo g.1) (zN (zw g.1)) b).1) (c := x) hj
      have y3 : ¬ zE g b (zN (zw g.1) x j) + 1 = zE g b x := fun e => y3 ⟨ho, e⟩
      have y4 : zE g b x ≤ zE g b (zN (zw g.1) x j) + 1 := y2.2
      have y5 : zE g b (zN (zw g.1) x j) ≠ 0 := y1.1
      have y6 := zE_le h hb (zN (zw g.1) x j)
      refine st_el (by decide) ?_
      refine st_bV (zbes h j4 x210 ho) ?_
      refine st_bV ((e_dist h g2 hb).trans (if_neg y5)) ?_
      refine st_el ?_ hih
      rw [pk_sub (show k ≤ L by omega)]
      exact nI_nlt (by omega) (by omega)
theorem y141 (h : zwf g.1) {a b L : Nat} (ha : zr g.1 a = true) (hb : zr g.1 b = true) (hL : zE g b a = L + 1) : ∀ k, k ≤ L → ∀ F, L - k < F → b_L_areWays_141 nF (nI a) (nI b) F (nI (zw g.1)) (nI L) 1 (nI k) g = some (1, g) := by
  have l9 := zE_le h hb a
  have y := y336 h ha hb
  rw [if_neg (by omega), hL, show L + 1 - 1 = L from rfl] at y
  refine dn _ ?_ ?_
  · intro F hF
    obtain ⟨F, rfl⟩ : ∃ G, F = G + 1 := ⟨F - 1, by omega⟩
    rw [b_L_areWays_141, if_pos (nI_le (Nat.le_refl _) (by omega))]
    exact y
  · intro k hk ih F hF
    obtain ⟨F, rfl⟩ : ∃ G, F = G + 1 := ⟨F - 1, by omega⟩
    have hih := ih F (by omega)
    have eE := zIt_E h hb k a (by omega)
    have eN := zIt_s g.1 b k a
    have w1 := (e_way h ha hb (i := k) (by omega)).trans (if_pos (by omega))
    have w2 := (e_way h ha hb (i := k + 1) (by omega)).trans (if_pos (by omega))
    rw [eN] at w2
    have hx := zE_rm h hb (a := zIt g.1 b k a) (by omega)
    generalize zIt g.1 b k a = x at *
    have x210 := zr_210 h hx
    obtain ⟨p1, p2, p3⟩ := zpi_lt h hb (c := x) (show 2 ≤ zE g b x by omega)
    rw [b_L_areWays_141, if_neg (nI_ge hk (by omega)), if_neg (show ¬ (1 : Int32) = 0 by decide), nI_1 k]
    refine st_bV w1 ?_
    refine st_bV w2 ?_
    refine (st_dir h p1 x210 p2 (fun s => b_L_areWays_215 nF (nI a) (nI b) (b_L_areWays_141 nF (nI a) (nI b) F) (nI (zw g.1)) (nI L) (nI k) (nI x) (nI (zN (zw g.1) x (zpi g.1 b x))) s g)).trans ?_
    show b_L_areWays_215 nF (nI a) (nI b) (b_L_areWays_141 nF (nI a) (nI b) F) (nI (zw g.1)) (nI L) (nI k) (nI x) (nI (zN (zw g.1) x (zpi g.1 b x))) (nI (zpi g.1 b x)) g = _
    unfold b_L_areWays_215
    refine st_bV ((e_dist h hx hb).trans (if_neg (by omega))) ?_
    refine st_if (by rw [pk_sub (show k ≤ L by omega)]; exact congrArg nI (by omega)) ?_
    refine st_bV (zbes h p1 x210 p2) ?_
    refine st_if rfl ?_
    refine st_bV ((e_doors h (by omega)).trans (if_pos hx)) ?_
    refine st_if (by rw [zbit_of _ p1, p2]; rfl) ?_
    refine (y270 h (nI a) hb hx hk (by omega) (by omega) (b_L_areWays_141 nF (nI a) (nI b) F) 0 (Nat.zero_le _) nF (by have := nF_1; omega)).trans ?_
    rw [nI_1]
    exact hih
theorem y97 (h : zwf g.1) {a b : Nat} (ha : zr g.1 a = true) (hb : zr g.1 b = true) {i : Nat} (hi : i < 2 ^ 31) (hE : zE g b a ≤ i) (l3 : Int32) (hk : b_L_areWays_141 nF (nI a) (nI b) nF l3 (V_distance g (nI a) (nI b)) 1 0 g = some (1, g)) : b_L_areWays_97 nF (nI a) (nI b) l3 (V_distance g (nI a) (nI b)) (nI a) (nI b) (nI i) g = some (1, g) := by
  unfold b_L_areWays_97
  refine st_bV ((e_way h ha hb hi).trans (if_neg (by omega))) ?_
  refine st_if rfl ?_
  refine st_bV (e_again h ha hb) ?_
  refine st_bV (e_c7 h) ?_
  unfold b_L_areWays_128
  cases zsing g.1 with
  | false =>
    rw [if_neg zft]
    refine st_el (by decide) ?_
    exact st_if rfl hk
  | true =>
    rw [if_pos rfl]
    refine st_if rfl ?_
    exact st_if rfl hk
theorem p_areWays (h : zwf g.1) {a b : Nat} (ha : zr g.1 a = true) (hb : zr g.1 b = true) : f_L_areWays nF g (nI a) (nI b) = some (1, g) := by
  have a210 := zr_210 h ha
  have b210 := zr_210 h hb
  have l9 := zE_le h hb a
  have es := zE_sym h ha hb
  have ed := e_dist h ha hb
  have hpart : zE g b a ≠ 0 ↔ zCt (zrep g.1) (zL (zo g.1) (zN (zw g.1)) a) = zCt (zrep g.1) (zL (zo g.1) (zN (zw g.1)) b) := (zL_F (zgr h) hb).trans (zpart_eq h ha hb).symm
  have r1 := zCt_le (zrep g.1) (zL (zo g.1) (zN (zw g.1)) a)
  have r2 := zCt_le (zrep g.1) (zL (zo g.1) (zN (zw g.1)) b)
  have r3 : zL (zo g.1) (zN (zw g.1)) a ≤ a := zL_le a
  have r4 : zL (zo g.1) (zN (zw g.1)) b ≤ b := zL_le b
  unfold f_L_areWays
  refine st_bV (e_c1 h) ?_
  refine st_bV rfl ?_
  refine st_bV (y := V_distance g (nI a) (nI b)) (by rw [e_dist h hb ha, ed, es]) ?_
  refine st_if rfl ?_
  by_cases q : zE g b a = 0
  · rw [if_pos q] at ed
    refine st_if ed ?_
    unfold b_L_areWays_37
    refine st_bV ((e_part h (by omega)).trans (if_pos ha)) ?_
    refine st_bV ((e_part h (by omega)).trans (if_pos hb)) ?_
    refine st_el (fun e => hpart.mpr ((nI_eq (by omega) (by omega)).mp e) q) ?_
    unfold b_L_areWays_55
    refine st_if rfl ?_
    refine st_el (by rw [ed]; decide) ?_
    unfold b_L_areWays_68
    refine st_el (fun e => by
      have e := (nI_eq (by omega) (by omega)).mp e
      subst e
      rw [show zE g a a = 1 from (zF_spec (zgr h) ha).1] at q; cases q) ?_
    unfold b_L_areWays_78
    refine st_if rfl ?_
    refine st_el (by rw [ed]; decide) ?_
    refine y97 h ha hb (i := 0) (by decide) (by omega) _ ?_
    obtain ⟨M, hM⟩ : ∃ M, nF = M + 1 := ⟨nF - 1, by have := nF_1; omega⟩
    have e0 : b_L_areWays_141 nF (nI a) (nI b) nF = b_L_areWays_141 nF (nI a) (nI b) (M + 1) := congrArg _ hM
    rw [e0, b_L_areWays_141, ed, if_pos (show (-4 : Int32) ≤ 0 by decide)]
    have y := y336 h ha hb
    rw [if_pos q] at y
    exact y
  · obtain ⟨L, hL⟩ : ∃ L, zE g b a = L + 1 := ⟨zE g b a - 1, by omega⟩
    rw [if_neg q, hL, show L + 1 - 1 = L from rfl] at ed
    refine st_el (by rw [ed]; exact fun e => absurd (show nI L < 0 by rw [e]; decide) (nI_pos (by omega))) ?_
    unfold b_L_areWays_37
    refine st_bV ((e_part h (by omega)).trans (if_pos ha)) ?_
    refine st_bV ((e_part h (by omega)).trans (if_pos hb)) ?_
    refine st_if (by rw [hpart.mp q]) ?_
    unfold b_L_areWays_55
    refine st_if rfl ?_
    have k78 : ∀ s, b_L_areWays_78 nF (nI a) (nI b) (nI (zw g.1)) (V_distance g (nI a) (nI b)) s s g = some (1, g) := by
      intro s
      unfold b_L_areWays_78
      refine st_if rfl ?_
      refine st_if (by rw [ed]; exact nI_pos' (by omega)) ?_
      rw [show V_distance g (nI a) (nI b) + 1 = nI (L + 1) by rw [ed, nI_1]]
      refine y97 h ha hb (by omega) (by omega) _ ?_
      rw [ed]
      exact y141 h ha hb hL 0 (Nat.zero_le _) nF (by have := nF_1; omega)
    by_cases q0 : a = b
    · subst q0
      have e1 : zE g a a = 1 := (zF_spec (zgr h) ha).1
      refine st_if (by rw [ed]; obtain rfl : L = 0 := (by omega); rfl) ?_
      unfold b_L_areWays_68
      exact st_if rfl (k78 1)
    · refine st_el (by
        rw [ed]
        intro e
        have := (nI_eq (b := 0) (by omega) (by decide)).mp e
        exact q0 ((zF_spec (zgr h) hb).2.1 a (show zE g b a = 1 by omega))) ?_
      unfold b_L_areWays_68
      exact st_el (fun e => q0 ((nI_eq (by omega) (by omega)).mp e)) (k78 0)
end WAY

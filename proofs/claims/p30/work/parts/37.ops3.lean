-- the answers, third part: longest, grade, again, parts, counts
theorem zCt_one {p : Nat → Bool} {n a b : Nat} (h : zCt p n = 1) (ha : p a = true) (hb : p b = true) (han : a < n) (hbn : b < n) : a = b := by
  rcases Nat.decEq a b with q | q
  · exfalso
    have e1 := zS_up (f := fun c => if c = a then 0 else (p c).toNat) (g := fun c => (p c).toNat) han (by simp [ha]) (fun c hc => by simp [hc])
    have e2 := zS_up (f := fun c => if c = a ∨ c = b then 0 else (p c).toNat) (g := fun c => if c = a then 0 else (p c).toNat) hbn (by
      have : ¬ b = a := fun e => q e.symm
      simp [hb, this]) (fun c hc => by
      by_cases e : c = a
      · simp [e]
      · simp [e, hc])
    unfold zCt at h
    omega
  · exact q
section OP3
variable {now op ow sg le : Nat → Int32} {w cc rc dc lo sz st go : Int32} {N src : Nat}
noncomputable def zLo (now : Nat → Int32) : Nat → Nat × Nat × Nat
  | 0 => (0, 0, 0)
  | k + 1 => if zr now k = true ∧ (zLo now k).1 < (zBs (zF (zo now) (zN (zw now)) k).1 210).2 then ((zBs (zF (zo now) (zN (zw now)) k).1 210).2, k, (zBs (zF (zo now) (zN (zw now)) k).1 210).1) else zLo now k
theorem zLo_pos (h : zwf now) {c : Nat} (hc : zr now c = true) : ∀ k, c < k → 1 ≤ (zLo now k).1
  | 0, hk => absurd hk (Nat.not_lt_zero c)
  | k + 1, hk => by
    rw [zLo]
    by_cases q : zr now k = true ∧ (zLo now k).1 < (zBs (zF (zo now) (zN (zw now)) k).1 210).2
    · rw [if_pos q]
      show 1 ≤ (zBs (zF (zo now) (zN (zw now)) k).1 210).2
      omega
    · rw [if_neg q]
      by_cases e : c = k
      · subst e
        have := (zBs_at h hc).2.2.1
        have q2 : ¬ (zLo now c).1 < (zBs (zF (zo now) (zN (zw now)) c).1 210).2 := fun x => q ⟨hc, x⟩
        omega
      · exact zLo_pos h hc k (by omega)
theorem zLo_le (h : zwf now) : ∀ k, (zLo now k).1 ≤ 210
  | 0 => Nat.zero_le _
  | k + 1 => by
    rw [zLo]
    by_cases q : zr now k = true ∧ (zLo now k).1 < (zBs (zF (zo now) (zN (zw now)) k).1 210).2
    · rw [if_pos q]; exact (zBs_at h q.1).2.2.2
    · rw [if_neg q]; exact zLo_le h k
theorem zLo_cut (h : zwf now) : zLo now 210 = zLo now (6 * zw now) := by
  have hwl := zwf_w h
  have : ∀ j, zLo now (6 * zw now + j) = zLo now (6 * zw now) := by
    intro j
    induction j with
    | zero => rfl
    | succ j ih => rw [show 6 * zw now + (j + 1) = (6 * zw now + j) + 1 from rfl, zLo, zr_big h (by omega), if_neg (fun e => by cases e.1), ih]
  have := this (210 - 6 * zw now)
  rw [show 6 * zw now + (210 - 6 * zw now) = 210 by omega] at this
  exact this
theorem c_findLongest (h : zwf now) (hs : zsh now w cc rc dc lo ow) (ho : ∀ c, c < 210 → op c = nI (zmf (zo now c))) (hN : 1000 ≤ N) (re ld lf lt : Int32) (D Q : Nat → Int32) :
    ∃ re' D' Q', f_X9_findLongest N re ld lf lt D Q w ow op = some (re', zd (zLo now 210).1, nI (zLo now 210).2.1, nI (zLo now 210).2.2, D', Q') := by
  have hwl := zwf_w h
  unfold f_X9_findLongest
  have key : ∀ k, k ≤ 210 → ∀ F, 210 - k < F → ∀ re lf lt D Q, ((zLo now k).1 ≠ 0 → lf = nI (zLo now k).2.1 ∧ lt = nI (zLo now k).2.2) → ∃ re' D' Q', b_X9_findLongest_7 N w ow op F (nI k) re (zd (zLo now k).1) lf lt D Q = some (re', zd (zLo now 210).1, nI (zLo now 210).2.1, nI (zLo now 210).2.2, D', Q') := by
    refine dn 210 ?_ ?_
    · intro F hF re lf lt D Q hst
      obtain ⟨F, rfl⟩ : ∃ G, F = G + 1 := ⟨F - 1, by omega⟩
      have hp := zLo_pos h (zbase h (Nat.le_refl (5 * zw now)) (by omega)).1 210 (by omega)
      obtain ⟨e1, e2⟩ := hst (by omega)
      rw [b_X9_findLongest_7, if_pos (show (210 : Int32) ≤ nI 210 by decide), e1, e2]
      exact ⟨re, D, Q, rfl⟩
    · intro k hk ih F hF re lf lt D Q hst
      obtain ⟨F, rfl⟩ : ∃ G, F = G + 1 := ⟨F - 1, by omega⟩
      have hih := ih F (by omega)
      rw [zLo] at hih
      rw [b_X9_findLongest_7, if_neg (show ¬ (210 : Int32) ≤ nI k from nI_ge (b := 210) hk (by decide)), c_holds h hs (show k < 2 ^ 31 by omega), nI_1]
      cases hr : zr now k with
      | false =>
        rw [hr, if_neg (fun e => by cases e.1)] at hih
        rw [if_pos zi_f]
        exact hih re lf lt D Q hst
      | true =>
        obtain ⟨D', Q', e1, R1⟩ := c_spread h ho hr hN re D Q
        obtain ⟨b1, b2, b3, b4⟩ := zBs_at h hr
        have hG := zLo_le h k
        rw [if_neg (show ¬ zi true = 0 by decide), hs.1, bnd3_e e1, ← hs.1, bnd1_e (c_farthestRoom h hs hN hr R1.1), at_lt D' (by decide) (by omega), R1.1 _ (by omega), b2]
        by_cases q : (zLo now k).1 < (zBs (zF (zo now) (zN (zw now)) k).1 210).2
        · rw [if_pos ⟨hr, q⟩] at hih
          rw [if_neg (fun e => by have := (zd_le (by omega) (by omega)).mp e; omega)]
          exact hih _ _ _ _ _ (fun _ => ⟨rfl, rfl⟩)
        · rw [if_neg (fun e => q e.2)] at hih
          rw [if_pos ((zd_le (by omega) (by omega)).mpr (by omega))]
          exact hih _ _ _ _ _ hst
  exact key 0 (by omega) N (by omega) re lf lt D Q (fun e => absurd rfl e)
theorem m_longest (h : zwf now) (hN : 1000 ≤ N) {i : Nat} (hi : i ≤ 2) (far ring : Nat → Int32) :
    ∃ far' ring', b_X11_longest_21 N now (nI i) N (-1) 0 0 0 far ring = some (if i = 0 then zd (zLo now 210).1 else if i = 1 then nI (zLo now 210).2.1 else nI (zLo now 210).2.2, far', ring') := by
  have hwl := zwf_w h
  rw [zLo_cut h]
  have key : ∀ k, k ≤ 6 * zw now → ∀ F, 6 * zw now - k < F → ∀ far ring, ∃ far' ring', b_X11_longest_21 N now (nI i) F (zd (zLo now k).1) (nI (zLo now k).2.1) (nI (zLo now k).2.2) (nI k) far ring = some (if i = 0 then zd (zLo now (6 * zw now)).1 else if i = 1 then nI (zLo now (6 * zw now)).2.1 else nI (zLo now (6 * zw now)).2.2, far', ring') := by
    refine dn _ ?_ ?_
    · intro F hF far ring
      obtain ⟨F, rfl⟩ : ∃ G, F = G + 1 := ⟨F - 1, by omega⟩
      rw [b_X11_longest_21, m_cells h, if_pos (nI_le (Nat.le_refl _) (by omega))]
      refine ⟨far, ring, ?_⟩
      rcases (show i = 0 ∨ i = 1 ∨ i = 2 by omega) with rfl | rfl | rfl
      · rw [if_pos (by decide), if_pos rfl]
      · rw [if_neg (show ¬ nI 1 = (0 : Int32) by decide), if_pos (by decide), if_neg (by decide), if_pos rfl]
      · rw [if_neg (show ¬ nI 2 = (0 : Int32) by decide), if_neg (show ¬ nI 2 = (1 : Int32) by decide), if_neg (by decide), if_neg (by decide)]
    · intro k hk ih F hF far ring
      obtain ⟨F, rfl⟩ : ∃ G, F = G + 1 := ⟨F - 1, by omega⟩
      have hih := ih F (by omega)
      rw [zLo] at hih
      rw [b_X11_longest_21, m_cells h, if_neg (nI_ge hk (by omega)), bnd1_e (m_isRoomAt h hk), nI_1]
      cases hr : zr now k with
      | false =>
        rw [hr, if_neg (fun e => by cases e.1)] at hih
        rw [if_pos zi_f]
        exact hih far ring
      | true =>
        obtain ⟨far', ring', e1, R1⟩ := m_lays h hr hN far ring
        obtain ⟨b1, b2, b3, b4⟩ := zBs_at h hr
        have hG := zLo_le h k
        rw [if_neg (show ¬ zi true = 0 by decide), bnd2_e e1, bnd1_e (m_farthestOf h hN hr R1.1), nI_clamp (show (zBs (zF (zo now) (zN (zw now)) k).1 210).1 < 2 ^ 31 by omega), if_neg (zck (show (zBs (zF (zo now) (zN (zw now)) k).1 210).1 < 210 by omega) (by decide)), if_neg (zck (show (zBs (zF (zo now) (zN (zw now)) k).1 210).1 < 210 by omega) (by decide)), R1.1 _ b1, b2]
        by_cases q : (zLo now k).1 < (zBs (zF (zo now) (zN (zw now)) k).1 210).2
        · rw [if_pos ⟨hr, q⟩] at hih
          rw [if_neg (fun e => by have := (zd_le (by omega) (by omega)).mp e; omega)]
          exact hih far' ring'
        · rw [if_neg (fun e => q e.2)] at hih
          rw [if_pos ((zd_le (by omega) (by omega)).mpr (by omega))]
          exact hih far' ring'
  exact key 0 (Nat.zero_le _) N (by omega) far ring
theorem o_longest (h : zwf now) (hs : zsh now w cc rc dc lo ow) (ho : ∀ c, c < 210 → op c = nI (zmf (zo now c))) (hN : 1000 ≤ N) (re ld lf lt : Int32) (D Q far ring : Nat → Int32) (x : Int32) :
    ∃ r re' ld' lf' lt' D' Q' far' ring', f_X10_longest N w ow op re ld lf lt D Q x = some (r, re', ld', lf', lt', D', Q') ∧ f_X11_longest N now far ring x = some (r, far', ring') := by
  unfold f_X10_longest f_X11_longest
  rcases zarg x with hx | ⟨i, hi, rfl⟩
  · exact ⟨-1, re, ld, lf, lt, D, Q, far, ring, by rw [if_pos hx], by rw [zin_neg hx, if_pos rfl]⟩
  rw [if_neg (nI_pos hi), show t_X11_in (nI i) 0 (2 : Int32) = zi (decide (i ≤ 2)) from zin hi (by decide)]
  by_cases q : i ≤ 2
  · obtain ⟨re', D', Q', e1⟩ := c_findLongest h hs ho hN re ld lf lt D Q
    obtain ⟨far', ring', e2⟩ := m_longest h hN q far ring
    rw [if_pos (show nI i ≤ (2 : Int32) from nI_le q (by decide)), decide_eq_true q, if_neg (show ¬ zi true = 0 by decide), bnd6_e e1, e2]
    refine ⟨_, re', zd (zLo now 210).1, nI (zLo now 210).2.1, nI (zLo now 210).2.2, D', Q', far', ring', ?_, rfl⟩
    rcases (show i = 0 ∨ i = 1 ∨ i = 2 by omega) with rfl | rfl | rfl
    · rw [if_pos (by decide), if_pos rfl]
    · rw [if_neg (show ¬ nI 1 = (0 : Int32) by decide), if_pos (by decide), if_neg (by decide), if_pos rfl]
    · rw [if_neg (show ¬ nI 2 = (0 : Int32) by decide), if_neg (show ¬ nI 2 = (1 : Int32) by decide), if_neg (by decide), if_neg (by decide)]
  · rw [if_neg (show ¬ nI i ≤ (2 : Int32) from nI_ge (a := 2) (by omega) hi), decide_eq_false q, if_pos zi_f]
    exact ⟨-1, re, ld, lf, lt, D, Q, far, ring, rfl, rfl⟩
-- grade
noncomputable def zFk (now : Nat → Int32) (src : Nat) : Nat → Nat → Nat
  | 0, _ => 0
  | r + 1, c => (decide (3 ≤ zdg now c)).toNat + zFk now src r (zN (zw now) c (zpi now src c))
theorem zFk_le (src : Nat) : ∀ r c, zFk now src r c ≤ r
  | 0, _ => Nat.le_refl 0
  | r + 1, c => by
    have h1 := zFk_le src r (zN (zw now) c (zpi now src c))
    have h2 := Bool.toNat_le (decide (3 ≤ zdg now c))
    rw [zFk]; omega
theorem c_forks (h : zwf now) (ho : ∀ c, c < 210 → op c = nI (zmf (zo now c))) (hN : 1000 ≤ N) (hs : zr now src = true) {D : Nat → Int32} (hD : ∀ c, c < 210 → D c = zd ((zF (zo now) (zN (zw now)) src).1 c)) (va2 : Int32) :
    ∀ r s c F, r < F → (zF (zo now) (zN (zw now)) src).1 c = r + 1 → r ≤ 210 → zr now c = true → b_X9_forksAhead_15 N D (nI (zw now)) op va2 F (nI s) (nI c) (nI r) = some (nI (s + zFk now src r c)) := by
  intro r
  induction r with
  | zero =>
    intro s c F hF _ _ _
    obtain ⟨F, rfl⟩ : ∃ G, F = G + 1 := ⟨F - 1, by omega⟩
    rw [b_X9_forksAhead_15, if_pos (show nI 0 ≤ 0 by decide)]; rfl
  | succ r ih =>
    intro s c F hF hE hr hc
    obtain ⟨F, rfl⟩ : ∃ G, F = G + 1 := ⟨F - 1, by omega⟩
    obtain ⟨p1, p2, p3⟩ := zpi_lt h hs (show 2 ≤ (zF (zo now) (zN (zw now)) src).1 c by omega)
    have g2 := ((zgr h).1 c _ p1 p2).2.1
    have b32 : ∀ x : Nat, b_X9_forksAhead_32 N D (nI (zw now)) op va2 (b_X9_forksAhead_15 N D (nI (zw now)) op va2 F) (nI x) (nI c) (nI (r + 1)) = some (nI (x + zFk now src r (zN (zw now) c (zpi now src c)))) := by
      intro x
      unfold b_X9_forksAhead_32
      rw [bnd1_e (c_nextRoom h ho hN hs hD (zr_210 h hc) (by omega)), pk_m1]
      exact ih x _ F (by omega) (by omega) (by omega) g2
    rw [b_X9_forksAhead_15, if_neg (nI_nle (by omega) (by omega)), c_isFork ho (zr_210 h hc), zFk]
    cases decide (3 ≤ zdg now c) with
    | false =>
      rw [if_pos zi_f, b32]
      exact congrArg (fun x => some (nI x)) (by show _ = s + (0 + _); omega)
    | true =>
      rw [if_neg (show ¬ zi true = 0 by decide), nI_1, b32]
      exact congrArg (fun x => some (nI x)) (by show _ = s + (1 + _); omega)
theorem zgrade_e {L f m : Nat} (hL : L + 1 ≤ m) (hf : f ≤ 210) (hm : m ≤ 210) :
    (nI L + (4 : Int32) * nI f + (nI m - (nI L + 1)) / (2 : Int32)) / (10 : Int32) = nI ((L + 4 * f + (m - (L + 1)) / 2) / 10) ∧ (nI L + (4 : Int32) * nI f + ((nI m - nI L) - 1) / (2 : Int32)) / (10 : Int32) = nI ((L + 4 * f + (m - (L + 1)) / 2) / 10) := by
  have e4 : (4 : Int32) * nI f = nI (4 * f) := pk_mul 4 f
  have e10 : ∀ a, a < 2 ^ 31 → nI a / (10 : Int32) = nI (a / 10) := fun a ha => pk_div (d := 10) ha (by decide) (by decide)
  constructor
  · rw [nI_1, pk_sub hL, zdiv2 (by omega), e4, nI_add, nI_add, e10 _ (by omega)]
  · rw [pk_sub (show L ≤ m by omega), show nI (m - L) - (1 : Int32) = nI (m - L - 1) from pk_sub (b := 1) (by omega), zdiv2 (by omega), e4, nI_add, nI_add, e10 _ (by omega)]
    exact congrArg nI (by omega)
theorem m_g77 (h : zwf now) (hN : 1000 ≤ N) {start goal : Nat} (hst : zr now start = true) (hgo : zr now goal = true) {far ring : Nat → Int32} (hD : ∀ c, c < 6 * zw now → far c = zd ((zF (zo now) (zN (zw now)) goal).1 c)) (l3 : Int32) :
    ∀ r s c F, r < F → (zF (zo now) (zN (zw now)) goal).1 c = r + 1 → r ≤ 210 → zr now c = true → b_X11_grade_77 N now F (nI start) (nI goal) l3 (nI s) (nI c) far ring = b_X11_grade_77 N now 1 (nI start) (nI goal) l3 (nI (s + zFk now goal r c)) (nI goal) far ring := by
  intro r
  induction r with
  | zero =>
    intro s c F hF hE _ _
    obtain ⟨F, rfl⟩ : ∃ G, F = G + 1 := ⟨F - 1, by omega⟩
    have e : c = goal := (zF_spec (zgr h) hgo).2.1 c (by omega)
    subst e
    rw [b_X11_grade_77, b_X11_grade_77, if_pos rfl, if_pos rfl]; rfl
  | succ r ih =>
    intro s c F hF hE hr hc
    obtain ⟨F, rfl⟩ : ∃ G, F = G + 1 := ⟨F - 1, by omega⟩
    obtain ⟨p1, p2, p3⟩ := zpi_lt h hgo (show 2 ≤ (zF (zo now) (zN (zw now)) goal).1 c by omega)
    have g2 := ((zgr h).1 c _ p1 p2).2.1
    have hcl := zr_lt hc
    have hne : ¬ nI c = nI goal := fun e => by
      have h1 := zr_210 h hc
      have h2 := zr_210 h hgo
      have e := (nI_eq (by omega) (by omega)).mp e
      rw [e, (zF_spec (zgr h) hgo).1] at hE
      omega
    have b99 : ∀ (b : Bool) (y : Int32), y = zi b → b_X11_grade_99 N now (b_X11_grade_77 N now F) (nI start) (nI goal) l3 (nI c) (nI s) y far ring = b_X11_grade_77 N now 1 (nI start) (nI goal) l3 (nI (s + b.toNat + zFk now goal r (zN (zw now) c (zpi now goal c)))) (nI goal) far ring := by
      intro b y hy
      unfold b_X11_grade_99
      have ey : nI s + y = nI (s + b.toNat) := by
        rw [hy]; cases b
        · exact nI_add s 0
        · exact nI_add s 1
      rw [bnd1_e (m_leads h hN hgo hD hcl (by omega)), bnd1_e (m_next h hgo hcl (by omega)), ey]
      exact ih _ _ F (by omega) (by omega) (by omega) g2
    conv => lhs; rw [b_X11_grade_77, if_neg hne, bnd1_e (m_isFork h hN hcl)]
    rw [zFk]
    cases decide (3 ≤ zdg now c) with
    | false =>
      rw [if_pos zi_f, b99 false 0 rfl]
      exact congrArg (fun x => b_X11_grade_77 N now 1 (nI start) (nI goal) l3 (nI x) (nI goal) far ring) (Nat.add_assoc _ _ _)
    | true =>
      rw [if_neg (show ¬ zi true = 0 by decide), b99 true 1 rfl]
      exact congrArg (fun x => b_X11_grade_77 N now 1 (nI start) (nI goal) l3 (nI x) (nI goal) far ring) (Nat.add_assoc _ _ _)
theorem o_grade (h : zwf now) (ho : ∀ c, c < 210 → op c = nI (zmf (zo now c))) (hN : 1000 ≤ N) (hst0 : st = now 7) (hgo0 : go = now 8) (re : Int32) (D Q far ring : Nat → Int32) :
    ∃ r re' D' Q' far' ring', f_X10_grade N (nI (zw now)) st go op re D Q = some (r, re', D', Q') ∧ f_X11_grade N now far ring = some (r, far', ring') := by
  have hwl := zwf_w h
  obtain ⟨start, e7, hst⟩ := h.2.2.1
  obtain ⟨goal, e8, hgo⟩ := h.2.2.2.1
  obtain ⟨D', Q', e1, R1⟩ := c_spread h ho hgo hN re D Q
  obtain ⟨far', ring', e2, R2⟩ := m_lays h hgo hN far ring
  obtain ⟨s1, s2, s3, s4, s5, s6, s7, s8, s9⟩ := zF_spec (zgr h) hgo
  have l9 := s9 start
  have hm := zF_m h hgo start
  have h210 := zr_210 h hst
  unfold f_X10_grade f_X11_grade
  rw [show (8 : Int32).toNatClampNeg = 8 from rfl, show (7 : Int32).toNatClampNeg = 7 from rfl, hst0, hgo0, e7, e8, bnd3_e e1, bnd2_e e2, at_lt D' (by decide) h210, R1.1 _ h210, nI_clamp (show start < 2 ^ 31 by omega), if_neg (zck h210 (by decide)), R2.1 _ (zr_lt hst)]
  by_cases q : (zF (zo now) (zN (zw now)) goal).1 start = 0
  · rw [if_pos ((zd_m1 (by omega)).mpr q), if_neg (fun e => (zd_nn (by omega)).mp e q)]
    exact ⟨-4, _, D', Q', far', ring', rfl, rfl⟩
  · obtain ⟨L, hL⟩ : ∃ L, (zF (zo now) (zN (zw now)) goal).1 start = L + 1 := ⟨(zF (zo now) (zN (zw now)) goal).1 start - 1, by omega⟩
    have hfk := zFk_le (now := now) goal L start
    rw [if_neg (fun e => q ((zd_m1 (by omega)).mp e)), if_pos ((zd_nn (by omega)).mpr q), hL]
    show ∃ r re' D'_1 Q'_1 far'_1 ring'_1, (bnd1 (f_X9_forksAhead N D' (nI (zw now)) op (nI start)) fun r68 => some (if (9 : Int32) < ((nI L + (4 : Int32) * r68) + ((nI (zF (zo now) (zN (zw now)) goal).2.2 - (nI L + 1)) / (2 : Int32))) / (10 : Int32) then (9 : Int32) else ((nI L + (4 : Int32) * r68) + ((nI (zF (zo now) (zN (zw now)) goal).2.2 - (nI L + 1)) / (2 : Int32))) / (10 : Int32), nI (zF (zo now) (zN (zw now)) goal).2.2, D', Q')) = some (r, re', D'_1, Q'_1) ∧ b_X11_grade_38 N now N (nI start) (nI goal) 0 0 far' ring' = some (r, far'_1, ring'_1)
    have ef : f_X9_forksAhead N D' (nI (zw now)) op (nI start) = some (nI (zFk now goal L start)) := by
      unfold f_X9_forksAhead
      rw [at_lt D' (by decide) h210, R1.1 _ h210, hL]
      have := c_forks h ho hN hgo R1.1 (nI start) L 0 start N (by omega) hL (by omega) hst
      rw [Nat.zero_add] at this
      exact this
    obtain ⟨g1, g2⟩ := zgrade_e (L := L) (f := zFk now goal L start) (m := (zF (zo now) (zN (zw now)) goal).2.2) (by omega) (by omega) s8
    rw [bnd1_e ef, g1]
    -- the model's count of the part
    have e38 : b_X11_grade_38 N now N (nI start) (nI goal) 0 0 far' ring' = b_X11_grade_77 N now N (nI start) (nI goal) (nI (zF (zo now) (zN (zw now)) goal).2.2) 0 (nI start) far' ring' := by
      have ecut : (zF (zo now) (zN (zw now)) goal).2.2 = zCt (fun c => decide (0 < (zF (zo now) (zN (zw now)) goal).1 c)) (6 * zw now) := by
        rw [s7]
        exact zCt_cut (by omega) (fun c hc => by rw [zF_big h hgo hc]; rfl)
      rw [ecut]
      have key : ∀ k, k ≤ 6 * zw now → ∀ F, 6 * zw now - k < F → b_X11_grade_38 N now F (nI start) (nI goal) (nI (zCt (fun c => decide (0 < (zF (zo now) (zN (zw now)) goal).1 c)) k)) (nI k) far' ring' = b_X11_grade_77 N now N (nI start) (nI goal) (nI (zCt (fun c => decide (0 < (zF (zo now) (zN (zw now)) goal).1 c)) (6 * zw now))) 0 (nI start) far' ring' := by
        refine dn _ ?_ ?_
        · intro F hF
          obtain ⟨F, rfl⟩ : ∃ G, F = G + 1 := ⟨F - 1, by omega⟩
          rw [b_X11_grade_38, m_cells h, if_pos (nI_le (Nat.le_refl _) (by omega))]
        · intro k hk ih F hF
          obtain ⟨F, rfl⟩ : ∃ G, F = G + 1 := ⟨F - 1, by omega⟩
          have hih := ih F (by omega)
          rw [zCt_s] at hih
          have hl := s9 k
          rw [b_X11_grade_38, m_cells h, if_neg (nI_ge hk (by omega)), nI_clamp (show k < 2 ^ 31 by omega), if_neg (zck (show k < 210 by omega) (by decide)), R2.1 k hk, nI_1 k]
          by_cases q0 : (zF (zo now) (zN (zw now)) goal).1 k = 0
          · rw [decide_eq_false (show ¬ 0 < (zF (zo now) (zN (zw now)) goal).1 k by omega)] at hih
            rw [if_pos ((zd_neg (by omega)).mpr q0), zs0]; exact hih
          · rw [decide_eq_true (show 0 < (zF (zo now) (zN (zw now)) goal).1 k by omega)] at hih
            rw [if_neg (fun e => q0 ((zd_neg (by omega)).mp e)), zs1]; exact hih
      exact key 0 (Nat.zero_le _) N (by omega)
    have e77 := m_g77 h hN hst hgo R2.1 (ring := ring') (nI (zF (zo now) (zN (zw now)) goal).2.2) L 0 start N (by omega) hL (by omega) hst
    rw [Nat.zero_add] at e77
    rw [e38, show (0 : Int32) = nI 0 from rfl, e77, b_X11_grade_77, if_pos rfl, nI_clamp (show start < 2 ^ 31 by omega), if_neg (zck h210 (by decide)), if_neg (zck h210 (by decide)), R2.1 _ (zr_lt hst), hL]
    have g2 : ((zd (L + 1) + (4 : Int32) * nI (zFk now goal L start)) + (((nI (zF (zo now) (zN (zw now)) goal).2.2 - zd (L + 1)) - (1 : Int32)) / (2 : Int32))) / (10 : Int32) = _ := g2
    rw [g2]
    by_cases q9 : nI ((L + 4 * zFk now goal L start + ((zF (zo now) (zN (zw now)) goal).2.2 - (L + 1)) / 2) / 10) ≤ (9 : Int32)
    · rw [if_pos q9, if_neg (Int32.not_lt.mpr q9)]
      exact ⟨_, _, D', Q', far', ring', rfl, rfl⟩
    · rw [if_neg q9, if_pos (Int32.not_le.mp q9)]
      exact ⟨_, _, D', Q', far', ring', rfl, rfl⟩
-- again
theorem zsing_all (h : zwf now) (hsg : zsing now = true) {lw : Nat} (h1 : zr now lw = true) (h2 : ∀ j, j < lw → zr now j = false) : ∀ c, zr now c = true → (zF (zo now) (zN (zw now)) lw).1 c ≠ 0 := by
  intro c hc
  have hG := zgr h
  obtain ⟨L1, L2, L3, L4⟩ := zL_spec hG
  unfold zsing at hsg
  rw [Bool.and_eq_true] at hsg
  have hp := of_decide_eq_true hsg.2
  have rep : ∀ c, zr now c = true → zrep now (zL (zo now) (zN (zw now)) c) = true ∧ zL (zo now) (zN (zw now)) c < 210 := by
    intro c hc
    have := zC_rm hG (L3 c) hc
    refine ⟨?_, zr_210 h this⟩
    unfold zrep
    rw [this, L2 c, decide_eq_true rfl]; rfl
  have e := zCt_one hp (rep c hc).1 (rep lw h1).1 (rep c hc).2 (rep lw h1).2
  exact (zL_F hG h1).mpr e
theorem c_meet (h : zwf now) (ho : ∀ c, c < 210 → op c = nI (zmf (zo now c))) (hN : 1000 ≤ N) (hs : zr now src = true) (hall : ∀ c, zr now c = true → (zF (zo now) (zN (zw now)) src).1 c ≠ 0) (ht : ∀ c d, d < 4 → zo now c d = true → zpi now src c = d ∨ zpi now src (zN (zw now) c d) = zO d) {D : Nat → Int32} (hD : ∀ c, c < 210 → D c = zd ((zF (zo now) (zN (zw now)) src).1 c)) (va2 va3 : Int32) :
    ∀ n a b k F, zr now a = true → zr now b = true → (zF (zo now) (zN (zw now)) b).1 a = n + 1 → n < F → k + n ≤ 420 →
      ∃ m, b_X9_meeting_9 N D (nI (zw now)) op va2 va3 F (nI a) (nI b) (nI k) = some (nI m) ∧ zr now m = true ∧ (zF (zo now) (zN (zw now)) src).1 a + (zF (zo now) (zN (zw now)) src).1 b = 2 * (zF (zo now) (zN (zw now)) src).1 m + n := by
  have hG := zgr h
  obtain ⟨s1, s2, s3, s4, s5, s6, s7, s8, s9⟩ := zF_spec hG hs
  intro n
  induction n with
  | zero =>
    intro a b k F ha hb hE hF hk
    obtain ⟨F, rfl⟩ : ∃ G, F = G + 1 := ⟨F - 1, by omega⟩
    have e : a = b := (zF_spec hG hb).2.1 a (by omega)
    subst e
    refine ⟨a, ?_, ha, by omega⟩
    rw [b_X9_meeting_9, if_pos rfl]
    by_cases q : (420 : Int32) ≤ nI k
    · rw [if_pos q]
    · rw [if_neg q]
  | succ n ih =>
    intro a b k F ha hb hE hF hk
    obtain ⟨F, rfl⟩ : ∃ G, F = G + 1 := ⟨F - 1, by omega⟩
    have a210 := zr_210 h ha
    have b210 := zr_210 h hb
    have hne : a ≠ b := fun e => by
      rw [e, (zF_spec hG hb).1] at hE; omega
    have la := s9 a
    have lb := s9 b
    have ea := hall a ha
    have eb := hall b hb
    rw [b_X9_meeting_9, if_neg (show ¬ (420 : Int32) ≤ nI k from nI_ge (b := 420) (by omega) (by decide)), if_neg (fun e => hne ((nI_eq (by omega) (by omega)).mp e)), at_lt D (by decide) a210, at_lt D (by decide) b210, hD a a210, hD b b210, nI_1]
    by_cases q : (zF (zo now) (zN (zw now)) src).1 a < (zF (zo now) (zN (zw now)) src).1 b
    · have hlt : zd ((zF (zo now) (zN (zw now)) src).1 a) < zd ((zF (zo now) (zN (zw now)) src).1 b) := Int32.not_le.mp (fun e => by have := (zd_le (by omega) (by omega)).mp e; omega)
      have hsym := zF_sym hG hb ha
      obtain ⟨p1, p2⟩ := zTree_up hG ht ha (n + 2) b (by rw [hsym]; exact hE) (by omega) (fun e => hne e.symm) (by omega)
      obtain ⟨p3, p4⟩ := zP_ok p1
      have g2 : zr now (zN (zw now) b (zpi now src b)) = true := (hG.1 b _ p1 p3).2.1
      have hbE : (zF (zo now) (zN (zw now)) (zN (zw now) b (zpi now src b))).1 a = n + 1 := by
        rw [zF_sym hG ha g2]
        have p2 : (zF (zo now) (zN (zw now)) a).1 b = (zF (zo now) (zN (zw now)) a).1 (zN (zw now) b (zpi now src b)) + 1 := p2
        rw [hsym, hE] at p2
        show (zF (zo now) (zN (zw now)) a).1 (zN (zw now) b (zpi now src b)) = n + 1
        omega
      obtain ⟨m, e1, e2, e3⟩ := ih a (zN (zw now) b (zpi now src b)) (k + 1) F ha g2 hbE (by omega) (by omega)
      rw [if_pos hlt, bnd1_e (c_nextRoom h ho hN hs hD b210 (by omega))]
      refine ⟨m, e1, e2, ?_⟩
      have p4 : (zF (zo now) (zN (zw now)) src).1 (zN (zw now) b (zpi now src b)) + 1 = (zF (zo now) (zN (zw now)) src).1 b := p4
      omega
    · have hlt : ¬ zd ((zF (zo now) (zN (zw now)) src).1 a) < zd ((zF (zo now) (zN (zw now)) src).1 b) := fun e => absurd ((zd_le (a := (zF (zo now) (zN (zw now)) src).1 b) (b := (zF (zo now) (zN (zw now)) src).1 a) (by omega) (by omega)).mpr (by omega)) (Int32.not_le.mpr e)
      obtain ⟨p1, p2⟩ := zTree_up hG ht hb (n + 2) a hE (by omega) hne (by omega)
      obtain ⟨p3, p4⟩ := zP_ok p1
      have g2 : zr now (zN (zw now) a (zpi now src a)) = true := (hG.1 a _ p1 p3).2.1
      have hgE := hall _ g2
      have p2 : (zF (zo now) (zN (zw now)) b).1 a = (zF (zo now) (zN (zw now)) b).1 (zN (zw now) a (zpi now src a)) + 1 := p2
      have p4 : (zF (zo now) (zN (zw now)) src).1 (zN (zw now) a (zpi now src a)) + 1 = (zF (zo now) (zN (zw now)) src).1 a := p4
      have hgE : (zF (zo now) (zN (zw now)) src).1 (zN (zw now) a (zpi now src a)) ≠ 0 := hgE
      obtain ⟨m, e1, e2, e3⟩ := ih (zN (zw now) a (zpi now src a)) b (k + 1) F g2 hb (by omega) (by omega) (by omega)
      rw [if_neg hlt, bnd1_e (c_nextRoom h ho hN hs hD a210 (by omega))]
      exact ⟨m, e1, e2, by omega⟩
theorem o_again (h : zwf now) (hs : zsh now w cc rc dc lo ow) (ho : ∀ c, c < 210 → op c = nI (zmf (zo now c))) (hN : 1000 ≤ N) (re : Int32) (D pa Q lab far ring : Nat → Int32) (x y : Int32) :
    ∃ r re' D' pa' Q' lab' far' ring', f_X10_again N w rc lo ow op re D pa Q x y = some (r, re', D', pa', Q') ∧ f_X11_again N now lab far ring x y = some (r, lab', far', ring') := by
  have hG := zgr h
  unfold f_X10_again f_X11_again f_X11_distance
  rcases zarg x with hx | ⟨a, ha, rfl⟩
  · exact ⟨-1, re, D, pa, Q, lab, far, ring, by rw [c_holds_neg hx, if_pos rfl], by rw [bnd1_e (m_hasRoom_neg hx), if_pos rfl, bnd3_e rfl, if_pos rfl]⟩
  rw [bnd1_e (m_hasRoom h ha), c_holds h hs ha]
  cases hra : zr now a with
  | false => exact ⟨-1, re, D, pa, Q, lab, far, ring, rfl, by rw [if_pos zi_f, bnd3_e rfl, if_pos rfl]⟩
  | true =>
    rw [if_neg (show ¬ zi true = 0 by decide), if_neg (show ¬ zi true = 0 by decide)]
    rcases zarg y with hy | ⟨b, hb, rfl⟩
    · exact ⟨-1, re, D, pa, Q, lab, far, ring, by rw [c_holds_neg hy, if_pos rfl], by rw [bnd1_e (m_hasRoom_neg hy), if_pos rfl, bnd3_e rfl, if_pos rfl]⟩
    rw [bnd1_e (m_hasRoom h hb), c_holds h hs hb]
    cases hrb : zr now b with
    | false => exact ⟨-1, re, D, pa, Q, lab, far, ring, rfl, by rw [if_pos zi_f, bnd3_e rfl, if_pos rfl]⟩
    | true =>
      obtain ⟨re1, D1, pa1, Q1, e1⟩ := c_isSingle h hs ho hN re D pa Q
      obtain ⟨far', ring', e2, R2⟩ := m_lays h hrb hN far ring
      obtain ⟨lab', e3⟩ := m_isSingle h hN lab
      have a210 := zr_210 h hra
      have b210 := zr_210 h hrb
      have l9 := (zF_spec hG hrb).2.2.2.2.2.2.2.2 a
      rw [if_neg (show ¬ zi true = 0 by decide), if_neg (show ¬ zi true = 0 by decide), bnd5_e e1, bnd2_e e2, nI_clamp ha, if_neg (zck a210 (by decide)), if_neg (zck a210 (by decide)), R2.1 a (zr_lt hra)]
      -- the model's answer of the distance
      have em : ∀ (v : Int32), ¬ v = -1 → (bnd3 (some (v, far', ring')) fun r3 o3_0 o3_1 => if r3 = (-1 : Int32) then some (r3, lab, o3_0, o3_1) else bnd2 (f_X11_isSingle N now lab) fun r17 o17_0 => if r17 = 0 then some ((-2 : Int32), o17_0, o3_0, o3_1) else some (r3, o17_0, o3_0, o3_1)) = some (if zi (zsing now) = 0 then -2 else v, lab', far', ring') := by
        intro v hv
        rw [bnd3_e rfl, if_neg hv, bnd2_e e3]
        by_cases q : zi (zsing now) = 0
        · rw [if_pos q, if_pos q]
        · rw [if_neg q, if_neg q]
      cases hsg : zsing now with
      | false =>
        rw [hsg] at em
        rw [if_pos zi_f]
        by_cases q : (zF (zo now) (zN (zw now)) b).1 a = 0
        · rw [if_neg (fun e => (zd_nn (by omega)).mp e q), em (-4) (by decide)]
          exact ⟨-2, re1, D1, pa1, Q1, lab', far', ring', rfl, rfl⟩
        · rw [if_pos ((zd_nn (by omega)).mpr q), em _ (fun e => q ((zd_m1 (by omega)).mp e))]
          exact ⟨-2, re1, D1, pa1, Q1, lab', far', ring', rfl, rfl⟩
      | true =>
        rw [hsg] at em
        obtain ⟨lw, h1, h2, h3⟩ := hs.2.2.2.2.1
        have hall := zsing_all h hsg h2 h3
        have hsg2 := hsg
        unfold zsing at hsg2
        rw [Bool.and_eq_true] at hsg2
        have q1 := of_decide_eq_true hsg2.1
        have q2 := of_decide_eq_true hsg2.2
        have ht := zTree hG (zgr2 h) h2 hall (by unfold zod at q1; omega)
        obtain ⟨D2, Q2, e4, R4⟩ := c_spread h ho h2 hN re1 D1 Q1
        have hab : (zF (zo now) (zN (zw now)) b).1 a ≠ 0 := by
          rw [zF_C hG hrb]
          exact zC_tr ((zF_C hG h2).mp (hall a hra)) (zC_sy hG ((zF_C hG h2).mp (hall b hrb)))
        obtain ⟨n, hn⟩ : ∃ n, (zF (zo now) (zN (zw now)) b).1 a = n + 1 := ⟨(zF (zo now) (zN (zw now)) b).1 a - 1, by omega⟩
        obtain ⟨m, f1, f2, f3⟩ := c_meet h ho hN h2 hall ht R4.1 (nI a) (nI b) n a b 0 N hra hrb hn (by omega) (by omega)
        have m210 := zr_210 h f2
        rw [if_neg (show ¬ zi true = 0 by decide), if_pos ((zd_nn (by omega)).mpr hab), em _ (fun e => hab ((zd_m1 (by omega)).mp e)), if_neg (show ¬ zi true = 0 by decide), hs.1, h1, bnd3_e e4]
        have fm : f_X9_meeting N D2 (nI (zw now)) op (nI a) (nI b) = some (nI m) := f1
        rw [bnd1_e fm, at_lt D2 (by decide) a210, at_lt D2 (by decide) b210, at_lt D2 (by decide) m210, R4.1 a a210, R4.1 b b210, R4.1 m m210, hn]
        have ea := hall a hra
        have eb := hall b hrb
        have em2 := hall m f2
        have s9 := (zF_spec hG h2).2.2.2.2.2.2.2.2
        have la := s9 a
        have lb := s9 b
        have lm := s9 m
        obtain ⟨ua, hua⟩ : ∃ u, (zF (zo now) (zN (zw now)) lw).1 a = u + 1 := ⟨(zF (zo now) (zN (zw now)) lw).1 a - 1, by omega⟩
        obtain ⟨ub, hub⟩ : ∃ u, (zF (zo now) (zN (zw now)) lw).1 b = u + 1 := ⟨(zF (zo now) (zN (zw now)) lw).1 b - 1, by omega⟩
        obtain ⟨um, hum⟩ : ∃ u, (zF (zo now) (zN (zw now)) lw).1 m = u + 1 := ⟨(zF (zo now) (zN (zw now)) lw).1 m - 1, by omega⟩
        rw [hua, hub, hum]
        rw [hua, hub, hum] at f3
        have ev : zd (ua + 1) + zd (ub + 1) - (2 : Int32) * zd (um + 1) = zd (n + 1) := by
          show nI ua + nI ub - nI 2 * nI um = nI n
          rw [nI_add, pk_mul, pk_sub (by omega)]
          exact congrArg nI (by omega)
        rw [ev]
        exact ⟨_, _, D2, pa1, Q2, lab', far', ring', rfl, rfl⟩
-- part and count
theorem o_part (h : zwf now) (hs : zsh now w cc rc dc lo ow) (ho : ∀ c, c < 210 → op c = nI (zmf (zo now c))) (hN : 1000 ≤ N) (re : Int32) (D pa Q lab : Nat → Int32) (x : Int32) :
    ∃ r re' D' pa' Q' lab', f_X10_part N w ow op re D pa Q x = some (r, re', D', pa', Q') ∧ f_X11_part N now lab x = some (r, lab') := by
  unfold f_X10_part
  rcases zarg x with hx | ⟨c, hc, rfl⟩
  · refine ⟨-1, re, D, pa, Q, lab, by rw [c_holds_neg hx, if_pos rfl], ?_⟩
    unfold f_X11_part
    rw [bnd1_e (m_hasRoom_neg hx), if_pos rfl]
  obtain ⟨lab', e2⟩ := m_part h hN lab hc
  rw [c_holds h hs hc, e2]
  cases hr : zr now c with
  | false => exact ⟨-1, re, D, pa, Q, lab', rfl, rfl⟩
  | true =>
    obtain ⟨re', D', pa', Q', e1, e3⟩ := c_findParts h hs ho hN re D pa Q
    rw [if_neg (show ¬ zi true = 0 by decide), bnd5_e e1, at_lt pa' (by decide) (zr_210 h hr), e3 c hr]
    exact ⟨_, re', D', pa', Q', lab', rfl, rfl⟩
end OP3

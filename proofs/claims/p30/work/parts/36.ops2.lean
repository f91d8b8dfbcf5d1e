-- the answers, second part: ways
section OP2
variable {now op ow D Q far ring : Nat → Int32} {w cc rc dc lo : Int32} {N src : Nat}
theorem zF_m (h : zwf now) (hs : zr now src = true) (c : Nat) : (zF (zo now) (zN (zw now)) src).1 c ≤ (zF (zo now) (zN (zw now)) src).2.2 := by
  obtain ⟨Ia, Ib, Ic, Id, Ie, If, Ig, Ih, Ii, Ij⟩ := zI_head (zgr h) hs 210
  rw [zF_eq]
  by_cases hc : (zHead (zo now) (zN (zw now)) (z0 src) 210).1 c = 0
  · omega
  · obtain ⟨_, i, h1, h2⟩ := Ic c hc
    rw [← h2]
    have := Ij i h1
    omega
theorem zd_p {e : Nat} (h : 1 ≤ e) : zd e - 1 = zd (e - 1) := by
  obtain ⟨k, rfl⟩ : ∃ k, e = k + 1 := ⟨e - 1, by omega⟩
  cases k with
  | zero => decide
  | succ k => exact pk_sub (a := k + 1) (b := 1) (by omega)
/-- the first direction nearer, as a number -/
noncomputable def zpi (now : Nat → Int32) (src c : Nat) : Nat := zP (zo now) (zN (zw now)) (zF (zo now) (zN (zw now)) src).1 c
def zdr (d : Nat) : Int32 := if d < 4 then nI d else -1
theorem zpi_4 (h : zwf now) (hs : zr now src = true) {c : Nat} (hc : (zF (zo now) (zN (zw now)) src).1 c ≤ 1) : zpi now src c = 4 := by
  obtain ⟨s1, s2, s3, s4, s5, s6, s7, s8, s9⟩ := zF_spec (zgr h) hs
  have := zP_le (zo now) (zN (zw now)) (zF (zo now) (zN (zw now)) src).1 c
  rcases Nat.lt_or_ge (zpi now src c) 4 with q | q
  · obtain ⟨a, b⟩ := zP_ok q
    have a : zo now c (zpi now src c) = true := a
    have b : (zF (zo now) (zN (zw now)) src).1 (zN (zw now) c (zpi now src c)) + 1 = (zF (zo now) (zN (zw now)) src).1 c := b
    have hE : (zF (zo now) (zN (zw now)) src).1 c ≠ 0 := by omega
    have := (s5 c _ q a hE).1
    omega
  · unfold zpi at q ⊢; omega
theorem zpi_lt (h : zwf now) (hs : zr now src = true) {c : Nat} (hc : 2 ≤ (zF (zo now) (zN (zw now)) src).1 c) : zpi now src c < 4 ∧ zo now c (zpi now src c) = true ∧ (zF (zo now) (zN (zw now)) src).1 (zN (zw now) c (zpi now src c)) + 1 = (zF (zo now) (zN (zw now)) src).1 c := by
  obtain ⟨s1, s2, s3, s4, s5, s6, s7, s8, s9⟩ := zF_spec (zgr h) hs
  have q := zP_ex (s6 c hc)
  exact ⟨q, zP_ok q⟩
/-- four directions, one by one -/
theorem zP_step {B : Nat → Nat → Option Int32} {op : Nat → Nat → Bool} {nx : Nat → Nat → Nat} {E : Nat → Nat} {c : Nat} (h4 : ∀ F, B (F + 1) 4 = some (-1)) (hd : ∀ F d, d < 4 → B (F + 1) d = if op c d = true ∧ E (nx c d) + 1 = E c then some (nI d) else B F (d + 1)) {N : Nat} (hN : 10 ≤ N) : B N 0 = some (zdr (zP op nx E c)) := by
  obtain ⟨M, rfl⟩ : ∃ M, N = M + 5 := ⟨N - 5, by omega⟩
  rw [show M + 5 = (M + 4) + 1 from rfl, hd _ 0 (by decide), show M + 4 = (M + 3) + 1 from rfl, hd _ 1 (by decide), show M + 3 = (M + 2) + 1 from rfl, hd _ 2 (by decide), show M + 2 = (M + 1) + 1 from rfl, hd _ 3 (by decide), h4]
  unfold zP
  by_cases h0 : op c 0 = true ∧ E (nx c 0) + 1 = E c
  · rw [if_pos h0, if_pos h0]; rfl
  · rw [if_neg h0, if_neg h0]
    by_cases h1 : op c 1 = true ∧ E (nx c 1) + 1 = E c
    · rw [if_pos h1, if_pos h1]; rfl
    · rw [if_neg h1, if_neg h1]
      by_cases h2 : op c 2 = true ∧ E (nx c 2) + 1 = E c
      · rw [if_pos h2, if_pos h2]; rfl
      · rw [if_neg h2, if_neg h2]
        by_cases h3 : op c 3 = true ∧ E (nx c 3) + 1 = E c
        · rw [if_pos h3, if_pos h3]; rfl
        · rw [if_neg h3, if_neg h3]; rfl
theorem c_firstDirection (h : zwf now) (ho : ∀ c, c < 210 → op c = nI (zmf (zo now c))) (hN : 1000 ≤ N) (hs : zr now src = true) (hD : ∀ c, c < 210 → D c = zd ((zF (zo now) (zN (zw now)) src).1 c)) {c : Nat} (hc : c < 210) : f_X9_firstDirection N D (nI (zw now)) op (nI c) = some (zdr (zpi now src c)) := by
  obtain ⟨s1, s2, s3, s4, s5, s6, s7, s8, s9⟩ := zF_spec (zgr h) hs
  have l9 := s9 c
  unfold f_X9_firstDirection
  rw [at_lt D (by decide) hc, hD c hc]
  by_cases q : 2 ≤ (zF (zo now) (zN (zw now)) src).1 c
  · rw [zd_p (by omega), if_pos ((zd_nn (by omega)).mpr (by omega))]
    refine zP_step (B := fun F d => b_X9_firstDirection_20 N D (nI (zw now)) op (nI c) F (zd ((zF (zo now) (zN (zw now)) src).1 c - 1)) (nI d)) ?_ ?_ (by omega)
    · intro F
      show b_X9_firstDirection_20 N D (nI (zw now)) op (nI c) (F + 1) _ (nI 4) = _
      rw [b_X9_firstDirection_20, if_pos (show (4 : Int32) ≤ nI 4 by decide)]
    · intro F d hd
      show b_X9_firstDirection_20 N D (nI (zw now)) op (nI c) (F + 1) _ (nI d) = _
      rw [b_X9_firstDirection_20, if_neg (show ¬ (4 : Int32) ≤ nI d from nI_ge (b := 4) hd (by decide)), c_isOpen ho hc hd, nI_1]
      cases hop : zo now c d with
      | false => rw [if_pos zi_f, if_neg (fun e => by cases e.1)]
      | true =>
        obtain ⟨g1, g2, g3, g4⟩ := (zgr h).1 c d hd hop
        have hr := zr_210 h g2
        have l10 := s9 (zN (zw now) c d)
        rw [if_neg (by decide), c_stride h hd (zo_h.mp hop).1, at_lt D (by decide) hr, hD _ hr]
        by_cases q2 : (zF (zo now) (zN (zw now)) src).1 (zN (zw now) c d) + 1 = (zF (zo now) (zN (zw now)) src).1 c
        · rw [if_pos ((zd_eq (by omega) (by omega)).mpr (by omega)), if_pos ⟨rfl, q2⟩]
        · rw [if_neg (fun e => q2 (by have := (zd_eq (by omega) (by omega)).mp e; omega)), if_neg (fun e => q2 e.2)]
  · rw [zpi_4 h hs (by omega)]
    have : ¬ 0 ≤ zd ((zF (zo now) (zN (zw now)) src).1 c) - 1 := by
      rcases (show (zF (zo now) (zN (zw now)) src).1 c = 0 ∨ (zF (zo now) (zN (zw now)) src).1 c = 1 by omega) with e | e <;> rw [e] <;> decide
    rw [if_neg this]; rfl
theorem c_nextRoom (h : zwf now) (ho : ∀ c, c < 210 → op c = nI (zmf (zo now c))) (hN : 1000 ≤ N) (hs : zr now src = true) (hD : ∀ c, c < 210 → D c = zd ((zF (zo now) (zN (zw now)) src).1 c)) {c : Nat} (hc : c < 210) (h2 : 2 ≤ (zF (zo now) (zN (zw now)) src).1 c) :
    f_X9_nextRoom N D (nI (zw now)) op (nI c) = some (nI (zN (zw now) c (zpi now src c))) := by
  obtain ⟨p1, p2, p3⟩ := zpi_lt h hs h2
  unfold f_X9_nextRoom
  rw [bnd1_e (c_firstDirection h ho hN hs hD hc)]
  unfold zdr
  rw [if_pos p1, if_neg (fun e => nI_pos (show zpi now src c < 2 ^ 31 by omega) (by rw [e]; decide)), c_stride h p1 (zo_h.mp p2).1]
theorem m_leads (h : zwf now) (hN : 1000 ≤ N) (hs : zr now src = true) (hD : ∀ c, c < 6 * zw now → far c = zd ((zF (zo now) (zN (zw now)) src).1 c)) {c : Nat} (hc : c < 6 * zw now) (h1 : 1 ≤ (zF (zo now) (zN (zw now)) src).1 c) : f_X11_leads N now far (nI c) = some (zdr (zpi now src c)) := by
  have hwl := zwf_w h
  obtain ⟨s1, s2, s3, s4, s5, s6, s7, s8, s9⟩ := zF_spec (zgr h) hs
  have l9 := s9 c
  unfold f_X11_leads
  refine zP_step (B := fun F d => b_X11_leads_2 N now far (nI c) F (nI d)) ?_ ?_ (by omega)
  · intro F
    show b_X11_leads_2 N now far (nI c) (F + 1) (nI 4) = _
    rw [b_X11_leads_2, if_pos (show (4 : Int32) ≤ nI 4 by decide)]
  · intro F d hd
    show b_X11_leads_2 N now far (nI c) (F + 1) (nI d) = if _ then _ else b_X11_leads_2 N now far (nI c) F (nI (d + 1))
    rw [b_X11_leads_2, if_neg (show ¬ (4 : Int32) ≤ nI d from nI_ge (b := 4) hd (by decide)), bnd1_e (m_isOpen h hc hd), nI_1]
    cases hop : zo now c d with
    | false => rw [if_pos zi_f, if_neg (fun e => by cases e.1)]
    | true =>
      obtain ⟨g1, g2, g3, g4⟩ := (zgr h).1 c d hd hop
      have hr := zr_lt g2
      have l10 := s9 (zN (zw now) c d)
      rw [if_neg (by decide), bnd1_e (show f_X11_beside now (nI c) (nI d) = some (nI (zN (zw now) c d)) by rw [m_beside h hc hd, if_pos (zo_h.mp hop).1]), nI_clamp (show zN (zw now) c d < 2 ^ 31 by omega), if_neg (zck (zr_210 h g2) (by decide)), nI_clamp (show c < 2 ^ 31 by omega), if_neg (zck (show c < 210 by omega) (by decide)), hD _ hr, hD c hc, zd_p h1]
      by_cases q2 : (zF (zo now) (zN (zw now)) src).1 (zN (zw now) c d) + 1 = (zF (zo now) (zN (zw now)) src).1 c
      · rw [if_pos ((zd_eq (by omega) (by omega)).mpr (by omega)), if_pos ⟨rfl, q2⟩]
      · rw [if_neg (fun e => q2 (by have := (zd_eq (by omega) (by omega)).mp e; omega)), if_neg (fun e => q2 e.2)]
theorem m_next (h : zwf now) (hs : zr now src = true) {c : Nat} (hc : c < 6 * zw now) (h2 : 2 ≤ (zF (zo now) (zN (zw now)) src).1 c) : f_X11_beside now (nI c) (zdr (zpi now src c)) = some (nI (zN (zw now) c (zpi now src c))) := by
  obtain ⟨p1, p2, p3⟩ := zpi_lt h hs h2
  unfold zdr
  rw [if_pos p1, m_beside h hc p1, if_pos (zo_h.mp p2).1]
/-- r rooms further on the way -/
noncomputable def zIt (now : Nat → Int32) (src : Nat) : Nat → Nat → Nat
  | 0, c => c
  | r + 1, c => zIt now src r (zN (zw now) c (zpi now src c))
theorem c_ahead (h : zwf now) (ho : ∀ c, c < 210 → op c = nI (zmf (zo now c))) (hN : 1000 ≤ N) (hs : zr now src = true) (hD : ∀ c, c < 210 → D c = zd ((zF (zo now) (zN (zw now)) src).1 c)) (va2 : Int32) :
    ∀ r k c F, r < F → r + 1 ≤ (zF (zo now) (zN (zw now)) src).1 c → k + r ≤ 210 → b_X9_roomAhead_6 N D (nI (zw now)) op va2 (nI (k + r)) F (nI c) (nI k) = some (nI (zIt now src r c)) := by
  intro r
  induction r with
  | zero =>
    intro k c F hF _ _
    obtain ⟨F, rfl⟩ : ∃ G, F = G + 1 := ⟨F - 1, by omega⟩
    rw [b_X9_roomAhead_6, Nat.add_zero, if_pos (nI_le (Nat.le_refl _) (by omega))]; rfl
  | succ r ih =>
    intro k c F hF hE hk
    obtain ⟨F, rfl⟩ : ∃ G, F = G + 1 := ⟨F - 1, by omega⟩
    obtain ⟨p1, p2, p3⟩ := zpi_lt h hs (show 2 ≤ (zF (zo now) (zN (zw now)) src).1 c by omega)
    rw [b_X9_roomAhead_6, if_neg (nI_ge (by omega) (by omega)), if_neg (show ¬ (210 : Int32) ≤ nI k from nI_ge (b := 210) (by omega) (by decide)), bnd1_e (c_nextRoom h ho hN hs hD (zr_210 h (zo_r h p1 p2)) (by omega)), nI_1, show k + (r + 1) = k + 1 + r by omega]
    exact ih (k + 1) _ F (by omega) (by omega) (by omega)
theorem m_ahead (h : zwf now) (hN : 1000 ≤ N) (hs : zr now src = true) (hD : ∀ c, c < 6 * zw now → far c = zd ((zF (zo now) (zN (zw now)) src).1 c)) (va1 va2 : Int32) :
    ∀ r k c F, r < F → r + 1 ≤ (zF (zo now) (zN (zw now)) src).1 c → k + r ≤ 210 → b_X11_way_46 N now va1 va2 (nI (k + r)) F (nI c) (nI k) far ring = some (nI (zIt now src r c), far, ring) := by
  intro r
  induction r with
  | zero =>
    intro k c F hF _ _
    obtain ⟨F, rfl⟩ : ∃ G, F = G + 1 := ⟨F - 1, by omega⟩
    rw [b_X11_way_46, Nat.add_zero, if_pos (nI_le (Nat.le_refl _) (by omega))]; rfl
  | succ r ih =>
    intro k c F hF hE hk
    obtain ⟨F, rfl⟩ : ∃ G, F = G + 1 := ⟨F - 1, by omega⟩
    obtain ⟨p1, p2, p3⟩ := zpi_lt h hs (show 2 ≤ (zF (zo now) (zN (zw now)) src).1 c by omega)
    have hc := zr_lt (zo_r h p1 p2)
    rw [b_X11_way_46, if_neg (nI_ge (by omega) (by omega)), bnd1_e (m_leads h hN hs hD hc (by omega)), bnd1_e (m_next h hs hc (by omega)), nI_1, show k + (r + 1) = k + 1 + r by omega]
    exact ih (k + 1) _ F (by omega) (by omega) (by omega)
theorem o_distance (h : zwf now) (hs : zsh now w cc rc dc lo ow) (ho : ∀ c, c < 210 → op c = nI (zmf (zo now c))) (hN : 1000 ≤ N) (re : Int32) (D Q far ring : Nat → Int32) (x y : Int32) :
    ∃ r re' D' Q' far' ring', f_X10_distance N w ow op re D Q x y = some (r, re', D', Q') ∧ f_X11_distance N now far ring x y = some (r, far', ring') := by
  unfold f_X10_distance f_X11_distance
  rcases zarg x with hx | ⟨a, ha, rfl⟩
  · exact ⟨-1, re, D, Q, far, ring, by rw [c_holds_neg hx, if_pos rfl], by rw [bnd1_e (m_hasRoom_neg hx), if_pos rfl]⟩
  rw [bnd1_e (m_hasRoom h ha), c_holds h hs ha]
  cases hra : zr now a with
  | false => exact ⟨-1, re, D, Q, far, ring, rfl, rfl⟩
  | true =>
    rw [if_neg (by decide), if_neg (show ¬ zi true = 0 by decide)]
    rcases zarg y with hy | ⟨b, hb, rfl⟩
    · exact ⟨-1, re, D, Q, far, ring, by rw [c_holds_neg hy, if_pos rfl], by rw [bnd1_e (m_hasRoom_neg hy), if_pos rfl]⟩
    rw [bnd1_e (m_hasRoom h hb), c_holds h hs hb]
    cases hrb : zr now b with
    | false => exact ⟨-1, re, D, Q, far, ring, rfl, rfl⟩
    | true =>
      obtain ⟨D', Q', e1, R1⟩ := c_spread h ho hrb hN re D Q
      obtain ⟨far', ring', e2, R2⟩ := m_lays h hrb hN far ring
      obtain ⟨s1, s2, s3, s4, s5, s6, s7, s8, s9⟩ := zF_spec (zgr h) hrb
      have l9 := s9 a
      have h210 := zr_210 h hra
      rw [if_neg (by decide), if_neg (show ¬ zi true = 0 by decide), hs.1, bnd3_e e1, bnd2_e e2, at_lt D' (by decide) h210, R1.1 a h210, nI_clamp ha, if_neg (zck h210 (by decide)), if_neg (zck h210 (by decide)), R2.1 a (zr_lt hra)]
      by_cases q : (zF (zo now) (zN (zw now)) b).1 a = 0
      · rw [if_pos ((zd_m1 (by omega)).mpr q), if_neg (fun e => (zd_nn (by omega)).mp e q)]
        exact ⟨-4, _, D', Q', far', ring', rfl, rfl⟩
      · rw [if_neg (fun e => q ((zd_m1 (by omega)).mp e)), if_pos ((zd_nn (by omega)).mpr q)]
        exact ⟨_, _, D', Q', far', ring', rfl, rfl⟩
theorem o_way (h : zwf now) (hs : zsh now w cc rc dc lo ow) (ho : ∀ c, c < 210 → op c = nI (zmf (zo now c))) (hN : 1000 ≤ N) (re : Int32) (D Q far ring : Nat → Int32) (x y z : Int32) :
    ∃ r re' D' Q' far' ring', f_X10_way N w ow op re D Q x y z = some (r, re', D', Q') ∧ f_X11_way N now far ring x y z = some (r, far', ring') := by
  unfold f_X10_way f_X11_way
  rcases zarg x with hx | ⟨a, ha, rfl⟩
  · exact ⟨-1, re, D, Q, far, ring, by rw [c_holds_neg hx, if_pos rfl], by rw [bnd1_e (m_hasRoom_neg hx), if_pos rfl]⟩
  rw [bnd1_e (m_hasRoom h ha), c_holds h hs ha]
  cases hra : zr now a with
  | false => exact ⟨-1, re, D, Q, far, ring, rfl, rfl⟩
  | true =>
    rw [if_neg (by decide), if_neg (show ¬ zi true = 0 by decide)]
    rcases zarg y with hy | ⟨b, hb, rfl⟩
    · exact ⟨-1, re, D, Q, far, ring, by rw [c_holds_neg hy, if_pos rfl], by rw [bnd1_e (m_hasRoom_neg hy), if_pos rfl]⟩
    rw [bnd1_e (m_hasRoom h hb), c_holds h hs hb]
    cases hrb : zr now b with
    | false => exact ⟨-1, re, D, Q, far, ring, rfl, rfl⟩
    | true =>
      rw [if_neg (by decide), if_neg (show ¬ zi true = 0 by decide)]
      rcases zarg z with hz | ⟨i, hi, rfl⟩
      · have : ¬ 0 ≤ z := fun e => absurd (Int32.lt_of_le_of_lt e hz) (by decide)
        rw [if_neg this, if_neg this]
        exact ⟨-1, re, D, Q, far, ring, rfl, rfl⟩
      obtain ⟨D', Q', e1, R1⟩ := c_spread h ho hrb hN re D Q
      obtain ⟨far', ring', e2, R2⟩ := m_lays h hrb hN far ring
      obtain ⟨s1, s2, s3, s4, s5, s6, s7, s8, s9⟩ := zF_spec (zgr h) hrb
      have l9 := s9 a
      have h210 := zr_210 h hra
      rw [if_pos (nI_pos' hi), if_pos (nI_pos' hi), hs.1, bnd3_e e1, bnd2_e e2, at_lt D' (by decide) h210, R1.1 a h210, nI_clamp ha, if_neg (zck h210 (by decide)), R2.1 a (zr_lt hra)]
      by_cases q : nI i ≤ zd ((zF (zo now) (zN (zw now)) b).1 a)
      · rw [if_pos q, if_pos q]
        have q2 : i + 1 ≤ (zF (zo now) (zN (zw now)) b).1 a := (zd_le (a := i + 1) (by omega) (by omega)).mp q
        have e3 := c_ahead h ho hN hrb R1.1 (nI a) i 0 a N (by omega) q2 (by omega)
        have e4 := m_ahead (ring := ring') h hN hrb R2.1 (nI a) (nI b) i 0 a N (by omega) q2 (by omega)
        rw [Nat.zero_add] at e3 e4
        refine ⟨nI (zIt now b i a), nI (zF (zo now) (zN (zw now)) b).2.2, D', Q', far', ring', ?_, e4⟩
        unfold f_X9_roomAhead
        rw [bnd1_e (show b_X9_roomAhead_6 N D' (nI (zw now)) op (nI a) (nI i) N (nI a) 0 = _ from e3)]
      · rw [if_neg q, if_neg q]
        exact ⟨-4, _, D', Q', far', ring', rfl, rfl⟩
-- the farthest room
/-- of the cells below k the first of the greatest, and its number, one more -/
def zBs (E : Nat → Nat) : Nat → Nat × Nat
  | 0 => (0, 0)
  | k + 1 => if (zBs E k).2 < E k then (k, E k) else zBs E k
theorem zBs_ok (E : Nat → Nat) : ∀ k, ((zBs E k).2 ≠ 0 → (zBs E k).1 < k ∧ E (zBs E k).1 = (zBs E k).2) ∧ ∀ c, c < k → E c ≤ (zBs E k).2
  | 0 => ⟨fun h => absurd rfl h, fun c hc => absurd hc (Nat.not_lt_zero c)⟩
  | k + 1 => by
    obtain ⟨h1, h2⟩ := zBs_ok E k
    rw [zBs]
    by_cases q : (zBs E k).2 < E k
    · rw [if_pos q]
      refine ⟨fun _ => ⟨Nat.lt_succ_self k, rfl⟩, fun c hc => ?_⟩
      show E c ≤ E k
      by_cases e : c = k
      · rw [e]; exact Nat.le_refl _
      · have := h2 c (by omega); omega
    · rw [if_neg q]
      refine ⟨fun h => ⟨by have := (h1 h).1; omega, (h1 h).2⟩, fun c hc => ?_⟩
      by_cases e : c = k
      · rw [e]; omega
      · exact h2 c (by omega)
theorem zBs_cut {E : Nat → Nat} {a : Nat} (h : ∀ c, a ≤ c → E c = 0) : ∀ j, zBs E (a + j) = zBs E a
  | 0 => rfl
  | j + 1 => by rw [show a + (j + 1) = (a + j) + 1 from rfl, zBs, h (a + j) (by omega), if_neg (Nat.not_lt_zero _), zBs_cut h j]
theorem c_farthestRoom (h : zwf now) (hs : zsh now w cc rc dc lo ow) (hN : 1000 ≤ N) (hsr : zr now src = true) (hD : ∀ c, c < 210 → D c = zd ((zF (zo now) (zN (zw now)) src).1 c)) : f_X9_farthestRoom N D ow = some (nI (zBs (zF (zo now) (zN (zw now)) src).1 210).1) := by
  obtain ⟨s1, s2, s3, s4, s5, s6, s7, s8, s9⟩ := zF_spec (zgr h) hsr
  unfold f_X9_farthestRoom
  generalize (zF (zo now) (zN (zw now)) src).1 = E at *
  have key : ∀ k, k ≤ 210 → ∀ F, 210 - k < F → b_X9_farthestRoom_7 N D ow F (if (zBs E k).2 = 0 then -1 else nI (zBs E k).1) (zd (zBs E k).2) (nI k) = some (nI (zBs E 210).1) := by
    refine dn 210 ?_ ?_
    · intro F hF
      obtain ⟨F, rfl⟩ : ∃ G, F = G + 1 := ⟨F - 1, by omega⟩
      have := (zBs_ok E 210).2 src (zr_210 h hsr)
      rw [b_X9_farthestRoom_7, if_pos (show (210 : Int32) ≤ nI 210 by decide), if_neg (by omega)]
    · intro k hk ih F hF
      obtain ⟨F, rfl⟩ : ∃ G, F = G + 1 := ⟨F - 1, by omega⟩
      have hih := ih F (by omega)
      rw [zBs] at hih
      have hg : (zBs E k).2 ≤ 210 := by
        by_cases e : (zBs E k).2 = 0
        · omega
        · rw [← ((zBs_ok E k).1 e).2]; exact s9 _
      have hl := s9 k
      rw [b_X9_farthestRoom_7, if_neg (show ¬ (210 : Int32) ≤ nI k from nI_ge (b := 210) hk (by decide)), c_holds h hs (show k < 2 ^ 31 by omega), at_lt D (by decide) hk, hD k hk, nI_1]
      cases hr : zr now k with
      | false =>
        have e0 : E k = 0 := by
          rcases Nat.eq_zero_or_pos (E k) with q | q
          · exact q
          · have := (s3 k (by omega)).1; rw [hr] at this; cases this
        rw [e0, if_neg (Nat.not_lt_zero _)] at hih
        rw [if_pos zi_f]
        exact hih
      | true =>
        rw [if_neg (show ¬ zi true = 0 by decide)]
        by_cases q : (zBs E k).2 < E k
        · rw [if_pos q] at hih
          rw [if_neg (fun e => by have := (zd_le (by omega) (by omega)).mp e; omega)]
          have hih : b_X9_farthestRoom_7 N D ow F (if E k = 0 then -1 else nI k) (zd (E k)) (nI (k + 1)) = some (nI (zBs E 210).1) := hih
          rw [if_neg (by omega)] at hih
          exact hih
        · rw [if_neg q] at hih
          rw [if_pos ((zd_le (by omega) (by omega)).mpr (by omega))]
          exact hih
  exact key 0 (by omega) N (by omega)
theorem zF_big (h : zwf now) (hsr : zr now src = true) {c : Nat} (hc : 6 * zw now ≤ c) : (zF (zo now) (zN (zw now)) src).1 c = 0 := by
  obtain ⟨s1, s2, s3, s4, s5, s6, s7, s8, s9⟩ := zF_spec (zgr h) hsr
  rcases Nat.eq_zero_or_pos ((zF (zo now) (zN (zw now)) src).1 c) with q | q
  · exact q
  · have := zr_lt (s3 c (by omega)).1; omega
theorem m_farthestOf (h : zwf now) (hN : 1000 ≤ N) (hsr : zr now src = true) (hD : ∀ c, c < 6 * zw now → far c = zd ((zF (zo now) (zN (zw now)) src).1 c)) : f_X11_farthestOf N now far = some (nI (zBs (zF (zo now) (zN (zw now)) src).1 210).1) := by
  have hwl := zwf_w h
  obtain ⟨s1, s2, s3, s4, s5, s6, s7, s8, s9⟩ := zF_spec (zgr h) hsr
  have hcut := zBs_cut (E := (zF (zo now) (zN (zw now)) src).1) (a := 6 * zw now) (fun c hc => zF_big h hsr hc) (210 - 6 * zw now)
  rw [show 6 * zw now + (210 - 6 * zw now) = 210 by omega] at hcut
  unfold f_X11_farthestOf
  rw [hcut]
  generalize (zF (zo now) (zN (zw now)) src).1 = E at *
  have key : ∀ k, k ≤ 6 * zw now → ∀ F, 6 * zw now - k < F → b_X11_farthestOf_4 N now far F (if (zBs E k).2 = 0 then -1 else nI (zBs E k).1) (nI k) = some (nI (zBs E (6 * zw now)).1) := by
    refine dn _ ?_ ?_
    · intro F hF
      obtain ⟨F, rfl⟩ : ∃ G, F = G + 1 := ⟨F - 1, by omega⟩
      have := (zBs_ok E (6 * zw now)).2 src (zr_lt hsr)
      rw [b_X11_farthestOf_4, m_cells h, if_pos (nI_le (Nat.le_refl _) (by omega)), if_neg (by omega)]
    · intro k hk ih F hF
      obtain ⟨F, rfl⟩ : ∃ G, F = G + 1 := ⟨F - 1, by omega⟩
      have hih := ih F (by omega)
      rw [zBs] at hih
      obtain ⟨b1, b2⟩ := zBs_ok E k
      have hl := s9 k
      rw [b_X11_farthestOf_4, m_cells h, if_neg (nI_ge hk (by omega)), nI_clamp (show k < 2 ^ 31 by omega), if_neg (zck (show k < 210 by omega) (by decide)), hD k hk, nI_1]
      by_cases e0 : E k = 0
      · rw [if_pos ((zd_neg (by omega)).mpr e0)]
        rw [e0, if_neg (Nat.not_lt_zero _)] at hih
        exact hih
      · rw [if_neg (fun e => e0 ((zd_neg (by omega)).mp e))]
        by_cases q0 : (zBs E k).2 = 0
        · rw [q0, if_pos (show 0 < E k by omega)] at hih
          have hih : b_X11_farthestOf_4 N now far F (if E k = 0 then -1 else nI k) (nI (k + 1)) = some (nI (zBs E (6 * zw now)).1) := hih
          rw [if_neg e0] at hih
          rw [if_pos q0, if_pos zneg1]
          exact hih
        · obtain ⟨b3, b4⟩ := b1 q0
          have hl2 := s9 (zBs E k).1
          rw [if_neg q0, if_neg (nI_pos (show (zBs E k).1 < 2 ^ 31 by omega)), if_neg (zck (show k < 210 by omega) (by decide)), nI_clamp (show (zBs E k).1 < 2 ^ 31 by omega), if_neg (zck (show (zBs E k).1 < 210 by omega) (by decide)), hD _ (show (zBs E k).1 < 6 * zw now by omega), b4]
          by_cases q : (zBs E k).2 < E k
          · rw [if_pos q] at hih
            have hih : b_X11_farthestOf_4 N now far F (if E k = 0 then -1 else nI k) (nI (k + 1)) = some (nI (zBs E (6 * zw now)).1) := hih
            rw [if_neg e0] at hih
            rw [if_neg (fun e => by have := (zd_le (by omega) (by omega)).mp e; omega)]
            exact hih
          · rw [if_neg q, if_neg q0] at hih
            rw [if_pos ((zd_le (by omega) (by omega)).mpr (by omega))]
            exact hih
  exact key 0 (by omega) N (by omega)
theorem zBs_at (h : zwf now) (hsr : zr now src = true) : (zBs (zF (zo now) (zN (zw now)) src).1 210).1 < 6 * zw now ∧ (zF (zo now) (zN (zw now)) src).1 (zBs (zF (zo now) (zN (zw now)) src).1 210).1 = (zBs (zF (zo now) (zN (zw now)) src).1 210).2 ∧ 1 ≤ (zBs (zF (zo now) (zN (zw now)) src).1 210).2 ∧ (zBs (zF (zo now) (zN (zw now)) src).1 210).2 ≤ 210 := by
  obtain ⟨s1, s2, s3, s4, s5, s6, s7, s8, s9⟩ := zF_spec (zgr h) hsr
  have h1 := (zBs_ok (zF (zo now) (zN (zw now)) src).1 210).2 src (zr_210 h hsr)
  have h2 := (zBs_ok (zF (zo now) (zN (zw now)) src).1 210).1 (by omega)
  have h3 := s9 (zBs (zF (zo now) (zN (zw now)) src).1 210).1
  refine ⟨zr_lt (s3 _ (by omega)).1, h2.2, by omega, by omega⟩
theorem o_farthest (h : zwf now) (hs : zsh now w cc rc dc lo ow) (ho : ∀ c, c < 210 → op c = nI (zmf (zo now c))) (hN : 1000 ≤ N) (re : Int32) (D Q far ring : Nat → Int32) (x y : Int32) :
    ∃ r re' D' Q' far' ring', f_X10_farthest N w ow op re D Q x y = some (r, re', D', Q') ∧ f_X11_farthest N now far ring x y = some (r, far', ring') := by
  have hwl := zwf_w h
  unfold f_X10_farthest f_X11_farthest
  rcases zarg x with hx | ⟨a, ha, rfl⟩
  · exact ⟨-1, re, D, Q, far, ring, by rw [c_holds_neg hx, if_pos rfl], by rw [bnd1_e (m_hasRoom_neg hx), if_pos rfl]⟩
  rw [bnd1_e (m_hasRoom h ha), c_holds h hs ha]
  cases hra : zr now a with
  | false => exact ⟨-1, re, D, Q, far, ring, rfl, rfl⟩
  | true =>
    rw [if_neg (by decide), if_neg (show ¬ zi true = 0 by decide)]
    rcases zarg y with hy | ⟨b, hb, rfl⟩
    · rw [if_pos hy, zin_neg hy, if_pos rfl]
      exact ⟨-1, re, D, Q, far, ring, rfl, rfl⟩
    rw [if_neg (nI_pos hb), show t_X11_in (nI b) 0 (1 : Int32) = zi (decide (b ≤ 1)) from zin hb (by decide)]
    by_cases q1 : b ≤ 1
    · obtain ⟨D', Q', e1, R1⟩ := c_spread h ho hra hN re D Q
      obtain ⟨far', ring', e2, R2⟩ := m_lays h hra hN far ring
      obtain ⟨b1, b2, b3, b4⟩ := zBs_at h hra
      rw [if_pos (show nI b ≤ (1 : Int32) from nI_le q1 (by decide)), decide_eq_true q1, if_neg (show ¬ zi true = 0 by decide), hs.1, bnd3_e e1, bnd2_e e2, bnd1_e (c_farthestRoom h hs hN hra R1.1), bnd1_e (m_farthestOf h hN hra R2.1)]
      by_cases q0 : nI b = 0
      · rw [if_pos q0, if_pos q0]
        exact ⟨_, _, D', Q', far', ring', rfl, rfl⟩
      · rw [if_neg q0, if_neg q0, at_lt D' (by decide) (by omega), R1.1 _ (by omega), nI_clamp (show (zBs (zF (zo now) (zN (zw now)) a).1 210).1 < 2 ^ 31 by omega), if_neg (zck (show (zBs (zF (zo now) (zN (zw now)) a).1 210).1 < 210 by omega) (by decide)), R2.1 _ b1]
        exact ⟨_, _, D', Q', far', ring', rfl, rfl⟩
    · rw [if_neg (show ¬ nI b ≤ (1 : Int32) from nI_ge (a := 1) (by omega) hb), decide_eq_false q1, if_pos zi_f]
      exact ⟨-1, re, D, Q, far, ring, rfl, rfl⟩
end OP2

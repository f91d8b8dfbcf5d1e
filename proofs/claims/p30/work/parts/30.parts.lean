-- labels and parts
section PRT
variable {now op ow : Nat → Int32} {w cc rc dc lo : Int32} {N : Nat}
theorem m_joins (hw : zwf now) (hN : 1000 ≤ N) (lab : Nat → Int32) (x y : Int32) : ∃ lab', f_X11_joins N now lab x y = some lab' ∧ ∀ c, c < 6 * zw now → lab' c = if lab c = x then y else lab c := by
  have hwl := zwf_w hw
  have key : ∀ k, k ≤ 6 * zw now → ∀ F, 6 * zw now - k < F → ∀ D, (∀ c, D c = if c < k ∧ lab c = x then y else lab c) → ∃ lab', b_X11_joins_2 N now x y F (nI k) D = some lab' ∧ ∀ c, c < 6 * zw now → lab' c = if lab c = x then y else lab c := by
    refine dn (6 * zw now) ?_ ?_
    · intro F hF D hD
      obtain ⟨F, rfl⟩ : ∃ G, F = G + 1 := ⟨F - 1, by omega⟩
      rw [b_X11_joins_2, m_cells hw, if_pos (nI_le (Nat.le_refl _) (by omega))]
      refine ⟨D, rfl, fun c hc => ?_⟩
      rw [hD c]
      by_cases q : lab c = x
      · rw [if_pos ⟨hc, q⟩, if_pos q]
      · rw [if_neg (fun e => q e.2), if_neg q]
    · intro k hk ih F hF D hD
      obtain ⟨F, rfl⟩ : ∃ G, F = G + 1 := ⟨F - 1, by omega⟩
      have hDk : D k = lab k := by rw [hD k, if_neg (fun e => Nat.lt_irrefl _ e.1)]
      rw [b_X11_joins_2, m_cells hw, if_neg (nI_ge hk (by omega)), nI_clamp (show k < 2 ^ 31 by omega), if_neg (zck (show k < 210 by omega) (by decide)), nI_1]
      by_cases q : lab k = x
      · rw [if_pos (by rw [hDk]; exact q), if_neg (zck (show k < 210 by omega) (by decide))]
        refine ih F (by omega) _ (fun c => ?_)
        by_cases e : c = k
        · rw [e, pk_us, if_pos ⟨Nat.lt_succ_self k, q⟩]
        · rw [pk_un e, hD c]
          by_cases q2 : c < k ∧ lab c = x
          · rw [if_pos q2, if_pos ⟨by omega, q2.2⟩]
          · rw [if_neg q2, if_neg (fun q3 => q2 ⟨by omega, q3.2⟩)]
      · rw [if_neg (by rw [hDk]; exact q), if_neg (zck (show k < 210 by omega) (by decide)), if_neg (zck (show k < 210 by omega) (by decide))]
        refine ih F (by omega) _ (fun c => ?_)
        by_cases e : c = k
        · rw [e, pk_us, hDk, if_neg (fun e => q e.2)]
        · rw [pk_un e, hD c]
          by_cases q2 : c < k ∧ lab c = x
          · rw [if_pos q2, if_pos ⟨by omega, q2.2⟩]
          · rw [if_neg q2, if_neg (fun q3 => q2 ⟨by omega, q3.2⟩)]
  exact key 0 (by omega) N (by omega) lab (fun c => by rw [if_neg (fun e => Nat.not_lt_zero _ e.1)])
theorem m_joinsTwo (hw : zwf now) (hN : 1000 ≤ N) {lab : Nat → Int32} {l : Nat → Nat} (hl : ∀ c, c < 6 * zw now → lab c = nI (l c)) (hb : ∀ c, c < 6 * zw now → l c < 2 ^ 31) {a b : Nat} (ha : a < 2 ^ 31) (hb2 : b < 2 ^ 31) :
    ∃ lab', f_X11_joinsTwo N now lab (nI a) (nI b) = some lab' ∧ ∀ c, c < 6 * zw now → lab' c = nI (zJ l a b c) := by
  unfold f_X11_joinsTwo zJ
  by_cases q1 : b ≤ a
  · rw [if_pos (nI_le q1 ha)]
    by_cases q2 : a ≤ b
    · have e : a = b := by omega
      subst e
      rw [if_pos (nI_le q2 hb2)]
      refine ⟨lab, rfl, fun c hc => ?_⟩
      rw [hl c hc, Nat.max_self, Nat.min_self]
      by_cases q3 : l c = a
      · rw [if_pos q3, q3]
      · rw [if_neg q3]
    · rw [if_neg (nI_ge (by omega) ha)]
      obtain ⟨lab', e1, e2⟩ := m_joins hw hN lab (nI a) (nI b)
      rw [bnd1_e e1]
      refine ⟨lab', rfl, fun c hc => ?_⟩
      rw [e2 c hc, hl c hc, Nat.max_eq_left q1, Nat.min_eq_right q1]
      by_cases q3 : l c = a
      · rw [if_pos (by rw [q3]), if_pos q3]
      · rw [if_neg (fun e => q3 ((nI_eq (hb c hc) ha).mp e)), if_neg q3]
  · rw [if_neg (nI_ge (by omega) hb2)]
    obtain ⟨lab', e1, e2⟩ := m_joins hw hN lab (nI b) (nI a)
    rw [bnd1_e e1]
    refine ⟨lab', rfl, fun c hc => ?_⟩
    rw [e2 c hc, hl c hc, Nat.max_eq_right (by omega), Nat.min_eq_left (by omega)]
    by_cases q3 : l c = b
    · rw [if_pos (by rw [q3]), if_pos q3]
    · rw [if_neg (fun e => q3 ((nI_eq (hb c hc) hb2).mp e)), if_neg q3]
theorem zJ_b {l : Nat → Nat} (hb : ∀ c, l c ≤ c) (x y : Nat) : ∀ c, zJ l x y c ≤ c := by
  intro c
  unfold zJ
  have := hb c
  by_cases q : l c = max x y
  · rw [if_pos q]; omega
  · rw [if_neg q]; exact this
theorem zLs_b {l : Nat → Nat} {op : Nat → Nat → Bool} {nx : Nat → Nat → Nat} (hb : ∀ c, l c ≤ c) (c d : Nat) : ∀ a, zLs op nx l c d a ≤ a := by
  unfold zLs
  by_cases h : op c d = true
  · rw [if_pos h]; exact zJ_b hb _ _
  · rw [if_neg h]; exact hb
theorem zLab_b {op : Nat → Nat → Bool} {nx : Nat → Nat → Nat} : ∀ n c, zLab op nx n c ≤ c
  | 0, c => Nat.le_refl c
  | n + 1, c => zLs_b (zLs_b (zLab_b n) n 1) n 2 c
theorem zLab_stop {op : Nat → Nat → Bool} {nx : Nat → Nat → Nat} {a : Nat} (h : ∀ c d, d < 4 → a ≤ c → op c d = false) : ∀ j, zLab op nx (a + j) = zLab op nx a
  | 0 => rfl
  | j + 1 => by
    rw [show a + (j + 1) = (a + j) + 1 from rfl, zLab, zLab_stop h j]
    unfold zLs
    rw [h (a + j) 1 (by decide) (by omega), h (a + j) 2 (by decide) (by omega)]; rfl
theorem m_lab1 (hw : zwf now) (hN : 1000 ≤ N) {lab : Nat → Int32} {l : Nat → Nat} (hl : ∀ c, c < 6 * zw now → lab c = nI (l c)) (hb : ∀ c, l c ≤ c) {P : Option (Nat → Int32) → Prop} {k25 : Int32 → (Nat → Int32) → Option (Nat → Int32)} {c d F : Nat} (hc : c < 6 * zw now) (hd : d < 3)
    (hP : ∀ lab', (∀ a, a < 6 * zw now → lab' a = nI (zLs (zo now) (zN (zw now)) l c d a)) → P (b_X11_labels_35 N now k25 F (nI c) (nI (d + 1)) lab')) : P (b_X11_labels_35 N now k25 (F + 1) (nI c) (nI d) lab) := by
  have hwl := zwf_w hw
  rw [b_X11_labels_35, if_neg (show ¬ (3 : Int32) ≤ nI d from nI_ge (b := 3) hd (by decide)), bnd1_e (m_isRoomAt hw hc), nI_1]
  have hno : zo now c d = false → P (b_X11_labels_35 N now k25 F (nI c) (nI (d + 1)) lab) := by
    intro q
    refine hP lab (fun a ha => ?_)
    unfold zLs
    rw [q]; exact hl a ha
  cases hr : zr now c with
  | false => rw [if_pos zi_f]; exact hno (zo_nr hw (by omega) hr)
  | true =>
    rw [if_neg (by decide), bnd1_e (m_isOpen hw hc (by omega))]
    cases hop : zo now c d with
    | false => rw [if_pos zi_f]; exact hno hop
    | true =>
      obtain ⟨g1, g2, g3, g4⟩ := (zgr hw).1 c d (by omega) hop
      have hbs : f_X11_beside now (nI c) (nI d) = some (nI (zN (zw now) c d)) := by rw [m_beside hw hc (by omega), if_pos (zo_h.mp hop).1]
      have hr2 := zr_lt g2
      have b1 := hb c
      have b2 := hb (zN (zw now) c d)
      obtain ⟨lab', e1, e2⟩ := m_joinsTwo hw hN hl (fun c hc => by have := hb c; omega) (show l c < 2 ^ 31 by omega) (show l (zN (zw now) c d) < 2 ^ 31 by omega)
      rw [if_neg (by decide), nI_clamp (show c < 2 ^ 31 by omega), if_neg (zck (show c < 210 by omega) (by decide)), bnd1_e hbs, nI_clamp (show zN (zw now) c d < 2 ^ 31 by omega), if_neg (zck (zr_210 hw g2) (by decide)), hl c hc, hl _ hr2, bnd1_e e1]
      refine hP lab' (fun a ha => ?_)
      unfold zLs
      rw [hop, if_pos rfl]
      exact e2 a ha
theorem m_labels (hw : zwf now) (hN : 1000 ≤ N) (lab : Nat → Int32) : ∃ lab', f_X11_labels N now lab = some lab' ∧ ∀ c, c < 6 * zw now → lab' c = nI (zL (zo now) (zN (zw now)) c) := by
  have hwl := zwf_w hw
  have e210 : zL (zo now) (zN (zw now)) = zLab (zo now) (zN (zw now)) (6 * zw now) := by
    rw [zL_eq]
    have := zLab_stop (op := zo now) (nx := zN (zw now)) (a := 6 * zw now) (fun c d hd hc => zo_big hw hd hc) (210 - 6 * zw now)
    rw [show 6 * zw now + (210 - 6 * zw now) = 210 by omega] at this
    exact this
  have key : ∀ k, k ≤ 6 * zw now → ∀ F, 6 * zw now - k < F → ∀ D, (∀ c, c < 6 * zw now → D c = nI (zLab (zo now) (zN (zw now)) k c)) → ∃ lab', b_X11_labels_25 N now F (nI k) D = some lab' ∧ ∀ c, c < 6 * zw now → lab' c = nI (zL (zo now) (zN (zw now)) c) := by
    refine dn (6 * zw now) ?_ ?_
    · intro F hF D hD
      obtain ⟨F, rfl⟩ : ∃ G, F = G + 1 := ⟨F - 1, by omega⟩
      rw [b_X11_labels_25, m_cells hw, if_pos (nI_le (Nat.le_refl _) (by omega)), e210]
      exact ⟨D, rfl, hD⟩
    · intro k hk ih F hF D hD
      obtain ⟨F, rfl⟩ : ∃ G, F = G + 1 := ⟨F - 1, by omega⟩
      rw [b_X11_labels_25, m_cells hw, if_neg (nI_ge hk (by omega))]
      obtain ⟨M, hM⟩ : ∃ M, N = M + 3 := ⟨N - 3, by omega⟩
      have g : ∀ lab', (∀ c, c < 6 * zw now → lab' c = nI (zLab (zo now) (zN (zw now)) (k + 1) c)) → ∃ lab'', b_X11_labels_35 N now (b_X11_labels_25 N now F) (M + 1) (nI k) (nI 3) lab' = some lab'' ∧ ∀ c, c < 6 * zw now → lab'' c = nI (zL (zo now) (zN (zw now)) c) := by
        intro lab' hl'
        rw [b_X11_labels_35, if_pos (show (3 : Int32) ≤ nI 3 by decide), nI_1]
        exact ih F (by omega) lab' hl'
      have s2 : ∀ lab', (∀ c, c < 6 * zw now → lab' c = nI (zLs (zo now) (zN (zw now)) (zLab (zo now) (zN (zw now)) k) k 1 c)) → ∃ lab'', b_X11_labels_35 N now (b_X11_labels_25 N now F) (M + 2) (nI k) (nI 2) lab' = some lab'' ∧ ∀ c, c < 6 * zw now → lab'' c = nI (zL (zo now) (zN (zw now)) c) := by
        intro lab' hl'
        exact m_lab1 (P := fun o => ∃ lab'', o = some lab'' ∧ ∀ c, c < 6 * zw now → lab'' c = nI (zL (zo now) (zN (zw now)) c)) (d := 2) hw hN hl' (zLs_b (zLab_b k) k 1) hk (by omega) g
      have s1 := m_lab1 (P := fun o => ∃ lab'', o = some lab'' ∧ ∀ c, c < 6 * zw now → lab'' c = nI (zL (zo now) (zN (zw now)) c)) (d := 1) (F := M + 2) (k25 := b_X11_labels_25 N now F) hw hN hD (zLab_b k) hk (by omega) s2
      rw [← hM] at s1
      exact s1
  have key0 : ∀ k, k ≤ 6 * zw now → ∀ F, 6 * zw now - k < F → ∀ D, (∀ c, c < k → D c = nI c) → ∃ lab', b_X11_labels_2 N now F (nI k) D = some lab' ∧ ∀ c, c < 6 * zw now → lab' c = nI (zL (zo now) (zN (zw now)) c) := by
    refine dn (6 * zw now) ?_ ?_
    · intro F hF D hD
      obtain ⟨F, rfl⟩ : ∃ G, F = G + 1 := ⟨F - 1, by omega⟩
      rw [b_X11_labels_2, m_cells hw, if_pos (nI_le (Nat.le_refl _) (by omega))]
      exact key 0 (by omega) N (by omega) D hD
    · intro k hk ih F hF D hD
      obtain ⟨F, rfl⟩ : ∃ G, F = G + 1 := ⟨F - 1, by omega⟩
      rw [b_X11_labels_2, m_cells hw, if_neg (nI_ge hk (by omega)), nI_clamp (show k < 2 ^ 31 by omega), if_neg (zck (show k < 210 by omega) (by decide)), nI_1]
      refine ih F (by omega) _ (fun c hc => ?_)
      by_cases q : c = k
      · rw [q, pk_us]
      · rw [pk_un q, hD c (by omega)]
  unfold f_X11_labels
  exact key0 0 (by omega) N (by omega) lab (fun c hc => by omega)
/-- a room is the lowest of its part -/
noncomputable def zrep (now : Nat → Int32) (c : Nat) : Bool := zr now c && decide (zL (zo now) (zN (zw now)) c = c)
noncomputable def zpt (now : Nat → Int32) : Nat := zCt (zrep now) 210
theorem zL_le (c : Nat) : zL (zo now) (zN (zw now)) c ≤ c := by rw [zL_eq]; exact zLab_b 210 c
theorem m_parts (hw : zwf now) (hN : 1000 ≤ N) (lab : Nat → Int32) : ∃ lab', f_X11_parts N now lab = some (nI (zpt now), lab') := by
  have hwl := zwf_w hw
  obtain ⟨lab', e1, e2⟩ := m_labels hw hN lab
  unfold f_X11_parts zpt
  rw [bnd1_e e1, zCt_cut (a := 6 * zw now) (by omega) (fun c hc => by unfold zrep; rw [zr_big hw hc]; rfl)]
  refine ⟨lab', ?_⟩
  have key : ∀ k, k ≤ 6 * zw now → ∀ F, 6 * zw now - k < F → b_X11_parts_8 N now F (nI (zCt (zrep now) k)) (nI k) lab' = some (nI (zCt (zrep now) (6 * zw now)), lab') := by
    refine dn (6 * zw now) ?_ ?_
    · intro F hF
      obtain ⟨F, rfl⟩ : ∃ G, F = G + 1 := ⟨F - 1, by omega⟩
      rw [b_X11_parts_8, m_cells hw, if_pos (nI_le (Nat.le_refl _) (by omega))]
    · intro k hk ih F hF
      obtain ⟨F, rfl⟩ : ∃ G, F = G + 1 := ⟨F - 1, by omega⟩
      have := ih F (by omega)
      rw [zCt_s] at this
      have hl := zL_le (now := now) k
      rw [b_X11_parts_8, m_cells hw, if_neg (nI_ge hk (by omega)), bnd1_e (m_isRoomAt hw hk), nI_1]
      unfold zrep at this ⊢
      cases hr : zr now k with
      | false =>
        rw [hr, Bool.false_and] at this
        rw [if_pos zi_f, zs0]; exact this
      | true =>
        rw [hr, Bool.true_and] at this
        rw [if_neg (by decide), nI_clamp (show k < 2 ^ 31 by omega), if_neg (zck (show k < 210 by omega) (by decide)), e2 k hk]
        by_cases q : zL (zo now) (zN (zw now)) k = k
        · rw [decide_eq_true q] at this
          rw [if_pos (by rw [q]), zs1]; exact this
        · rw [decide_eq_false q] at this
          rw [if_neg (fun e => q ((nI_eq (by omega) (by omega)).mp e)), zs0]; exact this
  exact key 0 (by omega) N (by omega)
theorem m_part (hw : zwf now) (hN : 1000 ≤ N) (lab : Nat → Int32) {c : Nat} (hc : c < 2 ^ 31) : ∃ lab', f_X11_part N now lab (nI c) = some (if zr now c = true then nI (zCt (zrep now) (zL (zo now) (zN (zw now)) c)) else -1, lab') := by
  have hwl := zwf_w hw
  unfold f_X11_part
  rw [bnd1_e (m_hasRoom hw hc)]
  cases hr : zr now c with
  | false => exact ⟨lab, rfl⟩
  | true =>
    obtain ⟨lab', e1, e2⟩ := m_labels hw hN lab
    have hc2 := zr_lt hr
    have hl := zL_le (now := now) c
    rw [if_neg (by decide), bnd1_e e1, if_pos rfl]
    refine ⟨lab', ?_⟩
    have key : ∀ k, k ≤ zL (zo now) (zN (zw now)) c → ∀ F, zL (zo now) (zN (zw now)) c - k < F → b_X11_part_18 N now (nI c) F (nI (zCt (zrep now) k)) (nI k) lab' = some (nI (zCt (zrep now) (zL (zo now) (zN (zw now)) c)), lab') := by
      refine dn _ ?_ ?_
      · intro F hF
        obtain ⟨F, rfl⟩ : ∃ G, F = G + 1 := ⟨F - 1, by omega⟩
        rw [b_X11_part_18, nI_clamp (show c < 2 ^ 31 by omega), if_neg (zck (show c < 210 by omega) (by decide)), e2 c hc2, if_pos (nI_le (Nat.le_refl _) (by omega))]
      · intro k hk ih F hF
        obtain ⟨F, rfl⟩ : ∃ G, F = G + 1 := ⟨F - 1, by omega⟩
        have := ih F (by omega)
        rw [zCt_s] at this
        have hlk := zL_le (now := now) k
        rw [b_X11_part_18, nI_clamp (show c < 2 ^ 31 by omega), if_neg (zck (show c < 210 by omega) (by decide)), e2 c hc2, if_neg (nI_ge hk (by omega)), bnd1_e (m_isRoomAt hw (show k < 6 * zw now by omega)), nI_1]
        unfold zrep at this ⊢
        cases hrk : zr now k with
        | false =>
          rw [hrk, Bool.false_and] at this
          rw [if_pos zi_f, zs0]; exact this
        | true =>
          rw [hrk, Bool.true_and] at this
          rw [if_neg (by decide), nI_clamp (show k < 2 ^ 31 by omega), if_neg (zck (show k < 210 by omega) (by decide)), e2 k (by omega)]
          by_cases q : zL (zo now) (zN (zw now)) k = k
          · rw [decide_eq_true q] at this
            rw [if_pos (by rw [q]), zs1]; exact this
          · rw [decide_eq_false q] at this
            rw [if_neg (fun e => q ((nI_eq (by omega) (by omega)).mp e)), zs0]; exact this
    exact key 0 (by omega) N (by omega)
-- the class
theorem c_fp51 {P : Option (Int32 × Int32 × (Nat → Int32) × (Nat → Int32) × (Nat → Int32)) → Prop} {k12 : Int32 → Int32 → Int32 → (Nat → Int32) → (Nat → Int32) → (Nat → Int32) → Option (Int32 × Int32 × (Nat → Int32) × (Nat → Int32) × (Nat → Int32))}
    {W : Int32} {f m : Nat} {l3 : Int32} {D Q : Nat → Int32} {q : Nat → Nat} (hm : m ≤ 210) (hq : ∀ i, i < m → Q i = nI (q i) ∧ q i < 210) (pa : Nat → Int32)
    (hP : ∀ pa', (∀ i, i < m → pa' (q i) = nI f) → (∀ c, (∀ i, i < m → q i ≠ c) → pa' c = pa c) → P (k12 (nI f + 1) (l3 + 1) (nI m) D pa' Q)) :
    ∀ k, k ≤ m → ∀ F, m - k < F → ∀ pa', (∀ i, i < k → pa' (q i) = nI f) → (∀ c, (∀ i, i < k → q i ≠ c) → pa' c = pa c) → P (b_X9_findParts_51 N W ow op k12 F (nI f) l3 (nI k) (nI m) D pa' Q) := by
  refine dn m ?_ ?_
  · intro F hF pa' h1 h2
    obtain ⟨F, rfl⟩ : ∃ G, F = G + 1 := ⟨F - 1, by omega⟩
    rw [b_X9_findParts_51, if_pos (nI_le (Nat.le_refl _) (by omega))]
    exact hP pa' h1 h2
  · intro k hk ih F hF pa' h1 h2
    obtain ⟨F, rfl⟩ : ∃ G, F = G + 1 := ⟨F - 1, by omega⟩
    obtain ⟨q1, q2⟩ := hq k hk
    rw [b_X9_findParts_51, if_neg (nI_ge hk (by omega)), if_neg (show ¬ (210 : Int32) ≤ nI k from nI_ge (b := 210) (by omega) (by decide)), at_lt Q (by decide) (show k < 210 by omega), q1, put_lt pa' _ (by decide) q2, nI_1]
    refine ih F (by omega) _ (fun i hi => ?_) (fun c hc => ?_)
    · by_cases e : q i = q k
      · rw [e, pk_us]
      · rw [pk_un e]
        refine h1 i ?_
        rcases Nat.lt_or_ge i k with q3 | q3
        · exact q3
        · have : i = k := by omega
          rw [this] at e; exact absurd rfl e
    · rw [pk_un (fun e => hc k (Nat.lt_succ_self k) e.symm)]
      exact h2 c (fun i hi => hc i (by omega))
theorem c_findParts (hw : zwf now) (hs : zsh now w cc rc dc lo ow) (ho : ∀ c, c < 210 → op c = nI (zmf (zo now c))) (hN : 1000 ≤ N) (re : Int32) (D pa Q : Nat → Int32) :
    ∃ re' D' pa' Q', f_X9_findParts N re D pa Q w ow op = some (nI (zpt now), re', D', pa', Q') ∧ ∀ c, zr now c = true → pa' c = nI (zCt (zrep now) (zL (zo now) (zN (zw now)) c)) := by
  have hG := zgr hw
  have ew : w = nI (zw now) := hs.1
  obtain ⟨L1, L2, L3, L4⟩ := zL_spec hG
  unfold f_X9_findParts
  rw [bnd1_e (fill_4 (by decide) (by omega) pa (-1))]
  have key : ∀ k, k ≤ 210 → ∀ F, 210 - k < F → ∀ re D pa Q, (∀ c, zr now c = true → pa c = if zL (zo now) (zN (zw now)) c < k then nI (zCt (zrep now) (zL (zo now) (zN (zw now)) c)) else -1) →
      ∃ re' D' pa' Q', b_X9_findParts_12 N w ow op F (nI (zCt (zrep now) k)) (nI k) re D pa Q = some (nI (zpt now), re', D', pa', Q') ∧ ∀ c, zr now c = true → pa' c = nI (zCt (zrep now) (zL (zo now) (zN (zw now)) c)) := by
    refine dn 210 ?_ ?_
    · intro F hF re D pa Q hpa
      obtain ⟨F, rfl⟩ : ∃ G, F = G + 1 := ⟨F - 1, by omega⟩
      rw [b_X9_findParts_12, if_pos (show (210 : Int32) ≤ nI 210 by decide)]
      refine ⟨re, D, pa, Q, rfl, fun c hc => ?_⟩
      have h1 := zr_210 hw hc
      have h2 := L1 c
      rw [hpa c hc, if_pos (by omega)]
    · intro k hk ih F hF re D pa Q hpa
      obtain ⟨F, rfl⟩ : ∃ G, F = G + 1 := ⟨F - 1, by omega⟩
      rw [b_X9_findParts_12, if_neg (show ¬ (210 : Int32) ≤ nI k from nI_ge (b := 210) hk (by decide)), c_holds hw hs (show k < 2 ^ 31 by omega), nI_1]
      have hih := ih F (by omega)
      rw [zCt_s] at hih
      -- where k is not the lowest of its part
      have hskip : zrep now k = false → (∀ c, zr now c = true → zL (zo now) (zN (zw now)) c ≠ k) → ∃ re' D' pa' Q', b_X9_findParts_12 N w ow op F (nI (zCt (zrep now) k)) (nI (k + 1)) re D pa Q = some (nI (zpt now), re', D', pa', Q') ∧ ∀ c, zr now c = true → pa' c = nI (zCt (zrep now) (zL (zo now) (zN (zw now)) c)) := by
        intro h1 h2
        rw [h1] at hih
        refine hih re D pa Q (fun c hc => ?_)
        have h3 := h2 c hc
        rw [hpa c hc]
        by_cases q : zL (zo now) (zN (zw now)) c < k
        · rw [if_pos q, if_pos (by omega)]
        · rw [if_neg q, if_neg (by omega)]
      have hLr : ∀ c, zr now c = true → zr now (zL (zo now) (zN (zw now)) c) = true := fun c hc => zC_rm hG (L3 c) hc
      cases hr : zr now k with
      | false =>
        rw [if_pos zi_f]
        refine hskip (by unfold zrep; rw [hr]; rfl) (fun c hc e => ?_)
        have := hLr c hc
        rw [e, hr] at this; cases this
      | true =>
        rw [if_neg (by decide), at_lt pa (by decide) hk, hpa k hr]
        have hLk := L1 k
        by_cases q : zL (zo now) (zN (zw now)) k < k
        · rw [if_pos q, if_neg (fun e => nI_pos (n := zCt (zrep now) (zL (zo now) (zN (zw now)) k)) (by have := zCt_le (zrep now) (zL (zo now) (zN (zw now)) k); omega) (by rw [e]; decide))]
          refine hskip (by unfold zrep; rw [hr, decide_eq_false (by omega)]; rfl) (fun c hc e => ?_)
          have := L2 c
          rw [e] at this; omega
        · have ek : zL (zo now) (zN (zw now)) k = k := by omega
          rw [if_neg q, if_pos rfl, ew]
          obtain ⟨D', Q', e1, R⟩ := c_spread hw ho hr hN re D Q
          rw [bnd3_e e1, ← ew]
          obtain ⟨s1, s2, s3, s4, s5, s6, s7, s8, s9⟩ := zF_spec hG hr
          refine c_fp51 (P := fun o => ∃ re' D' pa' Q', o = some (nI (zpt now), re', D', pa', Q') ∧ ∀ c, zr now c = true → pa' c = nI (zCt (zrep now) (zL (zo now) (zN (zw now)) c))) (q := (zF (zo now) (zN (zw now)) k).2.1) s8 (fun i hi => ⟨R.2 i hi, zr_210 hw (s3 _ (s4 i hi)).1⟩) pa ?_ 0 (Nat.zero_le _) N (by omega) pa (fun i hi => by omega) (fun c _ => rfl)
          intro pa' p1 p2
          have hrep : zrep now k = true := by unfold zrep; rw [hr, decide_eq_true ek]; rfl
          rw [hrep] at hih
          rw [nI_1, nI_1]
          refine hih _ D' pa' Q' (fun c hc => ?_)
          by_cases q2 : zL (zo now) (zN (zw now)) c = k
          · have hre : (zF (zo now) (zN (zw now)) k).1 c ≠ 0 := (zL_F hG hr).mpr (by rw [q2, ek])
            obtain ⟨_, i, h1, h2⟩ := s3 c hre
            rw [← h2, p1 i h1, h2, q2, if_pos (Nat.lt_succ_self k)]
          · rw [p2 c (fun i hi e => by
              have := (zL_F hG hr).mp (s4 i hi)
              rw [e, ek] at this
              exact q2 this), hpa c hc]
            by_cases q3 : zL (zo now) (zN (zw now)) c < k
            · rw [if_pos q3, if_pos (by omega)]
            · rw [if_neg q3, if_neg (by omega)]
  exact key 0 (by omega) N (by omega) re D _ Q (fun c hc => by rw [ffill_lt (zr_210 hw hc), if_neg (Nat.not_lt_zero _)])
theorem zlz {a b c : Nat} (ha : a < 2 ^ 29) (hb : b < 2 ^ 29) (hc : c < 2 ^ 29) : nI a - nI b + nI c = 0 ↔ a + c = b := by
  have e : nI a - nI b + nI c = nI (a + c) - nI b := by
    rw [← nI_add, Int32.sub_eq_add_neg, Int32.sub_eq_add_neg, Int32.add_assoc, Int32.add_comm (-nI b) (nI c), ← Int32.add_assoc]
  rw [e]
  have ht := pk_sub_toInt (a := a + c) (b := b) (by omega) (by omega)
  constructor
  · intro q
    rw [q] at ht
    have : (0 : Int32).toInt = 0 := by decide
    omega
  · intro q
    rw [q, pk_sub (Nat.le_refl _), Nat.sub_self]; rfl
noncomputable def zsing (now : Nat → Int32) : Bool := decide (zod now + zpt now = zCt (zr now) 210) && decide (zpt now = 1)
theorem zpt_le (now : Nat → Int32) : zpt now ≤ 210 := zCt_le _ _
theorem c_loopCount (hw : zwf now) (hs : zsh now w cc rc dc lo ow) (ho : ∀ c, c < 210 → op c = nI (zmf (zo now c))) (hN : 1000 ≤ N) (re : Int32) (D pa Q : Nat → Int32) :
    ∃ re' D' pa' Q', f_X9_loopCount N re D pa Q w rc ow op = some (nI (zod now) - nI (zCt (zr now) 210) + nI (zpt now), re', D', pa', Q') := by
  obtain ⟨re', D', pa', Q', e1, -⟩ := c_findParts hw hs ho hN re D pa Q
  unfold f_X9_loopCount
  rw [bnd1_e (c_openCount hw ho hN), bnd5_e e1, hs.2.2.1]
  exact ⟨re', D', pa', Q', rfl⟩
theorem c_isSingle (hw : zwf now) (hs : zsh now w cc rc dc lo ow) (ho : ∀ c, c < 210 → op c = nI (zmf (zo now c))) (hN : 1000 ≤ N) (re : Int32) (D pa Q : Nat → Int32) :
    ∃ re' D' pa' Q', f_X9_isSingle N re D pa Q w rc ow op = some (zi (zsing now), re', D', pa', Q') := by
  obtain ⟨re1, D1, pa1, Q1, e1⟩ := c_loopCount hw hs ho hN re D pa Q
  obtain ⟨re2, D2, pa2, Q2, e2, -⟩ := c_findParts hw hs ho hN re1 D1 pa1 Q1
  have l1 := zod_le now
  have l2 := zpt_le now
  have l3 := zCt_le (zr now) 210
  unfold f_X9_isSingle zsing
  rw [bnd5_e e1]
  by_cases q : zod now + zpt now = zCt (zr now) 210
  · rw [if_pos ((zlz (by omega) (by omega) (by omega)).mpr q), bnd5_e e2, decide_eq_true q, Bool.true_and]
    by_cases q2 : zpt now = 1
    · rw [if_pos (by rw [q2]; rfl), decide_eq_true q2]; exact ⟨_, _, _, _, rfl⟩
    · rw [if_neg (show ¬ nI _ = (1 : Int32) from fun e => q2 ((nI_eq (by omega) (by decide : (1 : Nat) < 2 ^ 31)).mp e)), decide_eq_false q2]; exact ⟨_, _, _, _, rfl⟩
  · rw [if_neg (fun e => q ((zlz (by omega) (by omega) (by omega)).mp e)), decide_eq_false q, Bool.false_and]; exact ⟨_, _, _, _, rfl⟩
theorem m_loops (hw : zwf now) (hN : 1000 ≤ N) (lab : Nat → Int32) : ∃ lab', f_X11_loops N now lab = some (nI (zod now) - nI (zCt (zr now) 210) + nI (zpt now), lab') := by
  obtain ⟨lab', e1⟩ := m_parts hw hN lab
  unfold f_X11_loops
  rw [bnd1_e (m_openDoors hw hN), bnd1_e (m_rooms hw hN), bnd2_e e1]
  exact ⟨lab', rfl⟩
theorem m_isSingle (hw : zwf now) (hN : 1000 ≤ N) (lab : Nat → Int32) : ∃ lab', f_X11_isSingle N now lab = some (zi (zsing now), lab') := by
  obtain ⟨lab1, e1⟩ := m_parts hw hN lab
  obtain ⟨lab2, e2⟩ := m_loops hw hN lab1
  have l1 := zod_le now
  have l2 := zpt_le now
  have l3 := zCt_le (zr now) 210
  unfold f_X11_isSingle zsing
  rw [bnd2_e e1]
  by_cases q2 : zpt now = 1
  · rw [if_pos (by rw [q2]; rfl), bnd2_e e2, decide_eq_true q2, Bool.and_true]
    by_cases q : zod now + zpt now = zCt (zr now) 210
    · rw [if_pos ((zlz (by omega) (by omega) (by omega)).mpr q), decide_eq_true q]; exact ⟨_, rfl⟩
    · rw [if_neg (fun e => q ((zlz (by omega) (by omega) (by omega)).mp e)), decide_eq_false q]; exact ⟨_, rfl⟩
  · rw [if_neg (show ¬ nI _ = (1 : Int32) from fun e => q2 ((nI_eq (by omega) (by decide : (1 : Nat) < 2 ^ 31)).mp e)), decide_eq_false q2, Bool.and_false]; exact ⟨_, rfl⟩
end PRT

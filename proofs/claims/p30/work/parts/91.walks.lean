-- signs
section SGN
variable {g : gS}
noncomputable def zsp (now : Nat → Int32) (c : Nat) : Bool := decide (c < 210 ∧ zsg now c ≠ 0) && (!true || decide (3 ≤ zdg now c))
theorem zsp_c {now : Nat → Int32} {c : Nat} (hc : c < 210) : zsp now c = (decide (zsg now c ≠ 0) && decide (3 ≤ zdg now c)) := by
  unfold zsp
  by_cases q : zsg now c ≠ 0
  · rw [decide_eq_true (show c < 210 ∧ zsg now c ≠ 0 from ⟨hc, q⟩), decide_eq_true q]; rfl
  · rw [decide_eq_false (show ¬ (c < 210 ∧ zsg now c ≠ 0) from fun e => q e.2), decide_eq_false q]; rfl
theorem zsc_mono (h : zwf g.1) : zsc g.1 true ≤ zsc g.1 false := zCt_mono 210 (fun c _ hp => by
  rw [Bool.and_eq_true] at hp
  rw [hp.1]; rfl)
theorem s51 (h : zwf g.1) {goal : Nat} (e8 : g.1 8 = nI goal) (hgo : zr g.1 goal = true) : ∀ k, k ≤ 6 * zw g.1 → ∀ F, 6 * zw g.1 - k < F → b_L_areSigns_51 nF F (nI (zw g.1)) (nI goal) (nI (zCt (zsp g.1) k)) 1 (nI k) g = some (1, g) := by
  have hw := zwf_w h
  have g210 := zr_210 h hgo
  refine dn _ ?_ ?_
  · intro F hF
    obtain ⟨F, rfl⟩ : ∃ G, F = G + 1 := ⟨F - 1, by omega⟩
    have ecut : zsc g.1 true = zCt (zsp g.1) (6 * zw g.1) := zCt_cut (p := zsp g.1) (by omega) (fun c hc => by
      unfold zsp
      rw [zdg_nr h (zr_big h hc)]
      exact Bool.and_false _)
    rw [b_L_areSigns_51, e6w h, if_pos (nI_le (Nat.le_refl _) (by omega))]
    unfold b_L_areSigns_139
    refine st_el (by decide) ?_
    refine st_bV (e_c13 h) ?_
    refine st_if (by rw [ecut]) ?_
    refine st_bV (e_c12 h) ?_
    by_cases q : nI (zsc g.1 false) = 0
    · exact st_if q rfl
    · refine st_el q ?_
      exact st_el (nI_pos (by omega)) rfl
  · intro k hk ih F hF
    obtain ⟨F, rfl⟩ : ∃ G, F = G + 1 := ⟨F - 1, by omega⟩
    have hih := ih F (by omega)
    have k210 : k < 210 := by omega
    rw [zCt_s] at hih
    rw [b_L_areSigns_51, e6w h, if_neg (nI_ge hk (by omega)), if_neg (show ¬ (1 : Int32) = 0 by decide)]
    cases hr : zr g.1 k with
    | false =>
      have ep : zsp g.1 k = false := by unfold zsp; rw [zdg_nr h hr]; exact Bool.and_false _
      rw [ep] at hih
      refine st_bV (e_points_bad h (by omega) hr) ?_
      refine st_el (by decide) ?_
      refine st_el (by decide) ?_
      unfold b_L_areSigns_91
      refine st_if (by decide) ?_
      rw [show nI (zCt (zsp g.1) k) + (0 : Int32) = nI (zCt (zsp g.1) k + 0) from nI_add _ 0, nI_1]
      exact hih
    | true =>
      refine st_bV (e_points h e8 hgo hr) ?_
      rw [← zsp_c (now := g.1) k210]
      cases hp : zsp g.1 k with
      | false =>
        rw [hp] at hih
        rw [if_neg zft]
        refine st_el (by decide) ?_
        refine st_el (by decide) ?_
        unfold b_L_areSigns_91
        refine st_if (by decide) ?_
        rw [show nI (zCt (zsp g.1) k) + (0 : Int32) = nI (zCt (zsp g.1) k + 0) from nI_add _ 0, nI_1]
        exact hih
      | true =>
        rw [hp] at hih
        rw [if_pos rfl]
        have h3 : 3 ≤ zdg g.1 k := by
          rw [zsp_c k210, Bool.and_eq_true] at hp
          exact of_decide_eq_true hp.2
        have h4 := zdg_4 (now := g.1) k
        by_cases q : zDir g.1 goal k < 4
        · rw [if_pos q]
          refine st_if (nI_pos' (by omega)) ?_
          unfold b_L_areSigns_86 b_L_areSigns_91
          refine st_el (nI_pos (by omega)) ?_
          refine st_bV ((e_doors h (by omega)).trans (if_pos hr)) ?_
          refine st_if (by rw [zbit_of _ q, zDir_ok q]; rfl) ?_
          refine st_bV ((e_doors h (by omega)).trans (if_pos hr)) ?_
          refine st_bV (y := nI (zdg g.1 k)) (zmask_ones _ _ _ _) ?_
          refine st_el (nI_ge (a := 2) (by omega) (by omega)) ?_
          rw [nI_1, nI_1]
          exact hih
        · rw [if_neg q]
          refine st_el (by decide) ?_
          refine st_if rfl ?_
          unfold b_L_areSigns_86 b_L_areSigns_91
          refine st_if (by decide) ?_
          rw [nI_1, nI_1]
          exact hih
theorem p_areSigns (h : zwf g.1) : f_L_areSigns nF g = some (1, g) := by
  have hw := zwf_w h
  obtain ⟨goal, e8, hgo⟩ := h.2.2.2.1
  have l20 := zsc_le h
  have lm := zsc_mono h
  unfold f_L_areSigns
  refine st_bV (e_c1 h) ?_
  refine st_bV ((e_c11 h).trans e8) ?_
  refine st_bV (e_c13 h) ?_
  refine st_bV (e_c12 h) ?_
  refine st_el (nI_nlt lm (by omega)) ?_
  refine st_bV (e_c12 h) ?_
  refine st_el (nI_nlt (a := 20) l20 (by decide)) ?_
  exact s51 h e8 hgo 0 (Nat.zero_le _) nF (by have := nF_1; omega)
end SGN
-- the walker, step by step
noncomputable def zWx (now : Nat → Int32) (goal : Nat) : Nat → Nat → Nat → Nat × Nat × Nat
  | 0, c, f => (c, f, 0)
  | n + 1, c, f => if c = goal then (c, f, 0) else if zCh now goal c f < 4 then ((zWx now goal n (zN (zw now) c (zCh now goal c f)) (zO (zCh now goal c f))).1, (zWx now goal n (zN (zw now) c (zCh now goal c f)) (zO (zCh now goal c f))).2.1, (zWx now goal n (zN (zw now) c (zCh now goal c f)) (zO (zCh now goal c f))).2.2 + 1) else (c, f, 0)
section WLK
variable {now : Nat → Int32} {goal : Nat}
theorem zWx_g (n f : Nat) : zWx now goal n goal f = (goal, f, 0) := by
  cases n with
  | zero => rfl
  | succ n => rw [zWx, if_pos rfl]
theorem zWx_x {c f : Nat} (h : ¬ zCh now goal c f < 4) (n : Nat) : zWx now goal n c f = (c, f, 0) := by
  cases n with
  | zero => rfl
  | succ n =>
    rw [zWx]
    by_cases q : c = goal
    · rw [if_pos q]
    · rw [if_neg q, if_neg h]
theorem zWx_le : ∀ n c f, (zWx now goal n c f).2.2 ≤ n
  | 0, _, _ => Nat.le_refl 0
  | n + 1, c, f => by
    rw [zWx]
    by_cases q : c = goal
    · rw [if_pos q]; exact Nat.zero_le _
    · rw [if_neg q]
      by_cases q2 : zCh now goal c f < 4
      · rw [if_pos q2]; exact Nat.succ_le_succ (zWx_le n _ _)
      · rw [if_neg q2]; exact Nat.zero_le _
theorem zWx_rm (h : zwf now) : ∀ n c f, zr now c = true → f < 4 → zr now (zWx now goal n c f).1 = true ∧ (zWx now goal n c f).2.1 < 4
  | 0, _, _, hc, hf => ⟨hc, hf⟩
  | n + 1, c, f, hc, hf => by
    rw [zWx]
    by_cases q : c = goal
    · rw [if_pos q]; exact ⟨hc, hf⟩
    · rw [if_neg q]
      by_cases q2 : zCh now goal c f < 4
      · rw [if_pos q2]
        exact zWx_rm h n _ _ ((zgr h).1 c _ q2 (zCh_ok q2)).2.1 (zO_lt _)
      · rw [if_neg q2]; exact ⟨hc, hf⟩
theorem zWx_W (h : zwf now) : ∀ n c f, zW (zo now) (zN (zw now)) (zWx now goal n c f).2.2 c (zWx now goal n c f).1
  | 0, _, _ => rfl
  | n + 1, c, f => by
    rw [zWx]
    by_cases q : c = goal
    · rw [if_pos q]; exact rfl
    · rw [if_neg q]
      by_cases q2 : zCh now goal c f < 4
      · rw [if_pos q2]
        exact ⟨_, q2, zCh_ok q2, zWx_W h n _ _⟩
      · rw [if_neg q2]; exact rfl
/-- the steps before -/
theorem zWx_pre : ∀ n c f k, k ≤ (zWx now goal n c f).2.2 → (zWx now goal k c f).2.2 = k
  | n, c, f, 0, _ => rfl
  | 0, c, f, k + 1, hk => absurd hk (Nat.not_succ_le_zero k)
  | n + 1, c, f, k + 1, hk => by
    rw [zWx] at hk ⊢
    by_cases q : c = goal
    · rw [if_pos q] at hk; exact absurd hk (Nat.not_succ_le_zero k)
    · rw [if_neg q] at hk ⊢
      by_cases q2 : zCh now goal c f < 4
      · rw [if_pos q2] at hk ⊢
        exact congrArg (· + 1) (zWx_pre n _ _ k (Nat.le_of_succ_le_succ hk))
      · rw [if_neg q2] at hk; exact absurd hk (Nat.not_succ_le_zero k)
theorem zWx_st : ∀ n c f k, k < (zWx now goal n c f).2.2 → ¬ (zWx now goal k c f).1 = goal ∧ zCh now goal (zWx now goal k c f).1 (zWx now goal k c f).2.1 < 4 ∧ (zWx now goal (k + 1) c f).1 = zN (zw now) (zWx now goal k c f).1 (zCh now goal (zWx now goal k c f).1 (zWx now goal k c f).2.1)
  | 0, c, f, k, hk => absurd hk (Nat.not_lt_zero k)
  | n + 1, c, f, k, hk => by
    have hk0 := hk
    rw [zWx] at hk
    by_cases q : c = goal
    · rw [if_pos q] at hk; exact absurd hk (Nat.not_lt_zero k)
    · rw [if_neg q] at hk
      by_cases q2 : zCh now goal c f < 4
      · rw [if_pos q2] at hk
        cases k with
        | zero =>
          have e1 : zWx now goal (0 + 1) c f = (zN (zw now) c (zCh now goal c f), zO (zCh now goal c f), 0 + 1) := by rw [zWx, if_neg q, if_pos q2]; rfl
          refine ⟨q, q2, ?_⟩
          rw [e1]; rfl
        | succ k =>
          have := zWx_st n _ _ k (Nat.lt_of_succ_lt_succ hk)
          rw [zWx, if_neg q, if_pos q2, zWx, if_neg q, if_pos q2]
          exact this
      · rw [if_neg q2] at hk; exact absurd hk (Nat.not_lt_zero k)
theorem zWx_end : ∀ n c f, (zWx now goal n c f).2.2 = n ∨ (zWx now goal n c f).1 = goal ∨ ¬ zCh now goal (zWx now goal n c f).1 (zWx now goal n c f).2.1 < 4
  | 0, c, f => Or.inl rfl
  | n + 1, c, f => by
    rw [zWx]
    by_cases q : c = goal
    · rw [if_pos q]; exact Or.inr (Or.inl q)
    · rw [if_neg q]
      by_cases q2 : zCh now goal c f < 4
      · rw [if_pos q2]
        rcases zWx_end n (zN (zw now) c (zCh now goal c f)) (zO (zCh now goal c f)) with e | e | e
        · exact Or.inl (congrArg (· + 1) e)
        · exact Or.inr (Or.inl e)
        · exact Or.inr (Or.inr e)
      · rw [if_neg q2]; exact Or.inr (Or.inr q2)
theorem zWx_made : ∀ n c f, zWx now goal (zWx now goal n c f).2.2 c f = zWx now goal n c f
  | 0, c, f => rfl
  | n + 1, c, f => by
    conv => rhs; rw [zWx]
    conv => lhs; arg 3; rw [zWx]
    by_cases q : c = goal
    · rw [if_pos q]; rfl
    · rw [if_neg q]
      by_cases q2 : zCh now goal c f < 4
      · rw [if_pos q2]
        show zWx now goal ((zWx now goal n (zN (zw now) c (zCh now goal c f)) (zO (zCh now goal c f))).2.2 + 1) c f = _
        rw [zWx, if_neg q, if_pos q2, zWx_made n]
      · rw [if_neg q2]; rfl
theorem zWx_stop : ∀ n c f, (zWx now goal n c f).1 = goal → ∀ m, n ≤ m → zWx now goal m c f = zWx now goal n c f
  | 0, c, f, hg, m, _ => by
    have hg : c = goal := hg
    rw [hg, zWx_g, zWx_g]
  | n + 1, c, f, hg, m, hm => by
    obtain ⟨m, rfl⟩ : ∃ x, m = x + 1 := ⟨m - 1, by omega⟩
    rw [zWx] at hg
    rw [zWx, zWx]
    by_cases q : c = goal
    · rw [if_pos q, if_pos q]
    · rw [if_neg q] at hg
      rw [if_neg q, if_neg q]
      by_cases q2 : zCh now goal c f < 4
      · rw [if_pos q2] at hg
        rw [if_pos q2, if_pos q2, zWx_stop n _ _ hg m (by omega)]
      · rw [if_neg q2, if_neg q2]
theorem zWx_mono : ∀ n m c f, n ≤ m → (zWx now goal n c f).2.2 ≤ (zWx now goal m c f).2.2
  | 0, m, c, f, _ => Nat.zero_le _
  | n + 1, m, c, f, hm => by
    obtain ⟨m, rfl⟩ : ∃ x, m = x + 1 := ⟨m - 1, by omega⟩
    rw [zWx, zWx]
    by_cases q : c = goal
    · rw [if_pos q, if_pos q]; exact Nat.le_refl _
    · rw [if_neg q, if_neg q]
      by_cases q2 : zCh now goal c f < 4
      · rw [if_pos q2, if_pos q2]
        exact Nat.succ_le_succ (zWx_mono n m _ _ (by omega))
      · rw [if_neg q2, if_neg q2]; exact Nat.le_refl _
theorem zV_le (v : Nat → Bool) {c : Nat} (hc : c < 210) : zCt (zV v c) 210 ≤ zCt v 210 + 1 := by
  cases hv : v c with
  | false =>
    refine Nat.le_of_eq (zS_up (f := fun i => (v i).toNat) (g := fun i => (zV v c i).toNat) hc ?_ ?_)
    · show (zV v c c).toNat = (v c).toNat + 1
      unfold zV; rw [if_pos rfl, hv]; rfl
    · intro i hi
      show (zV v c i).toNat = (v i).toNat
      unfold zV; rw [if_neg hi]
  | true =>
    have e : zV v c = v := by
      funext i
      unfold zV
      by_cases q : i = c
      · rw [if_pos q, q, hv]
      · rw [if_neg q]
    rw [e]; exact Nat.le_succ _
theorem w66 (h : zwf now) {N : Nat} (hN : 1000 ≤ N) (hgo : zr now goal = true) (e8 : now 8 = nI goal) {far : Nat → Int32} (hF : ∀ c, c < 6 * zw now → far c = zd ((zF (zo now) (zN (zw now)) goal).1 c)) (ring : Nat → Int32) {most : Nat} (hm : most ≤ 2000) :
    ∀ n t G c f v Wa, t + n = most → n + 1 < G → zr now c = true → f < 4 → (∀ i, i < 210 → Wa i = zi (v i)) →
      ∃ v' Wa', b_X11_walks_66 N now (nI most) G 1 (nI c) (nI f) (nI t) far ring Wa = some (nI (zWx now goal n c f).1, nI (zWx now goal n c f).2.1, nI (t + (zWx now goal n c f).2.2), far, ring, Wa') ∧ (∀ i, i < 210 → Wa' i = zi (v' i)) ∧ zCt v' 210 ≤ zCt v 210 + (zWx now goal n c f).2.2 := by
  have g210 := zr_210 h hgo
  intro n
  induction n with
  | zero =>
    intro t G c f v Wa ht hG' hc hf hW
    obtain ⟨G, rfl⟩ : ∃ x, G = x + 1 := ⟨G - 1, by omega⟩
    refine ⟨v, Wa, ?_, hW, Nat.le_add_right _ _⟩
    rw [b_X11_walks_66, if_pos (nI_le (by omega) (by omega))]; rfl
  | succ n ih =>
    intro t G c f v Wa ht hG' hc hf hW
    obtain ⟨G, rfl⟩ : ∃ x, G = x + 1 := ⟨G - 1, by omega⟩
    have c210 := zr_210 h hc
    rw [b_X11_walks_66, if_neg (nI_ge (by omega) (by omega)), show (8 : Int32).toNatClampNeg = 8 from rfl, e8, zWx]
    by_cases qg : c = goal
    · rw [if_pos (by rw [qg]), if_pos qg]
      exact ⟨v, Wa, rfl, hW, Nat.le_add_right _ _⟩
    · have hne : ¬ nI c = nI goal := fun e => qg ((nI_eq (by omega) (by omega)).mp e)
      rw [if_neg hne, if_neg qg, if_neg (show ¬ (1 : Int32) = 0 by decide), bnd1_e (m_goes h hN hgo e8 hF (zr_lt hc) hf)]
      by_cases q : zCh now goal c f < 4
      · have hop := zCh_ok q
        obtain ⟨g1, g2, g3, g4⟩ := (zgr h).1 c _ q hop
        have r210 := zr_210 h g2
        have em : (nI (zCh now goal c f) + (2 : Int32)) - (nI (zCh now goal c f) + (2 : Int32)) / (4 : Int32) * (4 : Int32) = nI (zO (zCh now goal c f)) := zmodI (b := 2) (by omega)
        rw [if_neg (fun e => zdr_neg.mp e q), zdr_lt q, if_pos q]
        unfold b_X11_walks_106
        rw [if_neg (by decide), bnd1_e (show f_X11_beside now (nI c) (nI (zCh now goal c f)) = some (nI (zN (zw now) c (zCh now goal c f))) by rw [m_beside h (zr_lt hc) q, if_pos (zo_h.mp hop).1]), nI_clamp (show zN (zw now) c (zCh now goal c f) < 2 ^ 31 by omega), if_neg (zck r210 (by decide)), em, nI_1]
        obtain ⟨v', Wa', k1, k2, k3⟩ := ih (t + 1) G _ (zO (zCh now goal c f)) (zV v _) _ (by omega) (by omega) g2 (zO_lt _) (zV_row hW _)
        have hv := zV_le v r210
        refine ⟨v', Wa', ?_, k2, ?_⟩
        · rw [k1]
          show some (nI (zWx now goal n (zN (zw now) c (zCh now goal c f)) (zO (zCh now goal c f))).1, nI (zWx now goal n (zN (zw now) c (zCh now goal c f)) (zO (zCh now goal c f))).2.1, nI (t + 1 + (zWx now goal n (zN (zw now) c (zCh now goal c f)) (zO (zCh now goal c f))).2.2), far, ring, Wa') = some (nI (zWx now goal n (zN (zw now) c (zCh now goal c f)) (zO (zCh now goal c f))).1, nI (zWx now goal n (zN (zw now) c (zCh now goal c f)) (zO (zCh now goal c f))).2.1, nI (t + ((zWx now goal n (zN (zw now) c (zCh now goal c f)) (zO (zCh now goal c f))).2.2 + 1)), far, ring, Wa')
          rw [show t + 1 + (zWx now goal n (zN (zw now) c (zCh now goal c f)) (zO (zCh now goal c f))).2.2 = t + ((zWx now goal n (zN (zw now) c (zCh now goal c f)) (zO (zCh now goal c f))).2.2 + 1) by omega]
        · show zCt v' 210 ≤ zCt v 210 + ((zWx now goal n (zN (zw now) c (zCh now goal c f)) (zO (zCh now goal c f))).2.2 + 1)
          omega
      · rw [if_pos (zdr_neg.mpr q), if_neg q]
        unfold b_X11_walks_106
        rw [if_pos rfl]
        obtain ⟨G, rfl⟩ : ∃ x, G = x + 1 := ⟨G - 1, by omega⟩
        rw [b_X11_walks_66, if_neg (nI_ge (by omega) (by omega)), show (8 : Int32).toNatClampNeg = 8 from rfl, e8, if_neg hne, if_pos rfl]
        exact ⟨v, Wa, rfl, hW, Nat.le_add_right _ _⟩
end WLK
section WLV
variable {g : gS} {st goal : Nat}
theorem e_walks (h : zwf g.1) (e7 : g.1 7 = nI st) (hst : zr g.1 st = true) (e8 : g.1 8 = nI goal) (hgo : zr g.1 goal = true) {most : Nat} (hm : most ≤ 2000) :
    ∃ far' ring' Wa' v', f_X11_walks nF 0 0 0 g.1 fz fz fz (nI most) = some (nI (zWx g.1 goal most st 2).1, nI (zWx g.1 goal most st 2).2.1, nI (zWx g.1 goal most st 2).2.2, far', ring', Wa') ∧ (∀ i, i < 210 → Wa' i = zi (v' i)) ∧ zCt v' 210 ≤ 1 + (zWx g.1 goal most st 2).2.2 := by
  have hwl := zwf_w h
  have hN := nF_le
  obtain ⟨far', ring', e2, R2⟩ := m_lays h hgo nF_1 fz fz
  have s210 := zr_210 h hst
  have z0 : zCt (fun _ => false) 210 = 0 := zS_0 210
  have z1 := zV_le (fun _ => false) s210
  unfold f_X11_walks
  rw [show (8 : Int32).toNatClampNeg = 8 from rfl, e8, bnd2_e e2, show (0 : Int32) = nI 0 from rfl]
  have key : ∀ k, k ≤ 210 → ∀ F, 210 - k < F → ∀ W0, (∀ i, i < k → W0 i = 0) → ∃ Wa' v', b_X11_walks_13 nF g.1 (nI most) F (nI k) (nI 0) (nI 0) (nI 0) far' ring' W0 = some (nI (zWx g.1 goal most st 2).1, nI (zWx g.1 goal most st 2).2.1, nI (zWx g.1 goal most st 2).2.2, far', ring', Wa') ∧ (∀ i, i < 210 → Wa' i = zi (v' i)) ∧ zCt v' 210 ≤ 1 + (zWx g.1 goal most st 2).2.2 := by
    refine dn 210 ?_ ?_
    · intro F hF W0 hW0
      obtain ⟨F, rfl⟩ : ∃ G, F = G + 1 := ⟨F - 1, by omega⟩
      rw [b_X11_walks_13, if_pos (show (210 : Int32) ≤ nI 210 by decide), show (7 : Int32).toNatClampNeg = 7 from rfl, e7, nI_clamp (show st < 2 ^ 31 by omega), if_neg (zck s210 (by decide))]
      obtain ⟨v', Wa', k1, k2, k3⟩ := w66 h nF_1 hgo e8 R2.1 ring' hm most 0 nF st 2 (zV (fun _ => false) st) _ (by omega) (by omega) hst (by decide) (zV_row (fun i hi => hW0 i hi) st)
      rw [Nat.zero_add] at k1
      exact ⟨Wa', v', k1, k2, by omega⟩
    · intro k hk ih F hF W0 hW0
      obtain ⟨F, rfl⟩ : ∃ G, F = G + 1 := ⟨F - 1, by omega⟩
      rw [b_X11_walks_13, if_neg (show ¬ (210 : Int32) ≤ nI k from nI_ge (b := 210) hk (by decide)), nI_clamp (show k < 2 ^ 31 by omega), if_neg (zck (show k < 210 by omega) (by decide)), nI_1]
      refine ih F (by omega) _ (fun i hi => ?_)
      by_cases q : i = k
      · rw [q, pk_us]
      · rw [pk_un q]; exact hW0 i (by omega)
  obtain ⟨Wa', v', k1, k2, k3⟩ := key 0 (Nat.zero_le _) nF (by omega) fz (fun i hi => absurd hi (Nat.not_lt_zero i))
  exact ⟨far', ring', Wa', v', k1, k2, k3⟩
theorem e_walk (h : zwf g.1) (e7 : g.1 7 = nI st) (hst : zr g.1 st = true) (e8 : g.1 8 = nI goal) (hgo : zr g.1 goal = true) {most : Nat} (hm : most ≤ 2000) :
    V_walk g (nI most) 0 = nI (zWx g.1 goal most st 2).1 ∧ V_walk g (nI most) 1 = nI (zWx g.1 goal most st 2).2.2 ∧ ∃ n, V_walk g (nI most) 2 = nI n ∧ n ≤ (zWx g.1 goal most st 2).2.2 + 1 := by
  obtain ⟨far', ring', Wa', v', k1, k2, k3⟩ := e_walks h e7 hst e8 hgo hm
  have ein : t_X11_in (nI most) 0 (2000 : Int32) = zi (decide (most ≤ 2000)) := zin (by omega) (by decide)
  refine ⟨?_, ?_, zCt v' 210, ?_, by omega⟩
  · unfold V_walk f_X11_walk
    rw [ein, decide_eq_true hm, if_neg (show ¬ zi true = 0 by decide), if_neg (by decide), bnd6_e k1, m_was nF_le _ _ _ _ _ _ _ k2]; rfl
  · unfold V_walk f_X11_walk
    rw [ein, decide_eq_true hm, if_neg (show ¬ zi true = 0 by decide), if_neg (by decide), bnd6_e k1, m_was nF_le _ _ _ _ _ _ _ k2]; rfl
  · unfold V_walk f_X11_walk
    rw [ein, decide_eq_true hm, if_neg (show ¬ zi true = 0 by decide), if_neg (by decide), bnd6_e k1, m_was nF_le _ _ _ _ _ _ _ k2]; rfl
theorem e_walked (h : zwf g.1) (e7 : g.1 7 = nI st) (hst : zr g.1 st = true) (e8 : g.1 8 = nI goal) (hgo : zr g.1 goal = true) :
    V_walked g = if (zWx g.1 goal 2000 st 2).1 = goal then nI (zWx g.1 goal 2000 st 2).2.2 else -4 := by
  obtain ⟨far', ring', Wa', v', k1, k2, k3⟩ := e_walks h e7 hst e8 hgo (Nat.le_refl 2000)
  have g210 := zr_210 h hgo
  have r210 := zr_210 h (zWx_rm (goal := goal) h 2000 st 2 hst (by decide)).1
  unfold V_walked f_X11_walked
  rw [bnd6_e (show f_X11_walks nF 0 0 0 g.1 fz fz fz 2000 = _ from k1), show (8 : Int32).toNatClampNeg = 8 from rfl, e8]
  by_cases q : (zWx g.1 goal 2000 st 2).1 = goal
  · rw [if_pos (by rw [q]), if_pos q]; rfl
  · rw [if_neg (fun e => q ((nI_eq (by omega) (by omega)).mp e)), if_neg q]; rfl
end WLV

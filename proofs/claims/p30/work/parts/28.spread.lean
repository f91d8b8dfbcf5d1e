-- the spread, in the class and in the model
theorem zck {c N : Nat} (h : c < N) (hN : N < 2 ^ 31) : ¬ (nI c < 0 ∨ N ≤ c) := by
  rintro (q | q)
  · exact nI_pos (by omega) q
  · omega
theorem zd_m1 {e : Nat} (h : e < 2 ^ 31) : zd e = -1 ↔ e = 0 := by
  cases e with
  | zero => exact ⟨fun _ => rfl, fun _ => rfl⟩
  | succ k =>
    constructor
    · intro q
      exact absurd (show nI k < 0 by rw [show nI k = (-1 : Int32) from q]; decide) (nI_pos (by omega))
    · intro q; cases q
theorem zd_s (e : Nat) : zd e + 1 = zd (e + 1) := by
  cases e with
  | zero => decide
  | succ k => exact nI_1 k
theorem zd_neg {e : Nat} (h : e < 2 ^ 31) : zd e < 0 ↔ e = 0 := by
  cases e with
  | zero => exact ⟨fun _ => rfl, fun _ => by decide⟩
  | succ k => exact ⟨fun q => absurd q (nI_pos (by omega)), fun q => by cases q⟩
theorem zd_nn {e : Nat} (h : e < 2 ^ 31) : 0 ≤ zd e ↔ e ≠ 0 := by
  cases e with
  | zero => exact ⟨fun q => absurd q (by decide), fun q => absurd rfl q⟩
  | succ k => exact ⟨fun _ q => (by cases q), fun _ => nI_pos' (by omega)⟩
theorem zd_le {a b : Nat} (ha : a ≤ 2 ^ 31) (hb : b ≤ 2 ^ 31) : zd a ≤ zd b ↔ a ≤ b := by
  cases a with
  | zero =>
    refine ⟨fun _ => Nat.zero_le _, fun _ => ?_⟩
    cases b with
    | zero => exact Int32.le_refl _
    | succ k => exact Int32.le_trans (show (-1 : Int32) ≤ 0 by decide) (nI_pos' (by omega))
  | succ j =>
    cases b with
    | zero => exact ⟨fun q => absurd (Int32.lt_of_le_of_lt q (show (-1 : Int32) < 0 by decide)) (nI_pos (by omega)), fun q => by omega⟩
    | succ k => exact (nI_leI (by omega) (by omega)).trans (by omega)
theorem zd_eq {a b : Nat} (ha : a < 2 ^ 31) (hb : b < 2 ^ 31) : zd a = zd b ↔ a = b := by
  constructor
  · intro q
    have h1 := (zd_le (a := a) (b := b) (by omega) (by omega)).mp (by rw [q]; exact Int32.le_refl _)
    have h2 := (zd_le (a := b) (b := a) (by omega) (by omega)).mp (by rw [q]; exact Int32.le_refl _)
    omega
  · intro q; rw [q]
def zRel (M : Nat) (T : zT) (D Q : Nat → Int32) : Prop := (∀ c, c < M → D c = zd (T.1 c)) ∧ ∀ i, i < T.2.2 → Q i = nI (T.2.1 i)
theorem zHead_stop (op : Nat → Nat → Bool) (nx : Nat → Nat → Nat) (T : zT) {h : Nat} (hm : (zHead op nx T h).2.2 ≤ h) : ∀ j, zHead op nx T (h + j) = zHead op nx T h
  | 0 => rfl
  | j + 1 => by
    have ih := zHead_stop op nx T hm j
    rw [show h + (j + 1) = (h + j) + 1 from rfl, zHead, ih, if_neg (by omega)]
section SPR
variable {now op : Nat → Int32} {N src : Nat}
theorem zI_room {T : zT} {h k : Nat} (H : zI (zr now) (zo now) (zN (zw now)) src T h k) : T.2.2 ≤ 210 ∧ (∀ i, i < T.2.2 → zr now (T.2.1 i) = true) ∧ (∀ c, T.1 c ≤ 210) ∧ (∀ r, r < 210 → T.1 r = 0 → T.2.2 < 210) := by
  obtain ⟨Ia, Ib, Ic, Id, Ie, If, Ig, Ih, Ii, Ij⟩ := H
  have hm : T.2.2 ≤ 210 := by rw [Ii]; exact zCt_le _ _
  refine ⟨hm, fun i hi => (Ic _ (Id i hi)).1, fun c => ?_, fun r hr h0 => ?_⟩
  · by_cases hc : T.1 c = 0
    · omega
    · obtain ⟨_, i, h1, h2⟩ := Ic c hc
      rw [← h2]
      have := Ij i h1
      omega
  · rw [Ii]
    exact zCt_lt hr (by show decide (0 < T.1 r) = false; rw [h0]; rfl)
theorem c_reach {T : zT} {D Q : Nat → Int32} (R : zRel 210 T D Q) {r v : Nat} (hr : r < 210) (he : T.1 r < 2 ^ 31) (hm : T.1 r = 0 → T.2.2 < 210) :
    t_X9_reach_0 (nI T.2.2) D Q (nI r) (zd v) = nI (zReach T r v).2.2 ∧ zRel 210 (zReach T r v) (t_X9_reach_1 (nI T.2.2) D Q (nI r) (zd v)) (t_X9_reach_2 (nI T.2.2) D Q (nI r) (zd v)) := by
  obtain ⟨r1, r2⟩ := R
  unfold t_X9_reach_0 t_X9_reach_1 t_X9_reach_2 zReach
  rw [at_lt D (by decide) hr, r1 r hr]
  by_cases h0 : T.1 r = 0
  · have hm := hm h0
    rw [if_pos ((zd_m1 he).mpr h0), if_pos ((zd_m1 he).mpr h0), if_pos ((zd_m1 he).mpr h0), if_pos h0, put_lt D _ (by decide) hr, put_lt Q _ (by decide) hm]
    refine ⟨nI_1 _, ?_, ?_⟩
    · intro c hc
      show upd D r (zd v) c = zd (zU T.1 r v c)
      by_cases q : c = r
      · rw [q, pk_us, zU_s]
      · rw [pk_un q, zU_n q, r1 c hc]
    · intro i hi
      replace hi : i < T.2.2 + 1 := hi
      show upd Q T.2.2 (nI r) i = nI (zU T.2.1 T.2.2 r i)
      by_cases q : i = T.2.2
      · rw [q, pk_us, zU_s]
      · rw [pk_un q, zU_n q, r2 i (by omega)]
  · rw [if_neg (fun e => h0 ((zd_m1 he).mp e)), if_neg (fun e => h0 ((zd_m1 he).mp e)), if_neg (fun e => h0 ((zd_m1 he).mp e)), if_neg h0]
    exact ⟨rfl, r1, r2⟩
theorem c_sp62 (hw : zwf now) (ho : ∀ c, c < 210 → op c = nI (zmf (zo now c))) (va2 : Int32) {P : Option (Int32 × (Nat → Int32) × (Nat → Int32)) → Prop} {k21 : Int32 → Int32 → (Nat → Int32) → (Nat → Int32) → Option (Int32 × (Nat → Int32) × (Nat → Int32))} {T : zT} {h : Nat}
    (H : zI (zr now) (zo now) (zN (zw now)) src T h 0) (hm : h < T.2.2) (hk : ∀ D Q, zRel 210 (zDirs (zo now) (zN (zw now)) (T.2.1 h) T 4) D Q → P (k21 (nI h + 1) (nI (zDirs (zo now) (zN (zw now)) (T.2.1 h) T 4).2.2) D Q)) :
    ∀ k, k ≤ 4 → ∀ F, 4 - k < F → ∀ D Q, zRel 210 (zDirs (zo now) (zN (zw now)) (T.2.1 h) T k) D Q →
      P (b_X9_spread_62 N (nI (zw now)) op va2 k21 F (nI h) (nI (T.2.1 h)) (zd (T.1 (T.2.1 h) + 1)) (nI k) (nI (zDirs (zo now) (zN (zw now)) (T.2.1 h) T k).2.2) D Q) := by
  obtain ⟨z1, z2, z3, z4⟩ := zI_room H
  have hG := zgr hw
  have hcr := z2 h hm
  have hc := zr_210 hw hcr
  refine dn 4 ?_ ?_
  · intro F hF D Q R
    obtain ⟨F, rfl⟩ : ∃ G, F = G + 1 := ⟨F - 1, by omega⟩
    rw [b_X9_spread_62, if_pos (show (4 : Int32) ≤ nI 4 from nI_le (a := 4) (by omega) (by omega))]
    exact hk D Q R
  · intro k hk4 ih F hF D Q R
    obtain ⟨F, rfl⟩ : ∃ G, F = G + 1 := ⟨F - 1, by omega⟩
    have Ik := zI_dirs hG H hm k (by omega)
    obtain ⟨y1, y2, y3, y4⟩ := zI_room Ik
    obtain ⟨m1, m2, m3⟩ := zDirs_m (zo now) (zN (zw now)) (T.2.1 h) T k
    have hE : T.1 (T.2.1 h) ≠ 0 := H.2.2.2.1 h hm
    rw [b_X9_spread_62, if_neg (show ¬ (4 : Int32) ≤ nI k from nI_ge (b := 4) hk4 (by decide)), c_isOpen ho hc hk4, nI_1]
    have e1 := ih F (by omega)
    rw [zDirs] at e1
    cases hop : zo now (T.2.1 h) k with
    | false =>
      rw [if_pos zi_f]
      rw [hop, if_neg (by decide)] at e1
      exact e1 D Q R
    | true =>
      rw [if_neg (by decide)]
      rw [hop, if_pos rfl] at e1
      obtain ⟨g1, g2, g3, g4⟩ := hG.1 _ _ hk4 hop
      rw [c_stride hw hk4 (zo_h.mp hop).1]
      have hr := zr_210 hw g2
      have := y3 (zN (zw now) (T.2.1 h) k)
      obtain ⟨q1, q2⟩ := c_reach R (v := T.1 (T.2.1 h) + 1) hr (by omega) (y4 _ hr)
      rw [m3 _ hE] at e1
      rw [q1]
      exact e1 _ _ q2
theorem c_sp21 (hw : zwf now) (ho : ∀ c, c < 210 → op c = nI (zmf (zo now c))) (hs : zr now src = true) (hN : 1000 ≤ N) (va2 : Int32) {P : Option (Int32 × (Nat → Int32) × (Nat → Int32)) → Prop}
    (hP : ∀ D Q, zRel 210 (zF (zo now) (zN (zw now)) src) D Q → P (some (nI (zF (zo now) (zN (zw now)) src).2.2, D, Q))) :
    ∀ h, h ≤ 210 → ∀ F, 210 - h < F → ∀ D Q, zRel 210 (zHead (zo now) (zN (zw now)) (z0 src) h) D Q → P (b_X9_spread_21 N (nI (zw now)) op va2 F (nI h) (nI (zHead (zo now) (zN (zw now)) (z0 src) h).2.2) D Q) := by
  have hG := zgr hw
  refine dn 210 ?_ ?_
  · intro F hF D Q R
    obtain ⟨F, rfl⟩ : ∃ G, F = G + 1 := ⟨F - 1, by omega⟩
    have hm := zHead_m hG hs 210
    rw [b_X9_spread_21, if_pos (nI_le hm (by decide))]
    have hP2 := hP D Q
    rw [zF_eq] at hP2
    exact hP2 R
  · intro h hh ih F hF D Q R
    obtain ⟨F, rfl⟩ : ∃ G, F = G + 1 := ⟨F - 1, by omega⟩
    have hm := zHead_m hG hs h
    rw [b_X9_spread_21]
    by_cases q : (zHead (zo now) (zN (zw now)) (z0 src) h).2.2 ≤ h
    · rw [if_pos (nI_le q (by omega))]
      have e := zHead_stop (zo now) (zN (zw now)) (z0 src) q (210 - h)
      rw [show h + (210 - h) = 210 by omega] at e
      have hP2 := hP D Q
      rw [zF_eq] at hP2
      rw [e] at hP2
      exact hP2 R
    · have Ih := zI_head hG hs h
      obtain ⟨z1, z2, z3, z4⟩ := zI_room Ih
      have hc := zr_210 hw (z2 h (by omega))
      rw [if_neg (nI_ge (by omega) (by omega)), if_neg (show ¬ (210 : Int32) ≤ nI h from nI_ge (b := 210) hh (by decide)), at_lt Q (by decide) hh, R.2 h (by omega), at_lt D (by decide) hc, R.1 _ hc, zd_s]
      have e2 : zHead (zo now) (zN (zw now)) (z0 src) (h + 1) = zDirs (zo now) (zN (zw now)) ((zHead (zo now) (zN (zw now)) (z0 src) h).2.1 h) (zHead (zo now) (zN (zw now)) (z0 src) h) 4 := by rw [zHead, if_pos (by omega)]
      refine c_sp62 hw ho va2 (h := h) Ih (by omega) ?_ 0 (by omega) N (by omega) D Q R
      intro D' Q' R'
      rw [nI_1, ← e2]
      exact ih F (by omega) D' Q' (by rw [e2]; exact R')
theorem c_spread (hw : zwf now) (ho : ∀ c, c < 210 → op c = nI (zmf (zo now c))) (hs : zr now src = true) (hN : 1000 ≤ N) (re : Int32) (D Q : Nat → Int32) :
    ∃ D' Q', f_X9_spread N re D Q (nI (zw now)) op (nI src) = some (nI (zF (zo now) (zN (zw now)) src).2.2, D', Q') ∧ zRel 210 (zF (zo now) (zN (zw now)) src) D' Q' := by
  have hs2 := zr_210 hw hs
  unfold f_X9_spread
  rw [bnd1_e (fill_4 (by decide) (by omega) D (-1))]
  have hat : t_X4_at 210 (ffill 210 (-1) D) (nI src) = -1 := by rw [at_lt _ (by decide) hs2, ffill_lt hs2]
  have er0 : t_X9_reach_0 0 (ffill 210 (-1) D) Q (nI src) 0 = nI 1 := by unfold t_X9_reach_0; rw [if_pos hat]; rfl
  have er1 : t_X9_reach_1 0 (ffill 210 (-1) D) Q (nI src) 0 = upd (ffill 210 (-1) D) src 0 := by unfold t_X9_reach_1; rw [if_pos hat, put_lt _ _ (by decide) hs2]
  have er2 : t_X9_reach_2 0 (ffill 210 (-1) D) Q (nI src) 0 = upd Q 0 (nI src) := by
    unfold t_X9_reach_2; rw [if_pos hat]
    exact put_lt (c := 0) Q _ (by decide) (by decide)
  rw [er0, er1, er2]
  refine c_sp21 (P := fun o => ∃ D' Q', o = some (nI (zF (zo now) (zN (zw now)) src).2.2, D', Q') ∧ zRel 210 (zF (zo now) (zN (zw now)) src) D' Q') hw ho hs hN (nI src) (fun D' Q' R => ⟨D', Q', rfl, R⟩) 0 (by omega) N (by omega) _ _ ?_
  refine ⟨fun c hc => ?_, fun i hi => ?_⟩
  · show upd (ffill 210 (-1) D) src 0 c = zd (zU (fun _ => 0) src 1 c)
    by_cases q : c = src
    · rw [q, pk_us, zU_s]; rfl
    · rw [pk_un q, zU_n q, ffill_lt hc]; rfl
  · have hi : i < 1 := hi
    have : i = 0 := by omega
    subst this
    show upd Q 0 (nI src) 0 = nI (zU (fun _ => 0) 0 src 0)
    rw [pk_us, zU_s]
-- the model
theorem m_l49 (hw : zwf now) (va1 : Int32) {P : Option ((Nat → Int32) × (Nat → Int32)) → Prop} {k41 : Int32 → Int32 → (Nat → Int32) → (Nat → Int32) → Option ((Nat → Int32) × (Nat → Int32))} {T : zT} {h : Nat}
    (H : zI (zr now) (zo now) (zN (zw now)) src T h 0) (hm : h < T.2.2) (hk : ∀ D Q, zRel (6 * zw now) (zDirs (zo now) (zN (zw now)) (T.2.1 h) T 4) D Q → P (k41 (nI (zDirs (zo now) (zN (zw now)) (T.2.1 h) T 4).2.2) (nI h + 1) D Q)) :
    ∀ k, k ≤ 4 → ∀ F, 4 - k < F → ∀ D Q, zRel (6 * zw now) (zDirs (zo now) (zN (zw now)) (T.2.1 h) T k) D Q →
      P (b_X11_lays_49 N now va1 k41 F (nI (zDirs (zo now) (zN (zw now)) (T.2.1 h) T k).2.2) (nI h) (nI k) D Q) := by
  obtain ⟨z1, z2, z3, z4⟩ := zI_room H
  have hG := zgr hw
  have hwl := zwf_w hw
  have hcr := z2 h hm
  have hc := zr_lt hcr
  refine dn 4 ?_ ?_
  · intro F hF D Q R
    obtain ⟨F, rfl⟩ : ∃ G, F = G + 1 := ⟨F - 1, by omega⟩
    rw [b_X11_lays_49, if_pos (show (4 : Int32) ≤ nI 4 from nI_le (a := 4) (by omega) (by omega))]
    exact hk D Q R
  · intro k hk4 ih F hF D Q R
    obtain ⟨F, rfl⟩ : ∃ G, F = G + 1 := ⟨F - 1, by omega⟩
    have Ik := zI_dirs hG H hm k (by omega)
    obtain ⟨y1, y2, y3, y4⟩ := zI_room Ik
    obtain ⟨m1, m2, m3⟩ := zDirs_m (zo now) (zN (zw now)) (T.2.1 h) T k
    have hE : T.1 (T.2.1 h) ≠ 0 := H.2.2.2.1 h hm
    have hQ : Q h = nI (T.2.1 h) := by rw [R.2 h (by omega), m2 h hm]
    rw [b_X11_lays_49, if_neg (show ¬ (4 : Int32) ≤ nI k from nI_ge (b := 4) hk4 (by decide)), nI_clamp (show h < 2 ^ 31 by omega), if_neg (zck (show h < 210 by omega) (by decide)), hQ, bnd1_e (m_isOpen hw hc hk4)]
    have e1 := ih F (by omega)
    rw [zDirs] at e1
    cases hop : zo now (T.2.1 h) k with
    | false =>
      rw [if_pos zi_f, nI_1]
      rw [hop, if_neg (by decide)] at e1
      exact e1 D Q R
    | true =>
      rw [hop, if_pos rfl] at e1
      obtain ⟨g1, g2, g3, g4⟩ := hG.1 _ _ hk4 hop
      have hbs : f_X11_beside now (nI (T.2.1 h)) (nI k) = some (nI (zN (zw now) (T.2.1 h) k)) := by rw [m_beside hw hc hk4, if_pos (zo_h.mp hop).1]
      have hr := zr_lt g2
      have hr210 := zr_210 hw g2
      have hEr := y3 (zN (zw now) (T.2.1 h) k)
      rw [if_neg (by decide), if_neg (zck (show h < 210 by omega) (by decide)), bnd1_e hbs, nI_clamp (show zN (zw now) (T.2.1 h) k < 2 ^ 31 by omega), if_neg (zck hr210 (by decide)), R.1 _ hr]
      rw [m3 _ hE] at e1
      unfold zReach at e1
      by_cases h0 : (zDirs (zo now) (zN (zw now)) (T.2.1 h) T k).1 (zN (zw now) (T.2.1 h) k) = 0
      · rw [if_pos h0] at e1
        have hm2 := y4 _ hr210 h0
        rw [if_neg (fun q => (zd_nn (by omega)).mp q h0), if_neg (zck (show h < 210 by omega) (by decide)), bnd1_e hbs, if_neg (zck (show h < 210 by omega) (by decide)), nI_clamp (show T.2.1 h < 2 ^ 31 by omega), if_neg (zck (zr_210 hw hcr) (by decide)), nI_clamp (show zN (zw now) (T.2.1 h) k < 2 ^ 31 by omega),
          if_neg (zck hr210 (by decide)), if_neg (zck (show h < 210 by omega) (by decide)), bnd1_e hbs, nI_clamp (show (zDirs (zo now) (zN (zw now)) (T.2.1 h) T k).2.2 < 2 ^ 31 by omega), if_neg (zck hm2 (by decide)), R.1 _ hc, zd_s, m3 _ hE, nI_1, nI_1]
        refine e1 _ _ ⟨fun c hc => ?_, fun i hi => ?_⟩
        · show upd D _ _ c = zd (zU _ _ _ c)
          by_cases q : c = zN (zw now) (T.2.1 h) k
          · rw [q, pk_us, zU_s]
          · rw [pk_un q, zU_n q, R.1 c hc]
        · replace hi : i < (zDirs (zo now) (zN (zw now)) (T.2.1 h) T k).2.2 + 1 := hi
          show upd Q _ _ i = nI (zU _ _ _ i)
          by_cases q : i = (zDirs (zo now) (zN (zw now)) (T.2.1 h) T k).2.2
          · rw [q, pk_us, zU_s]
          · rw [pk_un q, zU_n q, R.2 i (by omega)]
      · rw [if_neg h0] at e1
        rw [if_pos ((zd_nn (by omega)).mpr h0), nI_1]
        exact e1 D Q R
theorem m_l41 (hw : zwf now) (hs : zr now src = true) (hN : 1000 ≤ N) (va1 : Int32) {P : Option ((Nat → Int32) × (Nat → Int32)) → Prop}
    (hP : ∀ D Q, zRel (6 * zw now) (zF (zo now) (zN (zw now)) src) D Q → P (some (D, Q))) :
    ∀ h, h ≤ 210 → ∀ F, 210 - h < F → ∀ D Q, zRel (6 * zw now) (zHead (zo now) (zN (zw now)) (z0 src) h) D Q → P (b_X11_lays_41 N now va1 F (nI (zHead (zo now) (zN (zw now)) (z0 src) h).2.2) (nI h) D Q) := by
  have hG := zgr hw
  refine dn 210 ?_ ?_
  · intro F hF D Q R
    obtain ⟨F, rfl⟩ : ∃ G, F = G + 1 := ⟨F - 1, by omega⟩
    have hm := zHead_m hG hs 210
    rw [b_X11_lays_41, if_pos (nI_le hm (by decide))]
    have hP2 := hP D Q
    rw [zF_eq] at hP2
    exact hP2 R
  · intro h hh ih F hF D Q R
    obtain ⟨F, rfl⟩ : ∃ G, F = G + 1 := ⟨F - 1, by omega⟩
    have hm := zHead_m hG hs h
    rw [b_X11_lays_41]
    by_cases q : (zHead (zo now) (zN (zw now)) (z0 src) h).2.2 ≤ h
    · rw [if_pos (nI_le q (by omega))]
      have e := zHead_stop (zo now) (zN (zw now)) (z0 src) q (210 - h)
      rw [show h + (210 - h) = 210 by omega] at e
      have hP2 := hP D Q
      rw [zF_eq] at hP2
      rw [e] at hP2
      exact hP2 R
    · have Ih := zI_head hG hs h
      rw [if_neg (nI_ge (by omega) (by omega))]
      have e2 : zHead (zo now) (zN (zw now)) (z0 src) (h + 1) = zDirs (zo now) (zN (zw now)) ((zHead (zo now) (zN (zw now)) (z0 src) h).2.1 h) (zHead (zo now) (zN (zw now)) (z0 src) h) 4 := by rw [zHead, if_pos (by omega)]
      refine m_l49 hw va1 (h := h) Ih (by omega) ?_ 0 (by omega) N (by omega) D Q R
      intro D' Q' R'
      rw [nI_1, ← e2]
      exact ih F (by omega) D' Q' (by rw [e2]; exact R')
theorem m_lays (hw : zwf now) (hs : zr now src = true) (hN : 1000 ≤ N) (far ring : Nat → Int32) :
    ∃ D' Q', f_X11_lays N now far ring (nI src) = some (D', Q') ∧ zRel (6 * zw now) (zF (zo now) (zN (zw now)) src) D' Q' := by
  have hwl := zwf_w hw
  have hs2 := zr_210 hw hs
  have key : ∀ k, k ≤ 6 * zw now → ∀ F, 6 * zw now - k < F → ∀ D, (∀ c, c < k → D c = -1) → ∃ D' Q', b_X11_lays_2 N now (nI src) F (nI k) D ring = some (D', Q') ∧ zRel (6 * zw now) (zF (zo now) (zN (zw now)) src) D' Q' := by
    refine dn (6 * zw now) ?_ ?_
    · intro F hF D hD
      obtain ⟨F, rfl⟩ : ∃ G, F = G + 1 := ⟨F - 1, by omega⟩
      rw [b_X11_lays_2, m_cells hw, if_pos (nI_le (Nat.le_refl _) (by omega)), nI_clamp (show src < 2 ^ 31 by omega), if_neg (zck hs2 (by decide))]
      refine m_l41 (P := fun o => ∃ D' Q', o = some (D', Q') ∧ zRel (6 * zw now) (zF (zo now) (zN (zw now)) src) D' Q') hw hs hN (nI src) (fun D' Q' R => ⟨D', Q', rfl, R⟩) 0 (by omega) N (by omega) _ _ ?_
      refine ⟨fun c hc => ?_, fun i hi => ?_⟩
      · show upd D src 0 c = zd (zU (fun _ => 0) src 1 c)
        by_cases q : c = src
        · rw [q, pk_us, zU_s]; rfl
        · rw [pk_un q, zU_n q, hD c hc]; rfl
      · have hi : i < 1 := hi
        have : i = 0 := by omega
        subst this
        show upd ring 0 (nI src) 0 = nI (zU (fun _ => 0) 0 src 0)
        rw [pk_us, zU_s]
    · intro k hk ih F hF D hD
      obtain ⟨F, rfl⟩ : ∃ G, F = G + 1 := ⟨F - 1, by omega⟩
      rw [b_X11_lays_2, m_cells hw, if_neg (nI_ge hk (by omega)), nI_clamp (show k < 2 ^ 31 by omega), if_neg (zck (show k < 210 by omega) (by decide)), nI_1]
      refine ih F (by omega) _ (fun c hc => ?_)
      by_cases q : c = k
      · rw [q, pk_us]
      · rw [pk_un q, hD c (by omega)]
  exact key 0 (by omega) N (by omega) far (fun c hc => by omega)
end SPR

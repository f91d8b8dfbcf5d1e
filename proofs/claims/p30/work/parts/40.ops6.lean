-- the answers, sixth part: signs put and removed, undo, word, the beginning
section OP6
variable {now past op ow sg le tc text : Nat → Int32} {w cc rc dc lo sz st go hn saved tl length : Int32} {yl yo ys : Nat → Nat → Int32} {yz ya yg : Nat → Int32} {N : Nat}
theorem zsc_le (h : zwf now) : zsc now false ≤ 20 := by
  have e : zsc now false = zCt (fun c => decide (now (429 + c) ≠ 0)) 210 := zCt_congr 210 (fun c hc => by
    obtain ⟨v1, v2, v3⟩ := zsg_ok h hc
    show (decide (c < 210 ∧ zsg now c ≠ 0) && (!false || decide (3 ≤ zdg now c))) = decide (now (429 + c) ≠ 0)
    rw [v1]
    by_cases q : zsg now c = 0
    · rw [decide_eq_false (show ¬ (c < 210 ∧ zsg now c ≠ 0) by omega), q]; rfl
    · rw [decide_eq_true (show c < 210 ∧ zsg now c ≠ 0 from ⟨hc, q⟩), decide_eq_true (nI_ne0 (by omega) (by omega))]; rfl)
  rw [e]; exact h.2.2.2.2.2.2.2
/-- a sign is put, or removed (0) -/
theorem zsign (h : zwf now) {c v : Nat} (hr : zr now c = true) (hv : v ≤ 12) (hk : v ≠ 0 → zsg now c = 0 → zsc now false < 20) : zwf (upd now (429 + c) (nI v)) := by
  have c210 := zr_210 h hr
  have u : ∀ k, k ≠ 429 + c → upd now (429 + c) (nI v) k = now k := fun k hk => pk_un hk
  refine zwf_of h (fun k hk => u k (by omega)) (by rw [u 7 (by omega)]; exact h.2.2.1) (by rw [u 8 (by omega)]; exact h.2.2.2.1) (fun a ha => by rw [u _ (by omega)]; exact h.2.2.2.2.1 a ha) (fun a ha => by rw [u _ (by omega)]; exact h.2.2.2.2.2.1 a ha) ?_ ?_
  · intro a ha
    by_cases q : a = c
    · rw [q, pk_us]; exact ⟨v, hv, rfl, fun _ => hr⟩
    · rw [u _ (by omega)]; exact h.2.2.2.2.2.2.1 a ha
  · have h20 := h.2.2.2.2.2.2.2
    have e0 : zsc now false = zCt (fun c => decide (now (429 + c) ≠ 0)) 210 := zCt_congr 210 (fun c hc => by
      obtain ⟨v1, v2, v3⟩ := zsg_ok h hc
      show (decide (c < 210 ∧ zsg now c ≠ 0) && (!false || decide (3 ≤ zdg now c))) = decide (now (429 + c) ≠ 0)
      rw [v1]
      by_cases q : zsg now c = 0
      · rw [decide_eq_false (show ¬ (c < 210 ∧ zsg now c ≠ 0) by omega), q]; rfl
      · rw [decide_eq_true (show c < 210 ∧ zsg now c ≠ 0 from ⟨hc, q⟩), decide_eq_true (nI_ne0 (by omega) (by omega))]; rfl)
    obtain ⟨v1, v2, v3⟩ := zsg_ok h c210
    by_cases q0 : zsg now c = 0
    · by_cases qv : v = 0
      · refine Nat.le_trans (zS_le 210 (fun a ha => ?_)) h20
        show (decide (upd now (429 + c) (nI v) (429 + a) ≠ 0)).toNat ≤ (decide (now (429 + a) ≠ 0)).toNat
        by_cases q : a = c
        · rw [q, pk_us, qv]; exact Nat.zero_le _
        · rw [u _ (by omega)]; exact Nat.le_refl _
      · have hlt := hk qv q0
        rw [e0] at hlt
        have e1 : zCt (fun a => decide (upd now (429 + c) (nI v) (429 + a) ≠ 0)) 210 = zCt (fun c => decide (now (429 + c) ≠ 0)) 210 + 1 := by
          refine zS_up (r := c) c210 ?_ ?_
          · show (decide (upd now (429 + c) (nI v) (429 + c) ≠ 0)).toNat = (decide (now (429 + c) ≠ 0)).toNat + 1
            rw [pk_us, v1, q0, decide_eq_true (nI_ne0 (show 0 < v by omega) (by omega))]; rfl
          · intro a ha
            show (decide (upd now (429 + c) (nI v) (429 + a) ≠ 0)).toNat = (decide (now (429 + a) ≠ 0)).toNat
            rw [u _ (by omega)]
        rw [e1]; omega
    · refine Nat.le_trans (zS_le 210 (fun a ha => ?_)) h20
      show (decide (upd now (429 + c) (nI v) (429 + a) ≠ 0)).toNat ≤ (decide (now (429 + a) ≠ 0)).toNat
      by_cases q : a = c
      · rw [q, v1, decide_eq_true (nI_ne0 (show 0 < zsg now c by omega) (by omega))]; exact Bool.toNat_le _
      · rw [u _ (by omega)]; exact Nat.le_refl _
theorem zsign_cl (h : zwf now) (hc : zcl now sz st go le op sg) {c v : Nat} (hr : zr now c = true) : zcl (upd now (429 + c) (nI v)) sz st go le op (t_X4_put 210 sg (nI c) (nI v)) := by
  have c210 := zr_210 h hr
  have u : ∀ k, k ≠ 429 + c → upd now (429 + c) (nI v) k = now k := fun k hk => pk_un hk
  refine zcl_of h hc (fun k hk => u k (by omega)) (zo_lo h (fun k hk => u k (by omega))) (by rw [u 7 (by omega)]; exact hc.2.1) (by rw [u 8 (by omega)]; exact hc.2.2.1) (fun a ha => ?_)
  rw [put_lt sg _ (by decide) c210]
  by_cases q : a = c
  · rw [q, pk_us, pk_us]
  · rw [pk_un q, u _ (by omega)]; exact hc.2.2.2.2.2 a ha
theorem zsign_is {k : Nat} (hk : k < 2 ^ 31) (z : Int32) : t_X10_isSign (nI k) z = if k ≤ 2 then t_X11_in z 0 (if k = 2 then 3 else 0) else 0 := by
  unfold t_X10_isSign
  by_cases q2 : k = 2
  · rw [if_pos (show nI k = (2 : Int32) by rw [q2]; rfl), zdirI, if_pos (by omega), if_pos q2]
  · rw [if_neg (show ¬ nI _ = (2 : Int32) from fun e => q2 ((nI_eq (by omega) (by decide : (2 : Nat) < 2 ^ 31)).mp e)), if_neg (nI_pos hk), if_neg q2]
    by_cases q : k ≤ 2
    · rw [if_neg (show ¬ (2 : Int32) ≤ nI k from nI_ge (b := 2) (by omega) (by decide)), if_pos q]
      rcases zarg z with hz | ⟨j, hj, rfl⟩
      · rw [zin_neg hz, if_neg (fun e => by rw [e] at hz; exact absurd hz (by decide))]
      · rw [show t_X11_in (nI j) 0 (0 : Int32) = zi (decide (j ≤ 0)) from zin hj (by decide)]
        by_cases q0 : j = 0
        · rw [if_pos (by rw [q0]; rfl), decide_eq_true (by omega)]; rfl
        · rw [if_neg (nI_ne0 (by omega) hj), decide_eq_false (by omega)]; rfl
    · rw [if_pos (show (2 : Int32) ≤ nI k from nI_le (a := 2) (by omega) hk), if_neg q]
theorem o_sign (R : zRl w cc rc dc lo ow sz st go le op sg hn yl yo ys yz ya yg tl tc now past saved length text) (hN : 10000 ≤ N) (x y z : Int32) :
    ∃ r sg' hn' yl' yo' ys' yz' ya' yg' saved' now' past', f_X10_sign N ow sz st go le op sg hn yl yo ys yz ya yg x y z = some (r, sg', hn', yl', yo', ys', yz', ya', yg') ∧ f_X11_sign N saved now past x y z = some (r, saved', now', past') ∧
      zRl w cc rc dc lo ow sz st go le op sg' hn' yl' yo' ys' yz' ya' yg' tl tc now' past' saved' length text := by
  obtain ⟨h, hs, hc, ⟨hh, e1, e2, hi⟩, ht⟩ := id R
  unfold f_X10_sign f_X11_sign
  rcases zarg x with hx | ⟨c, hcc, rfl⟩
  · rw [c_holds_neg hx, if_pos rfl, bnd1_e (m_hasRoom_neg hx), if_pos rfl]
    exact ⟨-1, _, _, _, _, _, _, _, _, _, _, _, rfl, rfl, R⟩
  rw [c_holds h hs hcc, bnd1_e (m_hasRoom h hcc)]
  cases hr : zr now c with
  | false => exact ⟨-1, _, _, _, _, _, _, _, _, _, _, _, rfl, rfl, R⟩
  | true =>
    have hcl := zr_lt hr
    have c210 := zr_210 h hr
    rw [if_neg (show ¬ zi true = 0 by decide), if_neg (show ¬ zi true = 0 by decide)]
    rcases zarg y with hy | ⟨k, hk, rfl⟩
    · have : t_X10_isSign y z = 0 := by
        unfold t_X10_isSign
        rw [if_neg (fun e => by rw [e] at hy; exact absurd hy (by decide)), if_pos hy]
      rw [this, if_pos rfl, zin_neg hy, if_pos rfl]
      exact ⟨-1, _, _, _, _, _, _, _, _, _, _, _, rfl, rfl, R⟩
    rw [zsign_is hk, show t_X11_in (nI k) 0 (2 : Int32) = zi (decide (k ≤ 2)) from zin hk (by decide)]
    by_cases qk : k ≤ 2
    · rw [if_pos qk, decide_eq_true qk, if_neg (show ¬ zi true = 0 by decide)]
      have e29 : (if nI k = (2 : Int32) then b_X11_sign_29 N (nI c) (nI k) z z 0 3 saved now past else b_X11_sign_29 N (nI c) (nI k) z z 0 0 saved now past) = b_X11_sign_29 N (nI c) (nI k) z z 0 (if k = 2 then 3 else 0) saved now past := by
        by_cases q2 : k = 2
        · rw [if_pos (show nI k = (2 : Int32) by rw [q2]; rfl), if_pos q2]
        · rw [if_neg (show ¬ nI _ = (2 : Int32) from fun e => q2 ((nI_eq (by omega) (by decide : (2 : Nat) < 2 ^ 31)).mp e)), if_neg q2]
      rw [e29]
      unfold b_X11_sign_29
      rcases zarg z with hz | ⟨j, hj, rfl⟩
      · rw [zin_neg hz, if_pos rfl, if_pos rfl]
        exact ⟨-1, _, _, _, _, _, _, _, _, _, _, _, rfl, rfl, R⟩
      have hin : t_X11_in (nI j) 0 (if k = 2 then (3 : Int32) else 0) = zi (decide (j ≤ if k = 2 then 3 else 0)) := by
        by_cases q2 : k = 2
        · rw [if_pos q2, if_pos q2]; exact zin hj (by decide)
        · rw [if_neg q2, if_neg q2]; exact zin hj (by decide)
      rw [hin]
      by_cases qj : j ≤ if k = 2 then 3 else 0
      · have hj3 : j ≤ 3 := by
          by_cases q2 : k = 2
          · rw [if_pos q2] at qj; exact qj
          · rw [if_neg q2] at qj; omega
        obtain ⟨v1, v2, v3⟩ := zsg_ok h c210
        have ev : ((1 : Int32) + (4 : Int32) * nI k) + nI j = nI (1 + 4 * k + j) := by
          show nI 1 + nI 4 * nI k + nI j = _
          rw [pk_mul, nI_add, nI_add]
        have hcs := c_signCount h hc.2.2.2.2.1 hc.2.2.2.2.2 (show 1000 ≤ N by omega) false
        have hms := m_signs h (show 1000 ≤ N by omega) false
        have h20 := zsc_le h
        obtain ⟨h', yl', yo', ys', yz', ya', yg', k1, k2, k3⟩ := zkeep hN hi h hc
        -- where it's put
        have fin : (zsg now c = 0 → zsc now false < 20) → ∃ r sg' hn' yl' yo' ys' yz' ya' yg' saved' now' past', (bnd7 (f_X0_keep hn yl yo ys yz ya yg sz st go le op sg) fun o62_0 o62_1 o62_2 o62_3 o62_4 o62_5 o62_6 => bnd1 (f_X1_signCount N op (t_X1_putSign sg (nI c) (nI k) (nI j)) 0) fun r80 => some (r80, t_X1_putSign sg (nI c) (nI k) (nI j), o62_0, o62_1, o62_2, o62_3, o62_4, o62_5, o62_6)) = some (r, sg', hn', yl', yo', ys', yz', ya', yg') ∧
            b_X11_sign_63 N (nI c) (nI k) (nI j) saved now past = some (r, saved', now', past') ∧ zRl w cc rc dc lo ow sz st go le op sg' hn' yl' yo' ys' yz' ya' yg' tl tc now' past' saved' length text := by
          intro hlt
          have hw' := zsign h (v := 1 + 4 * k + j) hr (by omega) (fun _ => hlt)
          have hc' := zsign_cl h hc (v := 1 + 4 * k + j) hr
          have hms' := m_signs hw' (show 1000 ≤ N by omega) false
          have hcs' := c_signCount hw' hc'.2.2.2.2.1 hc'.2.2.2.2.2 (show 1000 ≤ N by omega) false
          have eput : t_X1_putSign sg (nI c) (nI k) (nI j) = t_X4_put 210 sg (nI c) (nI (1 + 4 * k + j)) := by unfold t_X1_putSign; rw [ev]
          unfold b_X11_sign_63
          rw [e1, e2, bnd7_e k1, bnd2_e k2, eput, show (429 : Int32) + nI c = nI (429 + c) from nI_add 429 c, nI_clamp (show 429 + c < 2 ^ 31 by omega), if_neg (zck (show 429 + c < 639 by omega) (by decide)), ev,
            bnd1_e (show f_X1_signCount N op (t_X4_put 210 sg (nI c) (nI (1 + 4 * k + j))) 0 = _ from hcs'), bnd1_e (show f_X11_signs N (upd now (429 + c) (nI (1 + 4 * k + j))) 0 = _ from hms')]
          exact ⟨_, _, _, _, _, _, _, _, _, _, _, _, rfl, rfl, hw', zsh_cong h (fun i hi => pk_un (by omega)) hs, hc', ⟨h', rfl, rfl, k3⟩, ht⟩
        rw [decide_eq_true qj, if_neg (show ¬ zi true = 0 by decide), if_neg (show ¬ zi true = 0 by decide), c_hasSign h hc.2.2.2.2.2 c210, show (429 : Int32) + nI c = nI (429 + c) from nI_add 429 c, nI_clamp (show 429 + c < 2 ^ 31 by omega), if_neg (zck (show 429 + c < 639 by omega) (by decide)), v1]
        by_cases q0 : zsg now c = 0
        · rw [decide_eq_false (show ¬ zsg now c ≠ 0 by omega), if_pos zi_f, if_pos (show nI (zsg now c) = 0 by rw [q0]; rfl), bnd1_e (show f_X1_signCount N op sg 0 = _ from hcs), bnd1_e (show f_X11_signs N now 0 = _ from hms)]
          by_cases q20 : zsc now false = 20
          · rw [if_neg (show ¬ nI (zsc now false) < (20 : Int32) from nI_nlt (b := 20) (by omega) (by omega)), if_pos (show nI (zsc now false) = (20 : Int32) by rw [q20]; rfl)]
            exact ⟨-3, _, _, _, _, _, _, _, _, _, _, _, rfl, rfl, R⟩
          · rw [if_pos (show nI (zsc now false) < (20 : Int32) from nI_lt (b := 20) (by omega) (by decide)), if_neg (show ¬ nI _ = (20 : Int32) from fun e => q20 ((nI_eq (by omega) (by decide : (20 : Nat) < 2 ^ 31)).mp e))]
            exact fin (fun _ => by omega)
        · rw [decide_eq_true (show zsg now c ≠ 0 from q0), if_neg (show ¬ zi true = 0 by decide), if_neg (nI_ne0 (by omega) (by omega))]
          exact fin (fun e => absurd e q0)
      · rw [decide_eq_false qj, if_pos zi_f, if_pos zi_f]
        exact ⟨-1, _, _, _, _, _, _, _, _, _, _, _, rfl, rfl, R⟩
    · rw [if_neg qk, if_pos rfl, decide_eq_false qk, if_pos zi_f]
      exact ⟨-1, _, _, _, _, _, _, _, _, _, _, _, rfl, rfl, R⟩
theorem o_unsign (R : zRl w cc rc dc lo ow sz st go le op sg hn yl yo ys yz ya yg tl tc now past saved length text) (hN : 10000 ≤ N) (x : Int32) :
    ∃ r sg' hn' yl' yo' ys' yz' ya' yg' saved' now' past', f_X10_unsign ow sz st go le op sg hn yl yo ys yz ya yg x = some (r, sg', hn', yl', yo', ys', yz', ya', yg') ∧ f_X11_unsign N saved now past x = some (r, saved', now', past') ∧
      zRl w cc rc dc lo ow sz st go le op sg' hn' yl' yo' ys' yz' ya' yg' tl tc now' past' saved' length text := by
  obtain ⟨h, hs, hc, ⟨hh, e1, e2, hi⟩, ht⟩ := id R
  unfold f_X10_unsign f_X11_unsign
  rcases zarg x with hx | ⟨c, hcc, rfl⟩
  · rw [c_holds_neg hx, if_pos rfl, bnd1_e (m_hasRoom_neg hx), if_pos rfl]
    exact ⟨-1, _, _, _, _, _, _, _, _, _, _, _, rfl, rfl, R⟩
  rw [c_holds h hs hcc, bnd1_e (m_hasRoom h hcc)]
  cases hr : zr now c with
  | false => exact ⟨-1, _, _, _, _, _, _, _, _, _, _, _, rfl, rfl, R⟩
  | true =>
    have c210 := zr_210 h hr
    obtain ⟨v1, v2, v3⟩ := zsg_ok h c210
    rw [if_neg (show ¬ zi true = 0 by decide), if_neg (show ¬ zi true = 0 by decide), c_hasSign h hc.2.2.2.2.2 c210, show (429 : Int32) + nI c = nI (429 + c) from nI_add 429 c, nI_clamp (show 429 + c < 2 ^ 31 by omega), if_neg (zck (show 429 + c < 639 by omega) (by decide)), v1]
    by_cases q0 : zsg now c = 0
    · rw [decide_eq_false (show ¬ zsg now c ≠ 0 by omega), if_pos zi_f, if_pos (show nI (zsg now c) = 0 by rw [q0]; rfl)]
      exact ⟨-4, _, _, _, _, _, _, _, _, _, _, _, rfl, rfl, R⟩
    · obtain ⟨h', yl', yo', ys', yz', ya', yg', k1, k2, k3⟩ := zkeep hN hi h hc
      have ek : t_X1_signKind sg (nI c) = nI ((zsg now c - 1) / 4) := by
        unfold t_X1_signKind
        rw [at_lt sg (by decide) c210, hc.2.2.2.2.2 c c210, v1, show nI (zsg now c) - (1 : Int32) = nI (zsg now c - 1) from pk_sub (b := 1) (by omega), pk_shrN (by omega) _ 2 (by decide)]
      rw [decide_eq_true (show zsg now c ≠ 0 from q0), if_neg (show ¬ zi true = 0 by decide), if_neg (nI_ne0 (by omega) (by omega)), e1, e2, bnd7_e k1, bnd2_e k2, if_neg (zck (show 429 + c < 639 by omega) (by decide)), if_neg (zck (show 429 + c < 639 by omega) (by decide)), ek, show nI (zsg now c) - (1 : Int32) = nI (zsg now c - 1) from pk_sub (b := 1) (by omega), zdiv4 (by omega)]
      exact ⟨_, _, _, _, _, _, _, _, _, _, _, _, rfl, rfl, zsign h (v := 0) hr (by omega) (fun e => absurd rfl e), zsh_cong h (fun i hi => pk_un (by omega)) hs, zsign_cl h hc (v := 0) hr, ⟨h', rfl, rfl, k3⟩, ht⟩
-- undo
theorem o_undo (R : zRl w cc rc dc lo ow sz st go le op sg hn yl yo ys yz ya yg tl tc now past saved length text) (hN : 10000 ≤ N) :
    ∃ r w' cc' rc' dc' lo' ow' sz' st' go' le' op' sg' hn' saved' now', f_X10_undo N w cc rc dc lo ow sz st go le op sg hn yl yo ys yz ya yg = some (r, w', cc', rc', dc', lo', ow', sz', st', go', le', op', sg', hn') ∧ f_X11_undo N saved now past = some (r, saved', now') ∧
      zRl w' cc' rc' dc' lo' ow' sz' st' go' le' op' sg' hn' yl yo ys yz ya yg tl tc now' past saved' length text := by
  obtain ⟨h, hs, hc, ⟨hh, e1, e2, h5, Hj⟩, ht⟩ := id R
  by_cases q : hh = 0
  · unfold f_X10_undo f_X11_undo
    rw [if_pos (show hn = 0 by rw [e1, q]; rfl), if_pos (show saved = 0 by rw [e2, q]; rfl)]
    exact ⟨-2, _, _, _, _, _, _, _, _, _, _, _, _, _, _, _, rfl, rfl, R⟩
  · obtain ⟨now', k1, k2⟩ := m_undo (now := now) hN (show 1 ≤ hh by omega) h5 past
    obtain ⟨w1, w2⟩ := Hj (hh - 1) (by omega)
    have hw' := (zcong w1 k2).1
    have hc' : zcl now' (yz (hh - 1)) (ya (hh - 1)) (yg (hh - 1)) (kcp 6 le (yl (hh - 1))) (kcp 210 op (yo (hh - 1))) (kcp 210 sg (ys (hh - 1))) :=
      zcl_cp hw' (zcl_cong w1 k2 w2) (fun k hk => zkcp (by decide) _ _ hk) (fun k hk => zkcp (by decide) _ _ hk) (fun k hk => zkcp (by decide) _ _ hk)
    obtain ⟨w', cc', rc', dc', lo', ow', b1, b2⟩ := c_build hw' (show 1000 ≤ N by omega) hc'.1 hc'.2.2.2.1 w cc rc dc lo ow
    have er : f_X0_restore (nI hh) yl yo ys yz ya yg sz st go le op sg = some (nI (hh - 1), yz (hh - 1), ya (hh - 1), yg (hh - 1), kcp 6 le (yl (hh - 1)), kcp 210 op (yo (hh - 1)), kcp 210 sg (ys (hh - 1))) := by
      unfold f_X0_restore
      rw [if_neg (by rintro (e | e); exact nI_nle (by omega) (by omega) e; exact nI_nlt (a := 5) h5 (by decide) e), show nI hh - (1 : Int32) = nI (hh - 1) from pk_sub (b := 1) (by omega), nI_clamp (show hh - 1 < 2 ^ 31 by omega)]
    unfold f_X10_undo
    rw [e1, e2, if_neg (nI_ne0 (by omega) (by omega)), bnd7_e er, bnd6_e b1, k1]
    exact ⟨_, _, _, _, _, _, _, _, _, _, _, _, _, _, _, _, rfl, rfl, hw', b2, hc', ⟨hh - 1, rfl, rfl, by omega, fun j hj => Hj j (by omega)⟩, ht⟩
-- a new word, and the beginning
theorem zbeg {now2 : Nat → Int32} (h : znn now2) (hl : ∀ k, k < zn now2 → ∃ q, q < 128 ∧ now2 (1 + k) = nI q ∧ ¬ t_X11_shape (now2 (1 + k)) ≤ 0) (hN : 1000 ≤ N) {size : Int32} {le2 : Nat → Int32} (hsz : size = now2 0) (hle : ∀ k, k < zn now2 → le2 k = now2 (1 + k)) (w cc rc dc lo : Int32) (ow : Nat → Int32) (st go : Int32) (op sg : Nat → Int32) :
    ∃ now3 w' cc' rc' dc' lo' ow' st' go' op' sg', f_X11_begins N now2 = some now3 ∧ f_X1_beginAnew N w cc rc dc lo ow size st go le2 op sg = some (w', cc', rc', dc', lo', ow', st', go', op', sg') ∧ zwf now3 ∧ zsh now3 w' cc' rc' dc' lo' ow' ∧ zcl now3 size st' go' le2 op' sg' := by
  obtain ⟨k, k1, k2, k3⟩ := m_begins h hN
  obtain ⟨h3, en, ew, er, e7⟩ := zbg_wf h hl k1
  obtain ⟨w', cc', rc', dc', lo', ow', b1, b2⟩ := c_build h3 hN (sz := size) (le := le2) (by rw [e7 0 (by omega)]; exact hsz) (fun j hj => by
    rw [en] at hj
    have := h.2.1
    rw [e7 (1 + j) (by omega)]; exact hle j hj) w cc rc dc lo ow
  refine ⟨zbg now2 k, w', cc', rc', dc', lo', ow', t_X5_baseCell w', lo', ffill 210 0 op, ffill 210 0 sg, k3, ?_, h3, b2, ?_⟩
  · unfold f_X1_beginAnew
    rw [bnd6_e b1, bnd1_e (fill_4 (by decide) (by omega) op 0), bnd1_e (fill_4 (by decide) (by omega) sg 0)]
  · have z : ∀ j, 9 ≤ j → j < 639 → zbg now2 k j = 0 := fun j h1 h2 => by
      unfold zbg
      rw [if_neg (by omega), if_neg (by omega), if_neg (by omega), if_pos h2]
    refine ⟨by rw [e7 0 (by omega)]; exact hsz, ?_, ?_, fun j hj => ?_, fun c hc => ?_, fun c hc => ?_⟩
    · rw [b2.1, ew]
      show nI 5 * nI (zw now2) = nI (5 * zw now2)
      exact pk_mul 5 _
    · obtain ⟨j, j1, j2, j3⟩ := b2.2.2.2.2.1
      rw [er] at j2 j3
      have : j = k := by
        rcases Nat.lt_trichotomy j k with q | q | q
        · have := k2 j q; rw [j2] at this; cases this
        · exact q
        · have := j3 k q; rw [k1] at this; cases this
      rw [j1, this]; rfl
    · rw [en] at hj
      have := h.2.1
      rw [e7 (1 + j) (by omega)]; exact hle j hj
    · have no : ∀ d, d < 4 → zo (zbg now2 k) c d = false := by
        intro d hd
        cases ho : zo (zbg now2 k) c d with
        | false => rfl
        | true =>
          obtain ⟨o1, o2⟩ := zo_h.mp ho
          obtain ⟨l1, l2⟩ := za_lo h3 hd o1
          rw [z _ l1 (by omega)] at o2; exact absurd o2 (by decide)
      rw [ffill_lt hc]
      show 0 = nI (zm4 (zo (zbg now2 k) c 0) (zo (zbg now2 k) c 1) (zo (zbg now2 k) c 2) (zo (zbg now2 k) c 3))
      rw [no 0 (by decide), no 1 (by decide), no 2 (by decide), no 3 (by decide)]; rfl
    · rw [ffill_lt hc, z _ (by omega) (by omega)]
theorem zletter {q : Nat} (h : q < 128) : (0 ≤ ixL q ↔ ¬ t_X11_shape (nI q) ≤ 0) := zix_shape ⟨q, h⟩
/-- both test the text -/
theorem ztest {t : Nat} (hx : zTx t tc text) (h6 : t ≤ 6) (hN : 1000 ≤ N) (cs : Int32) (cn cp : Nat → Int32) : ∃ b : Bool, b_X7_isWord_21 N (nI t) tc N 0 = some (zi b) ∧ b_X11_word_13 N (nI t) text N 1 0 cs cn cp = b_X11_word_49 N (nI t) text (zi b) cs cn cp ∧ (b = true → ∀ j, j < t → ¬ t_X11_shape (text j) ≤ 0) := by
  obtain ⟨ht, hx⟩ := hx
  have key : ∀ k, k ≤ t → ∀ F G, t - k < F → t - k + 1 < G → ∃ b : Bool, b_X7_isWord_21 N (nI t) tc F (nI k) = some (zi b) ∧ b_X11_word_13 N (nI t) text G 1 (nI k) cs cn cp = b_X11_word_49 N (nI t) text (zi b) cs cn cp ∧ (b = true → ∀ j, k ≤ j → j < t → ¬ t_X11_shape (text j) ≤ 0) := by
    refine dn t ?_ ?_
    · intro F G hF hG
      obtain ⟨F, rfl⟩ : ∃ x, F = x + 1 := ⟨F - 1, by omega⟩
      obtain ⟨G, rfl⟩ : ∃ x, G = x + 1 := ⟨G - 1, by omega⟩
      rw [b_X7_isWord_21, if_pos (nI_le (Nat.le_refl _) (by omega)), b_X11_word_13, if_pos (nI_le (Nat.le_refl _) (by omega))]
      exact ⟨true, rfl, rfl, fun _ j h1 h2 => by omega⟩
    · intro k hk ih F G hF hG
      obtain ⟨F, rfl⟩ : ∃ x, F = x + 1 := ⟨F - 1, by omega⟩
      obtain ⟨G, rfl⟩ : ∃ x, G = x + 1 := ⟨G - 1, by omega⟩
      obtain ⟨q, q1, q2, q3, q4⟩ := hx k hk
      have hle := zletter (q := q) (by omega)
      rw [b_X7_isWord_21, if_neg (nI_ge hk (by omega)), at_lt tc (by decide) (show k < 200 by omega), q3, zchar (by omega), bnd1_e (index_s0 (by omega) (by omega)), nI_1]
      rw [b_X11_word_13, if_neg (nI_ge hk (by omega)), if_neg (show ¬ (1 : Int32) = 0 by decide), nI_clamp (show k < 2 ^ 31 by omega), if_neg (zck (show k < 200 by omega) (by decide)), q4, nI_1]
      by_cases q5 : t_X11_shape (nI q) ≤ 0
      · obtain ⟨G, rfl⟩ : ∃ x, G = x + 1 := ⟨G - 1, by omega⟩
        rw [if_neg (fun e => (hle.mp e) q5), if_pos q5, b_X11_word_13]
        refine ⟨false, rfl, ?_, fun e => by cases e⟩
        by_cases q6 : nI t ≤ nI (k + 1)
        · rw [if_pos q6]; rfl
        · rw [if_neg q6, if_pos rfl]; rfl
      · rw [if_pos (hle.mpr q5), if_neg q5]
        obtain ⟨b, b1, b2, b3⟩ := ih F G (by omega) (by omega)
        refine ⟨b, b1, b2, fun e j h1 h2 => ?_⟩
        by_cases e2 : j = k
        · rw [e2, q4]; exact q5
        · exact b3 e j (by omega) h2
  obtain ⟨b, b1, b2, b3⟩ := key 0 (Nat.zero_le _) N N (by omega) (by omega)
  exact ⟨b, b1, b2, fun e j hj => b3 e j (Nat.zero_le _) hj⟩
/-- the model's row with a new word -/
def zwd (now text : Nat → Int32) (t k : Nat) : Nat → Int32 := fun j => if j = 0 then nI t else if j ≤ k then (if j - 1 < t then text (j - 1) else 0) else now j
theorem m_w72 {t : Nat} (ht : t ≤ 6) (hN : 1000 ≤ N) (cs : Int32) (cp now3 : Nat → Int32) {R : Int32} (h1 : f_X11_begins N (zwd now text t 6) = some now3) (h2 : f_X11_rooms N now3 = some R) : b_X11_word_72 N (nI t) text N 0 cs (upd now (0 : Int32).toNatClampNeg (nI t)) cp = some (R, cs, now3, cp) := by
  have key : ∀ k, k ≤ 6 → ∀ F, 6 - k < F → b_X11_word_72 N (nI t) text F (nI k) cs (zwd now text t k) cp = some (R, cs, now3, cp) := by
    refine dn 6 ?_ ?_
    · intro F hF
      obtain ⟨F, rfl⟩ : ∃ G, F = G + 1 := ⟨F - 1, by omega⟩
      rw [b_X11_word_72, if_pos (show (6 : Int32) ≤ nI 6 by decide), bnd1_e h1, bnd1_e h2]
    · intro k hk ih F hF
      obtain ⟨F, rfl⟩ : ∃ G, F = G + 1 := ⟨F - 1, by omega⟩
      have hst : ∀ x, x = (if k < t then text k else 0) → upd (zwd now text t k) (1 + k) x = zwd now text t (k + 1) := by
        intro x hx
        funext j
        unfold zwd
        by_cases q : j = 1 + k
        · rw [q, pk_us, if_neg (by omega), if_pos (by omega), hx, show 1 + k - 1 = k by omega]
        · rw [pk_un q]
          by_cases q0 : j = 0
          · rw [if_pos q0, if_pos q0]
          · rw [if_neg q0, if_neg q0]
            by_cases q1 : j ≤ k
            · rw [if_pos q1, if_pos (show j ≤ k + 1 by omega)]
            · rw [if_neg q1, if_neg (by omega)]
      rw [b_X11_word_72, if_neg (show ¬ (6 : Int32) ≤ nI k from nI_ge (b := 6) hk (by decide)), show (1 : Int32) + nI k = nI (1 + k) from nI_add 1 k, nI_1]
      by_cases q : t ≤ k
      · rw [if_pos (nI_le q (by omega)), nI_clamp (show 1 + k < 2 ^ 31 by omega), if_neg (zck (show 1 + k < 639 by omega) (by decide)), hst 0 (by rw [if_neg (by omega)])]
        exact ih F (by omega)
      · rw [if_neg (nI_ge (by omega) (by omega)), nI_clamp (show k < 2 ^ 31 by omega), if_neg (zck (show k < 200 by omega) (by decide)), nI_clamp (show 1 + k < 2 ^ 31 by omega), if_neg (zck (show 1 + k < 639 by omega) (by decide)), hst (text k) (by rw [if_pos (by omega)])]
        exact ih F (by omega)
  have e0 : upd now (0 : Int32).toNatClampNeg (nI t) = zwd now text t 0 := by
    funext j
    show upd now 0 (nI t) j = _
    unfold zwd
    by_cases q : j = 0
    · rw [q, pk_us]; rfl
    · rw [pk_un q, if_neg q, if_neg (by omega)]
  rw [e0]
  exact key 0 (Nat.zero_le _) N (by omega)
theorem ztake {le tc : Nat → Int32} {j : Nat} (hj : j < 6) : t_X4_take 6 200 le tc j = tc j := by
  unfold t_X4_take
  rw [kmin (by decide) (by decide), show (0 : Int32).toNatClampNeg = 0 from rfl, pk_cpy_in (Nat.zero_le _) (by omega)]
  exact congrArg tc (by omega)
theorem o_word (R : zRl w cc rc dc lo ow sz st go le op sg hn yl yo ys yz ya yg tl tc now past saved length text) (hN : 10000 ≤ N) :
    ∃ r w' cc' rc' dc' lo' ow' sz' st' go' le' op' sg' hn' yl' yo' ys' yz' ya' yg' saved' now' past', f_X10_word N w cc rc dc lo ow sz st go le op sg hn yl yo ys yz ya yg tl tc = some (r, w', cc', rc', dc', lo', ow', sz', st', go', le', op', sg', hn', yl', yo', ys', yz', ya', yg') ∧
      f_X11_word N saved length now past text = some (r, saved', now', past') ∧ zRl w' cc' rc' dc' lo' ow' sz' st' go' le' op' sg' hn' yl' yo' ys' yz' ya' yg' tl tc now' past' saved' length text := by
  obtain ⟨h, hs, hc, ⟨hh, e1, e2, hi⟩, t, e3, e4, hx⟩ := id R
  have hno : ∀ (b : Prop), f_X7_isWord N tl tc = some 0 → f_X11_word N saved length now past text = b_X11_word_49 N length text 0 saved now past → ∃ r w' cc' rc' dc' lo' ow' sz' st' go' le' op' sg' hn' yl' yo' ys' yz' ya' yg' saved' now' past', f_X10_word N w cc rc dc lo ow sz st go le op sg hn yl yo ys yz ya yg tl tc = some (r, w', cc', rc', dc', lo', ow', sz', st', go', le', op', sg', hn', yl', yo', ys', yz', ya', yg') ∧
      f_X11_word N saved length now past text = some (r, saved', now', past') ∧ zRl w' cc' rc' dc' lo' ow' sz' st' go' le' op' sg' hn' yl' yo' ys' yz' ya' yg' tl tc now' past' saved' length text := by
    intro _ f1 f2
    unfold f_X10_word
    rw [bnd1_e f1, if_pos rfl, f2]
    unfold b_X11_word_49
    rw [if_pos rfl]
    exact ⟨-2, _, _, _, _, _, _, _, _, _, _, _, _, _, _, _, _, _, _, _, _, _, _, rfl, rfl, R⟩
  by_cases q : 1 ≤ t ∧ t ≤ 6
  · obtain ⟨q1, q6⟩ := q
    obtain ⟨b, b1, b2, b3⟩ := ztest hx q6 (show 1000 ≤ N by omega) saved now past
    have f1 : f_X7_isWord N tl tc = some (zi b) := by
      unfold f_X7_isWord
      rw [e3, if_neg (show ¬ nI t < (1 : Int32) from nI_nlt (b := 1) q1 (by omega)), if_pos (show nI t ≤ (6 : Int32) from nI_le (b := 6) q6 (by decide))]
      exact b1
    have f2 : f_X11_word N saved length now past text = b_X11_word_49 N length text (zi b) saved now past := by
      unfold f_X11_word
      rw [e4]
      have : t_X11_in (nI t) 1 6 = 1 := by
        unfold t_X11_in
        rw [if_neg (show ¬ nI t < (1 : Int32) from nI_nlt (b := 1) q1 (by omega)), if_neg (show ¬ (6 : Int32) < nI t from nI_nlt (a := 6) q6 (by decide))]
      rw [this]
      exact b2
    cases b with
    | false => exact hno True f1 f2
    | true =>
      have hgood := b3 rfl
      obtain ⟨h', yl', yo', ys', yz', ya', yg', k1, k2, k3⟩ := zkeep hN hi h hc
      have hzn : zn (zwd now text t 6) = t := by
        unfold zn zwd
        rw [if_pos rfl, nI_clamp (by omega)]
      have hnn : znn (zwd now text t 6) := by
        unfold znn
        rw [hzn]; exact ⟨q1, q6, rfl⟩
      have hw1 : ∀ k, k < t → zwd now text t 6 (1 + k) = text k := by
        intro k hk
        unfold zwd
        rw [if_neg (by omega), if_pos (by omega), show 1 + k - 1 = k by omega, if_pos hk]
      obtain ⟨now3, w', cc', rc', dc', lo', ow', st', go', op', sg', g1, g2, g3, g4, g5⟩ := zbeg hnn (fun k hk => by
          rw [hzn] at hk
          obtain ⟨q, a1, a2, a3, a4⟩ := hx.2 k hk
          exact ⟨q, by omega, by rw [hw1 k hk, a4], by rw [hw1 k hk]; exact hgood k hk⟩) (show 1000 ≤ N by omega) (size := nI t) (le2 := t_X4_take 6 200 le tc) rfl (fun k hk => by
          rw [hzn] at hk
          obtain ⟨q, a1, a2, a3, a4⟩ := hx.2 k hk
          rw [ztake (by omega), hw1 k hk, a3, a4]) w cc rc dc lo ow st go op sg
      unfold f_X10_word
      rw [bnd1_e f1, if_neg (show ¬ zi true = 0 by decide), e1, bnd7_e k1, e3, bnd10_e g2, f2]
      unfold b_X11_word_49
      rw [if_neg (show ¬ zi true = 0 by decide), e2, bnd2_e k2, e4, m_w72 q6 (show 1000 ≤ N by omega) (nI h') (zrec hh now past) now3 g1 (m_rooms g3 (show 1000 ≤ N by omega)), g4.2.2.1]
      exact ⟨_, _, _, _, _, _, _, _, _, _, _, _, _, _, _, _, _, _, _, _, _, _, _, rfl, rfl, g3, by rw [← g4.2.2.1]; exact g4, g5, ⟨h', rfl, rfl, k3⟩, t, rfl, rfl, hx⟩
  · refine hno True ?_ ?_
    · unfold f_X7_isWord
      rw [e3]
      have := hx.1
      by_cases q1 : t = 0
      · rw [if_pos (show nI t < (1 : Int32) by rw [q1]; decide)]
      · rw [if_neg (show ¬ nI t < (1 : Int32) from nI_nlt (b := 1) (by omega) (by omega)), if_neg (show ¬ nI t ≤ (6 : Int32) from nI_ge (a := 6) (by omega) (by omega))]
    · unfold f_X11_word
      rw [e4]
      have := hx.1
      have hin : t_X11_in (nI t) 1 6 = 0 := by
        unfold t_X11_in
        by_cases q1 : t = 0
        · rw [if_pos (show nI t < (1 : Int32) by rw [q1]; decide)]
        · rw [if_neg (show ¬ nI t < (1 : Int32) from nI_nlt (b := 1) (by omega) (by omega)), if_pos (show (6 : Int32) < nI t from nI_lt (a := 6) (by omega) (by omega))]
      rw [hin]
      obtain ⟨M, rfl⟩ : ∃ M, N = M + 1 := ⟨N - 1, by omega⟩
      rw [b_X11_word_13]
      by_cases q2 : nI t ≤ 0
      · rw [if_pos q2]
      · rw [if_neg q2, if_pos rfl]
/-- the beginning: both constructors -/
theorem zstart (hN : 10000 ≤ N) :
    ∃ now3 w' cc' rc' dc' lo' ow' st' go' op' sg', f_X11_begins N (upd (upd (upd (fun _ => 0) (0 : Int32).toNatClampNeg (2 : Int32)) (1 : Int32).toNatClampNeg (72 : Int32)) (2 : Int32).toNatClampNeg (73 : Int32)) = some now3 ∧
      f_X1_beginAnew N 0 0 0 0 0 (fun _ => 0) 2 0 0 (t_X4_put 6 (t_X4_put 6 (fun _ => 0) 0 72) 1 73) (fun _ => 0) (fun _ => 0) = some (w', cc', rc', dc', lo', ow', st', go', op', sg') ∧
      zRl w' cc' rc' dc' lo' ow' 2 st' go' (t_X4_put 6 (t_X4_put 6 (fun _ => 0) 0 72) 1 73) op' sg' 0 (fun _ _ => 0) (fun _ _ => 0) (fun _ _ => 0) (fun _ => 0) (fun _ => 0) (fun _ => 0) 0 (fun _ => 0) now3 (fun _ => 0) 0 0 (fun _ => 0) := by
  have hz2 : zn (upd (upd (upd (fun _ => 0) (0 : Int32).toNatClampNeg (2 : Int32)) (1 : Int32).toNatClampNeg (72 : Int32)) (2 : Int32).toNatClampNeg (73 : Int32)) = 2 := rfl
  obtain ⟨now3, w', cc', rc', dc', lo', ow', st', go', op', sg', g1, g2, g3, g4, g5⟩ := zbeg (now2 := upd (upd (upd (fun _ => 0) (0 : Int32).toNatClampNeg (2 : Int32)) (1 : Int32).toNatClampNeg (72 : Int32)) (2 : Int32).toNatClampNeg (73 : Int32)) (N := N) (by
      unfold znn
      rw [hz2]; exact ⟨by omega, by omega, rfl⟩) (by
      intro k hk
      rw [hz2] at hk
      rcases (show k = 0 ∨ k = 1 by omega) with rfl | rfl
      · exact ⟨72, by omega, rfl, by decide +kernel⟩
      · exact ⟨73, by omega, rfl, by decide +kernel⟩) (by omega) (size := 2) (le2 := t_X4_put 6 (t_X4_put 6 (fun _ => 0) 0 72) 1 73) rfl (by
      intro k hk
      rw [hz2] at hk
      have e1 : t_X4_put 6 (t_X4_put 6 (fun _ => 0) 0 72) 1 73 = upd (upd (fun _ => 0) 0 72) 1 73 := by
        rw [show t_X4_put 6 (fun _ => 0) (0 : Int32) (72 : Int32) = upd (fun _ => 0) 0 72 from put_lt (c := 0) _ _ (by decide) (by decide)]
        exact put_lt (c := 1) _ _ (by decide) (by decide)
      rw [e1]
      rcases (show k = 0 ∨ k = 1 by omega) with rfl | rfl
      · rfl
      · rfl) 0 0 0 0 0 (fun _ => 0) 0 0 (fun _ => 0) (fun _ => 0)
  exact ⟨now3, w', cc', rc', dc', lo', ow', st', go', op', sg', g1, g2, g3, g4, g5, ⟨0, rfl, rfl, Nat.zero_le _, fun j hj => absurd hj (Nat.not_lt_zero j)⟩, 0, rfl, rfl, Nat.zero_le _, fun j hj => absurd hj (Nat.not_lt_zero j)⟩
end OP6

-- the history
section HST
variable {now : Nat → Int32} {N : Nat}
theorem zcong {a b : Nat → Int32} (h : zwf a) (e : ∀ k, k < 639 → b k = a k) : zwf b ∧ zn b = zn a ∧ zw b = zw a ∧ zr b = zr a ∧ zh b = zh a ∧ ∀ c d, d < 4 → zo b c d = zo a c d := by
  have e7 : ∀ k, k < 7 → b k = a k := fun k hk => e k (by omega)
  obtain ⟨e1, e2, e3, e4, e5⟩ := zsame h e7
  refine ⟨?_, e1, e2, e3, e4, fun c d hd => ?_⟩
  · refine zwf_of h e7 ?_ ?_ ?_ ?_ ?_ ?_
    · rw [e 7 (by omega)]; exact h.2.2.1
    · rw [e 8 (by omega)]; exact h.2.2.2.1
    · intro c hc; rw [e _ (by omega)]; exact h.2.2.2.2.1 c hc
    · intro c hc; rw [e _ (by omega)]; exact h.2.2.2.2.2.1 c hc
    · intro c hc; rw [e _ (by omega)]; exact h.2.2.2.2.2.2.1 c hc
    · rw [zCt_congr (q := fun c => decide (a (429 + c) ≠ 0)) 210 (fun c hc => by rw [e _ (by omega)])]
      exact h.2.2.2.2.2.2.2
  · unfold zo
    rw [e4, e5]
    cases hh : zh a c d with
    | false => rfl
    | true => rw [Bool.true_and, Bool.true_and, e _ (by have := (za_lo h hd hh).2; omega)]
theorem zcl_cong {a b : Nat → Int32} (h : zwf a) (e : ∀ k, k < 639 → b k = a k) {sz st go : Int32} {le op sg : Nat → Int32} (H : zcl a sz st go le op sg) : zcl b sz st go le op sg := by
  obtain ⟨-, e1, e2, e3, e4, e5⟩ := zcong h e
  obtain ⟨h1, h2, h3, h4, h5, h6⟩ := H
  have hn := zwf_n h
  refine ⟨by rw [e 0 (by omega)]; exact h1, by rw [e 7 (by omega)]; exact h2, by rw [e 8 (by omega)]; exact h3, fun k hk => ?_, fun c hc => ?_, fun c hc => ?_⟩
  · rw [e1] at hk
    rw [e _ (by omega)]; exact h4 k hk
  · rw [h5 c hc]
    exact congrArg nI (zmf_congr (fun d hd => (e5 c d hd).symm))
  · rw [e _ (by omega)]; exact h6 c hc
theorem zsh_cong {a b : Nat → Int32} (h : zwf a) (e : ∀ k, k < 7 → b k = a k) {w cc rc dc lo : Int32} {ow : Nat → Int32} (H : zsh a w cc rc dc lo ow) : zsh b w cc rc dc lo ow := by
  obtain ⟨e1, e2, e3, e4, e5⟩ := zsame h e
  unfold zsh
  rw [e2, e3, e4]; exact H
/-- the state of the class is told by its contents below their lengths -/
theorem zcl_cp {sz st go : Int32} {le op sg le' op' sg' : Nat → Int32} (h : zwf now) (H : zcl now sz st go le op sg) (e1 : ∀ k, k < 6 → le' k = le k) (e2 : ∀ c, c < 210 → op' c = op c) (e3 : ∀ c, c < 210 → sg' c = sg c) : zcl now sz st go le' op' sg' := by
  obtain ⟨h1, h2, h3, h4, h5, h6⟩ := H
  have hn := zwf_n h
  exact ⟨h1, h2, h3, fun k hk => by rw [e1 k (by omega)]; exact h4 k hk, fun c hc => by rw [e2 c hc]; exact h5 c hc, fun c hc => by rw [e3 c hc]; exact h6 c hc⟩
/-- the slot j of the model's past -/
def zpa (past : Nat → Int32) (j : Nat) : Nat → Int32 := fun k => past (639 * j + k)
def zhi (past : Nat → Int32) (h : Nat) (yl yo ys : Nat → Nat → Int32) (yz ya yg : Nat → Int32) : Prop :=
  h ≤ 5 ∧ ∀ j, j < h → zwf (zpa past j) ∧ zcl (zpa past j) (yz j) (ya j) (yg j) (yl j) (yo j) (ys j)
def zrec (h : Nat) (now past : Nat → Int32) : Nat → Int32 := fun i => if h = 5 then (if i < 2556 then past (i + 639) else if i < 3195 then now (i - 2556) else past i) else if 639 * h ≤ i ∧ i < 639 * h + 639 then now (i - 639 * h) else past i
theorem m_rec51 (hN : 1000 ≤ N) {h : Nat} (hh : h ≤ 4) (past : Nat → Int32) : ∀ k, k ≤ 639 → ∀ F, 639 - k < F → ∀ D, (∀ i, D i = if 639 * h ≤ i ∧ i < 639 * h + k then now (i - 639 * h) else past i) →
    b_X11_records_51 N now F (nI k) (nI h) D = some (nI (h + 1), fun i => if 639 * h ≤ i ∧ i < 639 * h + 639 then now (i - 639 * h) else past i) := by
  refine dn 639 ?_ ?_
  · intro F hF D hD
    obtain ⟨F, rfl⟩ : ∃ G, F = G + 1 := ⟨F - 1, by omega⟩
    rw [b_X11_records_51, if_pos (show (639 : Int32) ≤ nI 639 by decide), nI_1]
    exact congrArg (fun x => some (nI (h + 1), x)) (funext hD)
  · intro k hk ih F hF D hD
    obtain ⟨F, rfl⟩ : ∃ G, F = G + 1 := ⟨F - 1, by omega⟩
    have e : (639 : Int32) * nI h + nI k = nI (639 * h + k) := by
      show nI 639 * nI h + nI k = _
      rw [pk_mul, nI_add]
    rw [b_X11_records_51, if_neg (show ¬ (639 : Int32) ≤ nI k from nI_ge (b := 639) hk (by decide)), e, nI_clamp (show k < 2 ^ 31 by omega), if_neg (zck (show k < 639 by omega) (by decide)), nI_clamp (show 639 * h + k < 2 ^ 31 by omega), if_neg (zck (show 639 * h + k < 3195 by omega) (by decide)), nI_1]
    refine ih F (by omega) _ (fun i => ?_)
    by_cases q : i = 639 * h + k
    · rw [q, pk_us, if_pos (by omega), show 639 * h + k - 639 * h = k by omega]
    · rw [pk_un q, hD i]
      by_cases q2 : 639 * h ≤ i ∧ i < 639 * h + k
      · rw [if_pos q2, if_pos (by omega)]
      · rw [if_neg q2, if_neg (by omega)]
theorem m_records (hN : 10000 ≤ N) {h : Nat} (hh : h ≤ 5) (past : Nat → Int32) : f_X11_records N (nI h) now past = some (nI (if h = 5 then 5 else h + 1), zrec h now past) := by
  unfold f_X11_records
  by_cases q : h = 5
  · subst q
    rw [if_pos (show nI 5 = (5 : Int32) from rfl), if_pos rfl]
    have key : ∀ k, k ≤ 2556 → ∀ F, 2556 - k < F → ∀ D, (∀ i, D i = if i < k then past (i + 639) else past i) → b_X11_records_10 N now F (nI k) (nI 5) D = some (nI 5, zrec 5 now past) := by
      refine dn 2556 ?_ ?_
      · intro F hF D hD
        obtain ⟨F, rfl⟩ : ∃ G, F = G + 1 := ⟨F - 1, by omega⟩
        rw [b_X11_records_10, if_pos (show (2556 : Int32) ≤ nI 2556 by decide), show nI 5 - (1 : Int32) = nI 4 from by decide]
        have := m_rec51 (now := now) (N := N) (h := 4) (by omega) (by omega) D 0 (by omega) N (by omega) D (fun i => by rw [if_neg (by omega)])
        refine Eq.trans this ?_
        refine congrArg (fun x => some (nI 5, x)) (funext fun i => ?_)
        show (if 639 * 4 ≤ i ∧ i < 639 * 4 + 639 then now (i - 639 * 4) else D i) = zrec 5 now past i
        unfold zrec
        rw [if_pos rfl, hD i]
        by_cases q1 : i < 2556
        · rw [if_neg (by omega), if_pos q1, if_pos q1]
        · by_cases q2 : i < 3195
          · rw [if_pos (by omega), if_neg q1, if_pos q2]
          · rw [if_neg (by omega), if_neg q1, if_neg q1, if_neg q2]
      · intro k hk ih F hF D hD
        obtain ⟨F, rfl⟩ : ∃ G, F = G + 1 := ⟨F - 1, by omega⟩
        rw [b_X11_records_10, if_neg (show ¬ (2556 : Int32) ≤ nI k from nI_ge (b := 2556) hk (by decide)), show nI k + (639 : Int32) = nI (k + 639) from nI_add k 639, nI_clamp (show k + 639 < 2 ^ 31 by omega), if_neg (zck (show k + 639 < 3195 by omega) (by decide)),
          nI_clamp (show k < 2 ^ 31 by omega), if_neg (zck (show k < 3195 by omega) (by decide)), nI_1]
        refine ih F (by omega) _ (fun i => ?_)
        by_cases e : i = k
        · rw [e, pk_us, hD, if_neg (by omega), if_pos (Nat.lt_succ_self k)]
        · rw [pk_un e, hD i]
          by_cases q2 : i < k
          · rw [if_pos q2, if_pos (by omega)]
          · rw [if_neg q2, if_neg (by omega)]
    exact key 0 (by omega) N (by omega) past (fun i => by rw [if_neg (by omega)])
  · rw [if_neg (show ¬ nI _ = (5 : Int32) from fun e => q ((nI_eq (by omega) (by decide : (5 : Nat) < 2 ^ 31)).mp e)), if_neg q]
    have := m_rec51 (now := now) (N := N) (h := h) (by omega) (by omega) past 0 (by omega) N (by omega) past (fun i => by rw [if_neg (by omega)])
    refine Eq.trans this ?_
    refine congrArg (fun x => some (nI (h + 1), x)) (funext fun i => ?_)
    unfold zrec
    rw [if_neg q]
theorem zkcp {n : Nat} (hn : n < 2 ^ 31) (g x : Nat → Int32) {j : Nat} (hj : j < n) : kcp n g x j = x j := by rw [kcp_eq hn]; exact if_pos hj
/-- both keep the present state -/
theorem zkeep (hN : 10000 ≤ N) {past : Nat → Int32} {h : Nat} {yl yo ys : Nat → Nat → Int32} {yz ya yg : Nat → Int32} (H : zhi past h yl yo ys yz ya yg) (hw : zwf now) {sz st go : Int32} {le op sg : Nat → Int32} (hc : zcl now sz st go le op sg) :
    ∃ h' yl' yo' ys' yz' ya' yg', f_X0_keep (nI h) yl yo ys yz ya yg sz st go le op sg = some (nI h', yl', yo', ys', yz', ya', yg') ∧ f_X11_records N (nI h) now past = some (nI h', zrec h now past) ∧ zhi (zrec h now past) h' yl' yo' ys' yz' ya' yg' := by
  obtain ⟨h5, Hj⟩ := H
  have hnow : ∀ {j : Nat}, (∀ k, k < 639 → zpa (zrec h now past) j k = now k) → ∀ {fl fo fs : Nat → Int32}, zwf (zpa (zrec h now past) j) ∧ zcl (zpa (zrec h now past) j) sz st go (kcp 6 fl le) (kcp 210 fo op) (kcp 210 fs sg) := by
    intro j e fl fo fs
    refine ⟨(zcong hw e).1, zcl_cong hw e (zcl_cp hw hc (fun k hk => zkcp (by decide) _ _ hk) (fun k hk => zkcp (by decide) _ _ hk) (fun k hk => zkcp (by decide) _ _ hk))⟩
  unfold f_X0_keep
  rw [m_records hN h5, if_neg (by rintro (q | q); exact nI_pos (show h < 2 ^ 31 by omega) q; exact nI_nlt (a := 5) h5 (by decide) q), nI_clamp (show h < 2 ^ 31 by omega)]
  by_cases q : h = 5
  · subst q
    refine ⟨5, hKA 6 5 yl le, hKA 210 5 yo op, hKA 210 5 ys sg, hKV 5 yz sz, hKV 5 ya st, hKV 5 yg go, ?_, by rw [if_pos rfl], ?_⟩
    · rw [if_pos (show nI 5 = (5 : Int32) from rfl)]; rfl
    refine ⟨Nat.le_refl 5, fun j hj => ?_⟩
    unfold hKA hKV
    rw [if_pos rfl, if_pos rfl, if_pos rfl, if_pos rfl, if_pos rfl, if_pos rfl]
    by_cases q4 : j = 4
    · subst q4
      rw [if_pos rfl, if_pos rfl, if_pos rfl, if_pos rfl, if_pos rfl, if_pos rfl]
      refine hnow (fun k hk => ?_)
      unfold zpa zrec
      rw [if_pos rfl, if_neg (by omega), if_pos (by omega), show 639 * 4 + k - 2556 = k by omega]
    · rw [if_neg q4, if_neg q4, if_neg q4, if_neg q4, if_neg q4, if_neg q4]
      obtain ⟨w1, w2⟩ := Hj (j + 1) (by omega)
      have e : ∀ k, k < 639 → zpa (zrec 5 now past) j k = zpa past (j + 1) k := fun k hk => by
        unfold zpa zrec
        rw [if_pos rfl, if_pos (by omega), show 639 * j + k + 639 = 639 * (j + 1) + k by omega]
      exact ⟨(zcong w1 e).1, zcl_cong w1 e w2⟩
  · refine ⟨h + 1, hKA 6 h yl le, hKA 210 h yo op, hKA 210 h ys sg, hKV h yz sz, hKV h ya st, hKV h yg go, ?_, by rw [if_neg q], ?_⟩
    · rw [if_neg (show ¬ nI _ = (5 : Int32) from fun e => q ((nI_eq (by omega) (by decide : (5 : Nat) < 2 ^ 31)).mp e)), nI_1]
    refine ⟨by omega, fun j hj => ?_⟩
    unfold hKA hKV
    rw [if_neg q, if_neg q, if_neg q, if_neg q, if_neg q, if_neg q]
    by_cases q4 : j = h
    · subst q4
      rw [if_pos rfl, if_pos rfl, if_pos rfl, if_pos rfl, if_pos rfl, if_pos rfl]
      refine hnow (fun k hk => ?_)
      unfold zpa zrec
      rw [if_neg q, if_pos (by omega), show 639 * j + k - 639 * j = k by omega]
    · rw [if_neg q4, if_neg q4, if_neg q4, if_neg q4, if_neg q4, if_neg q4]
      obtain ⟨w1, w2⟩ := Hj j (by omega)
      have e : ∀ k, k < 639 → zpa (zrec h now past) j k = zpa past j k := fun k hk => by
        unfold zpa zrec
        rw [if_neg q, if_neg (by omega)]
      exact ⟨(zcong w1 e).1, zcl_cong w1 e w2⟩
theorem m_undo (hN : 10000 ≤ N) {h : Nat} (h1 : 1 ≤ h) (h5 : h ≤ 5) (past : Nat → Int32) : ∃ now', f_X11_undo N (nI h) now past = some (nI (h - 1), nI (h - 1), now') ∧ ∀ k, k < 639 → now' k = zpa past (h - 1) k := by
  unfold f_X11_undo
  rw [if_neg (nI_ne0 (by omega) (by omega)), show nI h - (1 : Int32) = nI (h - 1) from pk_sub (b := 1) h1]
  have key : ∀ k, k ≤ 639 → ∀ F, 639 - k < F → ∀ D, (∀ i, i < k → D i = zpa past (h - 1) i) → ∃ now', b_X11_undo_22 N past F (nI k) (nI (h - 1)) D = some (nI (h - 1), nI (h - 1), now') ∧ ∀ k, k < 639 → now' k = zpa past (h - 1) k := by
    refine dn 639 ?_ ?_
    · intro F hF D hD
      obtain ⟨F, rfl⟩ : ∃ G, F = G + 1 := ⟨F - 1, by omega⟩
      rw [b_X11_undo_22, if_pos (show (639 : Int32) ≤ nI 639 by decide)]
      exact ⟨D, rfl, hD⟩
    · intro k hk ih F hF D hD
      obtain ⟨F, rfl⟩ : ∃ G, F = G + 1 := ⟨F - 1, by omega⟩
      have e : (639 : Int32) * nI (h - 1) + nI k = nI (639 * (h - 1) + k) := by
        show nI 639 * nI (h - 1) + nI k = _
        rw [pk_mul, nI_add]
      rw [b_X11_undo_22, if_neg (show ¬ (639 : Int32) ≤ nI k from nI_ge (b := 639) hk (by decide)), e, nI_clamp (show 639 * (h - 1) + k < 2 ^ 31 by omega), if_neg (zck (show 639 * (h - 1) + k < 3195 by omega) (by decide)), nI_clamp (show k < 2 ^ 31 by omega), if_neg (zck (show k < 639 by omega) (by decide)), nI_1]
      refine ih F (by omega) _ (fun i hi => ?_)
      by_cases q : i = k
      · rw [q, pk_us]; rfl
      · rw [pk_un q]; exact hD i (by omega)
  exact key 0 (by omega) N (by omega) now (fun i hi => by omega)
end HST

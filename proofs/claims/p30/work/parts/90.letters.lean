-- letters and the counts
section LTR
variable {g : gS}
/-- the rooms of the letters below k -/
noncomputable def zLs1 (g : gS) : Nat → Nat
  | 0 => 0
  | k + 1 => zLs1 g k + zCt (zits g.1 k) 210
theorem zLs1_eq (k : Nat) : zLs1 g k = zCt (fun c => zr g.1 c && (decide (2 ≤ zown g.1 c) && decide (zown g.1 c < 2 + k))) 210 := by
  induction k with
  | zero =>
    refine (zS_0 210).symm.trans (zS_congr 210 (fun c _ => ?_))
    dsimp only
    have : (decide (2 ≤ zown g.1 c) && decide (zown g.1 c < 2 + 0)) = false := by
      by_cases q : 2 ≤ zown g.1 c
      · rw [decide_eq_true q, decide_eq_false (by omega)]; rfl
      · rw [decide_eq_false q]; rfl
    rw [this, Bool.and_false]; rfl
  | succ k ih =>
    show zLs1 g k + zCt (zits g.1 k) 210 = _
    rw [ih]
    unfold zCt
    rw [← zS_add]
    refine zS_congr 210 (fun c _ => ?_)
    unfold zits
    dsimp only
    cases zr g.1 c with
    | false => rfl
    | true =>
      rw [Bool.true_and, Bool.true_and, Bool.true_and]
      by_cases q : 2 ≤ zown g.1 c
      · rw [decide_eq_true q, Bool.true_and, Bool.true_and]
        by_cases q2 : zown g.1 c < 2 + k
        · rw [decide_eq_true q2, decide_eq_false (show ¬ zown g.1 c = 2 + k by omega), decide_eq_true (show zown g.1 c < 2 + (k + 1) by omega)]; rfl
        · rw [decide_eq_false q2]
          by_cases q3 : zown g.1 c = 2 + k
          · rw [decide_eq_true q3, decide_eq_true (show zown g.1 c < 2 + (k + 1) by omega)]; rfl
          · rw [decide_eq_false q3, decide_eq_false (show ¬ zown g.1 c < 2 + (k + 1) by omega)]; rfl
      · rw [decide_eq_false q, Bool.false_and, Bool.false_and, decide_eq_false (show ¬ zown g.1 c = 2 + k by omega)]; rfl
theorem zrooms (h : zwf g.1) : zLs1 g (zn g.1) + zw g.1 = zCt (zr g.1) 210 := by
  have hw := zwf_w h
  have hn := zwf_n h
  have e5 : zCt (fun c => decide (5 * zw g.1 ≤ c ∧ c < 6 * zw g.1)) 210 = zw g.1 := by rw [zCt_iv]; omega
  rw [zLs1_eq]
  have : zw g.1 = zCt (fun c => zr g.1 c && decide (zown g.1 c = 1)) 210 := by
    rw [← e5]
    refine zCt_congr 210 (fun c _ => ?_)
    by_cases q : 5 * zw g.1 ≤ c ∧ c < 6 * zw g.1
    · obtain ⟨b1, b2⟩ := zbase h q.1 q.2
      rw [decide_eq_true q, b1, decide_eq_true (show zown g.1 c = 1 by unfold zown; rw [if_pos b2])]; rfl
    · rw [decide_eq_false q]
      cases hr : zr g.1 c with
      | false => rfl
      | true =>
        have h6 := zr_lt hr
        have hd : ¬ c / zw g.1 = 5 := fun e => q ⟨by
          have := Nat.div_add_mod c (zw g.1)
          rw [e] at this
          rw [Nat.mul_comm] at this; omega, h6⟩
        rw [decide_eq_false (show ¬ zown g.1 c = 1 by unfold zown; rw [if_neg hd]; omega)]; rfl
  conv => lhs; rw [this]
  unfold zCt
  rw [← zS_add]
  refine zS_congr 210 (fun c _ => ?_)
  dsimp only
  cases hr : zr g.1 c with
  | false => rfl
  | true =>
    rw [Bool.true_and, Bool.true_and]
    have h6 := zr_lt hr
    have hm := Nat.mod_lt c (show 0 < zw g.1 by omega)
    have hwn : zw g.1 = 6 * zn g.1 - 1 := rfl
    by_cases q : c / zw g.1 = 5
    · have e : zown g.1 c = 1 := by unfold zown; rw [if_pos q]
      rw [e]; rfl
    · have e : zown g.1 c = 2 + c % zw g.1 / 6 := by unfold zown; rw [if_neg q]
      rw [e, decide_eq_true (show 2 ≤ 2 + c % zw g.1 / 6 by omega), decide_eq_true (show 2 + c % zw g.1 / 6 < 2 + zn g.1 by omega), decide_eq_false (show ¬ 2 + c % zw g.1 / 6 = 1 by omega)]; rfl
theorem zlm1 (k : Nat) : zS (zlm g.1 k 1) 210 = zCt (zits g.1 k) 210 := zS_congr 210 (fun c _ => if_pos rfl)
theorem zlm32 (k : Nat) : zS (zlm g.1 k 3) 210 ≤ zS (zlm g.1 k 2) 210 := by
  refine zS_le 210 (fun c _ => ?_)
  unfold zlm
  rw [if_neg (by decide), if_neg (by decide)]
  have : ∀ d, (zlg g.1 k (zmo k 3) (!decide (3 = 2)) c d).toNat ≤ (zlg g.1 k (zmo k 2) (!decide (2 = 2)) c d).toNat := by
    intro d
    unfold zlg
    rw [show zmo k 3 = zmo k 2 from rfl, show (!decide (2 = 2)) = false from rfl, show (!decide (3 = 2)) = true from rfl]
    cases zits g.1 k c with
    | false => exact Nat.le_refl _
    | true =>
      cases zh g.1 c d with
      | false => exact Nat.le_refl _
      | true =>
        cases decide (zown g.1 (zN (zw g.1) c d) = zmo k 2) with
        | false => exact Nat.le_refl _
        | true => cases zo g.1 c d <;> decide
  exact Nat.add_le_add (this 1) (this 2)
theorem zlm4 (h : zwf g.1) (k : Nat) : zS (zlm g.1 k 4) 210 ≤ 5 := by
  have hw := zwf_w h
  have e5 : zCt (fun c => decide (4 * zw g.1 + 6 * k ≤ c ∧ c < 4 * zw g.1 + 6 * k + 5)) 210 ≤ 5 := by rw [zCt_iv]; omega
  refine Nat.le_trans (zS_le 210 (fun c hc => ?_)) e5
  unfold zlm
  rw [if_neg (by decide), show zmo k 4 = 1 from rfl, show (!decide (4 = 2)) = true from rfl]
  have f1 : zlg g.1 k 1 true c 1 = false := by
    cases q : zlg g.1 k 1 true c 1 with
    | false => rfl
    | true =>
      exfalso
      unfold zlg zits at q
      simp only [Bool.and_eq_true, decide_eq_true_eq] at q
      obtain ⟨⟨hr, ho⟩, hh, ho2, -⟩ := q
      have h1 := zh_1.mp hh
      have hu := zmod_up (show 0 < zw g.1 by omega) h1.1
      have hd1 : ¬ c / zw g.1 = 5 := fun e => by unfold zown at ho; rw [if_pos e] at ho; omega
      have hd2 : zN (zw g.1) c 1 / zw g.1 = 5 := by
        rcases Nat.decEq (zN (zw g.1) c 1 / zw g.1) 5 with e | e
        · unfold zown at ho2; rw [if_neg e] at ho2; omega
        · exact e
      have hn1 : zN (zw g.1) c 1 = c + 1 := rfl
      rw [hn1] at hd2
      have a1 := Nat.div_add_mod c (zw g.1)
      have a2 := Nat.div_add_mod (c + 1) (zw g.1)
      rw [hd2, hu] at a2
      have : zw g.1 * (c / zw g.1) = zw g.1 * 5 := by omega
      exact hd1 (Nat.eq_of_mul_eq_mul_left (by omega) this)
  rw [f1]
  cases q : zlg g.1 k 1 true c 2 with
  | false => exact Nat.zero_le _
  | true =>
    unfold zlg zits at q
    simp only [Bool.and_eq_true, decide_eq_true_eq] at q
    obtain ⟨⟨hr, ho⟩, hh, ho2, -⟩ := q
    have hd1 : ¬ c / zw g.1 = 5 := fun e => by unfold zown at ho; rw [if_pos e] at ho; omega
    have hc6 := zr_lt hr
    obtain ⟨l1, l2⟩ := zdiv_lt h hc6 hd1
    obtain ⟨m1, -⟩ := zr_letter h hr l2
    have hd2 : zN (zw g.1) c 2 / zw g.1 = 5 := by
      rcases Nat.decEq (zN (zw g.1) c 2 / zw g.1) 5 with e | e
      · unfold zown at ho2; rw [if_neg e] at ho2; omega
      · exact e
    have hn1 : zN (zw g.1) c 2 = c + zw g.1 := rfl
    rw [hn1, Nat.add_div_right _ (show 0 < zw g.1 by omega)] at hd2
    have a1 := Nat.div_add_mod c (zw g.1)
    have e4 : c / zw g.1 = 4 := by omega
    rw [e4] at a1
    unfold zown at ho
    rw [if_neg hd1] at ho
    have hm := Nat.div_add_mod (c % zw g.1) 6
    have : 4 * zw g.1 + 6 * k ≤ c ∧ c < 4 * zw g.1 + 6 * k + 5 := by
      have e3 : c % zw g.1 / 6 = k := by omega
      rw [e3] at hm
      rw [Nat.mul_comm] at a1
      omega
    dsimp only
    rw [decide_eq_true this]; exact Nat.le_refl _
theorem zod_zvd (h : zwf g.1) : zod g.1 ≤ zCt (zvd g.1) 420 := by
  have e := zvd_cnt g.1 210
  rw [show 2 * 210 = 420 from rfl] at e
  rw [e]
  unfold zod
  refine Nat.add_le_add (zCt_mono 210 (fun c _ ho => ?_)) (zCt_mono 210 (fun c _ ho => ?_))
  · rw [zo_r h (by decide) ho, (zo_h.mp ho).1]; rfl
  · rw [zo_r h (by decide) ho, (zo_h.mp ho).1]; rfl
theorem zLs1_le (h : zwf g.1) {k : Nat} (hk : k ≤ zn g.1) : zLs1 g k ≤ 210 := by rw [zLs1_eq]; exact zCt_le _ _
theorem d317 (h : zwf g.1) : ∀ k, k ≤ zn g.1 → ∀ F, zn g.1 - k < F → b_L_areDoors_317 nF F (nI (zw g.1)) (nI (zCt (zr g.1) 210)) (nI (zS (zdg g.1) 210)) (nI (zCt (zR1 g.1) 210)) (nI (zCt (zR3 g.1) 210)) (nI (zLs1 g k)) (nI (zCt (zrep g.1) 210)) 1 (nI k) g = some (1, g) := by
  have hn := zwf_n h
  refine dn _ ?_ ?_
  · intro F hF
    obtain ⟨F, rfl⟩ : ∃ G, F = G + 1 := ⟨F - 1, by omega⟩
    have r1 := zCt_le (zr g.1) 210
    have r2 := zod_le g.1
    have r3 := zpt_le g.1
    have r4 := zCt_le (zvd g.1) 420
    have hod := zod_zvd h
    have eHand := zHand (zgr h) (zgr2 h)
    have e1 : zrw g.1 1 1 = zCt (zR1 g.1) 210 := zCt_congr 210 (fun c _ => by
      unfold zR1
      by_cases q : zdg g.1 c = 1
      · have hr : zr g.1 c = true := by
          cases hr : zr g.1 c with
          | true => rfl
          | false => rw [zdg_nr h hr] at q; cases q
        rw [hr, q]; rfl
      · rw [decide_eq_false q]
        by_cases q1 : 1 ≤ zdg g.1 c
        · rw [decide_eq_false (show ¬ zdg g.1 c ≤ 1 by omega), Bool.and_false, Bool.and_false]
        · rw [decide_eq_false q1, Bool.false_and, Bool.and_false])
    have e3 : zrw g.1 3 4 = zCt (zR3 g.1) 210 := zCt_congr 210 (fun c _ => by
      unfold zR3
      have h4 := zdg_4 (now := g.1) c
      by_cases q : 3 ≤ zdg g.1 c
      · have hr : zr g.1 c = true := by
          cases hr : zr g.1 c with
          | true => rfl
          | false => rw [zdg_nr h hr] at q; omega
        rw [hr, decide_eq_true q, decide_eq_true h4]; rfl
      · rw [decide_eq_false q, Bool.false_and, Bool.and_false])
    rw [b_L_areDoors_317]
    refine st_bV (e_c0 h) ?_
    refine st_if (nI_le (Nat.le_refl _) (by omega)) ?_
    refine st_el (by decide) ?_
    refine st_bV (e_c2 h) ?_
    refine st_if rfl ?_
    refine st_if (by rw [nI_add, zrooms h]) ?_
    refine st_bV (e_c4 h) ?_
    refine st_if ?_ ?_
    · rw [show zS (zdg g.1) 210 = 2 * zod g.1 from eHand]; exact (pk_mul 2 _).symm
    refine st_bV (e_c4 h) ?_
    refine st_bV (e_c3 h) ?_
    refine st_el (nI_nlt hod (by omega)) ?_
    refine st_bV (e_c8 h) ?_
    refine st_if (by rw [e1]) ?_
    refine st_bV (e_c9 h) ?_
    refine st_if (by rw [e3]) ?_
    refine st_bV (e_c5 h) ?_
    refine st_if rfl ?_
    refine st_bV (e_c6 h) ?_
    refine st_bV (e_c4 h) ?_
    refine st_if rfl ?_
    refine st_bV (e_c7 h) ?_
    by_cases q1 : zpt g.1 = 1
    · refine st_if (show nI (zpt g.1) = 1 by rw [q1]; rfl) ?_
      refine st_bV (e_c6 h) ?_
      by_cases q0 : zod g.1 + zpt g.1 = zCt (zr g.1) 210
      · refine st_if ((zlz (by omega) (by omega) (by omega)).mpr q0) ?_
        have es : zsing g.1 = true := by unfold zsing; rw [decide_eq_true q0, decide_eq_true q1]; rfl
        exact st_if (by rw [es]; rfl) rfl
      · refine st_el (fun e => q0 ((zlz (by omega) (by omega) (by omega)).mp e)) ?_
        have es : zsing g.1 = false := by unfold zsing; rw [decide_eq_false q0]; rfl
        exact st_if (by rw [es]; rfl) rfl
    · refine st_el (fun e => q1 ((nI_eq (b := 1) (by omega) (by decide)).mp e)) ?_
      have es : zsing g.1 = false := by unfold zsing; rw [decide_eq_false q1, Bool.and_false]
      exact st_if (by rw [es]; rfl) rfl
  · intro k hk ih F hF
    obtain ⟨F, rfl⟩ : ∃ G, F = G + 1 := ⟨F - 1, by omega⟩
    have hih := ih F (by omega)
    have b2 : zS (zlm g.1 k 2) 210 ≤ 420 := by
      refine Nat.le_trans (zS_le (g := fun _ => 2) 210 (fun c _ => ?_)) ?_
      · unfold zlm
        rw [if_neg (by decide)]
        have t1 := Bool.toNat_le (zlg g.1 k (zmo k 2) (!decide (2 = 2)) c 1)
        have t2 := Bool.toNat_le (zlg g.1 k (zmo k 2) (!decide (2 = 2)) c 2)
        omega
      · have : ∀ n, zS (fun _ => 2) n = 2 * n := by
          intro n
          induction n with
          | zero => rfl
          | succ n ih => show zS (fun _ => 2) n + 2 = _; omega
        rw [this]; decide
    have b4 := zlm4 h k
    rw [b_L_areDoors_317]
    refine st_bV (e_c0 h) ?_
    refine st_el (nI_ge hk (by omega)) ?_
    refine st_bV (e_let h hk (j := 1) (by decide) (by decide)) ?_
    refine st_el (by decide) ?_
    refine st_bV (e_let h hk (j := 3) (by decide) (by decide)) ?_
    refine st_bV (e_let h hk (j := 2) (by decide) (by decide)) ?_
    refine st_el (nI_nlt (zlm32 k) (by omega)) ?_
    refine st_bV (e_let h hk (j := 4) (by decide) (by decide)) ?_
    refine st_el (nI_pos (by omega)) ?_
    refine st_bV (e_let h hk (j := 4) (by decide) (by decide)) ?_
    refine st_el (nI_nlt (a := 5) b4 (by decide)) ?_
    rw [zlm1, nI_add, nI_1]
    exact hih
theorem p_areDoors (h : zwf g.1) : f_L_areDoors nF g = some (1, g) := by
  have hw := zwf_w h
  have hn := zwf_n h
  unfold f_L_areDoors
  refine st_bV (e_c1 h) ?_
  refine st_bV (e_c0 h) ?_
  refine st_if ?_ ?_
  · rw [show (6 : Int32) * nI (zn g.1) = nI (6 * zn g.1) from pk_mul 6 _]
    exact (pk_sub (b := 1) (by omega)).symm
  refine (d46a h).trans ?_
  exact d317 h 0 (Nat.zero_le _) nF (by have := nF_1; omega)
end LTR

-- the answers, fourth part: counts, signs, walks, moves
section OP4
variable {now op ow sg le : Nat → Int32} {w cc rc dc lo sz st go : Int32} {N : Nat}
theorem o_count (h : zwf now) (hs : zsh now w cc rc dc lo ow) (hc : zcl now sz st go le op sg) (hN : 1000 ≤ N) (hn tl : Int32) (re dm : Int32) (D pa Q doors lab : Nat → Int32) (x : Int32) :
    ∃ r re' D' pa' Q' dm' doors' lab', f_X10_count N w rc dc ow sz st go op sg hn re D pa Q tl x = some (r, re', D', pa', Q') ∧ f_X11_count N hn tl dm now doors lab x = some (r, dm', doors', lab') := by
  obtain ⟨c1, c2, c3, c4, ho, c6⟩ := hc
  have hnn := zwf_n h
  unfold f_X10_count f_X11_count
  by_cases q0 : x = 0
  · rw [if_pos q0, if_pos q0]
    exact ⟨now 0, re, D, pa, Q, dm, doors, lab, by rw [c1], rfl⟩
  rw [if_neg q0, if_neg q0]
  by_cases q1 : x = 1
  · rw [if_pos q1, if_pos q1]
    exact ⟨nI (zw now), re, D, pa, Q, dm, doors, lab, by rw [hs.1], by rw [m_wide h]⟩
  rw [if_neg q1, if_neg q1]
  by_cases q2 : x = 2
  · rw [if_pos q2, if_pos q2, bnd1_e (m_rooms h hN), hs.2.2.1]
    exact ⟨_, re, D, pa, Q, dm, doors, lab, rfl, rfl⟩
  rw [if_neg q2, if_neg q2]
  by_cases q3 : x = 3
  · obtain ⟨doors', e1, e2⟩ := m_countsDoors h hN dm doors
    have e3 := zvd_cnt now 210
    rw [if_pos q3, if_pos q3, bnd2_e e1, hs.2.2.2.1, ← e3]
    exact ⟨_, re, D, pa, Q, _, doors', lab, rfl, rfl⟩
  rw [if_neg q3, if_neg q3]
  by_cases q4 : x = 4
  · rw [if_pos q4, if_pos q4, bnd1_e (c_openCount h ho hN), bnd1_e (m_openDoors h hN)]
    exact ⟨_, re, D, pa, Q, dm, doors, lab, rfl, rfl⟩
  rw [if_neg q4, if_neg q4]
  by_cases q5 : x = 5
  · obtain ⟨re', D', pa', Q', e1, -⟩ := c_findParts h hs ho hN re D pa Q
    obtain ⟨lab', e2⟩ := m_parts h hN lab
    rw [if_pos q5, if_pos q5, bnd5_e e1, bnd2_e e2]
    exact ⟨_, re', D', pa', Q', dm, doors, lab', rfl, rfl⟩
  rw [if_neg q5, if_neg q5]
  by_cases q6 : x = 6
  · obtain ⟨re', D', pa', Q', e1⟩ := c_loopCount h hs ho hN re D pa Q
    obtain ⟨lab', e2⟩ := m_loops h hN lab
    rw [if_pos q6, if_pos q6, bnd5_e e1, bnd2_e e2]
    exact ⟨_, re', D', pa', Q', dm, doors, lab', rfl, rfl⟩
  rw [if_neg q6, if_neg q6]
  by_cases q7 : x = 7
  · obtain ⟨re', D', pa', Q', e1⟩ := c_isSingle h hs ho hN re D pa Q
    obtain ⟨lab', e2⟩ := m_isSingle h hN lab
    rw [if_pos q7, if_pos q7, bnd5_e e1, bnd2_e e2]
    cases zsing now with
    | false => rw [if_pos zi_f, if_pos zi_f]; exact ⟨_, re', D', pa', Q', dm, doors, lab', rfl, rfl⟩
    | true => rw [if_neg (show ¬ zi true = 0 by decide), if_neg (show ¬ zi true = 0 by decide)]; exact ⟨_, re', D', pa', Q', dm, doors, lab', rfl, rfl⟩
  rw [if_neg q7, if_neg q7]
  by_cases q8 : x = 8
  · rw [if_pos q8, if_pos q8, bnd1_e (show f_X1_roomsWithDoors N op 1 1 = some (nI (zrw now 1 1)) from c_roomsWith h ho hN (by decide) (by decide) (by decide)), bnd1_e (show f_X11_roomsWith N now 1 1 = some (nI (zrw now 1 1)) from m_roomsWith h hN (by decide) (by decide))]
    exact ⟨_, re, D, pa, Q, dm, doors, lab, rfl, rfl⟩
  rw [if_neg q8, if_neg q8]
  by_cases q9 : x = 9
  · rw [if_pos q9, if_pos q9, bnd1_e (show f_X1_roomsWithDoors N op 3 4 = some (nI (zrw now 3 4)) from c_roomsWith h ho hN (by decide) (by decide) (by decide)), bnd1_e (show f_X11_roomsWith N now 3 4 = some (nI (zrw now 3 4)) from m_roomsWith h hN (by decide) (by decide))]
    exact ⟨_, re, D, pa, Q, dm, doors, lab, rfl, rfl⟩
  rw [if_neg q9, if_neg q9]
  by_cases q10 : x = 10
  · rw [if_pos q10, if_pos q10, q10, if_neg (by decide), c2]
    exact ⟨_, re, D, pa, Q, dm, doors, lab, rfl, rfl⟩
  rw [if_neg q10, if_neg q10]
  by_cases q11 : x = 11
  · rw [if_pos q11, if_pos q11, q11, if_neg (by decide), c3]
    exact ⟨_, re, D, pa, Q, dm, doors, lab, rfl, rfl⟩
  rw [if_neg q11, if_neg q11]
  by_cases q12 : x = 12
  · rw [if_pos q12, if_pos q12, bnd1_e (show f_X1_signCount N op sg 0 = some (nI (zsc now false)) from c_signCount h ho c6 hN false), bnd1_e (show f_X11_signs N now 0 = some (nI (zsc now false)) from m_signs h hN false)]
    exact ⟨_, re, D, pa, Q, dm, doors, lab, rfl, rfl⟩
  rw [if_neg q12, if_neg q12]
  by_cases q13 : x = 13
  · rw [if_pos q13, if_pos q13, bnd1_e (show f_X1_signCount N op sg 1 = some (nI (zsc now true)) from c_signCount h ho c6 hN true), bnd1_e (show f_X11_signs N now 1 = some (nI (zsc now true)) from m_signs h hN true)]
    exact ⟨_, re, D, pa, Q, dm, doors, lab, rfl, rfl⟩
  rw [if_neg q13, if_neg q13]
  by_cases q14 : x = 14
  · rw [if_pos q14, if_pos q14]
    exact ⟨_, re, D, pa, Q, dm, doors, lab, rfl, rfl⟩
  rw [if_neg q14, if_neg q14]
  by_cases q15 : x = 15
  · rw [if_pos q15, if_pos q15]
    exact ⟨_, re, D, pa, Q, dm, doors, lab, rfl, rfl⟩
  rw [if_neg q15, if_neg q15]
  exact ⟨_, re, D, pa, Q, dm, doors, lab, rfl, rfl⟩
-- directions of signs
theorem zdr_lt {d : Nat} (h : d < 4) : zdr d = nI d := if_pos h
theorem zdr_m1 {d : Nat} : zdr d = -1 ↔ ¬ d < 4 := by
  unfold zdr
  by_cases q : d < 4
  · rw [if_pos q]
    exact ⟨fun e => absurd (show nI d < 0 by rw [e]; decide) (nI_pos (by omega)), fun e => absurd q e⟩
  · rw [if_neg q]; exact ⟨fun _ => q, fun _ => rfl⟩
theorem zdr_nn {d : Nat} : 0 ≤ zdr d ↔ d < 4 := by
  unfold zdr
  by_cases q : d < 4
  · rw [if_pos q]; exact ⟨fun _ => q, fun _ => nI_pos' (by omega)⟩
  · rw [if_neg q]; exact ⟨fun e => absurd e (by decide), fun e => absurd e q⟩
theorem zdr_neg {d : Nat} : zdr d < 0 ↔ ¬ d < 4 := by
  unfold zdr
  by_cases q : d < 4
  · rw [if_pos q]; exact ⟨fun e => absurd e (nI_pos (by omega)), fun e => absurd q e⟩
  · rw [if_neg q]; exact ⟨fun _ => q, fun _ => by decide⟩
noncomputable def zBe (now : Nat → Int32) (c f : Nat) : Nat := if zo now c ((f + 1) % 4) = true then (f + 1) % 4 else if zo now c ((f + 2) % 4) = true then (f + 2) % 4 else if zo now c ((f + 3) % 4) = true then (f + 3) % 4 else f
noncomputable def zDir (now : Nat → Int32) (goal c : Nat) : Nat :=
  if (zsg now c - 1) / 4 = 2 then (if zo now c ((zsg now c - 1) % 4) = true then (zsg now c - 1) % 4 else 4) else
  if zpi now goal c = 4 ∨ (zsg now c - 1) / 4 = 0 then zpi now goal c else zBe now c (zpi now goal c)
theorem zmodI {a b : Nat} (h : a + b < 2 ^ 31) : (nI a + nI b) - (nI a + nI b) / (4 : Int32) * (4 : Int32) = nI ((a + b) % 4) := by rw [nI_add, zrem4 h]
theorem c_openBehind (ho : ∀ c, c < 210 → op c = nI (zmf (zo now c))) (hN : 1000 ≤ N) {c f : Nat} (hc : c < 210) (hf : f < 4) : f_X9_openBehind N op (nI c) (nI f) = some (nI (zBe now c f)) := by
  unfold f_X9_openBehind
  obtain ⟨M, rfl⟩ : ∃ M, N = M + 4 := ⟨N - 4, by omega⟩
  have st : ∀ K F t, 1 ≤ t → t < 4 → b_X9_openBehind_3 K op (nI c) (nI f) (F + 1) (nI t) = if zo now c ((f + t) % 4) = true then some (nI ((f + t) % 4)) else b_X9_openBehind_3 K op (nI c) (nI f) F (nI (t + 1)) := by
    intro K F t h1 h4
    have hm := Nat.mod_lt (f + t) (by decide : 0 < 4)
    rw [b_X9_openBehind_3, if_neg (show ¬ (4 : Int32) ≤ nI t from nI_ge (b := 4) h4 (by decide)), zmodI (by omega), c_isOpen ho hc hm, nI_1]
    cases zo now c ((f + t) % 4) with
    | false => rw [if_pos zi_f, if_neg zft]
    | true => rw [if_neg (show ¬ zi true = 0 by decide), if_pos rfl]
  have s1 := st (M + 4) (M + 3) 1 (by decide) (by decide)
  have s2 := st (M + 4) (M + 2) 2 (by decide) (by decide)
  have s3 := st (M + 4) (M + 1) 3 (by decide) (by decide)
  have s4 : b_X9_openBehind_3 (M + 4) op (nI c) (nI f) (M + 1) (nI 4) = some (nI f) := by
    rw [b_X9_openBehind_3, if_pos (show (4 : Int32) ≤ nI 4 by decide)]
  refine Eq.trans s1 ?_
  rw [s2, s3, s4]
  unfold zBe
  by_cases h1 : zo now c ((f + 1) % 4) = true
  · rw [if_pos h1, if_pos h1]
  · rw [if_neg h1, if_neg h1]
    by_cases h2 : zo now c ((f + 2) % 4) = true
    · rw [if_pos h2, if_pos h2]
    · rw [if_neg h2, if_neg h2]
      by_cases h3 : zo now c ((f + 3) % 4) = true
      · rw [if_pos h3, if_pos h3]
      · rw [if_neg h3, if_neg h3]
theorem zBe_lt {c f : Nat} (hf : f < 4) : zBe now c f < 4 := by
  unfold zBe
  repeat' (first | omega | split)
theorem zDir_le {goal c : Nat} (hv : zsg now c ≤ 12) : zDir now goal c ≤ 4 := by
  have := zP_le (zo now) (zN (zw now)) (zF (zo now) (zN (zw now)) goal).1 c
  unfold zDir
  by_cases q : (zsg now c - 1) / 4 = 2
  · rw [if_pos q]
    by_cases q2 : zo now c ((zsg now c - 1) % 4) = true
    · rw [if_pos q2]; omega
    · rw [if_neg q2]; omega
  · rw [if_neg q]
    by_cases q2 : zpi now goal c = 4 ∨ (zsg now c - 1) / 4 = 0
    · rw [if_pos q2]; exact this
    · rw [if_neg q2]
      have : zpi now goal c ≤ 4 := this
      have := zBe_lt (now := now) (c := c) (f := zpi now goal c) (by omega)
      omega
theorem c_signDirection (h : zwf now) (ho : ∀ c, c < 210 → op c = nI (zmf (zo now c))) (hg : ∀ c, c < 210 → sg c = now (429 + c)) (hN : 1000 ≤ N) {goal : Nat} (hgo : zr now goal = true) {D : Nat → Int32} (hD : ∀ c, c < 210 → D c = zd ((zF (zo now) (zN (zw now)) goal).1 c)) {c : Nat} (hc : c < 210) (hv : zsg now c ≠ 0) :
    f_X9_signDirection N D (nI (zw now)) op sg (nI c) = some (zdr (zDir now goal c)) := by
  obtain ⟨v1, v2, v3⟩ := zsg_ok h hc
  have hple : zpi now goal c ≤ 4 := zP_le _ _ _ _
  have ek : t_X1_signKind sg (nI c) = nI ((zsg now c - 1) / 4) := by
    unfold t_X1_signKind
    rw [at_lt sg (by decide) hc, hg c hc, v1, show nI (zsg now c) - (1 : Int32) = nI (zsg now c - 1) from pk_sub (b := 1) (by omega), pk_shrN (by omega) _ 2 (by decide)]
  have eo : t_X1_signOwnDirection sg (nI c) = nI ((zsg now c - 1) % 4) := by
    unfold t_X1_signOwnDirection
    rw [at_lt sg (by decide) hc, hg c hc, v1, show nI (zsg now c) - (1 : Int32) = nI (zsg now c - 1) from pk_sub (b := 1) (by omega), pk_andN (by omega) 2 (by decide)]
  unfold f_X9_signDirection zDir
  rw [ek, eo]
  by_cases q : (zsg now c - 1) / 4 = 2
  · rw [if_pos (show nI ((zsg now c - 1) / 4) = (2 : Int32) by rw [q]; rfl), if_pos q, c_isOpen ho hc (by omega)]
    cases zo now c ((zsg now c - 1) % 4) with
    | false => rw [if_pos zi_f, if_neg zft]; rfl
    | true => rw [if_neg (show ¬ zi true = 0 by decide), if_pos rfl, zdr_lt (by omega)]
  · rw [if_neg (show ¬ nI _ = (2 : Int32) from fun e => q ((nI_eq (by omega) (by decide : (2 : Nat) < 2 ^ 31)).mp e)), if_neg q, bnd1_e (c_firstDirection h ho hN hgo hD hc)]
    by_cases q4 : zpi now goal c = 4
    · rw [if_pos (zdr_m1.mpr (by omega)), if_pos (Or.inl q4)]
    · rw [if_neg (fun e => zdr_m1.mp e (by omega))]
      by_cases q0 : (zsg now c - 1) / 4 = 0
      · rw [if_pos (show nI ((zsg now c - 1) / 4) = 0 by rw [q0]; rfl), if_pos (Or.inr q0)]
      · rw [if_neg (nI_ne0 (by omega) (by omega)), if_neg (by omega), zdr_lt (by omega), bnd1_e (c_openBehind ho hN hc (by omega)), zdr_lt (zBe_lt (by omega))]
theorem m_behind (h : zwf now) (hN : 1000 ≤ N) {c f : Nat} (far : Nat → Int32) (hc : c < 6 * zw now) (hf : f < 4) (hof : zo now c f = true) : b_X11_pointed_89 N now far (nI c) N (nI ((f + 1) % 4)) = some (nI (zBe now c f)) := by
  obtain ⟨M, rfl⟩ : ∃ M, N = M + 4 := ⟨N - 4, by omega⟩
  have st : ∀ K F t, 1 ≤ t → t ≤ 4 → b_X11_pointed_89 K now far (nI c) (F + 1) (nI ((f + t) % 4)) = if zo now c ((f + t) % 4) = true then some (nI ((f + t) % 4)) else b_X11_pointed_89 K now far (nI c) F (nI ((f + (t + 1)) % 4)) := by
    intro K F t h1 h4
    have hm := Nat.mod_lt (f + t) (by decide : 0 < 4)
    have em : (nI ((f + t) % 4) + (1 : Int32)) - (nI ((f + t) % 4) + (1 : Int32)) / (4 : Int32) * (4 : Int32) = nI ((f + (t + 1)) % 4) := by
      rw [nI_1, zrem4 (by omega)]; exact congrArg nI (by omega)
    rw [b_X11_pointed_89, bnd1_e (m_isOpen h hc hm), em]
    cases zo now c ((f + t) % 4) with
    | false => rw [if_pos zi_f, if_neg zft]
    | true => rw [if_neg (show ¬ zi true = 0 by decide), if_pos rfl]
  have s1 := st (M + 4) (M + 3) 1 (by decide) (by decide)
  have s2 := st (M + 4) (M + 2) 2 (by decide) (by decide)
  have s3 := st (M + 4) (M + 1) 3 (by decide) (by decide)
  have s4 := st (M + 4) M 4 (by decide) (by decide)
  rw [show (f + 4) % 4 = f by omega, if_pos hof] at s4
  refine Eq.trans s1 ?_
  rw [s2, s3, show (f + (3 + 1)) % 4 = f by omega, s4]
  unfold zBe
  by_cases h1 : zo now c ((f + 1) % 4) = true
  · rw [if_pos h1, if_pos h1]
  · rw [if_neg h1, if_neg h1]
    by_cases h2 : zo now c ((f + 2) % 4) = true
    · rw [if_pos h2, if_pos h2]
    · rw [if_neg h2, if_neg h2]
      by_cases h3 : zo now c ((f + 3) % 4) = true
      · rw [if_pos h3, if_pos h3]
      · rw [if_neg h3, if_neg h3]
theorem m_pointed (h : zwf now) (hN : 1000 ≤ N) {goal : Nat} (hgo : zr now goal = true) (e8 : now 8 = nI goal) {far : Nat → Int32} (hD : ∀ c, c < 6 * zw now → far c = zd ((zF (zo now) (zN (zw now)) goal).1 c)) {c : Nat} (hc : c < 6 * zw now) (hv : zsg now c ≠ 0) :
    f_X11_pointed N now far (nI c) = some (zdr (zDir now goal c)) := by
  have hwl := zwf_w h
  obtain ⟨v1, v2, v3⟩ := zsg_ok h (show c < 210 by omega)
  obtain ⟨s1, s2, s3, s4, s5, s6, s7, s8, s9⟩ := zF_spec (zgr h) hgo
  have l9 := s9 c
  have g210 := zr_210 h hgo
  have hple : zpi now goal c ≤ 4 := zP_le _ _ _ _
  unfold f_X11_pointed zDir
  rw [show (429 : Int32) + nI c = nI (429 + c) from nI_add 429 c, nI_clamp (show 429 + c < 2 ^ 31 by omega), if_neg (zck (show 429 + c < 639 by omega) (by decide)), if_neg (zck (show 429 + c < 639 by omega) (by decide)), v1, show nI (zsg now c) - (1 : Int32) = nI (zsg now c - 1) from pk_sub (b := 1) (by omega), zrem4 (by omega), zdiv4 (by omega)]
  by_cases q : (zsg now c - 1) / 4 = 2
  · rw [if_pos (show nI ((zsg now c - 1) / 4) = (2 : Int32) by rw [q]; rfl), if_pos q, bnd1_e (m_isOpen h hc (by omega))]
    cases zo now c ((zsg now c - 1) % 4) with
    | false => rw [if_pos zi_f, if_neg zft]; rfl
    | true => rw [if_neg (show ¬ zi true = 0 by decide), if_pos rfl, zdr_lt (by omega)]
  · rw [if_neg (show ¬ nI _ = (2 : Int32) from fun e => q ((nI_eq (by omega) (by decide : (2 : Nat) < 2 ^ 31)).mp e)), if_neg q, show (8 : Int32).toNatClampNeg = 8 from rfl, e8]
    by_cases qg : c = goal
    · have : zpi now goal c = 4 := zpi_4 h hgo (by rw [qg, s1]; exact Nat.le_refl 1)
      rw [if_pos (by rw [qg]), if_pos (Or.inl this), this]; rfl
    · rw [if_neg (fun e => qg ((nI_eq (by omega) (by omega)).mp e)), nI_clamp (show c < 2 ^ 31 by omega), if_neg (zck (show c < 210 by omega) (by decide)), hD c hc]
      by_cases q0 : (zF (zo now) (zN (zw now)) goal).1 c = 0
      · have : zpi now goal c = 4 := zpi_4 h hgo (by omega)
        rw [if_neg (fun e => (zd_nn (by omega)).mp e q0), if_pos (Or.inl this), this]; rfl
      · have q1 : (zF (zo now) (zN (zw now)) goal).1 c ≠ 1 := fun e => qg (s2 c e)
        obtain ⟨p1, p2, p3⟩ := zpi_lt h hgo (show 2 ≤ (zF (zo now) (zN (zw now)) goal).1 c by omega)
        rw [if_pos ((zd_nn (by omega)).mpr q0), bnd1_e (m_leads h hN hgo hD hc (by omega))]
        by_cases qk : (zsg now c - 1) / 4 = 1
        · rw [if_pos (show nI ((zsg now c - 1) / 4) = (1 : Int32) by rw [qk]; rfl), if_neg (by omega), zdr_lt p1, nI_1, zrem4 (by omega), m_behind h hN far hc p1 p2, zdr_lt (zBe_lt p1)]
        · rw [if_neg (show ¬ nI _ = (1 : Int32) from fun e => qk ((nI_eq (by omega) (by decide : (1 : Nat) < 2 ^ 31)).mp e)), if_pos (Or.inr (by omega))]
theorem m_hasSign (h : zwf now) (hN : 1000 ≤ N) {c : Nat} (hc : c < 6 * zw now) : f_X11_hasSign N now (nI c) = some (zi (decide (zsg now c ≠ 0) && decide (3 ≤ zdg now c))) := by
  have hwl := zwf_w h
  obtain ⟨v1, v2, v3⟩ := zsg_ok h (show c < 210 by omega)
  unfold f_X11_hasSign
  rw [show (429 : Int32) + nI c = nI (429 + c) from nI_add 429 c, nI_clamp (show 429 + c < 2 ^ 31 by omega), if_neg (zck (show 429 + c < 639 by omega) (by decide)), v1]
  by_cases q : zsg now c = 0
  · rw [if_pos ((zsig v2).mpr q), decide_eq_false (by omega), Bool.false_and]; rfl
  · rw [if_neg (fun e => q ((zsig v2).mp e)), bnd1_e (m_isFork h hN hc), decide_eq_true q, Bool.true_and]
    cases decide (3 ≤ zdg now c) <;> rfl
theorem o_points (h : zwf now) (hs : zsh now w cc rc dc lo ow) (hc : zcl now sz st go le op sg) (hN : 1000 ≤ N) (re : Int32) (D Q far ring : Nat → Int32) (x : Int32) :
    ∃ r re' D' Q' far' ring', f_X10_points N w ow go op sg re D Q x = some (r, re', D', Q') ∧ f_X11_points N now far ring x = some (r, far', ring') := by
  obtain ⟨c1, c2, c3, c4, ho, c6⟩ := hc
  have hwl := zwf_w h
  unfold f_X10_points f_X11_points
  rcases zarg x with hx | ⟨a, ha, rfl⟩
  · exact ⟨-1, re, D, Q, far, ring, by rw [c_holds_neg hx, if_pos rfl], by rw [bnd1_e (m_hasRoom_neg hx), if_pos rfl]⟩
  rw [bnd1_e (m_hasRoom h ha), c_holds h hs ha]
  cases hra : zr now a with
  | false => exact ⟨-1, re, D, Q, far, ring, rfl, rfl⟩
  | true =>
    have hal := zr_lt hra
    have a210 := zr_210 h hra
    rw [if_neg (show ¬ zi true = 0 by decide), if_neg (show ¬ zi true = 0 by decide), bnd1_e (m_hasSign h hN hal), c_signCounts h ho c6 a210]
    cases hsg : (decide (zsg now a ≠ 0) && decide (3 ≤ zdg now a)) with
    | false => exact ⟨-2, re, D, Q, far, ring, rfl, rfl⟩
    | true =>
      have hv : zsg now a ≠ 0 := by
        rw [Bool.and_eq_true] at hsg
        exact of_decide_eq_true hsg.1
      obtain ⟨goal, e8, hgo⟩ := h.2.2.2.1
      obtain ⟨D', Q', e1, R1⟩ := c_spread h ho hgo hN re D Q
      obtain ⟨far', ring', e2, R2⟩ := m_lays h hgo hN far ring
      rw [if_neg (show ¬ zi true = 0 by decide), if_neg (show ¬ zi true = 0 by decide), c3, show (8 : Int32).toNatClampNeg = 8 from rfl, e8, hs.1, bnd3_e e1, bnd2_e e2, bnd1_e (c_signDirection h ho c6 hN hgo R1.1 a210 hv), bnd1_e (m_pointed h hN hgo e8 R2.1 hal hv)]
      by_cases q : zDir now goal a < 4
      · rw [if_neg (fun e => zdr_m1.mp e q), if_pos (zdr_nn.mpr q)]
        exact ⟨_, _, D', Q', far', ring', rfl, rfl⟩
      · rw [if_pos (zdr_m1.mpr q), if_neg (fun e => q (zdr_nn.mp e))]
        exact ⟨_, _, D', Q', far', ring', rfl, rfl⟩
-- the walker
noncomputable def zWo (now : Nat → Int32) (c f : Nat) : Nat := if zo now c ((f + 1) % 4) = true then (f + 1) % 4 else if zo now c ((f + 2) % 4) = true then (f + 2) % 4 else if zo now c ((f + 3) % 4) = true then (f + 3) % 4 else if zo now c ((f + 4) % 4) = true then (f + 4) % 4 else 4
noncomputable def zSn (now : Nat → Int32) (goal c : Nat) : Nat := if (decide (zsg now c ≠ 0) && decide (3 ≤ zdg now c)) = true then zDir now goal c else 4
noncomputable def zCh (now : Nat → Int32) (goal c f : Nat) : Nat := if zSn now goal c < 4 then zSn now goal c else zWo now c f
theorem zWo_ok {c f : Nat} (h : zWo now c f < 4) : zo now c (zWo now c f) = true := by
  unfold zWo at h ⊢
  by_cases h1 : zo now c ((f + 1) % 4) = true
  · rw [if_pos h1]; exact h1
  · rw [if_neg h1] at h ⊢
    by_cases h2 : zo now c ((f + 2) % 4) = true
    · rw [if_pos h2]; exact h2
    · rw [if_neg h2] at h ⊢
      by_cases h3 : zo now c ((f + 3) % 4) = true
      · rw [if_pos h3]; exact h3
      · rw [if_neg h3] at h ⊢
        by_cases h4 : zo now c ((f + 4) % 4) = true
        · rw [if_pos h4]; exact h4
        · rw [if_neg h4] at h; omega
theorem zWo_le {c f : Nat} : zWo now c f ≤ 4 := by
  unfold zWo
  repeat' (first | omega | split)
theorem zBe_ok {c f : Nat} (hf : zo now c f = true) : zo now c (zBe now c f) = true := by
  unfold zBe
  by_cases h1 : zo now c ((f + 1) % 4) = true
  · rw [if_pos h1]; exact h1
  · rw [if_neg h1]
    by_cases h2 : zo now c ((f + 2) % 4) = true
    · rw [if_pos h2]; exact h2
    · rw [if_neg h2]
      by_cases h3 : zo now c ((f + 3) % 4) = true
      · rw [if_pos h3]; exact h3
      · rw [if_neg h3]; exact hf
theorem zDir_ok {goal c : Nat} (h : zDir now goal c < 4) : zo now c (zDir now goal c) = true := by
  unfold zDir at h ⊢
  by_cases q : (zsg now c - 1) / 4 = 2
  · rw [if_pos q] at h ⊢
    by_cases q2 : zo now c ((zsg now c - 1) % 4) = true
    · rw [if_pos q2]; exact q2
    · rw [if_neg q2] at h; omega
  · rw [if_neg q] at h ⊢
    by_cases q2 : zpi now goal c = 4 ∨ (zsg now c - 1) / 4 = 0
    · rw [if_pos q2] at h ⊢
      exact (zP_ok h).1
    · rw [if_neg q2]
      have hple : zpi now goal c ≤ 4 := zP_le _ _ _ _
      exact zBe_ok (zP_ok (show zpi now goal c < 4 by omega)).1
theorem zCh_ok {goal c f : Nat} (h : zCh now goal c f < 4) : zo now c (zCh now goal c f) = true := by
  unfold zCh at h ⊢
  by_cases q : zSn now goal c < 4
  · rw [if_pos q]
    unfold zSn at q ⊢
    by_cases q2 : (decide (zsg now c ≠ 0) && decide (3 ≤ zdg now c)) = true
    · rw [if_pos q2] at q ⊢; exact zDir_ok q
    · rw [if_neg q2] at q; omega
  · rw [if_neg q] at h ⊢; exact zWo_ok h
theorem c_without (ho : ∀ c, c < 210 → op c = nI (zmf (zo now c))) (hN : 1000 ≤ N) {c f : Nat} (hc : c < 210) (hf : f < 4) : f_X8_chooseWithoutSign N (nI f) (nI c) op = some (zdr (zWo now c f)) := by
  unfold f_X8_chooseWithoutSign
  obtain ⟨M, rfl⟩ : ∃ M, N = M + 5 := ⟨N - 5, by omega⟩
  have st : ∀ K F t, 1 ≤ t → t ≤ 4 → b_X8_chooseWithoutSign_2 K (nI f) (nI c) op (F + 1) (nI t) = if zo now c ((f + t) % 4) = true then some (nI ((f + t) % 4)) else b_X8_chooseWithoutSign_2 K (nI f) (nI c) op F (nI (t + 1)) := by
    intro K F t h1 h4
    have hm := Nat.mod_lt (f + t) (by decide : 0 < 4)
    rw [b_X8_chooseWithoutSign_2, if_neg (show ¬ (4 : Int32) < nI t from nI_nlt (a := 4) h4 (by decide)), zmodI (by omega), c_isOpen ho hc hm, nI_1]
    cases zo now c ((f + t) % 4) with
    | false => rw [if_pos zi_f, if_neg zft]
    | true => rw [if_neg (show ¬ zi true = 0 by decide), if_pos rfl]
  have s1 := st (M + 5) (M + 4) 1 (by decide) (by decide)
  have s2 := st (M + 5) (M + 3) 2 (by decide) (by decide)
  have s3 := st (M + 5) (M + 2) 3 (by decide) (by decide)
  have s4 := st (M + 5) (M + 1) 4 (by decide) (by decide)
  have s5 : b_X8_chooseWithoutSign_2 (M + 5) (nI f) (nI c) op (M + 1) (nI 5) = some (-1) := by
    rw [b_X8_chooseWithoutSign_2, if_pos (show (4 : Int32) < nI 5 by decide)]
  refine Eq.trans s1 ?_
  rw [s2, s3, s4, s5]
  unfold zWo
  by_cases h1 : zo now c ((f + 1) % 4) = true
  · rw [if_pos h1, if_pos h1, zdr_lt (by omega)]
  · rw [if_neg h1, if_neg h1]
    by_cases h2 : zo now c ((f + 2) % 4) = true
    · rw [if_pos h2, if_pos h2, zdr_lt (by omega)]
    · rw [if_neg h2, if_neg h2]
      by_cases h3 : zo now c ((f + 3) % 4) = true
      · rw [if_pos h3, if_pos h3, zdr_lt (by omega)]
      · rw [if_neg h3, if_neg h3]
        by_cases h4 : zo now c ((f + 4) % 4) = true
        · rw [if_pos h4, if_pos h4, zdr_lt (by omega)]
        · rw [if_neg h4, if_neg h4]; rfl
theorem c_choose (h : zwf now) (ho : ∀ c, c < 210 → op c = nI (zmf (zo now c))) (hg : ∀ c, c < 210 → sg c = now (429 + c)) (hN : 1000 ≤ N) {goal : Nat} (hgo : zr now goal = true) {D : Nat → Int32} (hD : ∀ c, c < 210 → D c = zd ((zF (zo now) (zN (zw now)) goal).1 c)) {c f : Nat} (hc : c < 210) (hf : f < 4) :
    f_X8_choose N (nI f) (nI c) (nI (zw now)) op sg D = some (zdr (zCh now goal c f)) := by
  have b24 : ∀ s, b_X8_choose_24 N (nI f) (nI c) (nI (zw now)) op sg D (zdr s) = some (zdr (if s < 4 then s else zWo now c f)) := by
    intro s
    unfold b_X8_choose_24
    by_cases q : s < 4
    · rw [if_neg (fun e => zdr_m1.mp e q), if_pos q]
    · rw [if_pos (zdr_m1.mpr q), if_neg q, bnd1_e (c_without ho hN hc hf)]
  unfold f_X8_choose zCh zSn
  rw [c_signCounts h ho hg hc]
  cases hsg : (decide (zsg now c ≠ 0) && decide (3 ≤ zdg now c)) with
  | false =>
    rw [if_pos zi_f, if_neg zft]
    exact b24 4
  | true =>
    have hv : zsg now c ≠ 0 := by
      rw [Bool.and_eq_true] at hsg
      exact of_decide_eq_true hsg.1
    rw [if_neg (show ¬ zi true = 0 by decide), if_pos rfl, bnd1_e (c_signDirection h ho hg hN hgo hD hc hv)]
    exact b24 _
theorem m_goes (h : zwf now) (hN : 1000 ≤ N) {goal : Nat} (hgo : zr now goal = true) (e8 : now 8 = nI goal) {far : Nat → Int32} (hD : ∀ c, c < 6 * zw now → far c = zd ((zF (zo now) (zN (zw now)) goal).1 c)) {c f : Nat} (hc : c < 6 * zw now) (hf : f < 4) :
    f_X11_goes N (nI c) (nI f) now far = some (zdr (zCh now goal c f)) := by
  have b26 : ∀ s, b_X11_goes_26 N (nI c) (nI f) now far N (zdr s) 1 = some (zdr (if s < 4 then s else zWo now c f)) := by
    intro s
    obtain ⟨M, rfl⟩ : ∃ M, N = M + 6 := ⟨N - 6, by omega⟩
    have stop : ∀ K F d t, d < 4 → b_X11_goes_26 K (nI c) (nI f) now far (F + 1) (nI d) t = some (nI d) := by
      intro K F d t hd
      rw [b_X11_goes_26]
      by_cases q : (5 : Int32) ≤ t
      · rw [if_pos q]
      · rw [if_neg q, if_pos (nI_pos' (by omega))]
    by_cases q : s < 4
    · rw [if_pos q, zdr_lt q]
      exact stop (M + 6) (M + 5) s 1 q
    · rw [if_neg q, show zdr s = -1 from zdr_m1.mpr q]
      have st : ∀ K F t, 1 ≤ t → t ≤ 4 → b_X11_goes_26 K (nI c) (nI f) now far (F + 2) (-1) (nI t) = if zo now c ((f + t) % 4) = true then some (nI ((f + t) % 4)) else b_X11_goes_26 K (nI c) (nI f) now far (F + 1) (-1) (nI (t + 1)) := by
        intro K F t h1 h4
        have hm := Nat.mod_lt (f + t) (by decide : 0 < 4)
        rw [show F + 2 = (F + 1) + 1 from rfl, b_X11_goes_26, if_neg (show ¬ (5 : Int32) ≤ nI t from nI_ge (b := 5) (by omega) (by decide)), if_neg (show ¬ (0 : Int32) ≤ -1 by decide), zmodI (by omega), bnd1_e (m_isOpen h hc hm), nI_1]
        cases zo now c ((f + t) % 4) with
        | false => rw [if_pos zi_f, if_neg zft]
        | true => rw [if_neg (show ¬ zi true = 0 by decide), if_pos rfl, stop _ _ _ _ hm]
      have s1 := st (M + 6) (M + 4) 1 (by decide) (by decide)
      have s2 := st (M + 6) (M + 3) 2 (by decide) (by decide)
      have s3 := st (M + 6) (M + 2) 3 (by decide) (by decide)
      have s4 := st (M + 6) (M + 1) 4 (by decide) (by decide)
      have s5 : b_X11_goes_26 (M + 6) (nI c) (nI f) now far (M + 1 + 1) (-1) (nI 5) = some (-1) := by
        rw [b_X11_goes_26, if_pos (show (5 : Int32) ≤ nI 5 by decide)]
      refine Eq.trans s1 ?_
      rw [show M + 4 + 1 = M + 3 + 2 from rfl, s2, show M + 3 + 1 = M + 2 + 2 from rfl, s3, show M + 2 + 1 = M + 1 + 2 from rfl, s4, s5]
      unfold zWo
      by_cases h1 : zo now c ((f + 1) % 4) = true
      · rw [if_pos h1, if_pos h1, zdr_lt (by omega)]
      · rw [if_neg h1, if_neg h1]
        by_cases h2 : zo now c ((f + 2) % 4) = true
        · rw [if_pos h2, if_pos h2, zdr_lt (by omega)]
        · rw [if_neg h2, if_neg h2]
          by_cases h3 : zo now c ((f + 3) % 4) = true
          · rw [if_pos h3, if_pos h3, zdr_lt (by omega)]
          · rw [if_neg h3, if_neg h3]
            by_cases h4 : zo now c ((f + 4) % 4) = true
            · rw [if_pos h4, if_pos h4, zdr_lt (by omega)]
            · rw [if_neg h4, if_neg h4]; rfl
  unfold f_X11_goes zCh zSn
  rw [bnd1_e (m_hasSign h hN hc)]
  cases hsg : (decide (zsg now c ≠ 0) && decide (3 ≤ zdg now c)) with
  | false =>
    rw [if_pos zi_f, if_neg zft]
    exact b26 4
  | true =>
    have hv : zsg now c ≠ 0 := by
      rw [Bool.and_eq_true] at hsg
      exact of_decide_eq_true hsg.1
    rw [if_neg (show ¬ zi true = 0 by decide), if_pos rfl, bnd1_e (m_pointed h hN hgo e8 hD hc hv)]
    exact b26 _
def zV (v : Nat → Bool) (c : Nat) : Nat → Bool := fun i => if i = c then true else v i
theorem zV_row {V : Nat → Int32} {v : Nat → Bool} (h : ∀ i, i < 210 → V i = zi (v i)) (c : Nat) : ∀ i, i < 210 → upd V c 1 i = zi (zV v c i) := by
  intro i hi
  unfold zV
  by_cases q : i = c
  · rw [q, pk_us, if_pos rfl]; rfl
  · rw [pk_un q, if_neg q]; exact h i hi
theorem c_enter {V : Nat → Int32} {v : Nat → Bool} (h : ∀ i, i < 210 → V i = zi (v i)) (room : Int32) {c : Nat} (hc : c < 210) :
    t_X8_enter_0 room (nI (zCt v 210)) V (nI c) = nI c ∧ t_X8_enter_1 room (nI (zCt v 210)) V (nI c) = nI (zCt (zV v c) 210) ∧ ∀ i, i < 210 → t_X8_enter_2 room (nI (zCt v 210)) V (nI c) i = zi (zV v c i) := by
  unfold t_X8_enter_0 t_X8_enter_1 t_X8_enter_2
  rw [at_lt V (by decide) hc, h c hc]
  cases hv : v c with
  | false =>
    rw [if_pos zi_f, if_pos zi_f, if_pos zi_f, put_lt V _ (by decide) hc, nI_1]
    refine ⟨rfl, ?_, zV_row h c⟩
    refine congrArg nI (zS_up (f := fun i => (v i).toNat) (g := fun i => (zV v c i).toNat) hc ?_ ?_).symm
    · show (zV v c c).toNat = (v c).toNat + 1
      unfold zV; rw [if_pos rfl, hv]; rfl
    · intro i hi
      show (zV v c i).toNat = (v i).toNat
      unfold zV; rw [if_neg hi]
  | true =>
    have e : zV v c = v := by
      funext i
      unfold zV
      by_cases q : i = c
      · rw [if_pos q, q, hv]
      · rw [if_neg q]
    rw [if_neg (show ¬ zi true = 0 by decide), if_neg (show ¬ zi true = 0 by decide), if_neg (show ¬ zi true = 0 by decide), e]
    exact ⟨rfl, rfl, h⟩
theorem zwalk (h : zwf now) (ho : ∀ c, c < 210 → op c = nI (zmf (zo now c))) (hg : ∀ c, c < 210 → sg c = now (429 + c)) (hN : 1000 ≤ N) {goal : Nat} (hgo : zr now goal = true) (e8 : now 8 = nI goal) {D far : Nat → Int32} (hD : ∀ c, c < 210 → D c = zd ((zF (zo now) (zN (zw now)) goal).1 c)) (hF : ∀ c, c < 6 * zw now → far c = zd ((zF (zo now) (zN (zw now)) goal).1 c)) (st0 re : Int32) (Q ring : Nat → Int32) {most : Nat} (hm : most ≤ 2000) :
    ∀ n t F G c f v V Wa, t + n = most → n < F → n + 1 < G → zr now c = true → f < 4 → (∀ i, i < 210 → V i = zi (v i)) → (∀ i, i < 210 → Wa i = zi (v i)) →
      ∃ f' c' t' v' V' Wa', b_X8_go_49 N (nI (zw now)) st0 (nI goal) op sg (nI most) F (nI t) (nI f) (nI c) (nI t) (nI (zCt v 210)) V re D Q = some (nI f', nI c', nI t', nI (zCt v' 210), V', re, D, Q) ∧
        b_X11_walks_66 N now (nI most) G 1 (nI c) (nI f) (nI t) far ring Wa = some (nI c', nI f', nI t', far, ring, Wa') ∧ (∀ i, i < 210 → Wa' i = zi (v' i)) := by
  have g210 := zr_210 h hgo
  intro n
  induction n with
  | zero =>
    intro t F G c f v V Wa ht hF' hG' hc hf hV hW
    obtain ⟨F, rfl⟩ : ∃ x, F = x + 1 := ⟨F - 1, by omega⟩
    obtain ⟨G, rfl⟩ : ∃ x, G = x + 1 := ⟨G - 1, by omega⟩
    refine ⟨f, c, t, v, V, Wa, ?_, ?_, hW⟩
    · rw [b_X8_go_49, if_pos (nI_le (by omega) (by omega))]
    · rw [b_X11_walks_66, if_pos (nI_le (by omega) (by omega))]
  | succ n ih =>
    intro t F G c f v V Wa ht hF' hG' hc hf hV hW
    obtain ⟨F, rfl⟩ : ∃ x, F = x + 1 := ⟨F - 1, by omega⟩
    obtain ⟨G, rfl⟩ : ∃ x, G = x + 1 := ⟨G - 1, by omega⟩
    have c210 := zr_210 h hc
    rw [b_X8_go_49, if_neg (nI_ge (by omega) (by omega)), b_X11_walks_66, if_neg (nI_ge (by omega) (by omega)), show (8 : Int32).toNatClampNeg = 8 from rfl, e8]
    by_cases qg : c = goal
    · rw [if_pos (by rw [qg]), if_pos (by rw [qg])]
      exact ⟨f, c, t, v, V, Wa, rfl, rfl, hW⟩
    · have hne : ¬ nI c = nI goal := fun e => qg ((nI_eq (by omega) (by omega)).mp e)
      rw [if_neg hne, if_neg hne, if_neg (show ¬ (1 : Int32) = 0 by decide), bnd1_e (c_choose h ho hg hN hgo hD c210 hf), bnd1_e (m_goes h hN hgo e8 hF (zr_lt hc) hf)]
      by_cases q : zCh now goal c f < 4
      · have hop := zCh_ok q
        obtain ⟨g1, g2, g3, g4⟩ := (zgr h).1 c _ q hop
        have r210 := zr_210 h g2
        obtain ⟨n1, n2, n3⟩ := c_enter hV (nI c) r210
        have em : (nI (zCh now goal c f) + (2 : Int32)) - (nI (zCh now goal c f) + (2 : Int32)) / (4 : Int32) * (4 : Int32) = nI (zO (zCh now goal c f)) := zmodI (b := 2) (by omega)
        rw [if_neg (fun e => zdr_m1.mp e q), if_neg (fun e => zdr_neg.mp e q), zdr_lt q, c_stride h q (zo_h.mp hop).1, zopp _ q, n1, n2, nI_1]
        unfold b_X11_walks_106
        rw [if_neg (by decide), bnd1_e (show f_X11_beside now (nI c) (nI (zCh now goal c f)) = some (nI (zN (zw now) c (zCh now goal c f))) by rw [m_beside h (zr_lt hc) q, if_pos (zo_h.mp hop).1]), nI_clamp (show zN (zw now) c (zCh now goal c f) < 2 ^ 31 by omega), if_neg (zck r210 (by decide)), em, nI_1]
        exact ih (t + 1) F G _ (zO (zCh now goal c f)) (zV v _) _ _ (by omega) (by omega) (by omega) g2 (zO_lt _) n3 (zV_row hW _)
      · rw [if_pos (zdr_m1.mpr q), if_pos (zdr_neg.mpr q)]
        unfold b_X11_walks_106
        rw [if_pos rfl]
        obtain ⟨G, rfl⟩ : ∃ x, G = x + 1 := ⟨G - 1, by omega⟩
        rw [b_X11_walks_66, if_neg (nI_ge (by omega) (by omega)), show (8 : Int32).toNatClampNeg = 8 from rfl, e8, if_neg hne, if_pos rfl]
        exact ⟨f, c, t, v, V, Wa, rfl, rfl, hW⟩
theorem zgo (h : zwf now) (ho : ∀ c, c < 210 → op c = nI (zmf (zo now c))) (hg : ∀ c, c < 210 → sg c = now (429 + c)) (hN : 10000 ≤ N) (hst0 : st = now 7) (hgo0 : go = now 8) (cf room steps diff re : Int32) (V D Q : Nat → Int32) (wk fr stp : Int32) (far ring Wa : Nat → Int32) {most : Nat} (hm : most ≤ 2000) :
    ∃ f' c' t' v' V' re' D' Q' far' ring' Wa', f_X8_go N cf room steps diff V (nI (zw now)) st go op sg re D Q (nI most) = some (nI f', nI c', nI t', nI (zCt v' 210), V', re', D', Q') ∧
      f_X11_walks N wk fr stp now far ring Wa (nI most) = some (nI c', nI f', nI t', far', ring', Wa') ∧ (∀ i, i < 210 → Wa' i = zi (v' i)) := by
  have hwl := zwf_w h
  obtain ⟨start, e7, hst⟩ := h.2.2.1
  obtain ⟨goal, e8, hgo⟩ := h.2.2.2.1
  obtain ⟨D', Q', e1, R1⟩ := c_spread h ho hgo (show 1000 ≤ N by omega) re D Q
  obtain ⟨far', ring', e2, R2⟩ := m_lays h hgo (show 1000 ≤ N by omega) far ring
  have s210 := zr_210 h hst
  have hV0 : ∀ i, i < 210 → ffill 210 0 V i = zi ((fun _ => false) i) := fun i hi => ffill_lt hi
  have z0 : zCt (fun _ => false) 210 = 0 := zS_0 210
  obtain ⟨n1, n2, n3⟩ := c_enter hV0 room s210
  rw [z0] at n1 n2 n3
  unfold f_X8_go f_X11_walks
  rw [hst0, hgo0, show (8 : Int32).toNatClampNeg = 8 from rfl, e7, e8, bnd3_e e1, bnd2_e e2, bnd1_e (fill_4 (by decide) (by omega) V 0), show (0 : Int32) = nI 0 from rfl, show ffill 210 (nI 0) V = ffill 210 0 V from rfl, n1, n2]
  have key : ∀ k, k ≤ 210 → ∀ F, 210 - k < F → ∀ W0, (∀ i, i < k → W0 i = 0) → ∃ f' c' t' v' V' Wa', b_X8_go_49 N (nI (zw now)) (nI start) (nI goal) op sg (nI most) N (nI 0) 2 (nI start) (nI 0) (nI (zCt (zV (fun _ => false) start) 210)) (t_X8_enter_2 room (nI 0) (ffill 210 0 V) (nI start)) (nI (zF (zo now) (zN (zw now)) goal).2.2) D' Q' = some (nI f', nI c', nI t', nI (zCt v' 210), V', nI (zF (zo now) (zN (zw now)) goal).2.2, D', Q') ∧
      b_X11_walks_13 N now (nI most) F (nI k) wk fr stp far' ring' W0 = some (nI c', nI f', nI t', far', ring', Wa') ∧ (∀ i, i < 210 → Wa' i = zi (v' i)) := by
    refine dn 210 ?_ ?_
    · intro F hF W0 hW0
      obtain ⟨F, rfl⟩ : ∃ G, F = G + 1 := ⟨F - 1, by omega⟩
      rw [b_X11_walks_13, if_pos (show (210 : Int32) ≤ nI 210 by decide), show (7 : Int32).toNatClampNeg = 7 from rfl, e7, nI_clamp (show start < 2 ^ 31 by omega), if_neg (zck s210 (by decide))]
      exact zwalk h ho hg (by omega) hgo e8 R1.1 R2.1 (nI start) (nI (zF (zo now) (zN (zw now)) goal).2.2) Q' ring' hm most 0 N N start 2 (zV (fun _ => false) start) _ _ (by omega) (by omega) (by omega) hst (by decide) n3 (zV_row (fun i hi => hW0 i hi) start)
    · intro k hk ih F hF W0 hW0
      obtain ⟨F, rfl⟩ : ∃ G, F = G + 1 := ⟨F - 1, by omega⟩
      rw [b_X11_walks_13, if_neg (show ¬ (210 : Int32) ≤ nI k from nI_ge (b := 210) hk (by decide)), nI_clamp (show k < 2 ^ 31 by omega), if_neg (zck (show k < 210 by omega) (by decide)), nI_1]
      refine ih F (by omega) _ (fun i hi => ?_)
      by_cases q : i = k
      · rw [q, pk_us]
      · rw [pk_un q]; exact hW0 i (by omega)
  obtain ⟨f', c', t', v', V', Wa', k1, k2, k3⟩ := key 0 (Nat.zero_le _) N (by omega) Wa (fun i hi => absurd hi (Nat.not_lt_zero i))
  exact ⟨f', c', t', v', V', _, D', Q', far', ring', Wa', k1, k2, k3⟩
theorem m_was (hN : 10000 ≤ N) (x y a b c : Int32) (far ring : Nat → Int32) {Wa : Nat → Int32} {v : Nat → Bool} (hW : ∀ i, i < 210 → Wa i = zi (v i)) :
    b_X11_walk_32 N now x y N 0 0 a b c far ring Wa = some (if y = 0 then a else if y = 1 then c else nI (zCt v 210), a, b, c, far, ring, Wa) := by
  have key : ∀ k, k ≤ 210 → ∀ F, 210 - k < F → b_X11_walk_32 N now x y F (nI (zCt v k)) (nI k) a b c far ring Wa = some (if y = 0 then a else if y = 1 then c else nI (zCt v 210), a, b, c, far, ring, Wa) := by
    refine dn 210 ?_ ?_
    · intro F hF
      obtain ⟨F, rfl⟩ : ∃ G, F = G + 1 := ⟨F - 1, by omega⟩
      rw [b_X11_walk_32, if_pos (show (210 : Int32) ≤ nI 210 by decide)]
      by_cases q0 : y = 0
      · rw [if_pos q0, if_pos q0]
      · rw [if_neg q0, if_neg q0]
        by_cases q1 : y = 1
        · rw [if_pos q1, if_pos q1]
        · rw [if_neg q1, if_neg q1]
    · intro k hk ih F hF
      obtain ⟨F, rfl⟩ : ∃ G, F = G + 1 := ⟨F - 1, by omega⟩
      have hih := ih F (by omega)
      rw [zCt_s] at hih
      rw [b_X11_walk_32, if_neg (show ¬ (210 : Int32) ≤ nI k from nI_ge (b := 210) hk (by decide)), nI_clamp (show k < 2 ^ 31 by omega), if_neg (zck (show k < 210 by omega) (by decide)), hW k hk, nI_1 k]
      cases hv : v k with
      | false =>
        rw [hv] at hih
        rw [if_pos zi_f, zs0]; exact hih
      | true =>
        rw [hv] at hih
        rw [if_neg (show ¬ zi true = 0 by decide), zs1]; exact hih
  exact key 0 (Nat.zero_le _) N (by omega)
theorem o_walk (h : zwf now) (hs : zsh now w cc rc dc lo ow) (hc : zcl now sz st go le op sg) (hN : 10000 ≤ N) (re cf room steps diff : Int32) (D Q V : Nat → Int32) (wk fr stp : Int32) (far ring Wa : Nat → Int32) (x y : Int32) :
    ∃ r re' D' Q' cf' room' steps' diff' V' wk' fr' stp' far' ring' Wa', f_X10_walk N w st go op sg re D Q cf room steps diff V x y = some (r, re', D', Q', cf', room', steps', diff', V') ∧ f_X11_walk N wk fr stp now far ring Wa x y = some (r, wk', fr', stp', far', ring', Wa') := by
  obtain ⟨c1, c2, c3, c4, ho, c6⟩ := hc
  unfold f_X10_walk f_X11_walk
  rcases zarg x with hx | ⟨i, hi, rfl⟩
  · rw [if_pos hx, zin_neg hx, if_pos rfl]
    exact ⟨-1, re, D, Q, cf, room, steps, diff, V, wk, fr, stp, far, ring, Wa, rfl, rfl⟩
  rw [if_neg (nI_pos hi), show t_X11_in (nI i) 0 (2000 : Int32) = zi (decide (i ≤ 2000)) from zin hi (by decide)]
  by_cases q : i ≤ 2000
  · rw [if_neg (show ¬ (2000 : Int32) < nI i from nI_nlt (a := 2000) q (by decide)), decide_eq_true q, if_neg (show ¬ zi true = 0 by decide)]
    rcases zarg y with hy | ⟨j, hj, rfl⟩
    · rw [if_pos hy, zin_neg hy, if_pos rfl]
      exact ⟨-1, re, D, Q, cf, room, steps, diff, V, wk, fr, stp, far, ring, Wa, rfl, rfl⟩
    rw [if_neg (nI_pos hj), show t_X11_in (nI j) 0 (2 : Int32) = zi (decide (j ≤ 2)) from zin hj (by decide)]
    by_cases q2 : j ≤ 2
    · obtain ⟨f', c', t', v', V', re', D', Q', far', ring', Wa', k1, k2, k3⟩ := zgo h ho c6 hN c2 c3 cf room steps diff re V D Q wk fr stp far ring Wa q
      rw [if_pos (show nI j ≤ (2 : Int32) from nI_le q2 (by decide)), decide_eq_true q2, if_neg (show ¬ zi true = 0 by decide), hs.1, bnd8_e k1, bnd6_e k2, m_was hN _ _ _ _ _ _ _ k3]
      refine ⟨if nI j = 0 then nI c' else if nI j = 1 then nI t' else nI (zCt v' 210), re', D', Q', nI f', nI c', nI t', nI (zCt v' 210), V', nI c', nI f', nI t', far', ring', Wa', ?_, rfl⟩
      by_cases q0 : nI j = 0
      · rw [if_pos q0, if_pos q0]
      · rw [if_neg q0, if_neg q0]
        by_cases q1 : nI j = 1
        · rw [if_pos q1, if_pos q1]
        · rw [if_neg q1, if_neg q1]
    · rw [if_neg (show ¬ nI j ≤ (2 : Int32) from nI_ge (a := 2) (by omega) hj), decide_eq_false q2, if_pos zi_f]
      exact ⟨-1, re, D, Q, cf, room, steps, diff, V, wk, fr, stp, far, ring, Wa, rfl, rfl⟩
  · rw [if_pos (show (2000 : Int32) < nI i from nI_lt (a := 2000) (by omega) hi), decide_eq_false q, if_pos zi_f]
    exact ⟨-1, re, D, Q, cf, room, steps, diff, V, wk, fr, stp, far, ring, Wa, rfl, rfl⟩
theorem o_walked (h : zwf now) (hs : zsh now w cc rc dc lo ow) (hc : zcl now sz st go le op sg) (hN : 10000 ≤ N) (re cf room steps diff : Int32) (D Q V : Nat → Int32) (wk fr stp : Int32) (far ring Wa : Nat → Int32) :
    ∃ r re' D' Q' cf' room' steps' diff' V' wk' fr' stp' far' ring' Wa', f_X10_walked N w st go op sg re D Q cf room steps diff V = some (r, re', D', Q', cf', room', steps', diff', V') ∧ f_X11_walked N wk fr stp now far ring Wa = some (r, wk', fr', stp', far', ring', Wa') := by
  obtain ⟨c1, c2, c3, c4, ho, c6⟩ := hc
  unfold f_X10_walked f_X11_walked
  obtain ⟨f', c', t', v', V', re', D', Q', far', ring', Wa', k1, k2, k3⟩ := zgo h ho c6 hN c2 c3 cf room steps diff re V D Q wk fr stp far ring Wa (Nat.le_refl 2000)
  rw [hs.1, bnd8_e (show f_X8_go N cf room steps diff V (nI (zw now)) st go op sg re D Q 2000 = _ from k1), bnd6_e (show f_X11_walks N wk fr stp now far ring Wa 2000 = _ from k2), show (8 : Int32).toNatClampNeg = 8 from rfl, ← c3]
  by_cases q : nI c' = go
  · rw [if_pos q, if_pos q]
    exact ⟨_, re', D', Q', _, _, _, _, V', _, _, _, far', ring', Wa', rfl, rfl⟩
  · rw [if_neg q, if_neg q]
    exact ⟨_, re', D', Q', _, _, _, _, V', _, _, _, far', ring', Wa', rfl, rfl⟩
end OP4

-- changed rows stay well formed
theorem zwf_of {now now' : Nat → Int32} (h : zwf now) (e : ∀ k, k < 7 → now' k = now k) (h3 : ∃ s, now' 7 = nI s ∧ zr now s = true) (h4 : ∃ g, now' 8 = nI g ∧ zr now g = true)
    (h5 : ∀ c, c < 210 → now' (9 + c) = 0 ∨ (now' (9 + c) = 1 ∧ zr now c = true ∧ zh now c 1 = true)) (h6 : ∀ c, c < 210 → now' (219 + c) = 0 ∨ (now' (219 + c) = 1 ∧ zr now c = true ∧ zh now c 2 = true))
    (h7 : ∀ c, c < 210 → ∃ v, v ≤ 12 ∧ now' (429 + c) = nI v ∧ (v ≠ 0 → zr now c = true)) (h8 : zCt (fun c => decide (now' (429 + c) ≠ 0)) 210 ≤ 20) : zwf now' := by
  obtain ⟨e1, e2, e3, e4, e5⟩ := zsame h e
  have hn := zwf_n h
  unfold zwf
  rw [e1, e3, e4]
  refine ⟨⟨zn now, hn.1, hn.2.1, by rw [e 0 (by decide)]; exact hn.2.2⟩, fun k hk => ?_, h3, h4, h5, h6, h7, h8⟩
  rw [e (1 + k) (by omega)]
  exact h.2.1 k hk
theorem zwf_door {now : Nat → Int32} (h : zwf now) {c d : Nat} (hd : d < 4) (hc : zr now c = true) (hh : zh now c d = true) (v : Bool) : zwf (upd now (za now c d) (zi v)) := by
  obtain ⟨l1, l2⟩ := za_lo h hd hh
  obtain ⟨b1, b2, b3, b4⟩ := zh_back h hd hc hh
  have hw := zwf_w h
  have hc2 := zr_lt hc
  have n1 := zr_lt b1
  have u : ∀ k, k ≠ za now c d → upd now (za now c d) (zi v) k = now k := fun k hk => pk_un hk
  have vz : zi v = 0 ∨ zi v = 1 := by cases v; exact Or.inl rfl; exact Or.inr rfl
  refine zwf_of h (fun k hk => u k (by omega)) ?_ ?_ ?_ ?_ ?_ ?_
  · rw [u 7 (by omega)]; exact h.2.2.1
  · rw [u 8 (by omega)]; exact h.2.2.2.1
  · intro c' hc'
    by_cases q : 9 + c' = za now c d
    · rw [q, pk_us]
      rcases vz with q2 | q2
      · exact Or.inl q2
      · right
        refine ⟨q2, ?_⟩
        rcases zd4 hd with rfl | rfl | rfl | rfl
        · have q : 9 + c' = 219 + c - zw now := q
          have := (zh_0.mp hh).1
          omega
        · have q : 9 + c' = 9 + c := q
          have : c' = c := by omega
          rw [this]; exact ⟨hc, hh⟩
        · have q : 9 + c' = 219 + c := q
          omega
        · have q : 9 + c' = 9 + c - 1 := q
          have := (zmod_dn (by omega : 0 < zw now) (zh_3.mp hh).1).2
          have e : c' = c - 1 := by omega
          rw [e]; exact ⟨b1, b2⟩
    · rw [u _ q]; exact h.2.2.2.2.1 c' hc'
  · intro c' hc'
    by_cases q : 219 + c' = za now c d
    · rw [q, pk_us]
      rcases vz with q2 | q2
      · exact Or.inl q2
      · right
        refine ⟨q2, ?_⟩
        rcases zd4 hd with rfl | rfl | rfl | rfl
        · have q : 219 + c' = 219 + c - zw now := q
          have := (zh_0.mp hh).1
          have e : c' = c - zw now := by omega
          rw [e]; exact ⟨b1, b2⟩
        · have q : 219 + c' = 9 + c := q
          omega
        · have q : 219 + c' = 219 + c := q
          have : c' = c := by omega
          rw [this]; exact ⟨hc, hh⟩
        · have q : 219 + c' = 9 + c - 1 := q
          omega
    · rw [u _ q]; exact h.2.2.2.2.2.1 c' hc'
  · intro c' hc'
    rw [u _ (by omega)]; exact h.2.2.2.2.2.2.1 c' hc'
  · rw [zCt_congr (q := fun c => decide (now (429 + c) ≠ 0)) 210 (fun c' hc' => by rw [u _ (by omega)])]
    exact h.2.2.2.2.2.2.2
-- the doors in a row
noncomputable def zvd (now : Nat → Int32) (q : Nat) : Bool := zr now (q / 2) && zh now (q / 2) (1 + q % 2)
def zDa (v : Nat → Bool) : Nat → (Nat → Nat)
  | 0 => fun _ => 0
  | k + 1 => if v k = true then zU (zDa v k) (zCt v k) k else zDa v k
theorem zDa_ok (v : Nat → Bool) : ∀ k j, j < zCt v k → v (zDa v k j) = true ∧ zDa v k j < k
  | 0, j, h => absurd h (Nat.not_lt_zero j)
  | k + 1, j, h => by
    rw [zCt_s] at h
    rw [zDa]
    cases hv : v k with
    | false =>
      rw [hv] at h
      have h : j < zCt v k + 0 := h
      rw [if_neg (by decide)]
      obtain ⟨a, b⟩ := zDa_ok v k j h
      exact ⟨a, by omega⟩
    | true =>
      rw [hv] at h
      have h : j < zCt v k + 1 := h
      rw [if_pos rfl]
      by_cases q : j = zCt v k
      · rw [q, zU_s]; exact ⟨hv, Nat.lt_succ_self k⟩
      · rw [zU_n q]
        obtain ⟨a, b⟩ := zDa_ok v k j (by omega)
        exact ⟨a, by omega⟩
theorem zDa_stop {v : Nat → Bool} {a : Nat} (h : ∀ q, a ≤ q → v q = false) : ∀ j, zDa v (a + j) = zDa v a
  | 0 => rfl
  | j + 1 => by
    rw [show a + (j + 1) = (a + j) + 1 from rfl, zDa, h (a + j) (by omega), if_neg (by decide), zDa_stop h j]
def zcode (q : Nat) : Nat := 4 * (q / 2) + (1 + q % 2)
section MAK
variable {now op ow : Nat → Int32} {w cc rc dc lo : Int32} {N : Nat}
theorem c_ld1 (hw : zwf now) (hs : zsh now w cc rc dc lo ow) {P : Option (Int32 × (Nat → Int32)) → Prop} {k4 : Int32 → Int32 → (Nat → Int32) → Option (Int32 × (Nat → Int32))} {q F : Nat} (hq : q < 420) {o : Nat → Int32} (ho : ∀ j, j < zCt (zvd now) q → o j = nI (zcode (zDa (zvd now) q j)))
    (hP : ∀ o', (∀ j, j < zCt (zvd now) (q + 1) → o' j = nI (zcode (zDa (zvd now) (q + 1) j))) → P (b_X3_listDoors_14 N w ow k4 F (nI (zCt (zvd now) (q + 1))) (nI (q / 2)) (nI (1 + q % 2 + 1)) o')) :
    P (b_X3_listDoors_14 N w ow k4 (F + 1) (nI (zCt (zvd now) q)) (nI (q / 2)) (nI (1 + q % 2)) o) := by
  have hl := zCt_le (zvd now) q
  rw [b_X3_listDoors_14, if_neg (show ¬ (2 : Int32) < nI (1 + q % 2) from nI_nlt (a := 2) (by omega) (by decide)), c_hasDoor hw hs (by omega) (by omega), nI_1]
  have hP2 := hP
  rw [zCt_s, zDa] at hP
  show P (if zi (zvd now q) = 0 then _ else _)
  cases hv : zvd now q with
  | false =>
    rw [if_pos zi_f]
    rw [hv, if_neg (by decide)] at hP
    exact hP o (fun j hj => ho j (by simpa using hj))
  | true =>
    rw [if_neg (by decide), put_lt o _ (by decide) (show zCt (zvd now) q < 420 by omega), nI_1]
    rw [hv, if_pos rfl] at hP
    refine hP _ (fun j hj => ?_)
    have hj : j < zCt (zvd now) q + 1 := hj
    by_cases e : j = zCt (zvd now) q
    · rw [e, pk_us, zU_s]
      show nI 4 * nI (q / 2) + nI (1 + q % 2) = nI (zcode q)
      rw [pk_mul, nI_add]; rfl
    · rw [pk_un e, zU_n e]; exact ho j (by omega)
theorem c_listDoors (hw : zwf now) (hs : zsh now w cc rc dc lo ow) (hN : 1000 ≤ N) (o : Nat → Int32) :
    ∃ o', f_X3_listDoors N o w ow = some (nI (zCt (zvd now) 420), o') ∧ ∀ j, j < zCt (zvd now) 420 → o' j = nI (zcode (zDa (zvd now) 420 j)) := by
  unfold f_X3_listDoors
  have key : ∀ k, k ≤ 210 → ∀ F, 210 - k < F → ∀ o, (∀ j, j < zCt (zvd now) (2 * k) → o j = nI (zcode (zDa (zvd now) (2 * k) j))) → ∃ o', b_X3_listDoors_4 N w ow F (nI (zCt (zvd now) (2 * k))) (nI k) o = some (nI (zCt (zvd now) 420), o') ∧ ∀ j, j < zCt (zvd now) 420 → o' j = nI (zcode (zDa (zvd now) 420 j)) := by
    refine dn 210 ?_ ?_
    · intro F hF o ho
      obtain ⟨F, rfl⟩ : ∃ G, F = G + 1 := ⟨F - 1, by omega⟩
      rw [b_X3_listDoors_4, if_pos (show (210 : Int32) ≤ nI 210 by decide)]
      exact ⟨o, rfl, ho⟩
    · intro k hk ih F hF o ho
      obtain ⟨F, rfl⟩ : ∃ G, F = G + 1 := ⟨F - 1, by omega⟩
      rw [b_X3_listDoors_4, if_neg (show ¬ (210 : Int32) ≤ nI k from nI_ge (b := 210) hk (by decide))]
      obtain ⟨M, hM⟩ : ∃ M, N = M + 3 := ⟨N - 3, by omega⟩
      have g : ∀ o', (∀ j, j < zCt (zvd now) (2 * k + 1 + 1) → o' j = nI (zcode (zDa (zvd now) (2 * k + 1 + 1) j))) → ∃ o'', b_X3_listDoors_14 N w ow (b_X3_listDoors_4 N w ow F) (M + 1) (nI (zCt (zvd now) (2 * k + 1 + 1))) (nI ((2 * k + 1) / 2)) (nI (1 + (2 * k + 1) % 2 + 1)) o' = some (nI (zCt (zvd now) 420), o'') ∧ ∀ j, j < zCt (zvd now) 420 → o'' j = nI (zcode (zDa (zvd now) 420 j)) := by
        intro o' ho'
        rw [b_X3_listDoors_14, show 1 + (2 * k + 1) % 2 + 1 = 3 by omega, if_pos (show (2 : Int32) < nI 3 by decide), show (2 * k + 1) / 2 = k by omega, nI_1, show 2 * k + 1 + 1 = 2 * (k + 1) by omega]
        exact ih F (by omega) o' ho'
      have s2 : ∀ o', (∀ j, j < zCt (zvd now) (2 * k + 1) → o' j = nI (zcode (zDa (zvd now) (2 * k + 1) j))) → ∃ o'', b_X3_listDoors_14 N w ow (b_X3_listDoors_4 N w ow F) (M + 2) (nI (zCt (zvd now) (2 * k + 1))) (nI (2 * k / 2)) (nI (1 + 2 * k % 2 + 1)) o' = some (nI (zCt (zvd now) 420), o'') ∧ ∀ j, j < zCt (zvd now) 420 → o'' j = nI (zcode (zDa (zvd now) 420 j)) := by
        intro o' ho'
        have := c_ld1 (P := fun x => ∃ o'', x = some (nI (zCt (zvd now) 420), o'') ∧ ∀ j, j < zCt (zvd now) 420 → o'' j = nI (zcode (zDa (zvd now) 420 j))) (q := 2 * k + 1) hw hs (by omega) ho' g
        rw [show (2 * k + 1) / 2 = 2 * k / 2 by omega, show 1 + (2 * k + 1) % 2 = 1 + 2 * k % 2 + 1 by omega] at this
        exact this
      have s1 := c_ld1 (P := fun x => ∃ o'', x = some (nI (zCt (zvd now) 420), o'') ∧ ∀ j, j < zCt (zvd now) 420 → o'' j = nI (zcode (zDa (zvd now) 420 j))) (q := 2 * k) (F := M + 2) (N := N) (k4 := b_X3_listDoors_4 N w ow F) hw hs (by omega) ho s2
      rw [show 2 * k / 2 = k by omega, show 1 + 2 * k % 2 = 1 by omega, ← hM] at s1
      exact s1
  exact key 0 (by omega) N (by omega) o (fun j hj => absurd hj (Nat.not_lt_zero j))
theorem m_cd1 (hw : zwf now) {P : Option (Int32 × (Nat → Int32)) → Prop} {k7 : Int32 → Int32 → (Nat → Int32) → Option (Int32 × (Nat → Int32))} {q F : Nat} (hq : q / 2 < 6 * zw now) (hr : zr now (q / 2) = true) {o : Nat → Int32} (ho : ∀ j, j < zCt (zvd now) q → o j = nI (zDa (zvd now) q j))
    (hP : ∀ o', (∀ j, j < zCt (zvd now) (q + 1) → o' j = nI (zDa (zvd now) (q + 1) j)) → P (b_X11_countsDoors_25 N now k7 F (nI (q / 2)) (nI (1 + q % 2 + 1)) (nI (zCt (zvd now) (q + 1))) o')) :
    P (b_X11_countsDoors_25 N now k7 (F + 1) (nI (q / 2)) (nI (1 + q % 2)) (nI (zCt (zvd now) q)) o) := by
  have hwl := zwf_w hw
  have hl := zCt_le (zvd now) q
  rw [b_X11_countsDoors_25, if_neg (show ¬ (3 : Int32) ≤ nI (1 + q % 2) from nI_ge (b := 3) (by omega) (by decide)), bnd1_e (m_beside hw hq (by omega)), nI_1]
  rw [zCt_s, zDa] at hP
  have hv : zvd now q = zh now (q / 2) (1 + q % 2) := by unfold zvd; rw [hr, Bool.true_and]
  cases hh : zh now (q / 2) (1 + q % 2) with
  | false =>
    rw [if_neg zft, if_pos zneg1]
    rw [hv, hh, if_neg (by decide)] at hP
    exact hP o (fun j hj => ho j (by simpa using hj))
  | true =>
    rw [if_pos (rfl : true = true), if_neg (nI_pos (zN_lt hw (zr_210 hw hr))), nI_clamp (show zCt (zvd now) q < 2 ^ 31 by omega), if_neg (zck (show zCt (zvd now) q < 420 by omega) (by decide)), nI_1]
    rw [hv, hh, if_pos rfl] at hP
    refine hP _ (fun j hj => ?_)
    have hj : j < zCt (zvd now) q + 1 := hj
    by_cases e : j = zCt (zvd now) q
    · rw [e, pk_us, zU_s]
      show nI 2 * nI (q / 2) + nI (1 + q % 2) - nI 1 = nI q
      rw [pk_mul, nI_add, pk_sub (by omega)]
      exact congrArg nI (by omega)
    · rw [pk_un e, zU_n e]; exact ho j (by omega)
theorem m_countsDoors (hw : zwf now) (hN : 1000 ≤ N) (dm : Int32) (o : Nat → Int32) :
    ∃ o', f_X11_countsDoors N dm now o = some (nI (zCt (zvd now) 420), o') ∧ ∀ j, j < zCt (zvd now) 420 → o' j = nI (zDa (zvd now) 420 j) := by
  have hwl := zwf_w hw
  unfold f_X11_countsDoors
  have hbig : ∀ q, 2 * (6 * zw now) ≤ q → zvd now q = false := fun q hq => by unfold zvd; rw [zr_big hw (show 6 * zw now ≤ q / 2 by omega)]; rfl
  have e1 : zCt (zvd now) 420 = zCt (zvd now) (2 * (6 * zw now)) := zCt_cut (by omega) hbig
  have e2 : zDa (zvd now) 420 = zDa (zvd now) (2 * (6 * zw now)) := by
    have := zDa_stop hbig (420 - 2 * (6 * zw now))
    rw [show 2 * (6 * zw now) + (420 - 2 * (6 * zw now)) = 420 by omega] at this
    exact this
  have key : ∀ k, k ≤ 6 * zw now → ∀ F, 6 * zw now - k < F → ∀ o, (∀ j, j < zCt (zvd now) (2 * k) → o j = nI (zDa (zvd now) (2 * k) j)) → ∃ o', b_X11_countsDoors_7 N now F (nI k) (nI (zCt (zvd now) (2 * k))) o = some (nI (zCt (zvd now) 420), o') ∧ ∀ j, j < zCt (zvd now) 420 → o' j = nI (zDa (zvd now) 420 j) := by
    refine dn _ ?_ ?_
    · intro F hF o ho
      obtain ⟨F, rfl⟩ : ∃ G, F = G + 1 := ⟨F - 1, by omega⟩
      rw [b_X11_countsDoors_7, m_cells hw, if_pos (nI_le (Nat.le_refl _) (by omega)), e1, e2]
      exact ⟨o, rfl, ho⟩
    · intro k hk ih F hF o ho
      obtain ⟨F, rfl⟩ : ∃ G, F = G + 1 := ⟨F - 1, by omega⟩
      rw [b_X11_countsDoors_7, m_cells hw, if_neg (nI_ge hk (by omega)), bnd1_e (m_isRoomAt hw hk)]
      cases hr : zr now k with
      | false =>
        have f1 : zvd now (2 * k) = false := by unfold zvd; rw [show 2 * k / 2 = k by omega, hr]; rfl
        have f2 : zvd now (2 * k + 1) = false := by unfold zvd; rw [show (2 * k + 1) / 2 = k by omega, hr]; rfl
        have c1 : zCt (zvd now) (2 * (k + 1)) = zCt (zvd now) (2 * k) := by rw [show 2 * (k + 1) = 2 * k + 1 + 1 by omega, zCt_s, zCt_s, f1, f2]; rfl
        have c2 : zDa (zvd now) (2 * (k + 1)) = zDa (zvd now) (2 * k) := by rw [show 2 * (k + 1) = 2 * k + 1 + 1 by omega, zDa, zDa, f1, f2, if_neg (by decide), if_neg (by decide)]
        rw [if_pos zi_f, nI_1]
        have := ih F (by omega) o (by rw [c1, c2]; exact ho)
        rw [c1] at this
        exact this
      | true =>
        rw [if_neg (by decide)]
        obtain ⟨M, hM⟩ : ∃ M, N = M + 3 := ⟨N - 3, by omega⟩
        have g : ∀ o', (∀ j, j < zCt (zvd now) (2 * k + 1 + 1) → o' j = nI (zDa (zvd now) (2 * k + 1 + 1) j)) → ∃ o'', b_X11_countsDoors_25 N now (b_X11_countsDoors_7 N now F) (M + 1) (nI ((2 * k + 1) / 2)) (nI (1 + (2 * k + 1) % 2 + 1)) (nI (zCt (zvd now) (2 * k + 1 + 1))) o' = some (nI (zCt (zvd now) 420), o'') ∧ ∀ j, j < zCt (zvd now) 420 → o'' j = nI (zDa (zvd now) 420 j) := by
          intro o' ho'
          rw [b_X11_countsDoors_25, show 1 + (2 * k + 1) % 2 + 1 = 3 by omega, if_pos (show (3 : Int32) ≤ nI 3 by decide), show (2 * k + 1) / 2 = k by omega, nI_1, show 2 * k + 1 + 1 = 2 * (k + 1) by omega]
          exact ih F (by omega) o' ho'
        have s2 : ∀ o', (∀ j, j < zCt (zvd now) (2 * k + 1) → o' j = nI (zDa (zvd now) (2 * k + 1) j)) → ∃ o'', b_X11_countsDoors_25 N now (b_X11_countsDoors_7 N now F) (M + 2) (nI (2 * k / 2)) (nI (1 + 2 * k % 2 + 1)) (nI (zCt (zvd now) (2 * k + 1))) o' = some (nI (zCt (zvd now) 420), o'') ∧ ∀ j, j < zCt (zvd now) 420 → o'' j = nI (zDa (zvd now) 420 j) := by
          intro o' ho'
          have := m_cd1 (P := fun x => ∃ o'', x = some (nI (zCt (zvd now) 420), o'') ∧ ∀ j, j < zCt (zvd now) 420 → o'' j = nI (zDa (zvd now) 420 j)) (q := 2 * k + 1) hw (by omega) (by rw [show (2 * k + 1) / 2 = k by omega]; exact hr) ho' g
          rw [show (2 * k + 1) / 2 = 2 * k / 2 by omega, show 1 + (2 * k + 1) % 2 = 1 + 2 * k % 2 + 1 by omega] at this
          exact this
        have s1 := m_cd1 (P := fun x => ∃ o'', x = some (nI (zCt (zvd now) 420), o'') ∧ ∀ j, j < zCt (zvd now) 420 → o'' j = nI (zDa (zvd now) 420 j)) (q := 2 * k) (F := M + 2) (N := N) (k7 := b_X11_countsDoors_7 N now F) hw (by omega) (by rw [show 2 * k / 2 = k by omega]; exact hr) ho s2
        rw [show 2 * k / 2 = k by omega, show 1 + 2 * k % 2 = 1 by omega, ← hM] at s1
        exact s1
  exact key 0 (by omega) N (by omega) o (fun j hj => absurd hj (Nat.not_lt_zero j))
/-- the doors by their numbers are the doors counted with the shape -/
theorem zvd_cnt (now : Nat → Int32) : ∀ k, zCt (zvd now) (2 * k) = zCt (fun c => zr now c && zh now c 1) k + zCt (fun c => zr now c && zh now c 2) k
  | 0 => rfl
  | k + 1 => by
    have f1 : zvd now (2 * k) = (zr now k && zh now k 1) := by unfold zvd; rw [show 2 * k / 2 = k by omega, show 1 + 2 * k % 2 = 1 by omega]
    have f2 : zvd now (2 * k + 1) = (zr now k && zh now k 2) := by unfold zvd; rw [show (2 * k + 1) / 2 = k by omega, show 1 + (2 * k + 1) % 2 = 2 by omega]
    rw [show 2 * (k + 1) = 2 * k + 1 + 1 by omega, zCt_s, zCt_s, zvd_cnt now k, f1, f2, zCt_s, zCt_s]; omega
-- the shuffling
def zZ (z : Nat) : Nat := (75 * z + 74) % 65537
def zSw (A : Nat → Nat) (k o : Nat) : Nat → Nat := zU (zU A k (A o)) o (A k)
def zShf : Nat → Nat → (Nat → Nat) → (Nat → Nat)
  | 0, _, A => A
  | k + 1, z, A => zShf k (zZ z) (zSw A (k + 1) (zZ z % (k + 2)))
theorem zSw_ok {A : Nat → Nat} {p : Nat → Prop} {m k o : Nat} (h : ∀ j, j < m → p (A j)) (hk : k < m) (ho : o < m) : ∀ j, j < m → p (zSw A k o j) := by
  intro j hj
  unfold zSw
  by_cases q : j = o
  · rw [q, zU_s]; exact h k hk
  · rw [zU_n q]
    by_cases q2 : j = k
    · rw [q2, zU_s]; exact h o ho
    · rw [zU_n q2]; exact h j hj
theorem zShf_ok {p : Nat → Prop} {m : Nat} : ∀ k z (A : Nat → Nat), k < m → (∀ j, j < m → p (A j)) → ∀ j, j < m → p (zShf k z A j)
  | 0, _, _, _, h => h
  | k + 1, z, A, hk, h => zShf_ok k (zZ z) _ (by omega) (zSw_ok h hk (by have := Nat.mod_lt (zZ z) (show 0 < k + 2 by omega); omega))
theorem zSw_row {o : Nat → Int32} {A : Nat → Nat} {g : Nat → Nat} {m k e : Nat} (h : ∀ j, j < m → o j = nI (g (A j))) (hk : k < m) (he : e < m) : ∀ j, j < m → upd (upd o k (o e)) e (o k) j = nI (g (zSw A k e j)) := by
  intro j hj
  unfold zSw
  by_cases q : j = e
  · rw [q, pk_us, zU_s]; exact h k hk
  · rw [pk_un q, zU_n q]
    by_cases q2 : j = k
    · rw [q2, pk_us, zU_s]; exact h e he
    · rw [pk_un q2, zU_n q2]; exact h j hj
theorem zdraw {z : Nat} (hz : z < 65537) : ((75 : Int32) * nI z + (74 : Int32)) - ((75 : Int32) * nI z + (74 : Int32)) / (65537 : Int32) * (65537 : Int32) = nI (zZ z) := by
  have e : (75 : Int32) * nI z + (74 : Int32) = nI (75 * z + 74) := by
    show nI 75 * nI z + nI 74 = _
    rw [pk_mul, nI_add]
  rw [e]
  exact pk_rem (d := 65537) (by omega) (by decide) (by decide)
theorem zZ_lt (z : Nat) : zZ z < 65537 := Nat.mod_lt _ (by decide)
theorem c_shuffle (hN : 1000 ≤ N) {m : Nat} (hm : m ≤ 420) : ∀ z (A : Nat → Nat) (o : Nat → Int32), z < 65537 → (∀ j, j < m → o j = nI (zcode (A j))) → ∃ z' o', f_X3_shuffle N (nI z) o (nI m) = some (z', o') ∧ ∀ j, j < m → o' j = nI (zcode (zShf (m - 1) z A j)) := by
  intro z A o hz ho
  unfold f_X3_shuffle
  have key : ∀ k F, k < F → ∀ z (A : Nat → Nat) (o : Nat → Int32), k < m → z < 65537 → (∀ j, j < m → o j = nI (zcode (A j))) → ∃ z' o', b_X3_shuffle_4 N (nI m) F (nI k) (nI z) o = some (z', o') ∧ ∀ j, j < m → o' j = nI (zcode (zShf k z A j)) := by
    intro k
    induction k with
    | zero =>
      intro F hF z A o _ _ ho
      obtain ⟨F, rfl⟩ : ∃ G, F = G + 1 := ⟨F - 1, by omega⟩
      rw [b_X3_shuffle_4, if_pos (show nI 0 < (1 : Int32) by decide)]
      exact ⟨_, _, rfl, ho⟩
    | succ k ih =>
      intro F hF z A o hk hz ho
      obtain ⟨F, rfl⟩ : ∃ G, F = G + 1 := ⟨F - 1, by omega⟩
      have hmod := Nat.mod_lt (zZ z) (show 0 < k + 2 by omega)
      have hzl := zZ_lt z
      have e1 : t_X3_drawBelow_1 (nI z) (nI (k + 1) + 1) = nI (zZ z) := by
        unfold t_X3_drawBelow_1
        rw [zdraw hz, if_neg (show ¬ nI (k + 1) + 1 ≤ (0 : Int32) by rw [nI_1]; exact nI_nle (by omega) (by omega))]
      have e0 : t_X3_drawBelow_0 (nI z) (nI (k + 1) + 1) = nI (zZ z % (k + 2)) := by
        unfold t_X3_drawBelow_0
        rw [zdraw hz, if_neg (show ¬ nI (k + 1) + 1 ≤ (0 : Int32) by rw [nI_1]; exact nI_nle (by omega) (by omega)), nI_1]
        exact pk_rem (by omega) (by omega) (by omega)
      rw [b_X3_shuffle_4, if_neg (show ¬ nI (k + 1) < (1 : Int32) from nI_nlt (b := 1) (by omega) (by omega)), e1, e0, pk_m1, at_lt o (by decide) (show zZ z % (k + 2) < 420 by omega), at_lt o (by decide) (show k + 1 < 420 by omega), put_lt o _ (by decide) (show k + 1 < 420 by omega), put_lt _ _ (by decide) (show zZ z % (k + 2) < 420 by omega)]
      exact ih F (by omega) (zZ z) (zSw A (k + 1) (zZ z % (k + 2))) _ (by omega) hzl (zSw_row (g := zcode) ho hk (by omega))
  rcases Nat.eq_zero_or_pos m with q | q
  · subst q
    obtain ⟨M, rfl⟩ : ∃ M, N = M + 1 := ⟨N - 1, by omega⟩
    rw [b_X3_shuffle_4, if_pos (show nI 0 - (1 : Int32) < (1 : Int32) by decide)]
    exact ⟨_, _, rfl, fun j hj => absurd hj (Nat.not_lt_zero j)⟩
  · rw [show nI m - (1 : Int32) = nI (m - 1) from pk_sub (b := 1) q]
    exact key (m - 1) N (by omega) z A o (by omega) hz ho
end MAK

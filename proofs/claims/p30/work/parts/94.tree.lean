-- a maze from a seed is a tree
/-- how far a bit of a letter lies from the lowest row (found by program, held by the kernel) -/
def zpoL (q : Nat) : List Nat :=
  if q = 65 then [4, 5, 6, 5, 4, 3, 0, 0, 0, 3, 2, 3, 4, 3, 2, 1, 0, 0, 0, 1, 0, 0, 0, 0, 0] else
  if q = 67 then [4, 5, 6, 7, 8, 3, 0, 0, 0, 0, 2, 0, 0, 0, 0, 1, 0, 0, 0, 0, 0, 0, 0, 0, 0] else
  if q = 69 then [4, 5, 6, 7, 8, 3, 0, 0, 0, 0, 2, 3, 4, 5, 0, 1, 0, 0, 0, 0, 0, 0, 0, 0, 0] else
  if q = 70 then [4, 5, 6, 7, 8, 3, 0, 0, 0, 0, 2, 3, 4, 5, 0, 1, 0, 0, 0, 0, 0, 0, 0, 0, 0] else
  if q = 71 then [4, 5, 6, 7, 8, 3, 0, 0, 0, 0, 2, 0, 4, 3, 2, 1, 0, 0, 0, 1, 0, 0, 0, 0, 0] else
  if q = 72 then [4, 0, 0, 0, 4, 3, 0, 0, 0, 3, 2, 3, 4, 3, 2, 1, 0, 0, 0, 1, 0, 0, 0, 0, 0] else
  if q = 73 then [0, 0, 4, 0, 0, 0, 0, 3, 0, 0, 0, 0, 2, 0, 0, 0, 0, 1, 0, 0, 0, 0, 0, 0, 0] else
  if q = 76 then [4, 0, 0, 0, 0, 3, 0, 0, 0, 0, 2, 0, 0, 0, 0, 1, 0, 0, 0, 0, 0, 0, 0, 0, 0] else
  if q = 77 then [4, 5, 4, 5, 4, 3, 0, 3, 0, 3, 2, 0, 2, 0, 2, 1, 0, 1, 0, 1, 0, 0, 0, 0, 0] else
  if q = 79 then [4, 5, 6, 5, 4, 3, 0, 0, 0, 3, 2, 0, 0, 0, 2, 1, 0, 0, 0, 1, 0, 0, 0, 0, 0] else
  if q = 80 then [4, 5, 6, 7, 8, 3, 0, 0, 0, 7, 2, 3, 4, 5, 6, 1, 0, 0, 0, 0, 0, 0, 0, 0, 0] else
  if q = 83 then [8, 9, 10, 11, 12, 7, 0, 0, 0, 0, 6, 5, 4, 3, 2, 0, 0, 0, 0, 1, 0, 0, 0, 0, 0] else
  if q = 84 then [6, 5, 4, 5, 6, 0, 0, 3, 0, 0, 0, 0, 2, 0, 0, 0, 0, 1, 0, 0, 0, 0, 0, 0, 0] else
  if q = 85 then [4, 0, 0, 0, 4, 3, 0, 0, 0, 3, 2, 0, 0, 0, 2, 1, 0, 0, 0, 1, 0, 0, 0, 0, 0] else
  if q = 87 then [4, 0, 4, 0, 4, 3, 0, 3, 0, 3, 2, 0, 2, 0, 2, 1, 0, 1, 0, 1, 0, 0, 0, 0, 0] else []
def zpo (q r j : Nat) : Nat := (zpoL q).getD (5 * r + j) 0
set_option maxRecDepth 100000 in
theorem zpo_ok : ∀ q : Fin 128, ¬ t_X11_shape (nI q.val) ≤ 0 → ∀ r : Fin 5, ∀ j : Fin 5, zbit (nI q.val) r.val j.val = true → r.val = 4 ∨ (r.val + 1 < 5 ∧ zbit (nI q.val) (r.val + 1) j.val = true ∧ zpo q.val (r.val + 1) j.val < zpo q.val r.val j.val) ∨ (1 ≤ r.val ∧ zbit (nI q.val) (r.val - 1) j.val = true ∧ zpo q.val (r.val - 1) j.val < zpo q.val r.val j.val) ∨ (j.val + 1 < 5 ∧ zbit (nI q.val) r.val (j.val + 1) = true ∧ zpo q.val r.val (j.val + 1) < zpo q.val r.val j.val) ∨ (1 ≤ j.val ∧ zbit (nI q.val) r.val (j.val - 1) = true ∧ zpo q.val r.val (j.val - 1) < zpo q.val r.val j.val) := by decide +kernel
section CON
variable {now : Nat → Int32}
theorem zr_of (h : zwf now) {p r j : Nat} (hp : p < zn now) (hr : r < 5) (hj : j < 5) (hb : zbit (now (1 + p)) r j = true) : zr now (r * zw now + 6 * p + j) = true := by
  obtain ⟨c1, c2, c3, c4, c5⟩ := zlet_c h hp hr hj
  unfold zr
  rw [c2, c3, c4, c5, hb, decide_eq_true c1, decide_eq_true hj]
  cases decide (r = 5) <;> rfl
/-- the rooms hang together by their doors -/
theorem zcon (h : zwf now) {l : Nat → Nat} (hl : ∀ c d, (d = 1 ∨ d = 2) → zr now c = true → zh now c d = true → l c = l (zN (zw now) c d)) : ∀ c, zr now c = true → l c = l (5 * zw now) := by
  have hw := zwf_w h
  have hn := zwf_n h
  have hwn : zw now = 6 * zn now - 1 := rfl
  have base : ∀ i, i < zw now → l (5 * zw now + i) = l (5 * zw now) := by
    intro i
    induction i with
    | zero => intro _; rfl
    | succ i ih =>
      intro hi
      have b1 := (zbase h (c := 5 * zw now + i) (by omega) (by omega)).1
      have b2 := (zbase h (c := 5 * zw now + i + 1) (by omega) (by omega)).1
      have e : (5 * zw now + i) % zw now = i := by
        rw [Nat.mul_comm, Nat.mul_add_mod, Nat.mod_eq_of_lt (by omega)]
      have := hl (5 * zw now + i) 1 (Or.inl rfl) b1 (zh_1.mpr ⟨by rw [e]; omega, b2⟩)
      exact (this.symm : l (5 * zw now + i + 1) = _).trans (ih (by omega))
  have lett : ∀ n p r j q, p < zn now → r < 5 → j < 5 → q < 128 → now (1 + p) = nI q → ¬ t_X11_shape (nI q) ≤ 0 → zbit (nI q) r j = true → zpo q r j < n → l (r * zw now + 6 * p + j) = l (5 * zw now) := by
    intro n
    induction n with
    | zero => intro p r j q _ _ _ _ _ _ _ hz; exact absurd hz (Nat.not_lt_zero _)
    | succ n ih =>
      intro p r j q hp hr hj hq hqe hsh hb hz
      obtain ⟨c1, c2, c3, c4, c5⟩ := zlet_c h hp hr hj
      have hc := zr_of h hp hr hj (by rw [hqe]; exact hb)
      rcases zpo_ok ⟨q, hq⟩ hsh ⟨r, hr⟩ ⟨j, hj⟩ hb with e | ⟨e1, e2, e3⟩ | ⟨e1, e2, e3⟩ | ⟨e1, e2, e3⟩ | ⟨e1, e2, e3⟩
      · have e : r = 4 := e
        subst e
        have hd : zr now (4 * zw now + 6 * p + j + zw now) = true := (zbase h (by omega) (by omega)).1
        refine (hl _ 2 (Or.inr rfl) hc hd).trans ?_
        show l (4 * zw now + 6 * p + j + zw now) = _
        rw [show 4 * zw now + 6 * p + j + zw now = 5 * zw now + (6 * p + j) by omega]
        exact base _ (by omega)
      · have e1 : r + 1 < 5 := e1
        have hc2 := zr_of h hp e1 hj (by rw [hqe]; exact e2)
        have eq1 : (r + 1) * zw now + 6 * p + j = r * zw now + 6 * p + j + zw now := by rw [Nat.succ_mul]; omega
        rw [eq1] at hc2
        refine (hl _ 2 (Or.inr rfl) hc hc2).trans ?_
        show l (r * zw now + 6 * p + j + zw now) = _
        rw [← eq1]
        exact ih p (r + 1) j q hp e1 hj hq hqe hsh e2 (Nat.lt_of_lt_of_le e3 (Nat.le_of_lt_succ hz))
      · have e1 : 1 ≤ r := e1
        obtain ⟨r, rfl⟩ : ∃ x, r = x + 1 := ⟨r - 1, by omega⟩
        have e2 : zbit (nI q) r j = true := e2
        have hc2 := zr_of h hp (show r < 5 by omega) hj (by rw [hqe]; exact e2)
        have eq1 : (r + 1) * zw now + 6 * p + j = r * zw now + 6 * p + j + zw now := by rw [Nat.succ_mul]; omega
        rw [eq1] at hc ⊢
        refine (hl _ 2 (Or.inr rfl) hc2 hc).symm.trans ?_
        exact ih p r j q hp (by omega) hj hq hqe hsh e2 (Nat.lt_of_lt_of_le e3 (Nat.le_of_lt_succ hz))
      · have e1 : j + 1 < 5 := e1
        have hc2 := zr_of h hp hr e1 (by rw [hqe]; exact e2)
        refine (hl _ 1 (Or.inl rfl) hc (zh_1.mpr ⟨by rw [c3]; omega, hc2⟩)).trans ?_
        exact ih p r (j + 1) q hp hr e1 hq hqe hsh e2 (Nat.lt_of_lt_of_le e3 (Nat.le_of_lt_succ hz))
      · have e1 : 1 ≤ j := e1
        obtain ⟨j, rfl⟩ : ∃ x, j = x + 1 := ⟨j - 1, by omega⟩
        have e2 : zbit (nI q) r j = true := e2
        have hc2 := zr_of h hp hr (show j < 5 by omega) (by rw [hqe]; exact e2)
        obtain ⟨d1, d2, d3, d4, d5⟩ := zlet_c h hp hr (show j < 5 by omega)
        refine (hl _ 1 (Or.inl rfl) hc2 (zh_1.mpr ⟨by rw [d3]; omega, hc⟩)).symm.trans ?_
        exact ih p r j q hp hr (by omega) hq hqe hsh e2 (Nat.lt_of_lt_of_le e3 (Nat.le_of_lt_succ hz))
  intro c hc
  have h6 := zr_lt hc
  by_cases q5 : c / zw now = 5
  · have a1 := Nat.div_add_mod c (zw now)
    rw [q5, Nat.mul_comm] at a1
    rw [← a1]
    exact base _ (Nat.mod_lt c (by omega))
  · obtain ⟨l1, l2⟩ := zdiv_lt h h6 q5
    obtain ⟨m1, m2⟩ := zr_letter h hc l2
    have hm := Nat.mod_lt c (show 0 < zw now by omega)
    have hp : c % zw now / 6 < zn now := by omega
    obtain ⟨q, q1, q2, q3⟩ := h.2.1 _ hp
    rw [q2] at m2 q3
    rw [zcell_u h (p := c % zw now / 6) (r := c / zw now) (j := c % zw now % 6) rfl rfl rfl]
    exact lett _ _ _ _ q hp l2 m1 q1 q2 q3 m2 (Nat.lt_succ_self _)
theorem zDa_all (v : Nat → Bool) : ∀ k q, q < k → v q = true → ∃ j, j < zCt v k ∧ zDa v k j = q
  | 0, q, h, _ => absurd h (Nat.not_lt_zero q)
  | k + 1, q, h, hv => by
    rw [zCt_s, zDa]
    cases hk : v k with
    | false =>
      have hq : q < k := by
        rcases Nat.lt_or_ge q k with e | e
        · exact e
        · obtain rfl : q = k := by omega
          rw [hk] at hv; cases hv
      rw [if_neg zft]
      exact zDa_all v k q hq hv
    | true =>
      rw [if_pos rfl]
      by_cases e : q = k
      · refine ⟨zCt v k, Nat.lt_succ_self _, ?_⟩
        rw [zU_s, e]
      · obtain ⟨j, j1, j2⟩ := zDa_all v k q (by omega) hv
        refine ⟨j, Nat.lt_succ_of_lt j1, ?_⟩
        rw [zU_n (by omega)]; exact j2
theorem zSw_all {A : Nat → Nat} {m k o q : Nat} (hk : k < m) (ho : o < m) (h : ∃ j, j < m ∧ A j = q) : ∃ j, j < m ∧ zSw A k o j = q := by
  obtain ⟨j, hj, e⟩ := h
  unfold zSw
  by_cases q1 : j = k
  · refine ⟨o, ho, ?_⟩
    rw [zU_s, ← q1, e]
  · by_cases q2 : j = o
    · refine ⟨k, hk, ?_⟩
      by_cases q3 : k = o
      · exact absurd (q2.trans q3.symm) q1
      · rw [zU_n q3, zU_s, ← q2, e]
    · exact ⟨j, hj, by rw [zU_n q2, zU_n q1, e]⟩
theorem zShf_all {m q : Nat} : ∀ k z (A : Nat → Nat), k < m → (∃ j, j < m ∧ A j = q) → ∃ j, j < m ∧ zShf k z A j = q
  | 0, _, _, _, h => h
  | k + 1, z, A, hk, h => zShf_all k (zZ z) _ (by omega) (zSw_all hk (by have := Nat.mod_lt (zZ z) (show 0 < k + 2 by omega); omega) h)
theorem zCt_uni {p : Nat → Bool} {c0 n : Nat} (h0 : c0 < n) (hp : p c0 = true) (h : ∀ c, c < n → p c = true → c = c0) : zCt p n = 1 := by
  have e : zCt p n = zCt (fun c => decide (c0 ≤ c ∧ c < c0 + 1)) n := zCt_congr n (fun c hc => by
    by_cases q : c = c0
    · rw [q, hp, decide_eq_true (by omega)]
    · rw [decide_eq_false (by omega)]
      cases hc2 : p c with
      | false => rfl
      | true => exact absurd (h c hc hc2) q)
  rw [e, zCt_iv]; omega
theorem zC_mono {op op' : Nat → Nat → Bool} {nx : Nat → Nat → Nat} (hm : ∀ c d, d < 4 → op c d = true → op' c d = true) {x y : Nat} (h : zC op nx x y) : zC op' nx x y := by
  obtain ⟨k, hk⟩ := h
  refine ⟨k, ?_⟩
  induction k generalizing x with
  | zero => exact hk
  | succ k ih =>
    obtain ⟨d, h1, h2, h3⟩ := hk
    exact ⟨d, h1, hm x d h1 h2, ih h3⟩
end CON
section TRE
variable {now0 : Nat → Int32} {A : Nat → Nat} {m : Nat}
def zKJ (now0 : Nat → Int32) (A : Nat → Nat) (S : (Nat → Int32) × (Nat → Nat) × Nat) (j : Nat) : Prop :=
  (∀ i, i < j → S.2.1 (A i / 2) = S.2.1 (zN (zw now0) (A i / 2) (1 + A i % 2))) ∧ (∀ c c', S.2.1 c = S.2.1 c' → zC (zo S.1) (zN (zw now0)) c c') ∧ (∀ c, S.2.1 (S.2.1 c) = S.2.1 c) ∧ (∀ c, zr now0 c = true → zr now0 (S.2.1 c) = true) ∧
  zod S.1 + zCt (fun c => zr now0 c && decide (S.2.1 c = c)) 210 = zCt (zr now0) 210
theorem zKJ_s (h0 : zwf now0) (hA : ∀ j, j < m → zvd now0 (A j) = true) (hz : zod now0 = 0) (hcl : ∀ c d, d < 4 → zo now0 c d = false) : ∀ j, j ≤ m → zKJ now0 A (zKr (zw now0) (za now0) A now0 j) j
  | 0, _ => by
    refine ⟨fun i hi => absurd hi (Nat.not_lt_zero i), fun c c' e => ?_, fun c => rfl, fun c hc => hc, ?_⟩
    · have e : c = c' := e
      rw [e]; exact zC_rf c'
    · show zod now0 + _ = _
      rw [hz, Nat.zero_add]
      exact zCt_congr 210 (fun c _ => by
        show (zr now0 c && decide (c = c)) = zr now0 c
        rw [decide_eq_true rfl, Bool.and_true])
  | j + 1, hj => by
    obtain ⟨b, c, d, e, f⟩ := zKJ_s h0 hA hz hcl j (by omega)
    obtain ⟨k1, k2, k3, k4, k5⟩ := zKI_s h0 hA hz hcl j (by omega)
    have k6 := zKI_s h0 hA hz hcl (j + 1) hj
    have hv := hA j (by omega)
    rw [zKr] at k6 ⊢
    generalize hS : zKr (zw now0) (za now0) A now0 j = S at *
    by_cases q : S.2.1 (A j / 2) = S.2.1 (zN (zw now0) (A j / 2) (1 + A j % 2))
    · rw [if_pos q]
      refine ⟨fun i hi => ?_, c, d, e, f⟩
      by_cases qi : i = j
      · rw [qi]; exact q
      · exact b i (by omega)
    · rw [if_neg q] at k6 ⊢
      obtain ⟨n1, n2, n3, n4, n5⟩ := k6
      unfold zvd at hv
      rw [Bool.and_eq_true] at hv
      obtain ⟨v1, v2⟩ := hv
      obtain ⟨s1, s2, s3, s4, s5⟩ := zsame h0 (now' := S.1) (fun k hk => k2 k (Or.inl (by omega)))
      have v1' : zr S.1 (A j / 2) = true := by rw [s3]; exact v1
      have v2' : zh S.1 (A j / 2) (1 + A j % 2) = true := by rw [s4]; exact v2
      have hd4 : 1 + A j % 2 < 4 := by omega
      have hset := fun c d hd => zo_set k1 hd4 v1' v2' 1 c d hd
      have v3 : zr now0 (zN (zw now0) (A j / 2) (1 + A j % 2)) = true := by
        have := (zh_back h0 hd4 v1 v2).1
        exact this
      generalize hu : upd S.1 (za now0 (A j / 2) (1 + A j % 2)) 1 = now1 at *
      have hset : ∀ c d, d < 4 → zo now1 c d = if (c = A j / 2 ∧ d = 1 + A j % 2) ∨ (c = zN (zw now0) (A j / 2) (1 + A j % 2) ∧ d = zO (1 + A j % 2)) then decide ((1 : Int32) = 1) else zo S.1 c d := by
        intro c d hd
        have := hset c d hd
        rw [s5, hu, s2] at this
        exact this
      have hmono : ∀ c d, d < 4 → zo S.1 c d = true → zo now1 c d = true := by
        intro c d hd ho
        rw [hset c d hd]
        by_cases qq : (c = A j / 2 ∧ d = 1 + A j % 2) ∨ (c = zN (zw now0) (A j / 2) (1 + A j % 2) ∧ d = zO (1 + A j % 2))
        · rw [if_pos qq]; rfl
        · rw [if_neg qq]; exact ho
      have hedge : zo now1 (A j / 2) (1 + A j % 2) = true := by rw [hset _ _ hd4, if_pos (Or.inl ⟨rfl, rfl⟩)]; rfl
      have hw1 : zw now1 = zw now0 := (zsame h0 (now' := now1) (fun k hk => n2 k (Or.inl (by omega)))).2.1
      have hG1 : zG (zr now1) (zo now1) (zN (zw now0)) := by rw [← hw1]; exact zgr n1
      have hab : zC (zo now1) (zN (zw now0)) (A j / 2) (zN (zw now0) (A j / 2) (1 + A j % 2)) := ⟨1, _, hd4, hedge, rfl⟩
      have n5 : zod now1 = S.2.2 + 1 := n5
      generalize ha : A j / 2 = a at *
      generalize hb : zN (zw now0) a (1 + A j % 2) = bb at *
      have hxx := d a
      have hyy := d bb
      have ex := e a v1
      have ey := e bb v3
      generalize hx : S.2.1 a = x at *
      generalize hy : S.2.1 bb = y at *
      have hMm : max x y ≠ min x y := by omega
      have hM : S.2.1 (max x y) = max x y ∧ zr now0 (max x y) = true := by
        rcases Nat.le_total x y with z | z
        · rw [Nat.max_eq_right z]; exact ⟨hyy, ey⟩
        · rw [Nat.max_eq_left z]; exact ⟨hxx, ex⟩
      have hm0 : S.2.1 (min x y) = min x y ∧ zr now0 (min x y) = true := by
        rcases Nat.le_total x y with z | z
        · rw [Nat.min_eq_left z]; exact ⟨hxx, ex⟩
        · rw [Nat.min_eq_right z]; exact ⟨hyy, ey⟩
      refine ⟨fun i hi => ?_, fun c1 c2 he => ?_, fun c1 => ?_, fun c1 hc1 => ?_, ?_⟩
      · show zJ S.2.1 x y _ = zJ S.2.1 x y _
        by_cases qi : i = j
        · rw [qi, ha, hb, zJ_iff]
          exact Or.inr ⟨Or.inl hx, Or.inr hy⟩
        · exact zJ_eq (b i (by omega))
      · have he : zJ S.2.1 x y c1 = zJ S.2.1 x y c2 := he
        show zC (zo now1) (zN (zw now0)) c1 c2
        rcases zJ_iff.mp he with he | ⟨h1, h2⟩
        · exact zC_mono hmono (c c1 c2 he)
        · have toa : ∀ c3, S.2.1 c3 = x ∨ S.2.1 c3 = y → zC (zo now1) (zN (zw now0)) c3 a := by
            intro c3 h3
            rcases h3 with h3 | h3
            · exact zC_mono hmono (c c3 a (by rw [h3, hx]))
            · exact zC_tr (zC_mono hmono (c c3 bb (by rw [h3, hy]))) (zC_sy hG1 hab)
          exact zC_tr (toa c1 h1) (zC_sy hG1 (toa c2 h2))
      · show zJ S.2.1 x y (zJ S.2.1 x y c1) = zJ S.2.1 x y c1
        by_cases qc : S.2.1 c1 = max x y
        · have e1 : zJ S.2.1 x y c1 = min x y := if_pos qc
          rw [e1]
          show (if S.2.1 (min x y) = max x y then min x y else S.2.1 (min x y)) = min x y
          rw [hm0.1, if_neg (fun z => hMm z.symm)]
        · have e1 : zJ S.2.1 x y c1 = S.2.1 c1 := if_neg qc
          rw [e1]
          show (if S.2.1 (S.2.1 c1) = max x y then min x y else S.2.1 (S.2.1 c1)) = S.2.1 c1
          rw [d c1, if_neg qc]
      · show zr now0 (if S.2.1 c1 = max x y then min x y else S.2.1 c1) = true
        by_cases qc : S.2.1 c1 = max x y
        · rw [if_pos qc]; exact hm0.2
        · rw [if_neg qc]; exact e c1 hc1
      · show zod now1 + zCt (fun c => zr now0 c && decide (zJ S.2.1 x y c = c)) 210 = _
        have e1 := zS_up (f := fun c => (zr now0 c && decide (zJ S.2.1 x y c = c)).toNat) (g := fun c => (zr now0 c && decide (S.2.1 c = c)).toNat) (zr_210 h0 hM.2) (by
          have z1 : zJ S.2.1 x y (max x y) = min x y := if_pos hM.1
          show (zr now0 (max x y) && decide (S.2.1 (max x y) = max x y)).toNat = (zr now0 (max x y) && decide (zJ S.2.1 x y (max x y) = max x y)).toNat + 1
          rw [hM.2, hM.1, z1, decide_eq_true rfl, decide_eq_false (fun z => hMm z.symm)]; rfl) (fun c1 hc1 => by
          show (zr now0 c1 && decide (S.2.1 c1 = c1)).toNat = (zr now0 c1 && decide (zJ S.2.1 x y c1 = c1)).toNat
          by_cases qc : S.2.1 c1 = max x y
          · have z1 : zJ S.2.1 x y c1 = min x y := if_pos qc
            rw [z1, decide_eq_false (show ¬ S.2.1 c1 = c1 from fun z => hc1 (by rw [← qc, z])), decide_eq_false (show ¬ min x y = c1 from fun z => hMm (by rw [← qc, ← z, hm0.1]))]
          · have z1 : zJ S.2.1 x y c1 = S.2.1 c1 := if_neg qc
            rw [z1])
        have f : zod S.1 + zS (fun c => (zr now0 c && decide (S.2.1 c = c)).toNat) 210 = zCt (zr now0) 210 := f
        show zod now1 + zS (fun c => (zr now0 c && decide (zJ S.2.1 x y c = c)).toNat) 210 = _
        have k5 : zod S.1 = S.2.2 := k5
        have e1 : zS (fun c => (zr now0 c && decide (S.2.1 c = c)).toNat) 210 = zS (fun c => (zr now0 c && decide (zJ S.2.1 x y c = c)).toNat) 210 + 1 := e1
        rw [e1, k5] at f
        rw [n5, ← f]
        exact (Nat.add_assoc _ _ _).trans (congrArg (S.2.2 + ·) (Nat.add_comm _ _))
/-- a maze from a seed: one door less than rooms, and single -/
theorem zmk_tree {now : Nat → Int32} (h : zwf now) (seed : Nat) : zod (zmk now seed).1 + 1 = zCt (zr now) 210 ∧ zsing (zmk now seed).1 = true := by
  have h0 := zclr_wf h
  obtain ⟨y1, y2, y3, y4, y5⟩ := zsame h (now' := zclr now) zclr_lo
  have hA := zmk_A (now := now) (seed := seed)
  have hm420 := zCt_le (zvd (zclr now)) 420
  have hall : ∀ c d, (d = 1 ∨ d = 2) → zr (zclr now) c = true → zh (zclr now) c d = true → ∃ j, j < zCt (zvd (zclr now)) 420 ∧ zShf (zCt (zvd (zclr now)) 420 - 1) seed (zDa (zvd (zclr now)) 420) j = 2 * c + (d - 1) := by
    intro c d hd hc hh
    have c210 := zr_210 h0 hc
    have e1 : (2 * c + (d - 1)) / 2 = c := by omega
    have e2 : 1 + (2 * c + (d - 1)) % 2 = d := by omega
    have hv : zvd (zclr now) (2 * c + (d - 1)) = true := by unfold zvd; rw [e1, e2, hc, hh]; rfl
    obtain ⟨j, j1, j2⟩ := zDa_all (zvd (zclr now)) 420 (2 * c + (d - 1)) (by omega) hv
    exact zShf_all _ seed _ (by omega) ⟨j, j1, j2⟩
  obtain ⟨b, c, d, e, f⟩ := zKJ_s h0 (m := zCt (zvd (zclr now)) 420) (fun j hj => (hA j hj).1) (zclr_d h) (zclr_o h) _ (Nat.le_refl _)
  obtain ⟨k1, k2, k3, k4, k5⟩ := zmk_ok h seed
  have hwc := zclr_w h
  have eS : zKr (zw (zclr now)) (za (zclr now)) (zShf (zCt (zvd (zclr now)) 420 - 1) seed (zDa (zvd (zclr now)) 420)) (zclr now) (zCt (zvd (zclr now)) 420) = zmk now seed := by unfold zmk; rw [hwc]
  rw [eS] at b c d e f
  obtain ⟨x1, x2, x3, x4, x5⟩ := zsame h0 (now' := (zmk now seed).1) (fun k hk => k2 k (Or.inl (by omega)))
  generalize zmk now seed = S at *
  have hcon := zcon h0 (l := S.2.1) (fun c d hd hc hh => by
    obtain ⟨j, j1, j2⟩ := hall c d hd hc hh
    have := b j j1
    rw [j2, show (2 * c + (d - 1)) / 2 = c by omega, show 1 + (2 * c + (d - 1)) % 2 = d by omega] at this
    exact this)
  have hwl := zwf_w h0
  have hb0 := (zbase h0 (Nat.le_refl (5 * zw (zclr now))) (by omega)).1
  have one1 : zCt (fun c => zr (zclr now) c && decide (S.2.1 c = c)) 210 = 1 := by
    refine zCt_uni (c0 := S.2.1 (5 * zw (zclr now))) (zr_210 h0 (e _ hb0)) ?_ (fun c _ hc => ?_)
    · show (zr (zclr now) _ && decide (S.2.1 (S.2.1 (5 * zw (zclr now))) = S.2.1 (5 * zw (zclr now)))) = true
      rw [e _ hb0, d, decide_eq_true rfl]; rfl
    · rw [Bool.and_eq_true] at hc
      rw [← hcon c hc.1]
      exact (of_decide_eq_true hc.2).symm
  rw [one1, y3] at f
  refine ⟨f, ?_⟩
  have hG := zgr k1
  have hone : zpt S.1 = 1 := by
    obtain ⟨L1, L2, L3, L4⟩ := zL_spec hG
    have hb1 : zr S.1 (5 * zw (zclr now)) = true := by rw [x3]; exact hb0
    have hr0 := zC_rm hG (L3 (5 * zw (zclr now))) hb1
    unfold zpt
    refine zCt_uni (c0 := zL (zo S.1) (zN (zw S.1)) (5 * zw (zclr now))) (zr_210 k1 hr0) ?_ (fun c1 _ hc => ?_)
    · unfold zrep
      rw [hr0, L2, decide_eq_true rfl]; rfl
    · unfold zrep at hc
      rw [Bool.and_eq_true] at hc
      have hc0 : zr (zclr now) c1 = true := by rw [← x3]; exact hc.1
      have := c c1 (5 * zw (zclr now)) (hcon c1 hc0)
      rw [show zN (zw (zclr now)) = zN (zw S.1) by rw [x2]] at this
      rw [← (L4 c1 (5 * zw (zclr now))).mp this]
      exact (of_decide_eq_true hc.2).symm
  unfold zsing
  rw [hone, x3, y3, decide_eq_true f]; rfl
end TRE

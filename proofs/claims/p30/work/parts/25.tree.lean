-- the first direction nearer; a single maze is a tree
def zN (w c d : Nat) : Nat := if d = 0 then c - w else if d = 1 then c + 1 else if d = 2 then c + w else c - 1
def zP (op : Nat → Nat → Bool) (nx : Nat → Nat → Nat) (E : Nat → Nat) (c : Nat) : Nat :=
  if op c 0 = true ∧ E (nx c 0) + 1 = E c then 0 else if op c 1 = true ∧ E (nx c 1) + 1 = E c then 1 else
  if op c 2 = true ∧ E (nx c 2) + 1 = E c then 2 else if op c 3 = true ∧ E (nx c 3) + 1 = E c then 3 else 4
theorem zP_le (op : Nat → Nat → Bool) (nx : Nat → Nat → Nat) (E : Nat → Nat) (c : Nat) : zP op nx E c ≤ 4 := by
  unfold zP
  repeat' (first | omega | split)
theorem zP_ok {op : Nat → Nat → Bool} {nx : Nat → Nat → Nat} {E : Nat → Nat} {c : Nat} (h : zP op nx E c < 4) : op c (zP op nx E c) = true ∧ E (nx c (zP op nx E c)) + 1 = E c := by
  unfold zP at h ⊢
  by_cases h0 : op c 0 = true ∧ E (nx c 0) + 1 = E c
  · rw [if_pos h0]; exact h0
  · rw [if_neg h0] at h ⊢
    by_cases h1 : op c 1 = true ∧ E (nx c 1) + 1 = E c
    · rw [if_pos h1]; exact h1
    · rw [if_neg h1] at h ⊢
      by_cases h2 : op c 2 = true ∧ E (nx c 2) + 1 = E c
      · rw [if_pos h2]; exact h2
      · rw [if_neg h2] at h ⊢
        by_cases h3 : op c 3 = true ∧ E (nx c 3) + 1 = E c
        · rw [if_pos h3]; exact h3
        · rw [if_neg h3] at h; omega
theorem zP_ex {op : Nat → Nat → Bool} {nx : Nat → Nat → Nat} {E : Nat → Nat} {c : Nat} (h : ∃ d, d < 4 ∧ op c d = true ∧ E (nx c d) + 1 = E c) : zP op nx E c < 4 := by
  obtain ⟨d, hd, h⟩ := h
  unfold zP
  by_cases h0 : op c 0 = true ∧ E (nx c 0) + 1 = E c
  · rw [if_pos h0]; decide
  · rw [if_neg h0]
    by_cases h1 : op c 1 = true ∧ E (nx c 1) + 1 = E c
    · rw [if_pos h1]; decide
    · rw [if_neg h1]
      by_cases h2 : op c 2 = true ∧ E (nx c 2) + 1 = E c
      · rw [if_pos h2]; decide
      · rw [if_neg h2]
        by_cases h3 : op c 3 = true ∧ E (nx c 3) + 1 = E c
        · rw [if_pos h3]; decide
        · rcases (show d = 0 ∨ d = 1 ∨ d = 2 ∨ d = 3 by omega) with rfl | rfl | rfl | rfl
          · exact absurd h h0
          · exact absurd h h1
          · exact absurd h h2
          · exact absurd h h3
theorem zbt (p : Prop) [Decidable p] : (decide p).toNat = if p then 1 else 0 := by
  by_cases h : p
  · rw [decide_eq_true h, if_pos h]; rfl
  · rw [decide_eq_false h, if_neg h]; rfl
/-- what the cells of a maze give: neighbours by numbers, no door out of the first row upward nor out of cell 0 to the left -/
def zG2 (w : Nat) (op : Nat → Nat → Bool) : Prop := 1 ≤ w ∧ (∀ c, op c 0 = true → w ≤ c) ∧ (∀ c, op c 3 = true → 1 ≤ c)
theorem zo31 {rm : Nat → Bool} {op : Nat → Nat → Bool} {w : Nat} (hG : zG rm op (zN w)) (c : Nat) : op (c + 1) 3 = op c 1 := by
  cases h : op c 1 with
  | true => exact (hG.1 c 1 (by decide) h).2.2.1
  | false =>
    cases h2 : op (c + 1) 3 with
    | false => rfl
    | true =>
      have := (hG.1 (c + 1) 3 (by decide) h2).2.2.1
      have e : op c 1 = true := this
      rw [h] at e; cases e
theorem zo20 {rm : Nat → Bool} {op : Nat → Nat → Bool} {w : Nat} (hG : zG rm op (zN w)) (c : Nat) : op (c + w) 0 = op c 2 := by
  cases h : op c 2 with
  | true => exact (hG.1 c 2 (by decide) h).2.2.1
  | false =>
    cases h2 : op (c + w) 0 with
    | false => rfl
    | true =>
      have h3 := (hG.1 (c + w) 0 (by decide) h2).2.2.1
      have e : op (c + w - w) 2 = true := h3
      rw [Nat.add_sub_cancel] at e
      rw [h] at e; cases e
theorem zop_big {rm : Nat → Bool} {op : Nat → Nat → Bool} {nx : Nat → Nat → Nat} (hG : zG rm op nx) {c d : Nat} (hd : d < 4) (hc : 210 ≤ c) : op c d = false := by
  cases h : op c d with
  | false => rfl
  | true => have := hG.2 c (hG.1 c d hd h).1; omega
/-- each open door stands at both of its rooms -/
theorem zHand {rm : Nat → Bool} {op : Nat → Nat → Bool} {w : Nat} (hG : zG rm op (zN w)) (h2 : zG2 w op) :
    zS (fun c => (op c 0).toNat + (op c 1).toNat + (op c 2).toNat + (op c 3).toNat) 210 = 2 * (zCt (fun c => op c 1) 210 + zCt (fun c => op c 2) 210) := by
  have e0 : zS (fun c => (op (c + w) 0).toNat) 210 = zS (fun c => (op c 0).toNat) 210 := zS_shift (f := fun c => (op c 0).toNat) w 210 (fun c hc => by
      cases h : op c 0 with
      | false => rfl
      | true => have := h2.2.1 c h; omega) (fun c hc _ => by rw [zop_big hG (by decide) hc]; rfl)
  have e3 : zS (fun c => (op (c + 1) 3).toNat) 210 = zS (fun c => (op c 3).toNat) 210 := zS_shift (f := fun c => (op c 3).toNat) 1 210 (fun c hc => by
      cases h : op c 3 with
      | false => rfl
      | true => have := h2.2.2 c h; omega) (fun c hc _ => by rw [zop_big hG (by decide) hc]; rfl)
  have e4 : zS (fun c => (op (c + w) 0).toNat) 210 = zCt (fun c => op c 2) 210 := zS_congr 210 (fun c _ => by rw [zo20 hG])
  have e5 : zS (fun c => (op (c + 1) 3).toNat) 210 = zCt (fun c => op c 1) 210 := zS_congr 210 (fun c _ => by rw [zo31 hG])
  rw [zS_add (fun c => (op c 0).toNat + (op c 1).toNat + (op c 2).toNat) (fun c => (op c 3).toNat), zS_add (fun c => (op c 0).toNat + (op c 1).toNat) (fun c => (op c 2).toNat), zS_add (fun c => (op c 0).toNat) (fun c => (op c 1).toNat), ← e0, ← e3, e4, e5]
  show zS (fun c => (op c 2).toNat) 210 + zS (fun c => (op c 1).toNat) 210 + zS (fun c => (op c 2).toNat) 210 + zS (fun c => (op c 1).toNat) 210 = 2 * (zS (fun c => (op c 1).toNat) 210 + zS (fun c => (op c 2).toNat) 210)
  omega
theorem zTree {rm : Nat → Bool} {op : Nat → Nat → Bool} {w : Nat} (hG : zG rm op (zN w)) (h2 : zG2 w op) {src : Nat} (hs : rm src = true) (hall : ∀ c, rm c = true → (zF op (zN w) src).1 c ≠ 0)
    (hM : zCt (fun c => op c 1) 210 + zCt (fun c => op c 2) 210 + 1 = zCt rm 210) :
    ∀ c d, d < 4 → op c d = true → zP op (zN w) (zF op (zN w) src).1 c = d ∨ zP op (zN w) (zF op (zN w) src).1 (zN w c d) = zO d := by
  obtain ⟨s1, s2, s3, s4, s5, s6, -, -, -⟩ := zF_spec hG hs
  generalize hE : (zF op (zN w) src).1 = E at *
  generalize hp : zP op (zN w) E = p
  have hpd : ∀ c d, d < 4 → p c = d → op c d = true ∧ E (zN w c d) + 1 = E c := by
    intro c d hd h
    have := zP_ok (op := op) (nx := zN w) (E := E) (c := c) (by rw [hp, h]; exact hd)
    rw [hp, h] at this
    exact this
  have hp4 : ∀ c, p c ≤ 4 := fun c => by rw [← hp]; exact zP_le _ _ _ _
  have hsrc : p src = 4 := by
    rcases Nat.lt_or_ge (p src) 4 with q | q
    · obtain ⟨a, b⟩ := hpd src (p src) q rfl
      have := hall _ (hG.1 src (p src) q a).2.1
      omega
    · have := hp4 src; omega
  -- the rooms but the source, by their directions
  have hR : zS (fun c => (rm c).toNat) 210 = zS (fun c => (decide (c = src)).toNat + (decide (p c = 0)).toNat + (decide (p c = 1)).toNat + (decide (p c = 2)).toNat + (decide (p c = 3)).toNat) 210 := by
    refine zS_congr 210 (fun c _ => ?_)
    simp only [zbt]
    cases hr : rm c with
    | false =>
      have hno : ∀ d, d < 4 → p c ≠ d := fun d hd e => by
        have := (hG.1 c d hd (hpd c d hd e).1).1
        rw [hr] at this; cases this
      have hcs : c ≠ src := fun e => by rw [e, hs] at hr; cases hr
      rw [if_neg hcs, if_neg (hno 0 (by decide)), if_neg (hno 1 (by decide)), if_neg (hno 2 (by decide)), if_neg (hno 3 (by decide))]; rfl
    | true =>
      by_cases hcs : c = src
      · subst hcs
        rw [hsrc, if_pos rfl]; rfl
      · have h4 : p c < 4 := by
          rw [← hp]
          refine zP_ex (s6 c ?_)
          have h1 := hall c hr
          have h2 : E c ≠ 1 := fun e => hcs (s2 c e)
          omega
        rw [if_neg hcs]
        rcases (show p c = 0 ∨ p c = 1 ∨ p c = 2 ∨ p c = 3 by omega) with q | q | q | q <;> rw [q] <;> rfl
  have hone : zS (fun c => (decide (c = src)).toNat) 210 = 1 := by
    have := zS_up (f := fun _ => 0) (g := fun c => (decide (c = src)).toNat) (hG.2 src hs) (by simp) (fun c hc => by simp [hc])
    rw [zS_0] at this; exact this
  rw [zS_add (fun c => (decide (c = src)).toNat + (decide (p c = 0)).toNat + (decide (p c = 1)).toNat + (decide (p c = 2)).toNat) (fun c => (decide (p c = 3)).toNat), zS_add (fun c => (decide (c = src)).toNat + (decide (p c = 0)).toNat + (decide (p c = 1)).toNat) (fun c => (decide (p c = 2)).toNat),
    zS_add (fun c => (decide (c = src)).toNat + (decide (p c = 0)).toNat) (fun c => (decide (p c = 1)).toNat), zS_add (fun c => (decide (c = src)).toNat) (fun c => (decide (p c = 0)).toNat), hone] at hR
  have e3 : zS (fun c => (decide (p (c + 1) = 3)).toNat) 210 = zS (fun c => (decide (p c = 3)).toNat) 210 := zS_shift (f := fun c => (decide (p c = 3)).toNat) 1 210 (fun c hc => by
      rw [zbt, if_neg]; intro e
      have := h2.2.2 c (hpd c 3 (by decide) e).1; omega) (fun c hc _ => by
      rw [zbt, if_neg]; intro e
      have := (hpd c 3 (by decide) e).1
      rw [zop_big hG (by decide) hc] at this; cases this)
  have e0 : zS (fun c => (decide (p (c + w) = 0)).toNat) 210 = zS (fun c => (decide (p c = 0)).toNat) 210 := zS_shift (f := fun c => (decide (p c = 0)).toNat) w 210 (fun c hc => by
      rw [zbt, if_neg]; intro e
      have := h2.2.1 c (hpd c 0 (by decide) e).1; omega) (fun c hc _ => by
      rw [zbt, if_neg]; intro e
      have := (hpd c 0 (by decide) e).1
      rw [zop_big hG (by decide) hc] at this; cases this)
  have l1 : ∀ c, c < 210 → (decide (p c = 1)).toNat + (decide (p (c + 1) = 3)).toNat ≤ (op c 1).toNat := by
    intro c _
    simp only [zbt]
    by_cases q1 : p c = 1
    · obtain ⟨a1, a2⟩ := hpd c 1 (by decide) q1
      have a2 : E (c + 1) + 1 = E c := a2
      by_cases q2 : p (c + 1) = 3
      · obtain ⟨b1, b2⟩ := hpd (c + 1) 3 (by decide) q2
        have b2 : E c + 1 = E (c + 1) := b2
        omega
      · rw [if_pos q1, if_neg q2, a1]; exact Nat.le_refl _
    · by_cases q2 : p (c + 1) = 3
      · have b1 := (hpd (c + 1) 3 (by decide) q2).1
        rw [zo31 hG] at b1
        rw [if_neg q1, if_pos q2, b1]; exact Nat.le_refl _
      · rw [if_neg q1, if_neg q2]; exact Nat.zero_le _
  have l2 : ∀ c, c < 210 → (decide (p c = 2)).toNat + (decide (p (c + w) = 0)).toNat ≤ (op c 2).toNat := by
    intro c _
    simp only [zbt]
    by_cases q1 : p c = 2
    · obtain ⟨a1, a2⟩ := hpd c 2 (by decide) q1
      have a2 : E (c + w) + 1 = E c := a2
      by_cases q2 : p (c + w) = 0
      · obtain ⟨b1, b2⟩ := hpd (c + w) 0 (by decide) q2
        have b2 : E (c + w - w) + 1 = E (c + w) := b2
        rw [Nat.add_sub_cancel] at b2
        omega
      · rw [if_pos q1, if_neg q2, a1]; exact Nat.le_refl _
    · by_cases q2 : p (c + w) = 0
      · have b1 := (hpd (c + w) 0 (by decide) q2).1
        rw [zo20 hG] at b1
        rw [if_neg q1, if_pos q2, b1]; exact Nat.le_refl _
      · rw [if_neg q1, if_neg q2]; exact Nat.zero_le _
  have t1 := zS_le 210 l1
  have t2 := zS_le 210 l2
  rw [zS_add (fun c => (decide (p c = 1)).toNat) (fun c => (decide (p (c + 1) = 3)).toNat), e3] at t1
  rw [zS_add (fun c => (decide (p c = 2)).toNat) (fun c => (decide (p (c + w) = 0)).toNat), e0] at t2
  have hM : zS (fun c => (op c 1).toNat) 210 + zS (fun c => (op c 2).toNat) 210 + 1 = zS (fun c => (rm c).toNat) 210 := hM
  have u1 := zS_eq 210 l1 (by rw [zS_add (fun c => (decide (p c = 1)).toNat) (fun c => (decide (p (c + 1) = 3)).toNat), e3]; omega)
  have u2 := zS_eq 210 l2 (by rw [zS_add (fun c => (decide (p c = 2)).toNat) (fun c => (decide (p (c + w) = 0)).toNat), e0]; omega)
  have v1 : ∀ c, op c 1 = true → p c = 1 ∨ p (c + 1) = 3 := by
    intro c ho
    have e := u1 c (hG.2 c (hG.1 c 1 (by decide) ho).1)
    simp only [zbt] at e
    rw [ho] at e
    by_cases q1 : p c = 1
    · exact Or.inl q1
    · by_cases q2 : p (c + 1) = 3
      · exact Or.inr q2
      · rw [if_neg q1, if_neg q2] at e; cases e
  have v2 : ∀ c, op c 2 = true → p c = 2 ∨ p (c + w) = 0 := by
    intro c ho
    have e := u2 c (hG.2 c (hG.1 c 2 (by decide) ho).1)
    simp only [zbt] at e
    rw [ho] at e
    by_cases q1 : p c = 2
    · exact Or.inl q1
    · by_cases q2 : p (c + w) = 0
      · exact Or.inr q2
      · rw [if_neg q1, if_neg q2] at e; cases e
  intro c d hd ho
  obtain ⟨g1, g2, g3, g4⟩ := hG.1 c d hd ho
  rcases (show d = 0 ∨ d = 1 ∨ d = 2 ∨ d = 3 by omega) with rfl | rfl | rfl | rfl
  · have g3 : op (c - w) 2 = true := g3
    rcases v2 _ g3 with q | q
    · exact Or.inr q
    · rw [Nat.sub_add_cancel (h2.2.1 c ho)] at q; exact Or.inl q
  · exact v1 c ho
  · exact v2 c ho
  · have g3 : op (c - 1) 1 = true := g3
    rcases v1 _ g3 with q | q
    · exact Or.inr q
    · rw [Nat.sub_add_cancel (h2.2.2 c ho)] at q; exact Or.inl q
/-- in a tree the way from the deeper one goes towards the root -/
theorem zTree_up {rm : Nat → Bool} {op : Nat → Nat → Bool} {w : Nat} (hG : zG rm op (zN w)) {E : Nat → Nat} (ht : ∀ c d, d < 4 → op c d = true → zP op (zN w) E c = d ∨ zP op (zN w) E (zN w c d) = zO d) {y : Nat} (hy : rm y = true) :
    ∀ n x, (zF op (zN w) y).1 x = n → n ≠ 0 → x ≠ y → E y ≤ E x → zP op (zN w) E x < 4 ∧ (zF op (zN w) y).1 x = (zF op (zN w) y).1 (zN w x (zP op (zN w) E x)) + 1 := by
  intro n
  induction n with
  | zero => intro x _ h; exact absurd rfl h
  | succ n ih =>
    intro x hx _ hne hE
    obtain ⟨s1, s2, s3, s4, s5, s6, -, -, -⟩ := zF_spec hG hy
    have h2 : 2 ≤ (zF op (zN w) y).1 x := by
      have : (zF op (zN w) y).1 x ≠ 1 := fun e => hne (s2 x e)
      omega
    obtain ⟨d, hd, ho, he⟩ := s6 x h2
    obtain ⟨g1, g2, g3, g4⟩ := hG.1 x d hd ho
    rcases ht x d hd ho with q | q
    · rw [q]; exact ⟨hd, he.symm⟩
    · exfalso
      have h4 := zP_ok (op := op) (nx := zN w) (E := E) (c := zN w x d) (by rw [q]; exact zO_lt d)
      rw [q, g4] at h4
      have hzy : zN w x d ≠ y := fun e => by rw [e] at h4; omega
      obtain ⟨_, e2⟩ := ih (zN w x d) (by omega) (by omega) hzy (by omega)
      rw [q, g4] at e2
      omega

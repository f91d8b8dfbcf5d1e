-- walks, parts, trees
def zW (op : Nat → Nat → Bool) (nx : Nat → Nat → Nat) : Nat → Nat → Nat → Prop
  | 0, x, y => x = y
  | k + 1, x, y => ∃ d, d < 4 ∧ op x d = true ∧ zW op nx k (nx x d) y
theorem zW_app {op : Nat → Nat → Bool} {nx : Nat → Nat → Nat} : ∀ (k j x y z : Nat), zW op nx k x y → zW op nx j y z → zW op nx (k + j) x z
  | 0, j, x, y, z, h, h2 => by
    have e : x = y := h
    subst e
    rw [Nat.zero_add]; exact h2
  | k + 1, j, x, y, z, h, h2 => by
    obtain ⟨d, h3, h4, h5⟩ := h
    rw [show k + 1 + j = (k + j) + 1 by omega]
    exact ⟨d, h3, h4, zW_app k j _ y z h5 h2⟩
theorem zW_rev {rm : Nat → Bool} {op : Nat → Nat → Bool} {nx : Nat → Nat → Nat} (hG : zG rm op nx) : ∀ (k x y : Nat), zW op nx k x y → zW op nx k y x
  | 0, x, y, h => Eq.symm h
  | k + 1, x, y, h => by
    obtain ⟨d, h3, h4, h5⟩ := h
    obtain ⟨g1, g2, g3, g4⟩ := hG.1 x d h3 h4
    exact zW_app k 1 y (nx x d) x (zW_rev hG k _ _ h5) ⟨zO d, zO_lt d, g3, g4⟩
theorem zF_W {rm : Nat → Bool} {op : Nat → Nat → Bool} {nx : Nat → Nat → Nat} (hG : zG rm op nx) {y : Nat} (hy : rm y = true) : ∀ (k x : Nat), (zF op nx y).1 x = k + 1 → zW op nx k x y
  | 0, x, h => (zF_spec hG hy).2.1 x (by omega)
  | k + 1, x, h => by
    obtain ⟨d, h1, h2, h3⟩ := (zF_spec hG hy).2.2.2.2.2.1 x (by omega)
    exact ⟨d, h1, h2, zF_W hG hy k _ (by omega)⟩
theorem zW_F {rm : Nat → Bool} {op : Nat → Nat → Bool} {nx : Nat → Nat → Nat} (hG : zG rm op nx) {y : Nat} (hy : rm y = true) : ∀ (k x : Nat), zW op nx k x y → (zF op nx y).1 x ≠ 0 ∧ (zF op nx y).1 x ≤ k + 1
  | 0, x, h => by
    have e : x = y := h
    subst e
    rw [(zF_spec hG hy).1]; exact ⟨by decide, Nat.le_refl _⟩
  | k + 1, x, h => by
    obtain ⟨d, h3, h4, h5⟩ := h
    obtain ⟨g1, g2, g3, g4⟩ := hG.1 x d h3 h4
    obtain ⟨i1, i2⟩ := zW_F hG hy k _ h5
    obtain ⟨j1, j2⟩ := (zF_spec hG hy).2.2.2.2.1 (nx x d) (zO d) (zO_lt d) g3 i1
    rw [g4] at j1 j2
    exact ⟨j1, by omega⟩
theorem zF_le {rm : Nat → Bool} {op : Nat → Nat → Bool} {nx : Nat → Nat → Nat} (hG : zG rm op nx) {x y : Nat} (hx : rm x = true) (hy : rm y = true) (h : (zF op nx y).1 x ≠ 0) : (zF op nx x).1 y ≠ 0 ∧ (zF op nx x).1 y ≤ (zF op nx y).1 x := by
  obtain ⟨k, hk⟩ : ∃ k, (zF op nx y).1 x = k + 1 := ⟨(zF op nx y).1 x - 1, by omega⟩
  have h1 := zW_F hG hx k y (zW_rev hG k x y (zF_W hG hy k x hk))
  rw [hk]; exact h1
theorem zF_sym {rm : Nat → Bool} {op : Nat → Nat → Bool} {nx : Nat → Nat → Nat} (hG : zG rm op nx) {x y : Nat} (hx : rm x = true) (hy : rm y = true) : (zF op nx y).1 x = (zF op nx x).1 y := by
  by_cases h : (zF op nx y).1 x = 0
  · by_cases h2 : (zF op nx x).1 y = 0
    · rw [h, h2]
    · exact absurd h (zF_le hG hy hx h2).1
  · have h1 := zF_le hG hx hy h
    have h2 := zF_le hG hy hx h1.1
    omega
def zC (op : Nat → Nat → Bool) (nx : Nat → Nat → Nat) (x y : Nat) : Prop := ∃ k, zW op nx k x y
theorem zC_rf {op : Nat → Nat → Bool} {nx : Nat → Nat → Nat} (x : Nat) : zC op nx x x := ⟨0, rfl⟩
theorem zC_tr {op : Nat → Nat → Bool} {nx : Nat → Nat → Nat} {x y z : Nat} (h : zC op nx x y) (h2 : zC op nx y z) : zC op nx x z := by
  obtain ⟨k, h⟩ := h
  obtain ⟨j, h2⟩ := h2
  exact ⟨k + j, zW_app k j x y z h h2⟩
theorem zC_sy {rm : Nat → Bool} {op : Nat → Nat → Bool} {nx : Nat → Nat → Nat} (hG : zG rm op nx) {x y : Nat} (h : zC op nx x y) : zC op nx y x := by
  obtain ⟨k, h⟩ := h
  exact ⟨k, zW_rev hG k x y h⟩
theorem zC_rm {rm : Nat → Bool} {op : Nat → Nat → Bool} {nx : Nat → Nat → Nat} (hG : zG rm op nx) {x y : Nat} (h : zC op nx x y) (hx : rm x = true) : rm y = true := by
  obtain ⟨k, h⟩ := h
  induction k generalizing x with
  | zero => have e : x = y := h; subst e; exact hx
  | succ k ih =>
    obtain ⟨d, h3, h4, h5⟩ := h
    exact ih (hG.1 x d h3 h4).2.1 h5
theorem zF_C {rm : Nat → Bool} {op : Nat → Nat → Bool} {nx : Nat → Nat → Nat} (hG : zG rm op nx) {x y : Nat} (hy : rm y = true) : (zF op nx y).1 x ≠ 0 ↔ zC op nx x y := by
  constructor
  · intro h
    obtain ⟨k, hk⟩ : ∃ k, (zF op nx y).1 x = k + 1 := ⟨(zF op nx y).1 x - 1, by omega⟩
    exact ⟨k, zF_W hG hy k x hk⟩
  · rintro ⟨k, h⟩
    exact (zW_F hG hy k x h).1
-- labels
def zJ (l : Nat → Nat) (x y : Nat) : Nat → Nat := fun c => if l c = max x y then min x y else l c
def zLs (op : Nat → Nat → Bool) (nx : Nat → Nat → Nat) (l : Nat → Nat) (c d : Nat) : Nat → Nat := if op c d = true then zJ l (l c) (l (nx c d)) else l
def zLab (op : Nat → Nat → Bool) (nx : Nat → Nat → Nat) : Nat → (Nat → Nat)
  | 0 => fun c => c
  | c + 1 => zLs op nx (zLs op nx (zLab op nx c) c 1) c 2
def zLI (op : Nat → Nat → Bool) (nx : Nat → Nat → Nat) (l : Nat → Nat) (P : Nat → Nat → Prop) : Prop :=
  (∀ c, l c ≤ c) ∧ (∀ c, l (l c) = l c) ∧ (∀ c, zC op nx c (l c)) ∧ (∀ c d, P c d → op c d = true → l c = l (nx c d))
theorem zJ_eq {l : Nat → Nat} {x y c c' : Nat} (h : l c = l c') : zJ l x y c = zJ l x y c' := by unfold zJ; rw [h]
theorem zLI_s {rm : Nat → Bool} {op : Nat → Nat → Bool} {nx : Nat → Nat → Nat} (hG : zG rm op nx) {l : Nat → Nat} {P Q : Nat → Nat → Prop} (H : zLI op nx l P) (c d : Nat) (hd : d < 4) (hQ : ∀ c' d', Q c' d' → P c' d' ∨ (c' = c ∧ d' = d)) : zLI op nx (zLs op nx l c d) Q := by
  obtain ⟨h1, h2, h3, h4⟩ := H
  unfold zLs
  by_cases ho : op c d = true
  · rw [if_pos ho]
    obtain ⟨g1, g2, g3, g4⟩ := hG.1 c d hd ho
    have e1 : zC op nx c (nx c d) := ⟨1, d, hd, ho, rfl⟩
    have e2 : zC op nx (l c) (l (nx c d)) := zC_tr (zC_sy hG (h3 c)) (zC_tr e1 (h3 _))
    have e3 : zC op nx (max (l c) (l (nx c d))) (min (l c) (l (nx c d))) := by
      rcases Nat.le_total (l c) (l (nx c d)) with q | q
      · rw [Nat.max_eq_right q, Nat.min_eq_left q]; exact zC_sy hG e2
      · rw [Nat.max_eq_left q, Nat.min_eq_right q]; exact e2
    have e4 : l (min (l c) (l (nx c d))) = min (l c) (l (nx c d)) := by
      rcases Nat.le_total (l c) (l (nx c d)) with q | q
      · rw [Nat.min_eq_left q]; exact h2 _
      · rw [Nat.min_eq_right q]; exact h2 _
    have emm : min (l c) (l (nx c d)) ≤ max (l c) (l (nx c d)) := by omega
    refine ⟨?_, ?_, ?_, ?_⟩
    · intro a
      unfold zJ
      have := h1 a
      by_cases q : l a = max (l c) (l (nx c d))
      · rw [if_pos q]; omega
      · rw [if_neg q]; exact this
    · intro a
      by_cases q : l a = max (l c) (l (nx c d))
      · have ea : zJ l (l c) (l (nx c d)) a = min (l c) (l (nx c d)) := if_pos q
        rw [ea]
        unfold zJ
        rw [e4]
        by_cases q2 : min (l c) (l (nx c d)) = max (l c) (l (nx c d))
        · rw [if_pos q2]
        · rw [if_neg q2]
      · have ea : zJ l (l c) (l (nx c d)) a = l a := if_neg q
        rw [ea]
        unfold zJ
        rw [h2 a, if_neg q]
    · intro a
      unfold zJ
      by_cases q : l a = max (l c) (l (nx c d))
      · rw [if_pos q]
        refine zC_tr (h3 a) ?_
        rw [q]; exact e3
      · rw [if_neg q]; exact h3 a
    · intro a b hab hop
      rcases hQ a b hab with q | ⟨rfl, rfl⟩
      · exact zJ_eq (h4 a b q hop)
      · unfold zJ
        by_cases q1 : l a = max (l a) (l (nx a b))
        · rw [if_pos q1]
          by_cases q2 : l (nx a b) = max (l a) (l (nx a b))
          · rw [if_pos q2]
          · rw [if_neg q2]; omega
        · rw [if_neg q1]
          by_cases q2 : l (nx a b) = max (l a) (l (nx a b))
          · rw [if_pos q2]; omega
          · omega
  · rw [if_neg ho]
    refine ⟨h1, h2, h3, ?_⟩
    intro a b hab hop
    rcases hQ a b hab with q | ⟨rfl, rfl⟩
    · exact h4 a b q hop
    · exact absurd hop ho
theorem zLI_n {rm : Nat → Bool} {op : Nat → Nat → Bool} {nx : Nat → Nat → Nat} (hG : zG rm op nx) : ∀ n, zLI op nx (zLab op nx n) (fun c d => c < n ∧ (d = 1 ∨ d = 2))
  | 0 => ⟨fun c => Nat.le_refl c, fun c => rfl, fun c => zC_rf c, fun c d h => absurd h.1 (Nat.not_lt_zero c)⟩
  | n + 1 => by
    have ih := zLI_n hG n
    have s1 := zLI_s (Q := fun c d => (c < n ∧ (d = 1 ∨ d = 2)) ∨ (c = n ∧ d = 1)) hG ih n 1 (by decide) (fun _ _ h => h)
    exact zLI_s hG s1 n 2 (by decide) (fun c d h => by omega)
/-- the label of a room: the lowest room of its part -/
theorem zL_ex (op : Nat → Nat → Bool) (nx : Nat → Nat → Nat) : ∃ l : Nat → Nat, l = zLab op nx 210 := ⟨_, rfl⟩
noncomputable def zL (op : Nat → Nat → Bool) (nx : Nat → Nat → Nat) : Nat → Nat := Classical.choose (zL_ex op nx)
theorem zL_eq (op : Nat → Nat → Bool) (nx : Nat → Nat → Nat) : zL op nx = zLab op nx 210 := Classical.choose_spec (zL_ex op nx)
theorem zL_spec {rm : Nat → Bool} {op : Nat → Nat → Bool} {nx : Nat → Nat → Nat} (hG : zG rm op nx) :
    (∀ c, zL op nx c ≤ c) ∧ (∀ c, zL op nx (zL op nx c) = zL op nx c) ∧ (∀ c, zC op nx c (zL op nx c)) ∧ (∀ x y, zC op nx x y ↔ zL op nx x = zL op nx y) := by
  obtain ⟨h1, h2, h3, h4⟩ := zLI_n hG 210
  rw [← zL_eq] at h1 h2 h3 h4
  have h5 : ∀ c d, d < 4 → op c d = true → zL op nx c = zL op nx (nx c d) := by
    intro c d hd ho
    obtain ⟨g1, g2, g3, g4⟩ := hG.1 c d hd ho
    by_cases q : d = 1 ∨ d = 2
    · exact h4 c d ⟨hG.2 c g1, q⟩ ho
    · have q2 : zO d = 1 ∨ zO d = 2 := by unfold zO; omega
      have e := h4 (nx c d) (zO d) ⟨hG.2 _ g2, q2⟩ g3
      rw [g4] at e
      exact e.symm
  refine ⟨h1, h2, h3, fun x y => ⟨?_, ?_⟩⟩
  · rintro ⟨k, h⟩
    induction k generalizing x with
    | zero => have e : x = y := h; rw [e]
    | succ k ih =>
      obtain ⟨d, q1, q2, q3⟩ := h
      rw [h5 x d q1 q2]; exact ih _ q3
  · intro h
    refine zC_tr (h3 x) ?_
    refine zC_tr ?_ (zC_sy hG (h3 y))
    show zC op nx (zL op nx x) (zL op nx y)
    rw [h]; exact zC_rf _
theorem zL_F {rm : Nat → Bool} {op : Nat → Nat → Bool} {nx : Nat → Nat → Nat} (hG : zG rm op nx) {x y : Nat} (hy : rm y = true) : (zF op nx y).1 x ≠ 0 ↔ zL op nx x = zL op nx y := (zF_C hG hy).trans ((zL_spec hG).2.2.2 x y)
-- labels by another rule: the same parts
theorem zJ_iff {l : Nat → Nat} {x y c c' : Nat} : zJ l x y c = zJ l x y c' ↔ (l c = l c' ∨ ((l c = x ∨ l c = y) ∧ (l c' = x ∨ l c' = y))) := by
  unfold zJ
  rcases Nat.le_total x y with q | q
  · rw [Nat.max_eq_right q, Nat.min_eq_left q]
    by_cases h1 : l c = y
    · rw [if_pos h1]
      by_cases h2 : l c' = y
      · rw [if_pos h2]; omega
      · rw [if_neg h2]; omega
    · rw [if_neg h1]
      by_cases h2 : l c' = y
      · rw [if_pos h2]; omega
      · rw [if_neg h2]; omega
  · rw [Nat.max_eq_left q, Nat.min_eq_right q]
    by_cases h1 : l c = x
    · rw [if_pos h1]
      by_cases h2 : l c' = x
      · rw [if_pos h2]; omega
      · rw [if_neg h2]; omega
    · rw [if_neg h1]
      by_cases h2 : l c' = x
      · rw [if_pos h2]; omega
      · rw [if_neg h2]; omega
def zK (l : Nat → Nat) (x y : Nat) : Nat → Nat := fun c => if l c = y then x else l c
theorem zK_iff {l : Nat → Nat} {x y c c' : Nat} : zK l x y c = zK l x y c' ↔ (l c = l c' ∨ ((l c = x ∨ l c = y) ∧ (l c' = x ∨ l c' = y))) := by
  unfold zK
  by_cases h1 : l c = y
  · rw [if_pos h1]
    by_cases h2 : l c' = y
    · rw [if_pos h2]; omega
    · rw [if_neg h2]; omega
  · rw [if_neg h1]
    by_cases h2 : l c' = y
    · rw [if_pos h2]; omega
    · rw [if_neg h2]; omega

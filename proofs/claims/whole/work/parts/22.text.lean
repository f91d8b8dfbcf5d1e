-- indexOf on the two texts
def ixFrom (s : Nat) (b : Int32) : Nat → Nat → Int32
  | 0, _ => -1
  | d + 1, k => if (strL.getD s []).getD k 0 = b then nI k else ixFrom s b d (k + 1)
theorem ix_s0 {N F : Nat} (v2 v3 : Int32) (b : Int32) : ∀ d k, k + d = 15 → d < F → b_J1_indexOfChar_4cfef_s0_7 N v2 v3 15 F b (nI k) = some (ixFrom 0 b d k) := by
  intro d
  induction d generalizing F with
  | zero =>
    intro k hk hF
    obtain ⟨F, rfl⟩ : ∃ G, F = G + 1 := ⟨F - 1, by omega⟩
    rw [b_J1_indexOfChar_4cfef_s0_7, if_pos (show (15 : Int32) ≤ nI k from nI_le (a := 15) (by omega) (by omega)), ixFrom]
  | succ d ih =>
    intro k hk hF
    obtain ⟨F, rfl⟩ : ∃ G, F = G + 1 := ⟨F - 1, by omega⟩
    have h31 : k < 2 ^ 31 := by omega
    rw [b_J1_indexOfChar_4cfef_s0_7, if_neg (show ¬ (15 : Int32) ≤ nI k from nI_ge (b := 15) (by omega) (by decide)), nI_clamp h31, if_neg (by rintro (h | h); exact nI_pos h31 h; exact absurd (show 15 ≤ k from h) (by omega)), ixFrom]
    by_cases h : (strL.getD 0 []).getD k 0 = b
    · rw [if_pos h, if_pos h]
    · rw [if_neg h, if_neg h, nI_1]
      exact ih (k + 1) (by omega) (by omega)
theorem ix_s1 {N F : Nat} (v2 v3 : Int32) (b : Int32) : ∀ d k, k + d = 4 → d < F → b_J1_indexOfChar_4cfef_s1_7 N v2 v3 4 F b (nI k) = some (ixFrom 1 b d k) := by
  intro d
  induction d generalizing F with
  | zero =>
    intro k hk hF
    obtain ⟨F, rfl⟩ : ∃ G, F = G + 1 := ⟨F - 1, by omega⟩
    rw [b_J1_indexOfChar_4cfef_s1_7, if_pos (show (4 : Int32) ≤ nI k from nI_le (a := 4) (by omega) (by omega)), ixFrom]
  | succ d ih =>
    intro k hk hF
    obtain ⟨F, rfl⟩ : ∃ G, F = G + 1 := ⟨F - 1, by omega⟩
    have h31 : k < 2 ^ 31 := by omega
    rw [b_J1_indexOfChar_4cfef_s1_7, if_neg (show ¬ (4 : Int32) ≤ nI k from nI_ge (b := 4) (by omega) (by decide)), nI_clamp h31, if_neg (by rintro (h | h); exact nI_pos h31 h; exact absurd (show 4 ≤ k from h) (by omega)), ixFrom]
    by_cases h : (strL.getD 1 []).getD k 0 = b
    · rw [if_pos h, if_pos h]
    · rw [if_neg h, if_neg h, nI_1]
      exact ih (k + 1) (by omega) (by omega)
/-- the place of a character in the letters, or -1 -/
def ixL (q : Nat) : Int32 := ixFrom 0 (nI q) 15 0
def ixM (q : Nat) : Int32 := ixFrom 1 (nI q) 4 0

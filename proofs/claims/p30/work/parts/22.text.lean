-- indexOf on the two texts
def ixFrom (s : Nat) (b : Int32) : Nat → Nat → Int32
  | 0, _ => -1
  | d + 1, k => if (strL.getD s []).getD k 0 = b then nI k else ixFrom s b d (k + 1)
theorem ix_s0 {N F : Nat} (v2 v3 : Int32) (b : Int32) : ∀ d k, k + d = 15 → d < F → b_J1_indexOfChar_4cfef_s0_7 N v2 v3 15 F b (nI k) = some (ixFrom 0 b d k) := by
  intro d
  induction d generalizing F with
  | zero =>
    intro k hk hF
    obtain ⟨F, rfl⟩ : ∃ G, F = G + 1 := ⟨F - 1, by omega⟩
    rw [b_J1_indexOfChar_4cfef_s0_7, if_pos (show (15 : Int32) ≤ nI k from nI_le (a := 15) (by omega) (by omega)), ixFrom]
  | succ d ih =>
    intro k hk hF
    obtain ⟨F, rfl⟩ : ∃ G, F = G + 1 := ⟨F - 1, by omega⟩
    have h31 : k < 2 ^ 31 := by omega
    rw [b_J1_indexOfChar_4cfef_s0_7, if_neg (show ¬ (15 : Int32) ≤ nI k from nI_ge (b := 15) (by omega) (by decide)), nI_clamp h31, if_neg (by rintro (h | h); exact nI_pos h31 h; exact absurd (show 15 ≤ k from h) (by omega)), ixFrom]
    by_cases h : (strL.getD 0 []).getD k 0 = b
    · rw [if_pos h, if_pos h]
    · rw [if_neg h, if_neg h, nI_1]
      exact ih (k + 1) (by omega) (by omega)
theorem ix_s1 {N F : Nat} (v2 v3 : Int32) (b : Int32) : ∀ d k, k + d = 4 → d < F → b_J1_indexOfChar_4cfef_s1_7 N v2 v3 4 F b (nI k) = some (ixFrom 1 b d k) := by
  intro d
  induction d generalizing F with
  | zero =>
    intro k hk hF
    obtain ⟨F, rfl⟩ : ∃ G, F = G + 1 := ⟨F - 1, by omega⟩
    rw [b_J1_indexOfChar_4cfef_s1_7, if_pos (show (4 : Int32) ≤ nI k from nI_le (a := 4) (by omega) (by omega)), ixFrom]
  | succ d ih =>
    intro k hk hF
    obtain ⟨F, rfl⟩ : ∃ G, F = G + 1 := ⟨F - 1, by omega⟩
    have h31 : k < 2 ^ 31 := by omega
    rw [b_J1_indexOfChar_4cfef_s1_7, if_neg (show ¬ (4 : Int32) ≤ nI k from nI_ge (b := 4) (by omega) (by decide)), nI_clamp h31, if_neg (by rintro (h | h); exact nI_pos h31 h; exact absurd (show 4 ≤ k from h) (by omega)), ixFrom]
    by_cases h : (strL.getD 1 []).getD k 0 = b
    · rw [if_pos h, if_pos h]
    · rw [if_neg h, if_neg h, nI_1]
      exact ih (k + 1) (by omega) (by omega)
/-- the place of a character in the letters, or -1 -/
def ixL (q : Nat) : Int32 := ixFrom 0 (nI q) 15 0
def ixM (q : Nat) : Int32 := ixFrom 1 (nI q) 4 0
theorem byte_small {q : Nat} (h : q < 128) : (nI q).toInt8.toInt32 = nI q := by
  have key : ∀ n : Fin 128, (nI n.val).toInt8.toInt32 = nI n.val := by decide +kernel
  exact key ⟨q, h⟩
theorem can_small {q : Nat} (h : q < 128) : t_J1_canEncode_9a6ad (nI q) = 1 := by
  unfold t_J1_canEncode_9a6ad
  have h31 : q < 2 ^ 31 := by omega
  rw [if_neg (nI_pos h31)]
  first
    | rw [if_neg (show ¬ (255 : Int32) < nI q from nI_nlt (b := q) (a := 255) (by omega) (by decide))]
    | rw [if_pos (show nI q ≤ (255 : Int32) from nI_le (b := 255) (by omega) (by decide))]
theorem index_s0 {N q : Nat} (hN : 100 ≤ N) (h : q < 128) : f_J0_indexOf_0f7a4_s0 N (nI q) = some (ixL q) := by
  have e1 : t_J0_length_8abf5_s0 = 15 := by unfold t_J0_length_8abf5_s0; first | rfl | decide
  have e2 : f_J1_indexOfChar_4cfef_s0 N (nI q) 0 15 = some (ixL q) := by
    unfold f_J1_indexOfChar_4cfef_s0 ixL
    rw [byte_small h]
    exact ix_s0 (nI q) 0 (nI q) 15 0 rfl (by omega)
  have e3 : f_J1_indexOf_4cfef_s0 N (nI q) 0 15 = some (ixL q) := by
    unfold f_J1_indexOf_4cfef_s0
    rw [can_small h, if_neg (by decide), if_pos (by decide)]
    rw [show (if (0 : Int32) < 0 then (0 : Int32) else 0) = 0 from rfl, show (if (15 : Int32) < 15 then (15 : Int32) else 15) = 15 from rfl, bnd1_e e2]
  unfold f_J0_indexOf_0f7a4_s0 f_J0_indexOf_7cf53_s0
  rw [e1, bnd1_e e3, bnd1_e rfl]
theorem index_s1 {N q : Nat} (hN : 100 ≤ N) (h : q < 128) : f_J0_indexOf_0f7a4_s1 N (nI q) = some (ixM q) := by
  have e1 : t_J0_length_8abf5_s1 = 4 := by unfold t_J0_length_8abf5_s1; first | rfl | decide
  have e2 : f_J1_indexOfChar_4cfef_s1 N (nI q) 0 4 = some (ixM q) := by
    unfold f_J1_indexOfChar_4cfef_s1 ixM
    rw [byte_small h]
    exact ix_s1 (nI q) 0 (nI q) 4 0 rfl (by omega)
  have e3 : f_J1_indexOf_4cfef_s1 N (nI q) 0 4 = some (ixM q) := by
    unfold f_J1_indexOf_4cfef_s1
    rw [can_small h, if_neg (by decide), if_pos (by decide)]
    rw [show (if (0 : Int32) < 0 then (0 : Int32) else 0) = 0 from rfl, show (if (4 : Int32) < 4 then (4 : Int32) else 4) = 4 from rfl, bnd1_e e2]
  unfold f_J0_indexOf_0f7a4_s1 f_J0_indexOf_7cf53_s1
  rw [e1, bnd1_e e3, bnd1_e rfl]

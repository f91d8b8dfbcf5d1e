-- numbers and rows
theorem at_nI {n : Nat} (f : Nat → Int32) {c : Nat} (hn : n < 2 ^ 31) (hc : c < 2 ^ 31) : t_X4_at n f (nI c) = if c < n then f c else 0 := by
  unfold t_X4_at
  rw [if_neg (nI_pos hc)]
  by_cases h : c < n
  · rw [if_neg (nI_ge h hn), nI_clamp hc, if_pos h]
  · rw [if_pos (nI_le (by omega) hc), if_neg h]
theorem at_lt {n : Nat} (f : Nat → Int32) {c : Nat} (hn : n < 2 ^ 31) (hc : c < n) : t_X4_at n f (nI c) = f c := by
  rw [at_nI f hn (by omega), if_pos hc]
theorem at_ge {n : Nat} (f : Nat → Int32) {c : Nat} (hc : c < 2 ^ 31) (h : n ≤ c) : t_X4_at n f (nI c) = 0 := by
  rw [at_nI f (by omega) hc, if_neg (by omega)]
theorem at_neg {n : Nat} (f : Nat → Int32) {a : Int32} (h : a < 0) : t_X4_at n f a = 0 := by
  unfold t_X4_at; rw [if_pos h]
theorem put_lt {n : Nat} (f : Nat → Int32) {c : Nat} (x : Int32) (hn : n < 2 ^ 31) (hc : c < n) : t_X4_put n f (nI c) x = upd f c x := by
  unfold t_X4_put
  rw [if_neg (nI_pos (by omega)), if_neg (nI_ge hc hn), nI_clamp (by omega)]
theorem put_ge {n : Nat} (f : Nat → Int32) {c : Nat} (x : Int32) (hc : c < 2 ^ 31) (h : n ≤ c) : t_X4_put n f (nI c) x = f := by
  unfold t_X4_put
  rw [if_neg (nI_pos hc), if_pos (nI_le h hc)]
theorem put_neg {n : Nat} (f : Nat → Int32) {a x : Int32} (h : a < 0) : t_X4_put n f a x = f := by
  unfold t_X4_put; rw [if_pos h]
/-- downward from n -/
theorem dn {P : Nat → Prop} (n : Nat) (h0 : P n) (hs : ∀ k, k < n → P (k + 1) → P k) : ∀ k, k ≤ n → P k := by
  have key : ∀ d, d ≤ n → P (n - d) := by
    intro d
    induction d with
    | zero => intro _; exact h0
    | succ d ih =>
      intro hd
      refine hs (n - (d + 1)) (by omega) ?_
      rw [show n - (d + 1) + 1 = n - d by omega]
      exact ih (by omega)
  intro k hk
  have h := key (n - k) (by omega)
  rwa [show n - (n - k) = k by omega] at h

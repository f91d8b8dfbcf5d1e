-- fill, take
def ffill (n : Nat) (x : Int32) (f : Nat → Int32) : Nat → Int32 := fun j => if j < n then x else f j
theorem ffill_lt {n j : Nat} {x : Int32} {f : Nat → Int32} (h : j < n) : ffill n x f j = x := if_pos h
theorem ffill_ge {n j : Nat} {x : Int32} {f : Nat → Int32} (h : n ≤ j) : ffill n x f j = f j := if_neg (Nat.not_lt.mpr h)
theorem ffill_s (k : Nat) (x : Int32) (f : Nat → Int32) : upd (ffill k x f) k x = ffill (k + 1) x f := by
  funext j
  unfold upd ffill
  by_cases h : j = k
  · rw [if_pos h, if_pos (by omega)]
  · rw [if_neg h]
    by_cases h2 : j < k
    · rw [if_pos h2, if_pos (by omega)]
    · rw [if_neg h2, if_neg (by omega)]
theorem fill_J {N n : Nat} (hn : n < 2 ^ 31) (hN : n < N) (f : Nat → Int32) (x : Int32) : f_J7_fill_53178 N n f x = some (ffill n x f) := by
  have key : ∀ k, k ≤ n → ∀ F, n - k < F → b_J7_fill_53178_5 N n x F (nI k) (nI n) (ffill k x f) = some (ffill n x f) := by
    refine dn n ?_ ?_
    · intro F hF
      obtain ⟨F, rfl⟩ : ∃ G, F = G + 1 := ⟨F - 1, by omega⟩
      rw [b_J7_fill_53178_5, if_pos (nI_le (Nat.le_refl _) hn)]
    · intro k hk ih F hF
      obtain ⟨F, rfl⟩ : ∃ G, F = G + 1 := ⟨F - 1, by omega⟩
      rw [b_J7_fill_53178_5, if_neg (nI_ge hk hn), nI_clamp (by omega : k < 2 ^ 31), if_neg (by rintro (h | h); exact nI_pos (by omega : k < 2 ^ 31) h; omega), nI_1, ffill_s]
      exact ih F (by omega)
  have h0 : ffill 0 x f = f := by funext j; exact if_neg (Nat.not_lt_zero j)
  have h := key 0 (Nat.zero_le _) N (by omega)
  rw [h0] at h
  exact h
theorem fill_4 {N n : Nat} (hn : n < 2 ^ 31) (hN : n < N) (f : Nat → Int32) (x : Int32) : f_X4_fill N n f x = some (ffill n x f) := by
  unfold f_X4_fill
  rw [bnd1_e (fill_J hn hN f x)]
theorem kcp_eq {n : Nat} (hn : n < 2 ^ 31) (g x : Nat → Int32) : kcp n g x = fun j => if j < n then x j else g j := by
  funext k
  unfold kcp t_X4_take va_cpy
  rw [kmin hn hn, show (0 : Int32).toNatClampNeg = 0 from rfl, Nat.min_self]
  by_cases h : k < n
  · rw [if_pos h, if_pos ⟨Nat.zero_le _, by omega⟩]; simp
  · rw [if_neg h, if_neg (fun q => h (by omega))]

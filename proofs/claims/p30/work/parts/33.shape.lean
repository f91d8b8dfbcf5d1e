-- the shape is built
noncomputable def zpr (q r : Nat) : Int32 := if ixL q * (5 : Int32) + nI r < 0 then 0 else if (75 : Int32) ≤ ixL q * (5 : Int32) + nI r then 0 else patT (ixL q * (5 : Int32) + nI r).toNatClampNeg
set_option maxRecDepth 100000 in
theorem zpr_bit : ∀ q : Fin 128, ¬ t_X11_shape (nI q.val) ≤ 0 → ∀ r : Fin 5, ∀ c : Fin 5, decide ((((zpr q.val r.val) >>> (((4 : Int32) - nI c.val) &&& 31)) &&& (1 : Int32)) = (1 : Int32)) = zbit (nI q.val) r.val c.val := by decide +kernel
set_option maxRecDepth 100000 in
theorem zix_shape : ∀ q : Fin 128, (0 ≤ ixL q.val ↔ ¬ t_X11_shape (nI q.val) ≤ 0) := by decide +kernel
theorem zchar {q : Nat} (h : q < 128) : ((nI q).toUInt32 % 65536).toInt32 = nI q := by
  rw [pk_char, pk_tn (by omega), Nat.mod_eq_of_lt (by omega)]
section SHP
variable {now op ow le : Nat → Int32} {N : Nat}
theorem c_patternRow (hN : 1000 ≤ N) {q r : Nat} (hq : q < 128) : f_X5_patternRow N (nI q) (nI r) = some (zpr q r) := by
  unfold f_X5_patternRow zpr
  rw [zchar hq, bnd1_e (index_s0 (by omega) hq)]
  by_cases h1 : ixL q * (5 : Int32) + nI r < 0
  · rw [if_pos h1, if_pos h1]
  · rw [if_neg h1, if_neg h1]
    by_cases h2 : (75 : Int32) ≤ ixL q * (5 : Int32) + nI r
    · rw [if_pos h2, if_pos h2]
    · rw [if_neg h2, if_neg h2]
/-- the owners while letters are laid: of the place p the rows below r, of the row r the columns below j -/
def zlay (now : Nat → Int32) (p r j : Nat) (D : Nat → Int32) : Prop :=
  ∀ c, c < 210 → D c = if (zr now c = true ∧ c / zw now < 5 ∧ (c % zw now / 6 < p ∨ (c % zw now / 6 = p ∧ (c / zw now < r ∨ (c / zw now = r ∧ c % zw now % 6 < j))))) then nI (2 + c % zw now / 6) else 0
theorem zlet_c (h : zwf now) {p r j : Nat} (hp : p < zn now) (hr : r < 5) (hj : j < 5) : r * zw now + 6 * p + j < 6 * zw now ∧ (r * zw now + 6 * p + j) / zw now = r ∧ (r * zw now + 6 * p + j) % zw now = 6 * p + j ∧ (6 * p + j) / 6 = p ∧ (6 * p + j) % 6 = j := by
  have hn := zwf_n h
  have hl : 6 * p + j < zw now := by unfold zw; omega
  have h5 : r * zw now ≤ 4 * zw now := Nat.mul_le_mul_right _ (by omega)
  have e : r * zw now + 6 * p + j = zw now * r + (6 * p + j) := by rw [Nat.mul_comm]; omega
  refine ⟨by omega, ?_, ?_, by omega, by omega⟩
  · rw [e, Nat.mul_add_div (by omega), Nat.div_eq_of_lt hl, Nat.add_zero]
  · rw [e, Nat.mul_add_mod, Nat.mod_eq_of_lt hl]
theorem zcell_u (h : zwf now) {c p r j : Nat} (h1 : c / zw now = r) (h2 : c % zw now / 6 = p) (h3 : c % zw now % 6 = j) : c = r * zw now + 6 * p + j := by
  have e1 := Nat.div_add_mod c (zw now)
  have e2 := Nat.div_add_mod (c % zw now) 6
  rw [h1, Nat.mul_comm] at e1
  rw [h2, h3] at e2
  omega
theorem zr_letter (h : zwf now) {c : Nat} (hc : zr now c = true) (h5 : c / zw now < 5) : c % zw now % 6 < 5 ∧ zbit (now (1 + c % zw now / 6)) (c / zw now) (c % zw now % 6) = true := by
  unfold zr at hc
  rw [Bool.and_eq_true, Bool.or_eq_true, Bool.and_eq_true] at hc
  rcases hc.2 with q | ⟨q1, q2⟩
  · have := of_decide_eq_true q; omega
  · exact ⟨of_decide_eq_true q1, q2⟩
theorem c_ll17 (h : zwf now) {P : Option (Nat → Int32) → Prop} {k2 : Int32 → (Nat → Int32) → Option (Nat → Int32)} {p r q : Nat} (hp : p < zn now) (hr : r < 5) (hq : q < 128) (hqe : now (1 + p) = nI q) (hsh : ¬ t_X11_shape (now (1 + p)) ≤ 0) (va2 : Int32)
    (hP : ∀ D, zlay now p (r + 1) 0 D → P (k2 (nI r + 1) D)) :
    ∀ j, j ≤ 5 → ∀ F, 5 - j < F → ∀ D, zlay now p r j D → P (b_X5_layLetter_17 N (nI (zw now)) (nI p) va2 k2 F (nI r) (zpr q r) (nI j) D) := by
  have hwl := zwf_w h
  have hn := zwf_n h
  refine dn 5 ?_ ?_
  · intro F hF D hD
    obtain ⟨F, rfl⟩ : ∃ G, F = G + 1 := ⟨F - 1, by omega⟩
    rw [b_X5_layLetter_17, if_pos (show (5 : Int32) ≤ nI 5 by decide)]
    refine hP D (fun c hc => ?_)
    rw [hD c hc]
    by_cases q1 : zr now c = true ∧ c / zw now < 5
    · have := (zr_letter h q1.1 q1.2).1
      by_cases q2 : c % zw now / 6 < p ∨ (c % zw now / 6 = p ∧ (c / zw now < r ∨ (c / zw now = r ∧ c % zw now % 6 < 5)))
      · rw [if_pos ⟨q1.1, q1.2, q2⟩, if_pos ⟨q1.1, q1.2, by omega⟩]
      · rw [if_neg (fun e => q2 e.2.2), if_neg (fun e => q2 (by have := e.2.2; omega))]
    · rw [if_neg (fun e => q1 ⟨e.1, e.2.1⟩), if_neg (fun e => q1 ⟨e.1, e.2.1⟩)]
  · intro j hj ih F hF D hD
    obtain ⟨F, rfl⟩ : ∃ G, F = G + 1 := ⟨F - 1, by omega⟩
    obtain ⟨x1, x2, x3, x4, x5⟩ := zlet_c h hp hr hj
    have hbit := zpr_bit ⟨q, hq⟩ (by rw [← hqe]; exact hsh) ⟨r, hr⟩ ⟨j, hj⟩
    have hzr : zr now (r * zw now + 6 * p + j) = zbit (nI q) r j := by
      unfold zr
      rw [decide_eq_true x1, x2, x3, x4, x5, decide_eq_false (show ¬ r = 5 by omega), decide_eq_true hj, hqe]; rfl
    have hcell : ∀ c, c ≠ r * zw now + 6 * p + j → ((c % zw now / 6 < p ∨ (c % zw now / 6 = p ∧ (c / zw now < r ∨ (c / zw now = r ∧ c % zw now % 6 < j)))) ↔ (c % zw now / 6 < p ∨ (c % zw now / 6 = p ∧ (c / zw now < r ∨ (c / zw now = r ∧ c % zw now % 6 < j + 1))))) := by
      intro c hc
      constructor
      · intro e; omega
      · intro e
        rcases e with e | ⟨e1, e | ⟨e2, e3⟩⟩
        · exact Or.inl e
        · exact Or.inr ⟨e1, Or.inl e⟩
        · refine Or.inr ⟨e1, Or.inr ⟨e2, ?_⟩⟩
          have : c % zw now % 6 ≠ j := fun e4 => hc (zcell_u h e2 e1 e4)
          omega
    rw [b_X5_layLetter_17, if_neg (show ¬ (5 : Int32) ≤ nI j from nI_ge (b := 5) hj (by decide)), nI_1]
    by_cases hb : (((zpr q r) >>> (((4 : Int32) - nI j) &&& 31)) &&& (1 : Int32)) = (1 : Int32)
    · rw [decide_eq_true hb] at hbit
      have hz : zr now (r * zw now + 6 * p + j) = true := hzr.trans hbit.symm
      rw [if_pos hb, pk_mul, show (6 : Int32) * nI p = nI (6 * p) from pk_mul 6 p, nI_add, nI_add, show (2 : Int32) + nI p = nI (2 + p) from nI_add 2 p, put_lt D _ (by decide) (show r * zw now + 6 * p + j < 210 by omega)]
      refine ih F (by omega) _ (fun c hc => ?_)
      by_cases e : c = r * zw now + 6 * p + j
      · rw [e, pk_us, x2, x3, x4, x5, if_pos ⟨hz, hr, Or.inr ⟨rfl, Or.inr ⟨rfl, by omega⟩⟩⟩]
      · rw [pk_un e, hD c hc]
        have := hcell c e
        by_cases q2 : zr now c = true ∧ c / zw now < 5 ∧ (c % zw now / 6 < p ∨ (c % zw now / 6 = p ∧ (c / zw now < r ∨ (c / zw now = r ∧ c % zw now % 6 < j))))
        · rw [if_pos q2, if_pos ⟨q2.1, q2.2.1, this.mp q2.2.2⟩]
        · rw [if_neg q2, if_neg (fun x => q2 ⟨x.1, x.2.1, this.mpr x.2.2⟩)]
    · rw [decide_eq_false hb] at hbit
      have hz : zr now (r * zw now + 6 * p + j) = false := hzr.trans hbit.symm
      rw [if_neg hb]
      refine ih F (by omega) _ (fun c hc => ?_)
      rw [hD c hc]
      by_cases e : c = r * zw now + 6 * p + j
      · rw [e, if_neg (fun x => by rw [hz] at x; exact absurd x.1 (by decide)), if_neg (fun x => by rw [hz] at x; exact absurd x.1 (by decide))]
      · have := hcell c e
        by_cases q2 : zr now c = true ∧ c / zw now < 5 ∧ (c % zw now / 6 < p ∨ (c % zw now / 6 = p ∧ (c / zw now < r ∨ (c / zw now = r ∧ c % zw now % 6 < j))))
        · rw [if_pos q2, if_pos ⟨q2.1, q2.2.1, this.mp q2.2.2⟩]
        · rw [if_neg q2, if_neg (fun x => q2 ⟨x.1, x.2.1, this.mpr x.2.2⟩)]
theorem c_layLetter (h : zwf now) (hN : 1000 ≤ N) {p : Nat} (hp : p < zn now) {D : Nat → Int32} (hD : zlay now p 0 0 D) : ∃ D', f_X5_layLetter N (nI (zw now)) D (nI p) (now (1 + p)) = some D' ∧ zlay now (p + 1) 0 0 D' := by
  obtain ⟨q, hq, hqe, hsh⟩ := h.2.1 p hp
  unfold f_X5_layLetter
  have key : ∀ r, r ≤ 5 → ∀ F, 5 - r < F → ∀ D, zlay now p r 0 D → ∃ D', b_X5_layLetter_2 N (nI (zw now)) (nI p) (now (1 + p)) F (nI r) D = some D' ∧ zlay now (p + 1) 0 0 D' := by
    refine dn 5 ?_ ?_
    · intro F hF D hD
      obtain ⟨F, rfl⟩ : ∃ G, F = G + 1 := ⟨F - 1, by omega⟩
      rw [b_X5_layLetter_2, if_pos (show (5 : Int32) ≤ nI 5 by decide)]
      refine ⟨D, rfl, fun c hc => ?_⟩
      rw [hD c hc]
      by_cases q1 : zr now c = true ∧ c / zw now < 5
      · by_cases q2 : c % zw now / 6 < p ∨ (c % zw now / 6 = p ∧ (c / zw now < 5 ∨ (c / zw now = 5 ∧ c % zw now % 6 < 0)))
        · rw [if_pos ⟨q1.1, q1.2, q2⟩, if_pos ⟨q1.1, q1.2, by omega⟩]
        · rw [if_neg (fun e => q2 e.2.2), if_neg (fun e => q2 (by have := e.2.2; have := Nat.zero_le (c / zw now); omega))]
      · rw [if_neg (fun e => q1 ⟨e.1, e.2.1⟩), if_neg (fun e => q1 ⟨e.1, e.2.1⟩)]
    · intro r hr ih F hF D hD
      obtain ⟨F, rfl⟩ : ∃ G, F = G + 1 := ⟨F - 1, by omega⟩
      rw [b_X5_layLetter_2, if_neg (show ¬ (5 : Int32) ≤ nI r from nI_ge (b := 5) hr (by decide))]
      conv => enter [1, D', 1, 1]; rw [hqe, bnd1_e (c_patternRow hN hq)]
      rw [hqe] at ih
      have := c_ll17 (N := N) (P := fun x => ∃ D', x = some D' ∧ zlay now (p + 1) 0 0 D') (k2 := b_X5_layLetter_2 N (nI (zw now)) (nI p) (nI q) F) h hp hr hq hqe hsh (nI q) (fun D' hD' => by rw [nI_1]; exact ih F (by omega) D' hD') 0 (by omega) N (by omega) D hD
      exact this
  exact key 0 (by omega) N (by omega) D hD
theorem zbase (h : zwf now) {c : Nat} (h1 : 5 * zw now ≤ c) (h2 : c < 6 * zw now) : zr now c = true ∧ c / zw now = 5 := by
  have hwl := zwf_w h
  have e : c / zw now = 5 := by
    rw [show c = zw now * 5 + (c - 5 * zw now) by omega, Nat.mul_add_div (by omega), Nat.div_eq_of_lt (by omega)]
  refine ⟨?_, e⟩
  unfold zr
  rw [decide_eq_true h2, decide_eq_true e]; rfl
theorem zdiv_lt (h : zwf now) {c : Nat} (h2 : c < 6 * zw now) (h5 : ¬ c / zw now = 5) : c < 5 * zw now ∧ c / zw now < 5 := by
  have hwl := zwf_w h
  have := Nat.div_add_mod c (zw now)
  have hm := Nat.mod_lt c (by omega : 0 < zw now)
  have h6 : c / zw now < 6 := Nat.div_lt_of_lt_mul (by rw [Nat.mul_comm]; exact h2)
  have h7 : c / zw now < 5 := by omega
  have h8 : zw now * (c / zw now) ≤ zw now * 4 := Nat.mul_le_mul_left _ (by omega)
  omega
theorem zlowest (h : zwf now) : ∃ k, zr now k = true ∧ ∀ j, j < k → zr now j = false := by
  have hwl := zwf_w h
  obtain ⟨k, h1, h2⟩ := pk_least (fun c => zr now c = true) ⟨5 * zw now, (zbase h (Nat.le_refl _) (by omega)).1⟩
  refine ⟨k, h1, fun j hj => ?_⟩
  have := h2 j hj
  exact (Bool.not_eq_true _).mp this
theorem c_countRooms (h : zwf now) {w cc rc dc lo : Int32} (hs : zsh now w cc rc dc lo ow) (hN : 1000 ≤ N) (a b c : Int32) : f_X5_countRoomsAndDoors N w a b c ow = some (rc, dc, lo) := by
  obtain ⟨-, -, e3, e4, ⟨k, e5, k1, k2⟩, -⟩ := id hs
  unfold f_X5_countRoomsAndDoors
  have hk := zr_210 h k1
  have key : ∀ j, j ≤ 210 → ∀ F, 210 - j < F → b_X5_countRoomsAndDoors_17 N w ow F (nI j) (nI (zCt (zr now) j)) (nI (zCt (fun c => zr now c && zh now c 1) j + zCt (fun c => zr now c && zh now c 2) j)) (if k < j then nI k else -1) = some (rc, dc, lo) := by
    refine dn 210 ?_ ?_
    · intro F hF
      obtain ⟨F, rfl⟩ : ∃ G, F = G + 1 := ⟨F - 1, by omega⟩
      rw [b_X5_countRoomsAndDoors_17, if_pos (show (210 : Int32) ≤ nI 210 by decide), if_pos hk, e3, e4, e5]
    · intro j hj ih F hF
      obtain ⟨F, rfl⟩ : ∃ G, F = G + 1 := ⟨F - 1, by omega⟩
      have hih := ih F (by omega)
      rw [zCt_s, zCt_s, zCt_s] at hih
      rw [b_X5_countRoomsAndDoors_17, if_neg (show ¬ (210 : Int32) ≤ nI j from nI_ge (b := 210) hj (by decide)), c_holds h hs (show j < 2 ^ 31 by omega), nI_1]
      cases hr : zr now j with
      | false =>
        rw [hr] at hih
        rw [if_pos zi_f]
        have e : (if k < j then nI k else (-1 : Int32)) = if k < j + 1 then nI k else -1 := by
          by_cases q : k < j
          · rw [if_pos q, if_pos (by omega)]
          · have : k ≠ j := fun e => by rw [e, hr] at k1; cases k1
            rw [if_neg q, if_neg (by omega)]
        rw [e]
        exact hih
      | true =>
        rw [hr, Bool.true_and, Bool.true_and] at hih
        have hkj : k ≤ j := by
          rcases Nat.lt_or_ge j k with q | q
          · have := k2 j q; rw [hr] at this; cases this
          · exact q
        have b59 : ∀ s : Int32, b_X5_countRoomsAndDoors_59 N w ow (b_X5_countRoomsAndDoors_17 N w ow F) (nI j) (nI k) (nI (zCt (zr now) j + 1)) (nI (zCt (fun c => zr now c && zh now c 1) j + zCt (fun c => zr now c && zh now c 2) j)) s = some (rc, dc, lo) := by
          intro s
          unfold b_X5_countRoomsAndDoors_59
          have d1 : t_X5_hasDoor w ow (nI j) (1 : Int32) = zi (zh now j 1) := (c_hasDoor h hs hj (d := 1) (by decide)).trans (by rw [hr]; rfl)
          have d2 : t_X5_hasDoor w ow (nI j) (2 : Int32) = zi (zh now j 2) := (c_hasDoor h hs hj (d := 2) (by decide)).trans (by rw [hr]; rfl)
          rw [if_pos (show k < j + 1 by omega)] at hih
          have e0 : (0 : Int32) = nI 0 := rfl
          have e1 : (1 : Int32) = nI 1 := rfl
          rw [d1]
          cases h1 : zh now j 1 with
          | false =>
            rw [h1] at hih
            rw [if_pos zi_f]
            unfold b_X5_countRoomsAndDoors_81
            rw [d2]
            cases h2 : zh now j 2 with
            | false =>
              rw [h2] at hih
              rw [if_pos zi_f, nI_1, e0, nI_add, nI_add]
              exact hih
            | true =>
              rw [h2] at hih
              rw [if_neg (by decide), nI_1, e0, e1, nI_add, nI_add]
              exact hih
          | true =>
            rw [h1] at hih
            have e7 : ∀ a b x : Nat, a + 1 + (b + x) = a + b + 1 + x := fun a b x => by omega
            rw [if_neg (by decide)]
            unfold b_X5_countRoomsAndDoors_81
            rw [d2]
            cases h2 : zh now j 2 with
            | false =>
              rw [h2] at hih
              rw [if_pos zi_f, nI_1, e0, e1, nI_add, nI_add]
              have hih : b_X5_countRoomsAndDoors_17 N w ow F (nI (j + 1)) (nI (zCt (zr now) j + 1)) (nI (zCt (fun c => zr now c && zh now c 1) j + 1 + (zCt (fun c => zr now c && zh now c 2) j + 0))) (nI k) = some (rc, dc, lo) := hih
              rw [e7] at hih
              exact hih
            | true =>
              rw [h2] at hih
              rw [if_neg (by decide), nI_1, e1, nI_add, nI_add]
              have hih : b_X5_countRoomsAndDoors_17 N w ow F (nI (j + 1)) (nI (zCt (zr now) j + 1)) (nI (zCt (fun c => zr now c && zh now c 1) j + 1 + (zCt (fun c => zr now c && zh now c 2) j + 1))) (nI k) = some (rc, dc, lo) := hih
              rw [e7] at hih
              exact hih
        rw [if_neg (by decide), nI_1]
        by_cases q : k < j
        · rw [if_pos q, if_neg (fun e => nI_pos (show k < 2 ^ 31 by omega) (by rw [e]; decide))]
          exact b59 _
        · have : j = k := by omega
          rw [if_neg q, if_pos rfl, show nI j = nI j from rfl]
          have := b59 (-1)
          rw [show k = j by omega] at this
          exact this
  have := key 0 (by omega) N (by omega)
  rw [if_neg (Nat.not_lt_zero k)] at this
  exact this
theorem c_build (h : zwf now) (hN : 1000 ≤ N) {sz : Int32} (hsz : sz = now 0) (hle : ∀ k, k < zn now → le k = now (1 + k)) (w cc rc dc lo : Int32) (ow : Nat → Int32) :
    ∃ w' cc' rc' dc' lo' ow', f_X5_build N w cc rc dc lo ow sz le = some (w', cc', rc', dc', lo', ow') ∧ zsh now w' cc' rc' dc' lo' ow' := by
  have hwl := zwf_w h
  have hn := zwf_n h
  obtain ⟨k, k1, k2⟩ := zlowest h
  unfold f_X5_build
  rw [bnd1_e (fill_4 (by decide) (by omega) ow 0), hsz, hn.2.2]
  have ew : ((6 : Int32) * nI (zn now)) - (1 : Int32) = nI (zw now) := by
    show nI 6 * nI (zn now) - nI 1 = nI (6 * zn now - 1)
    rw [pk_mul, pk_sub (by omega)]
  have ecc : (6 : Int32) * nI (zw now) = nI (6 * zw now) := pk_mul 6 _
  rw [ew, ecc]
  -- the base row
  have base : ∀ j, j ≤ zw now → ∀ F, zw now - j < F → ∀ D, (∀ c, c < 210 → D c = if zr now c = true ∧ c / zw now < 5 then nI (2 + c % zw now / 6) else if 5 * zw now ≤ c ∧ c < 5 * zw now + j then 1 else 0) →
      ∃ w' cc' rc' dc' lo' ow', b_X5_build_69 N (nI (zn now)) le F (nI j) (nI (zw now)) (nI (6 * zw now)) rc dc lo D = some (w', cc', rc', dc', lo', ow') ∧ zsh now w' cc' rc' dc' lo' ow' := by
    refine dn _ ?_ ?_
    · intro F hF D hD
      obtain ⟨F, rfl⟩ : ∃ G, F = G + 1 := ⟨F - 1, by omega⟩
      rw [b_X5_build_69, if_pos (nI_le (Nat.le_refl _) (by omega))]
      unfold b_X5_build_103
      have hs : zsh now (nI (zw now)) (nI (6 * zw now)) (nI (zCt (zr now) 210)) (nI (zCt (fun c => zr now c && zh now c 1) 210 + zCt (fun c => zr now c && zh now c 2) 210)) (nI k) D := by
        refine ⟨rfl, rfl, rfl, rfl, ⟨k, rfl, k1, k2⟩, fun c hc => ?_⟩
        rw [hD c hc]
        by_cases hr : zr now c = true
        · rw [if_pos hr]
          by_cases h5 : c / zw now = 5
          · have hl := zr_lt hr
            have := Nat.div_add_mod c (zw now)
            rw [h5] at this
            rw [if_neg (fun e => by omega), if_pos h5, if_pos (by omega)]
          · rw [if_pos ⟨hr, (zdiv_lt h (zr_lt hr) h5).2⟩, if_neg h5]
        · rw [if_neg hr, if_neg (fun e => hr e.1), if_neg (fun e => hr (zbase h e.1 (by omega)).1)]
      rw [bnd3_e (c_countRooms h hs hN rc dc lo)]
      exact ⟨_, _, _, _, _, _, rfl, hs⟩
    · intro j hj ih F hF D hD
      obtain ⟨F, rfl⟩ : ∃ G, F = G + 1 := ⟨F - 1, by omega⟩
      have eb : t_X5_baseCell (nI (zw now)) + nI j = nI (5 * zw now + j) := by
        show nI 5 * nI (zw now) + nI j = _
        rw [pk_mul, nI_add]
      rw [b_X5_build_69, if_neg (nI_ge hj (by omega)), if_neg (show ¬ (35 : Int32) ≤ nI j from nI_ge (b := 35) (by omega) (by decide)), eb, put_lt D _ (by decide) (show 5 * zw now + j < 210 by omega), nI_1]
      refine ih F (by omega) _ (fun c hc => ?_)
      by_cases e : c = 5 * zw now + j
      · rw [e, pk_us, if_neg (fun x => by have := (zbase h (c := 5 * zw now + j) (by omega) (by omega)).2; omega), if_pos (by omega)]
      · rw [pk_un e, hD c hc]
        by_cases q1 : zr now c = true ∧ c / zw now < 5
        · rw [if_pos q1, if_pos q1]
        · rw [if_neg q1, if_neg q1]
          by_cases q2 : 5 * zw now ≤ c ∧ c < 5 * zw now + j
          · rw [if_pos q2, if_pos (by omega)]
          · rw [if_neg q2, if_neg (by omega)]
  have lets : ∀ p, p ≤ zn now → ∀ F, zn now - p < F → ∀ D, zlay now p 0 0 D → ∃ w' cc' rc' dc' lo' ow', b_X5_build_34 N (nI (zn now)) le F (nI p) (nI (zw now)) (nI (6 * zw now)) rc dc lo D = some (w', cc', rc', dc', lo', ow') ∧ zsh now w' cc' rc' dc' lo' ow' := by
    refine dn _ ?_ ?_
    · intro F hF D hD
      obtain ⟨F, rfl⟩ : ∃ G, F = G + 1 := ⟨F - 1, by omega⟩
      rw [b_X5_build_34, if_pos (nI_le (Nat.le_refl _) (by omega))]
      refine base 0 (Nat.zero_le _) N (by omega) D (fun c hc => ?_)
      rw [hD c hc]
      by_cases q1 : zr now c = true ∧ c / zw now < 5
      · have hm := Nat.mod_lt c (by omega : 0 < zw now)
        have h6 : c % zw now / 6 < zn now := by
          have e : zw now = 6 * zn now - 1 := rfl
          omega
        rw [if_pos ⟨q1.1, q1.2, Or.inl h6⟩, if_pos q1]
      · rw [if_neg (fun e => q1 ⟨e.1, e.2.1⟩), if_neg q1, if_neg (by omega)]
    · intro p hp ih F hF D hD
      obtain ⟨F, rfl⟩ : ∃ G, F = G + 1 := ⟨F - 1, by omega⟩
      obtain ⟨D', e1, e2⟩ := c_layLetter h hN hp hD
      rw [b_X5_build_34, if_neg (nI_ge hp (by omega)), if_neg (show ¬ (6 : Int32) ≤ nI p from nI_ge (b := 6) (by omega) (by decide)), at_lt le (by decide) (show p < 6 by omega), hle p hp, bnd1_e e1, nI_1]
      exact ih F (by omega) D' e2
  exact lets 0 (Nat.zero_le _) N (by omega) _ (fun c hc => by rw [ffill_lt hc, if_neg (fun e => by have := Nat.zero_le (c / zw now); omega)])
-- the model begins
def zbg (now : Nat → Int32) (lo : Nat) : Nat → Int32 := fun k => if k < 7 then now k else if k = 7 then nI (5 * zw now) else if k = 8 then nI lo else if k < 639 then 0 else now k
theorem zbaseN (h : znn now) {c : Nat} (h1 : 5 * zw now ≤ c) (h2 : c < 6 * zw now) : zr now c = true := by
  have hwl := znn_w h
  have e : c / zw now = 5 := by
    rw [show c = zw now * 5 + (c - 5 * zw now) by omega, Nat.mul_add_div (by omega), Nat.div_eq_of_lt (by omega)]
  unfold zr
  rw [decide_eq_true h2, decide_eq_true e]; rfl
theorem m_begins (h : znn now) (hN : 1000 ≤ N) : ∃ lo, zr now lo = true ∧ (∀ j, j < lo → zr now j = false) ∧ f_X11_begins N now = some (zbg now lo) := by
  have hwl := znn_w h
  obtain ⟨lo, h1, h2⟩ := pk_least (fun c => zr now c = true) ⟨5 * zw now, zbaseN h (Nat.le_refl _) (by omega)⟩
  have h2 : ∀ j, j < lo → zr now j = false := fun j hj => (Bool.not_eq_true _).mp (h2 j hj)
  have hlo : lo < 6 * zw now := zr_lt h1
  refine ⟨lo, h1, h2, ?_⟩
  unfold f_X11_begins
  have key : ∀ k, k ≤ 630 → ∀ F, 630 - k < F → ∀ D, (∀ j, D j = if 9 ≤ j ∧ j < 9 + k then 0 else now j) → b_X11_begins_3 N F (nI (9 + k)) D = some (zbg now lo) := by
    refine dn 630 ?_ ?_
    · intro F hF D hD
      obtain ⟨F, rfl⟩ : ∃ G, F = G + 1 := ⟨F - 1, by omega⟩
      have hDlo : ∀ k, k < 7 → D k = now k := fun k hk => by rw [hD k, if_neg (by omega)]
      obtain ⟨e1, e2, e3, -, -⟩ := zsameN h hDlo
      have hD1 : znn D := by unfold znn; rw [e1, hDlo 0 (by decide)]; exact h
      have e7 : (5 : Int32) * t_X11_wide D = nI (5 * zw now) := by
        rw [m_wideN hD1, e2]; exact pk_mul 5 _
      rw [b_X11_begins_3, if_pos (show (639 : Int32) ≤ nI (9 + 630) by decide), e7]
      have hUlo : ∀ k, k < 7 → upd D (7 : Int32).toNatClampNeg (nI (5 * zw now)) k = now k := fun k hk => by
        rw [show (7 : Int32).toNatClampNeg = 7 from rfl, pk_un (by omega), hDlo k hk]
      obtain ⟨f1, f2, f3, -, -⟩ := zsameN h hUlo
      have hU1 : znn (upd D (7 : Int32).toNatClampNeg (nI (5 * zw now))) := by unfold znn; rw [f1, hUlo 0 (by decide)]; exact h
      have key2 : ∀ j, j ≤ lo → ∀ F, lo - j < F → b_X11_begins_38 N F (nI j) (upd D (7 : Int32).toNatClampNeg (nI (5 * zw now))) = some (zbg now lo) := by
        refine dn lo ?_ ?_
        · intro F hF
          obtain ⟨F, rfl⟩ : ∃ G, F = G + 1 := ⟨F - 1, by omega⟩
          rw [b_X11_begins_38, bnd1_e (m_isRoomAtN hU1 (by rw [f2]; exact hlo)), f3, h1, if_neg (by decide)]
          refine congrArg some ?_
          funext i
          show upd (upd D 7 (nI (5 * zw now))) 8 (nI lo) i = zbg now lo i
          unfold zbg
          by_cases q8 : i = 8
          · rw [q8, pk_us]; rfl
          · rw [pk_un q8]
            by_cases q7 : i = 7
            · rw [q7, pk_us]; rfl
            · rw [pk_un q7, hD i]
              by_cases q9 : i < 7
              · rw [if_neg (by omega), if_pos q9]
              · rw [if_neg q9, if_neg q7, if_neg q8]
                by_cases q10 : i < 639
                · rw [if_pos (by omega), if_pos q10]
                · rw [if_neg (by omega), if_neg q10]
        · intro j hj ih F hF
          obtain ⟨F, rfl⟩ : ∃ G, F = G + 1 := ⟨F - 1, by omega⟩
          rw [b_X11_begins_38, bnd1_e (m_isRoomAtN hU1 (by rw [f2]; omega)), f3, h2 j hj, if_pos zi_f, nI_1]
          exact ih F (by omega)
      exact key2 0 (Nat.zero_le _) N (by omega)
    · intro k hk ih F hF D hD
      obtain ⟨F, rfl⟩ : ∃ G, F = G + 1 := ⟨F - 1, by omega⟩
      rw [b_X11_begins_3, if_neg (show ¬ (639 : Int32) ≤ nI (9 + k) from nI_ge (b := 639) (by omega) (by decide)), nI_clamp (show 9 + k < 2 ^ 31 by omega), if_neg (zck (show 9 + k < 639 by omega) (by decide)), nI_1]
      refine ih F (by omega) _ (fun j => ?_)
      by_cases q : j = 9 + k
      · rw [q, pk_us, if_pos (by omega)]
      · rw [pk_un q, hD j]
        by_cases q2 : 9 ≤ j ∧ j < 9 + k
        · rw [if_pos q2, if_pos (by omega)]
        · rw [if_neg q2, if_neg (by omega)]
  exact key 0 (by omega) N (by omega) now (fun j => by rw [if_neg (by omega)])
theorem zbg_wf (h : znn now) (hl : ∀ k, k < zn now → ∃ q, q < 128 ∧ now (1 + k) = nI q ∧ ¬ t_X11_shape (now (1 + k)) ≤ 0) {lo : Nat} (hlo : zr now lo = true) : zwf (zbg now lo) ∧ zn (zbg now lo) = zn now ∧ zw (zbg now lo) = zw now ∧ zr (zbg now lo) = zr now ∧ ∀ k, k < 7 → zbg now lo k = now k := by
  have hwl := znn_w h
  have e : ∀ k, k < 7 → zbg now lo k = now k := fun k hk => if_pos hk
  obtain ⟨e1, e2, e3, e4, e5⟩ := zsameN h e
  have z : ∀ k, 9 ≤ k → k < 639 → zbg now lo k = 0 := fun k h1 h2 => by
    unfold zbg
    rw [if_neg (by omega), if_neg (by omega), if_neg (by omega), if_pos h2]
  refine ⟨?_, e1, e2, e3, e⟩
  unfold zwf
  rw [e1, e3, e4]
  refine ⟨⟨zn now, h.1, h.2.1, by rw [e 0 (by decide)]; exact h.2.2⟩, fun k hk => ?_, ⟨5 * zw now, rfl, zbaseN h (Nat.le_refl _) (by omega)⟩, ⟨lo, rfl, hlo⟩, fun c hc => Or.inl (z _ (by omega) (by omega)), fun c hc => Or.inl (z _ (by omega) (by omega)), fun c hc => ⟨0, by omega, z _ (by omega) (by omega), fun q => absurd rfl q⟩, ?_⟩
  · have := h.2.1
    rw [e (1 + k) (by omega)]; exact hl k hk
  · rw [zCt_congr (q := fun _ => false) 210 (fun c hc => by rw [z _ (by omega) (by omega)]; rfl)]
    show zS (fun _ => 0) 210 ≤ 20
    rw [zS_0]; omega
end SHP

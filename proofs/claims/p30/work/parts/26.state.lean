-- what a state is: the model's row, read
def zi (b : Bool) : Int32 := if b = true then 1 else 0
theorem zi_t : zi true = 1 := rfl
theorem zi_f : zi false = 0 := rfl
theorem zi_0 {b : Bool} : zi b = 0 ↔ b = false := by cases b <;> decide
theorem zi_1 {b : Bool} : zi b = 1 ↔ b = true := by cases b <;> decide
def zd : Nat → Int32
  | 0 => -1
  | k + 1 => nI k
def zn (now : Nat → Int32) : Nat := (now 0).toNatClampNeg
def zw (now : Nat → Int32) : Nat := 6 * zn now - 1
noncomputable def zbit (q : Int32) (r c : Nat) : Bool := decide ((((t_X11_shape q >>> (((5 : Int32) * ((4 : Int32) - nI r)) &&& 31)) >>> (((4 : Int32) - nI c) &&& 31)) &&& (1 : Int32)) = (1 : Int32))
/-- a cell is a room -/
noncomputable def zr (now : Nat → Int32) (c : Nat) : Bool := decide (c < 6 * zw now) && (decide (c / zw now = 5) || (decide (c % zw now % 6 < 5) && zbit (now (1 + c % zw now / 6)) (c / zw now) (c % zw now % 6)))
/-- there is a room in a direction -/
noncomputable def zh (now : Nat → Int32) (c d : Nat) : Bool := if d = 0 then decide (zw now ≤ c) && zr now (c - zw now) else if d = 1 then decide (c % zw now ≠ zw now - 1) && zr now (c + 1) else if d = 2 then zr now (c + zw now) else decide (c % zw now ≠ 0) && zr now (c - 1)
def za (now : Nat → Int32) (c d : Nat) : Nat := if d = 0 then 219 + c - zw now else if d = 1 then 9 + c else if d = 2 then 219 + c else 9 + c - 1
/-- a door is open -/
noncomputable def zo (now : Nat → Int32) (c d : Nat) : Bool := zh now c d && decide (now (za now c d) = 1)
def zwf (now : Nat → Int32) : Prop :=
  (∃ n, 1 ≤ n ∧ n ≤ 6 ∧ now 0 = nI n) ∧ (∀ k, k < zn now → ∃ q, q < 128 ∧ now (1 + k) = nI q ∧ ¬ t_X11_shape (now (1 + k)) ≤ 0) ∧
  (∃ s, now 7 = nI s ∧ zr now s = true) ∧ (∃ g, now 8 = nI g ∧ zr now g = true) ∧
  (∀ c, c < 210 → now (9 + c) = 0 ∨ (now (9 + c) = 1 ∧ zr now c = true ∧ zh now c 1 = true)) ∧
  (∀ c, c < 210 → now (219 + c) = 0 ∨ (now (219 + c) = 1 ∧ zr now c = true ∧ zh now c 2 = true)) ∧
  (∀ c, c < 210 → ∃ v, v ≤ 12 ∧ now (429 + c) = nI v ∧ (v ≠ 0 → zr now c = true)) ∧
  zCt (fun c => decide (now (429 + c) ≠ 0)) 210 ≤ 20
theorem zwf_n {now : Nat → Int32} (h : zwf now) : 1 ≤ zn now ∧ zn now ≤ 6 ∧ now 0 = nI (zn now) := by
  obtain ⟨⟨n, h1, h2, h3⟩, -⟩ := h
  have e : zn now = n := by unfold zn; rw [h3, nI_clamp (by omega)]
  rw [e]; exact ⟨h1, h2, h3⟩
theorem zwf_w {now : Nat → Int32} (h : zwf now) : 5 ≤ zw now ∧ zw now ≤ 35 := by
  have := zwf_n h
  unfold zw; omega
theorem zr_lt {now : Nat → Int32} {c : Nat} (h : zr now c = true) : c < 6 * zw now := by
  unfold zr at h
  rw [Bool.and_eq_true] at h
  exact of_decide_eq_true h.1
theorem zr_210 {now : Nat → Int32} (h : zwf now) {c : Nat} (hc : zr now c = true) : c < 210 := by
  have := zr_lt hc
  have := zwf_w h
  omega
theorem zh_0 {now : Nat → Int32} {c : Nat} : zh now c 0 = true ↔ zw now ≤ c ∧ zr now (c - zw now) = true := by
  show (decide (zw now ≤ c) && zr now (c - zw now)) = true ↔ _
  rw [Bool.and_eq_true, decide_eq_true_iff]
theorem zh_1 {now : Nat → Int32} {c : Nat} : zh now c 1 = true ↔ c % zw now ≠ zw now - 1 ∧ zr now (c + 1) = true := by
  show (decide (c % zw now ≠ zw now - 1) && zr now (c + 1)) = true ↔ _
  rw [Bool.and_eq_true, decide_eq_true_iff]
theorem zh_2 {now : Nat → Int32} {c : Nat} : zh now c 2 = true ↔ zr now (c + zw now) = true := Iff.rfl
theorem zh_3 {now : Nat → Int32} {c : Nat} : zh now c 3 = true ↔ c % zw now ≠ 0 ∧ zr now (c - 1) = true := by
  show (decide (c % zw now ≠ 0) && zr now (c - 1)) = true ↔ _
  rw [Bool.and_eq_true, decide_eq_true_iff]
theorem zmod_up {c w : Nat} (hw : 0 < w) (h : c % w ≠ w - 1) : (c + 1) % w = c % w + 1 := by
  have h1 := Nat.mod_lt c hw
  have h2 := Nat.div_add_mod c w
  have e : c + 1 = w * (c / w) + (c % w + 1) := by omega
  rw [e, Nat.mul_add_mod, Nat.mod_eq_of_lt (by omega)]
theorem zmod_dn {c w : Nat} (hw : 0 < w) (h : c % w ≠ 0) : (c - 1) % w = c % w - 1 ∧ 1 ≤ c := by
  have h1 := Nat.mod_lt c hw
  have h2 := Nat.div_add_mod c w
  have h3 : 1 ≤ c := by
    rcases Nat.eq_zero_or_pos c with q | q
    · subst q; rw [Nat.zero_mod] at h; exact absurd rfl h
    · exact q
  have e : c - 1 = w * (c / w) + (c % w - 1) := by omega
  refine ⟨?_, h3⟩
  rw [e, Nat.mul_add_mod, Nat.mod_eq_of_lt (by omega)]
theorem zd4 {d : Nat} (h : d < 4) : d = 0 ∨ d = 1 ∨ d = 2 ∨ d = 3 := by omega
theorem zh_back {now : Nat → Int32} (h : zwf now) {c d : Nat} (hd : d < 4) (hc : zr now c = true) (hh : zh now c d = true) :
    zr now (zN (zw now) c d) = true ∧ zh now (zN (zw now) c d) (zO d) = true ∧ zN (zw now) (zN (zw now) c d) (zO d) = c ∧ za now (zN (zw now) c d) (zO d) = za now c d := by
  have hw := zwf_w h
  rcases zd4 hd with rfl | rfl | rfl | rfl
  · obtain ⟨h1, h2⟩ := zh_0.mp hh
    refine ⟨h2, zh_2.mpr ?_, ?_, ?_⟩
    · show zr now (c - zw now + zw now) = true
      rw [Nat.sub_add_cancel h1]; exact hc
    · show c - zw now + zw now = c
      omega
    · show 219 + (c - zw now) = 219 + c - zw now
      omega
  · obtain ⟨h1, h2⟩ := zh_1.mp hh
    refine ⟨h2, zh_3.mpr ⟨?_, ?_⟩, ?_, ?_⟩
    · show (c + 1) % zw now ≠ 0
      rw [zmod_up (by omega) h1]; omega
    · exact hc
    · rfl
    · rfl
  · have h2 := zh_2.mp hh
    refine ⟨h2, zh_0.mpr ⟨?_, ?_⟩, ?_, ?_⟩
    · show zw now ≤ c + zw now
      omega
    · show zr now (c + zw now - zw now) = true
      rw [Nat.add_sub_cancel]; exact hc
    · show c + zw now - zw now = c
      omega
    · show 219 + (c + zw now) - zw now = 219 + c
      omega
  · obtain ⟨h1, h2⟩ := zh_3.mp hh
    obtain ⟨h3, h4⟩ := zmod_dn (by omega : 0 < zw now) h1
    refine ⟨h2, zh_1.mpr ⟨?_, ?_⟩, ?_, ?_⟩
    · show (c - 1) % zw now ≠ zw now - 1
      have := Nat.mod_lt c (by omega : 0 < zw now)
      omega
    · show zr now (c - 1 + 1) = true
      rw [Nat.sub_add_cancel h4]; exact hc
    · show c - 1 + 1 = c
      omega
    · show 9 + (c - 1) = 9 + c - 1
      omega
theorem zo_h {now : Nat → Int32} {c d : Nat} : zo now c d = true ↔ zh now c d = true ∧ now (za now c d) = 1 := by
  unfold zo
  rw [Bool.and_eq_true, decide_eq_true_iff]
theorem zo_r {now : Nat → Int32} (h : zwf now) {c d : Nat} (hd : d < 4) (ho : zo now c d = true) : zr now c = true := by
  obtain ⟨h1, h2⟩ := zo_h.mp ho
  have hw := zwf_w h
  obtain ⟨-, -, -, -, h5, h6, -⟩ := h
  rcases zd4 hd with rfl | rfl | rfl | rfl
  · obtain ⟨h3, h4⟩ := zh_0.mp h1
    have hl := zr_lt h4
    have h2 : now (219 + c - zw now) = 1 := h2
    rw [show 219 + c - zw now = 219 + (c - zw now) by omega] at h2
    rcases h6 (c - zw now) (by omega) with q | ⟨q1, q2, q3⟩
    · rw [q] at h2; exact absurd h2 (by decide)
    · have q4 := zh_2.mp q3
      rw [Nat.sub_add_cancel h3] at q4; exact q4
  · obtain ⟨h3, h4⟩ := zh_1.mp h1
    have hl := zr_lt h4
    have h2 : now (9 + c) = 1 := h2
    rcases h5 c (by omega) with q | ⟨q1, q2, q3⟩
    · rw [q] at h2; exact absurd h2 (by decide)
    · exact q2
  · have h4 := zh_2.mp h1
    have hl := zr_lt h4
    have h2 : now (219 + c) = 1 := h2
    rcases h6 c (by omega) with q | ⟨q1, q2, q3⟩
    · rw [q] at h2; exact absurd h2 (by decide)
    · exact q2
  · obtain ⟨h3, h4⟩ := zh_3.mp h1
    have hl := zr_lt h4
    have h9 := (zmod_dn (by omega : 0 < zw now) h3).2
    have h2 : now (9 + c - 1) = 1 := h2
    rw [show 9 + c - 1 = 9 + (c - 1) by omega] at h2
    rcases h5 (c - 1) (by omega) with q | ⟨q1, q2, q3⟩
    · rw [q] at h2; exact absurd h2 (by decide)
    · have q4 := (zh_1.mp q3).2
      rw [Nat.sub_add_cancel h9] at q4; exact q4
theorem zgr {now : Nat → Int32} (h : zwf now) : zG (zr now) (zo now) (zN (zw now)) := by
  refine ⟨fun c d hd ho => ?_, fun c hc => zr_210 h hc⟩
  have hc := zo_r h hd ho
  obtain ⟨h1, h2⟩ := zo_h.mp ho
  obtain ⟨b1, b2, b3, b4⟩ := zh_back h hd hc h1
  exact ⟨hc, b1, zo_h.mpr ⟨b2, by rw [b4]; exact h2⟩, b3⟩
theorem zgr2 {now : Nat → Int32} (h : zwf now) : zG2 (zw now) (zo now) := by
  have hw := zwf_w h
  refine ⟨by omega, fun c ho => (zh_0.mp (zo_h.mp ho).1).1, fun c ho => ?_⟩
  exact (zmod_dn (by omega : 0 < zw now) (zh_3.mp (zo_h.mp ho).1).1).2
-- Int32 by numbers
theorem zrem6 {a : Nat} (h : a < 2 ^ 31) : nI a - nI a / (6 : Int32) * (6 : Int32) = nI (a % 6) := pk_rem (d := 6) h (by decide) (by decide)
theorem zdiv6 {a : Nat} (h : a < 2 ^ 31) : nI a / (6 : Int32) = nI (a / 6) := pk_div (d := 6) h (by decide) (by decide)
theorem zrem4 {a : Nat} (h : a < 2 ^ 31) : nI a - nI a / (4 : Int32) * (4 : Int32) = nI (a % 4) := pk_rem (d := 4) h (by decide) (by decide)
theorem zdiv4 {a : Nat} (h : a < 2 ^ 31) : nI a / (4 : Int32) = nI (a / 4) := pk_div (d := 4) h (by decide) (by decide)
theorem zrem2 {a : Nat} (h : a < 2 ^ 31) : nI a - nI a / (2 : Int32) * (2 : Int32) = nI (a % 2) := pk_rem (d := 2) h (by decide) (by decide)
theorem zdiv2 {a : Nat} (h : a < 2 ^ 31) : nI a / (2 : Int32) = nI (a / 2) := pk_div (d := 2) h (by decide) (by decide)
theorem znum {a : Nat} (k : Nat) (ha : a < 2 ^ 31) (hk : k < 2 ^ 31) : (nI a = (OfNat.ofNat k : Int32)) ↔ a = k := nI_eq ha hk
-- the model's methods
/-- a row that tells its letters' number -/
def znn (now : Nat → Int32) : Prop := 1 ≤ zn now ∧ zn now ≤ 6 ∧ now 0 = nI (zn now)
theorem znn_w {now : Nat → Int32} (h : znn now) : 5 ≤ zw now ∧ zw now ≤ 35 := by
  obtain ⟨h1, h2, h3⟩ := h
  unfold zw; omega
theorem m_wideN {now : Nat → Int32} (h : znn now) : t_X11_wide now = nI (zw now) := by
  obtain ⟨h1, h2, h3⟩ := h
  unfold t_X11_wide
  show nI 6 * now 0 - nI 1 = nI (6 * zn now - 1)
  rw [h3, pk_mul, pk_sub (by omega)]
theorem m_wide {now : Nat → Int32} (h : zwf now) : t_X11_wide now = nI (zw now) := m_wideN (zwf_n h)
theorem m_cells {now : Nat → Int32} (h : zwf now) : t_X11_cells now = nI (6 * zw now) := by
  unfold t_X11_cells
  rw [m_wide h]
  show nI 6 * _ = _
  rw [pk_mul]
theorem m_isRoomAtN {now : Nat → Int32} (h : znn now) {c : Nat} (hc : c < 6 * zw now) : f_X11_isRoomAt now (nI c) = some (zi (zr now c)) := by
  have hw := znn_w h
  have hc31 : c < 2 ^ 31 := by omega
  have hm := Nat.mod_lt c (by omega : 0 < zw now)
  have hdv : c / zw now < 6 := Nat.div_lt_of_lt_mul (by rw [Nat.mul_comm]; exact hc)
  unfold f_X11_isRoomAt zr
  rw [m_wideN h, if_neg (nI_ne0 (by omega) (by omega)), if_neg (nI_ne0 (by omega) (by omega)), pk_rem hc31 (by omega) (by omega), pk_div hc31 (by omega) (by omega), zrem6 (by omega), zdiv6 (by omega), decide_eq_true hc, Bool.true_and]
  by_cases h5 : c / zw now = 5
  · rw [if_pos (by rw [h5]; rfl), decide_eq_true h5]; rfl
  · rw [if_neg (show ¬ nI _ = (5 : Int32) from fun e => h5 ((nI_eq (by omega) (by decide : (5 : Nat) < 2 ^ 31)).mp e)), decide_eq_false h5, Bool.false_or]
    by_cases h6 : c % zw now % 6 < 5
    · rw [if_neg (show ¬ (5 : Int32) ≤ nI (c % zw now % 6) from nI_ge (b := 5) h6 (by decide)), decide_eq_true h6, Bool.true_and]
      rw [show (1 : Int32) + nI (c % zw now / 6) = nI (1 + c % zw now / 6) from nI_add 1 _, nI_clamp (by omega), if_neg (by rintro (q | q); exact nI_pos (by omega) q; omega)]
      unfold zbit
      by_cases hb : (((t_X11_shape (now (1 + c % zw now / 6)) >>> (((5 : Int32) * ((4 : Int32) - nI (c / zw now))) &&& 31)) >>> (((4 : Int32) - nI (c % zw now % 6)) &&& 31)) &&& (1 : Int32)) = (1 : Int32)
      · rw [if_pos hb, decide_eq_true hb]; rfl
      · rw [if_neg hb, decide_eq_false hb]; rfl
    · rw [if_pos (show (5 : Int32) ≤ nI (c % zw now % 6) from nI_le (a := 5) (by omega) (by omega)), decide_eq_false h6, Bool.false_and]; rfl
theorem m_isRoomAt {now : Nat → Int32} (h : zwf now) {c : Nat} (hc : c < 6 * zw now) : f_X11_isRoomAt now (nI c) = some (zi (zr now c)) := m_isRoomAtN (zwf_n h) hc
theorem m_hasRoom {now : Nat → Int32} (h : zwf now) {c : Nat} (hc : c < 2 ^ 31) : f_X11_hasRoom now (nI c) = some (zi (zr now c)) := by
  have hw := zwf_w h
  unfold f_X11_hasRoom t_X11_in
  rw [m_cells h, if_neg (nI_pos hc), show nI (6 * zw now) - (1 : Int32) = nI (6 * zw now - 1) from pk_sub (b := 1) (by omega)]
  by_cases hl : c < 6 * zw now
  · rw [if_neg (nI_nlt (by omega) (by omega)), if_neg (by decide), bnd1_e (m_isRoomAt h hl)]
    cases zr now c <;> rfl
  · rw [if_pos (nI_lt (by omega) hc), if_pos rfl]
    cases hr : zr now c with
    | false => rfl
    | true => exact absurd (zr_lt hr) hl
theorem m_hasRoom_neg {now : Nat → Int32} {x : Int32} (hx : x < 0) : f_X11_hasRoom now x = some 0 := by
  unfold f_X11_hasRoom t_X11_in
  rw [if_pos hx, if_pos rfl]
theorem m_besideA {now : Nat → Int32} (h : zwf now) (a b : Int32) {t : Nat} (ht : t < 2 ^ 31) : b_X11_beside_78 now a b (nI t) = some (if zr now t = true then nI t else -1) := by
  unfold b_X11_beside_78 b_X11_beside_79
  rw [if_pos rfl, bnd1_e (m_hasRoom h ht)]
  cases zr now t <;> rfl
theorem m_besideN {now : Nat → Int32} (a b x : Int32) (hx : x < 0) : b_X11_beside_78 now a b x = some (-1) := by
  unfold b_X11_beside_78 b_X11_beside_79
  rw [if_pos rfl, bnd1_e (m_hasRoom_neg hx), if_pos rfl]
theorem m_beside {now : Nat → Int32} (h : zwf now) {c d : Nat} (hc : c < 6 * zw now) (hd : d < 4) : f_X11_beside now (nI c) (nI d) = some (if zh now c d = true then nI (zN (zw now) c d) else -1) := by
  have hw := zwf_w h
  have hc31 : c < 2 ^ 31 := by omega
  have hm := Nat.mod_lt c (by omega : 0 < zw now)
  unfold f_X11_beside
  rw [m_wide h, if_neg (nI_ne0 (by omega) (by omega)), pk_rem hc31 (by omega) (by omega)]
  rcases zd4 hd with rfl | rfl | rfl | rfl
  · rw [if_pos (by decide)]
    unfold b_X11_beside_48
    rw [if_neg (show ¬ nI 0 = (1 : Int32) by decide)]
    unfold b_X11_beside_65
    rw [if_neg (show ¬ nI 0 = (3 : Int32) by decide)]
    by_cases hl : zw now ≤ c
    · rw [pk_sub hl, m_besideA h _ _ (by omega)]
      by_cases hr : zr now (c - zw now) = true
      · rw [if_pos hr, if_pos (zh_0.mpr ⟨hl, hr⟩)]; rfl
      · rw [if_neg hr, if_neg (fun q => hr (zh_0.mp q).2)]
    · rw [m_besideN _ _ _ (pk_sneg (by omega) (by omega)), if_neg (fun q => hl (zh_0.mp q).1)]
  · rw [if_neg (show ¬ nI 1 = (0 : Int32) by decide), if_pos (by decide)]
    unfold b_X11_beside_48
    rw [if_pos (by decide), m_wide h, show nI (zw now) - (1 : Int32) = nI (zw now - 1) from pk_sub (b := 1) (by omega)]
    by_cases hl : c % zw now = zw now - 1
    · rw [if_pos (by rw [hl]), if_neg (fun q => (zh_1.mp q).1 hl)]
      unfold b_X11_beside_74 b_X11_beside_79
      rw [if_neg (by decide)]
    · rw [if_neg (fun q => hl ((nI_eq (by omega) (by omega)).mp q))]
      unfold b_X11_beside_65
      rw [if_neg (show ¬ nI 1 = (3 : Int32) by decide), nI_1, m_besideA h _ _ (by omega)]
      by_cases hr : zr now (c + 1) = true
      · rw [if_pos hr, if_pos (zh_1.mpr ⟨hl, hr⟩)]; rfl
      · rw [if_neg hr, if_neg (fun q => hr (zh_1.mp q).2)]
  · rw [if_neg (show ¬ nI 2 = (0 : Int32) by decide), if_neg (show ¬ nI 2 = (1 : Int32) by decide), if_pos (by decide)]
    unfold b_X11_beside_48
    rw [if_neg (show ¬ nI 2 = (1 : Int32) by decide)]
    unfold b_X11_beside_65
    rw [if_neg (show ¬ nI 2 = (3 : Int32) by decide), nI_add, m_besideA h _ _ (by omega)]
    rfl
  · rw [if_neg (show ¬ nI 3 = (0 : Int32) by decide), if_neg (show ¬ nI 3 = (1 : Int32) by decide), if_neg (show ¬ nI 3 = (2 : Int32) by decide)]
    unfold b_X11_beside_48
    rw [if_neg (show ¬ nI 3 = (1 : Int32) by decide)]
    unfold b_X11_beside_65
    rw [if_pos (by decide)]
    by_cases hl : c % zw now = 0
    · rw [if_pos (by rw [hl]; rfl), if_neg (fun q => (zh_3.mp q).1 hl)]
      unfold b_X11_beside_74 b_X11_beside_79
      rw [if_neg (by decide)]
    · have h9 := (zmod_dn (by omega : 0 < zw now) hl).2
      rw [if_neg (nI_ne0 (by omega) (by omega)), show nI c - (1 : Int32) = nI (c - 1) from pk_sub (b := 1) h9, m_besideA h _ _ (by omega)]
      by_cases hr : zr now (c - 1) = true
      · rw [if_pos hr, if_pos (zh_3.mpr ⟨hl, hr⟩)]; rfl
      · rw [if_neg hr, if_neg (fun q => hr (zh_3.mp q).2)]
theorem m_doorAt {now : Nat → Int32} (h : zwf now) {c d : Nat} (hd : d < 4) (hh : zh now c d = true) : t_X11_doorAt now (nI c) (nI d) = nI (za now c d) ∧ za now c d < 429 ∧ 9 ≤ za now c d := by
  have hw := zwf_w h
  unfold t_X11_doorAt
  rcases zd4 hd with rfl | rfl | rfl | rfl
  · obtain ⟨h1, h2⟩ := zh_0.mp hh
    have h3 := zr_lt h2
    rw [if_pos (by decide), m_wide h, show (219 : Int32) + nI c = nI (219 + c) from nI_add 219 c, pk_sub (by omega)]
    exact ⟨rfl, by show 219 + c - zw now < 429; omega, by show 9 ≤ 219 + c - zw now; omega⟩
  · obtain ⟨h1, h2⟩ := zh_1.mp hh
    have h3 := zr_lt h2
    rw [if_neg (show ¬ nI 1 = (0 : Int32) by decide), if_pos (by decide), show (9 : Int32) + nI c = nI (9 + c) from nI_add 9 c]
    exact ⟨rfl, by show 9 + c < 429; omega, by show 9 ≤ 9 + c; omega⟩
  · have h2 := zh_2.mp hh
    have h3 := zr_lt h2
    rw [if_neg (show ¬ nI 2 = (0 : Int32) by decide), if_neg (show ¬ nI 2 = (1 : Int32) by decide), if_pos (by decide), show (219 : Int32) + nI c = nI (219 + c) from nI_add 219 c]
    exact ⟨rfl, by show 219 + c < 429; omega, by show 9 ≤ 219 + c; omega⟩
  · obtain ⟨h1, h2⟩ := zh_3.mp hh
    have h3 := zr_lt h2
    have h9 := (zmod_dn (by omega : 0 < zw now) h1).2
    rw [if_neg (show ¬ nI 3 = (0 : Int32) by decide), if_neg (show ¬ nI 3 = (1 : Int32) by decide), if_neg (show ¬ nI 3 = (2 : Int32) by decide), show (9 : Int32) + nI c = nI (9 + c) from nI_add 9 c, show nI (9 + c) - (1 : Int32) = nI (9 + c - 1) from pk_sub (b := 1) (by omega)]
    exact ⟨rfl, by show 9 + c - 1 < 429; omega, by show 9 ≤ 9 + c - 1; omega⟩
theorem zneg1 : (-1 : Int32) < 0 := by decide
theorem zft : ¬ (false = true) := by decide
theorem m_isOpen {now : Nat → Int32} (h : zwf now) {c d : Nat} (hc : c < 6 * zw now) (hd : d < 4) : f_X11_isOpen now (nI c) (nI d) = some (zi (zo now c d)) := by
  have hw := zwf_w h
  unfold f_X11_isOpen zo
  rw [bnd1_e (m_beside h hc hd)]
  by_cases hh : zh now c d = true
  · have hN : zN (zw now) c d < 2 ^ 31 := by unfold zN; repeat' (first | omega | split)
    obtain ⟨e1, e2, e3⟩ := m_doorAt h hd hh
    rw [if_pos hh, if_neg (nI_pos hN), e1, nI_clamp (by omega), if_neg (by rintro (q | q); exact nI_pos (by omega) q; omega), hh, Bool.true_and]
    by_cases h1 : now (za now c d) = 1
    · rw [if_pos h1, decide_eq_true h1]; rfl
    · rw [if_neg h1, decide_eq_false h1]; rfl
  · rw [if_neg hh, if_pos zneg1, (Bool.not_eq_true _).mp hh, Bool.false_and]; rfl

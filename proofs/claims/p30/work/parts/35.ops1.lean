-- the answers, first part: rooms, letters, counts
theorem zarg (x : Int32) : x < 0 ∨ ∃ c, c < 2 ^ 31 ∧ x = nI c := by
  by_cases h : x < 0
  · exact Or.inl h
  · exact Or.inr (nI_of h)
theorem znn4 : ¬ (0 : Int32) ≤ -4 := by decide
/-- the owner of a room: 1: the base row, 2 and on: the letters -/
def zown (now : Nat → Int32) (c : Nat) : Nat := if c / zw now = 5 then 1 else 2 + c % zw now / 6
section OP1
variable {now op ow le sg : Nat → Int32} {w cc rc dc lo sz st go : Int32} {N : Nat}
theorem c_ow (hs : zsh now w cc rc dc lo ow) {c : Nat} (hc : c < 210) : ow c = nI (if zr now c = true then zown now c else 0) := by
  rw [hs.2.2.2.2.2 c hc]
  unfold zown
  by_cases h : zr now c = true
  · rw [if_pos h, if_pos h]
    by_cases q : c / zw now = 5
    · rw [if_pos q, if_pos q]; rfl
    · rw [if_neg q, if_neg q]
  · rw [if_neg h, if_neg h]; rfl
theorem zown_lt (h : zwf now) (c : Nat) : zown now c < 210 := by
  have hwl := zwf_w h
  have hm := Nat.mod_lt c (by omega : 0 < zw now)
  unfold zown
  by_cases q : c / zw now = 5
  · rw [if_pos q]; omega
  · rw [if_neg q]; omega
theorem m_letterAt (h : zwf now) {c : Nat} (hc : c < 6 * zw now) : f_X11_letterAt now (nI c) = some (if zown now c = 1 then -1 else nI (zown now c - 2)) := by
  have hwl := zwf_w h
  unfold f_X11_letterAt zown
  rw [m_wide h, if_neg (nI_ne0 (by omega) (by omega)), if_neg (nI_ne0 (by omega) (by omega)), pk_rem (by omega) (by omega) (by omega), pk_div (by omega) (by omega) (by omega), zdiv6 (by have := Nat.mod_lt c (by omega : 0 < zw now); omega)]
  have h6 : c / zw now < 6 := Nat.div_lt_of_lt_mul (by rw [Nat.mul_comm]; exact hc)
  by_cases q : c / zw now = 5
  · rw [if_pos (by rw [q]; rfl), if_pos q, if_pos rfl]
  · rw [if_neg (show ¬ nI _ = (5 : Int32) from fun e => q ((nI_eq (by omega) (by decide : (5 : Nat) < 2 ^ 31)).mp e)), if_neg q, if_neg (by omega)]
    exact congrArg (fun x => some (nI x)) (by omega)
theorem o_letterOf (h : zwf now) (hs : zsh now w cc rc dc lo ow) (x : Int32) : f_X11_letterOf now x = some (t_X10_letterOf ow x) := by
  have hwl := zwf_w h
  unfold f_X11_letterOf t_X10_letterOf
  rcases zarg x with hx | ⟨c, hc, rfl⟩
  · rw [bnd1_e (m_hasRoom_neg hx), c_holds_neg hx, if_pos rfl, if_pos rfl]
  · rw [bnd1_e (m_hasRoom h hc), c_holds h hs hc]
    cases hr : zr now c with
    | false => rfl
    | true =>
      have h1 := zr_lt hr
      have h2 := zown_lt h c
      rw [if_neg (by decide), if_neg (by decide), bnd1_e (m_letterAt h h1), at_lt ow (by decide) (by omega), c_ow hs (by omega), if_pos hr]
      by_cases q : zown now c = 1
      · rw [if_pos q, if_neg (by decide), if_pos (by rw [q]; rfl)]
      · have h3 : 2 ≤ zown now c := by unfold zown at q ⊢; by_cases q2 : c / zw now = 5; · rw [if_pos q2] at q; omega
                                       · rw [if_neg q2]; omega
        rw [if_neg q, if_pos (nI_pos' (by omega)), if_neg (show ¬ nI _ = (1 : Int32) from fun e => q ((nI_eq (by omega) (by decide : (1 : Nat) < 2 ^ 31)).mp e)), show nI (zown now c) - (2 : Int32) = nI (zown now c - 2) from pk_sub (b := 2) h3]
theorem zin {a k : Nat} (ha : a < 2 ^ 31) (hk : k < 2 ^ 31) : t_X11_in (nI a) 0 (nI k) = zi (decide (a ≤ k)) := by
  unfold t_X11_in
  rw [if_neg (nI_pos ha)]
  by_cases q : a ≤ k
  · rw [if_neg (nI_nlt q hk), decide_eq_true q]; rfl
  · rw [if_pos (nI_lt (by omega) ha), decide_eq_false q]; rfl
theorem zin_neg {x b : Int32} (hx : x < 0) : t_X11_in x 0 b = 0 := by unfold t_X11_in; rw [if_pos hx]
theorem o_isRoom (h : zwf now) (hs : zsh now w cc rc dc lo ow) (x : Int32) : f_X11_isRoom now x = some (t_X10_isRoom cc ow x) := by
  have hwl := zwf_w h
  unfold f_X11_isRoom t_X10_isRoom
  rcases zarg x with hx | ⟨c, hc, rfl⟩
  · rw [zin_neg hx, if_pos rfl, if_pos hx]
  · rw [m_cells h, show nI (6 * zw now) - (1 : Int32) = nI (6 * zw now - 1) from pk_sub (b := 1) (by omega), zin hc (by omega), if_neg (nI_pos hc), hs.2.1]
    by_cases q : c < 6 * zw now
    · rw [decide_eq_true (show c ≤ 6 * zw now - 1 by omega), if_neg (by decide), if_pos (nI_lt q (by omega)), bnd1_e (m_isRoomAt h q), c_holds h hs hc]
      cases zr now c <;> rfl
    · rw [decide_eq_false (show ¬ c ≤ 6 * zw now - 1 by omega), if_pos zi_f, if_neg (nI_nlt (by omega) (by omega))]
theorem zmask_acc : ∀ b0 b1 b2 b3 : Bool, ((((0 : Int32) ||| (if zi b0 = 0 then (0 : Int32) else (1 : Int32) <<< (nI 0 &&& 31))) ||| (if zi b1 = 0 then (0 : Int32) else (1 : Int32) <<< (nI 1 &&& 31))) ||| (if zi b2 = 0 then (0 : Int32) else (1 : Int32) <<< (nI 2 &&& 31))) ||| (if zi b3 = 0 then (0 : Int32) else (1 : Int32) <<< (nI 3 &&& 31)) = nI (zm4 b0 b1 b2 b3) := by decide +kernel
theorem o_doors (h : zwf now) (hs : zsh now w cc rc dc lo ow) (ho : ∀ c, c < 210 → op c = nI (zmf (zo now c))) (hN : 1000 ≤ N) (x : Int32) : f_X11_doors N now x = some (t_X10_doors ow op x) := by
  have hwl := zwf_w h
  unfold f_X11_doors t_X10_doors
  rcases zarg x with hx | ⟨c, hc, rfl⟩
  · rw [bnd1_e (m_hasRoom_neg hx), c_holds_neg hx, if_pos rfl, if_pos rfl]
  · rw [bnd1_e (m_hasRoom h hc), c_holds h hs hc]
    cases hr : zr now c with
    | false => rfl
    | true =>
      have h1 := zr_lt hr
      rw [if_neg (by decide), if_neg (by decide), at_lt op (by decide) (by omega), ho c (by omega)]
      have st : ∀ F (a : Int32) d, d < 4 → b_X11_doors_14 N now (nI c) (F + 1) a (nI d) = b_X11_doors_14 N now (nI c) F (a ||| (if zi (zo now c d) = 0 then (0 : Int32) else (1 : Int32) <<< (nI d &&& 31))) (nI (d + 1)) := by
        intro F a d hd
        rw [b_X11_doors_14, if_neg (show ¬ (4 : Int32) ≤ nI d from nI_ge (b := 4) hd (by decide)), bnd1_e (m_isOpen h h1 hd), nI_1]
        by_cases q : zi (zo now c d) = 0
        · rw [if_pos q, if_pos q]
        · rw [if_neg q, if_neg q]
      obtain ⟨M, hM⟩ : ∃ M, N = M + 5 := ⟨N - 5, by omega⟩
      have e : b_X11_doors_14 N now (nI c) (M + 5) 0 (nI 0) = some (nI (zmf (zo now c))) := by
        rw [show M + 5 = (M + 4) + 1 from rfl, st _ _ 0 (by decide), show M + 4 = (M + 3) + 1 from rfl, st _ _ 1 (by decide), show M + 3 = (M + 2) + 1 from rfl, st _ _ 2 (by decide), show M + 2 = (M + 1) + 1 from rfl, st _ _ 3 (by decide),
          zmask_acc, b_X11_doors_14, if_pos (show (4 : Int32) ≤ nI (3 + 1) by decide)]; rfl
      rw [← hM] at e
      exact e
-- letters
noncomputable def zits (now : Nat → Int32) (k c : Nat) : Bool := zr now c && decide (zown now c = 2 + k)
noncomputable def zlg (now : Nat → Int32) (k o : Nat) (b : Bool) (c d : Nat) : Bool := zits now k c && (zh now c d && (decide (zown now (zN (zw now) c d) = o) && (!b || zo now c d)))
noncomputable def zlv (now : Nat → Int32) (k o : Nat) (b : Bool) : Nat := zS (fun c => (zlg now k o b c 1).toNat + (zlg now k o b c 2).toNat) 210
theorem c_at_ow (h : zwf now) (hs : zsh now w cc rc dc lo ow) {c : Nat} (hc : c < 2 ^ 31) : t_X4_at 210 ow (nI c) = nI (if zr now c = true then zown now c else 0) := by
  rw [at_nI ow (by decide) hc]
  by_cases q : c < 210
  · rw [if_pos q, c_ow hs q]
  · rw [if_neg q]
    cases hr : zr now c with
    | false => rfl
    | true => exact absurd (zr_210 h hr) q
theorem c_own_eq (h : zwf now) (hs : zsh now w cc rc dc lo ow) {c o : Nat} (hc : c < 2 ^ 31) (h1 : 1 ≤ o) (ho : o < 2 ^ 31) : t_X4_at 210 ow (nI c) = nI o ↔ (zr now c && decide (zown now c = o)) = true := by
  rw [c_at_ow h hs hc]
  have hl := zown_lt h c
  cases hr : zr now c with
  | false =>
    rw [if_neg (by decide), Bool.false_and]
    exact ⟨fun e => by have := (nI_eq (by omega) ho).mp e; omega, fun e => by cases e⟩
  | true =>
    rw [if_pos rfl, Bool.true_and, decide_eq_true_iff]
    exact nI_eq (by omega) ho
theorem c_roomsOf (h : zwf now) (hs : zsh now w cc rc dc lo ow) (hN : 1000 ≤ N) {k : Nat} (hk : k < 100) : f_X5_roomsOf N ow (nI (2 + k)) = some (nI (zCt (zits now k) 210)) := by
  unfold f_X5_roomsOf
  refine zloop (B := fun n x i => b_X5_roomsOf_4 N ow (nI (2 + k)) n x i) (fin := some) (fun c => (zits now k c).toNat) 210 ?_ ?_ N (by omega)
  · intro n x
    show b_X5_roomsOf_4 N ow _ (n + 1) x _ = _
    rw [b_X5_roomsOf_4, if_pos (show (210 : Int32) ≤ nI 210 by decide)]
  · intro n s c hc
    show b_X5_roomsOf_4 N ow _ (n + 1) _ _ = b_X5_roomsOf_4 N ow _ n _ _
    rw [b_X5_roomsOf_4, if_neg (show ¬ (210 : Int32) ≤ nI c from nI_ge (b := 210) hc (by decide)), nI_1 c]
    have e := c_own_eq h hs (show c < 2 ^ 31 by omega) (show 1 ≤ 2 + k by omega) (by omega)
    show (if t_X4_at 210 ow (nI c) = nI (2 + k) then _ else _) = b_X5_roomsOf_4 N ow _ n (nI (s + (zits now k c).toNat)) _
    unfold zits
    cases hb : (zr now c && decide (zown now c = 2 + k)) with
    | false => rw [if_neg (fun q => by rw [e.mp q] at hb; cases hb)]; rfl
    | true => rw [if_pos (e.mpr hb), zs1]
theorem c_db1 (h : zwf now) (hs : zsh now w cc rc dc lo ow) (ho : ∀ c, c < 210 → op c = nI (zmf (zo now c))) {k o : Nat} (hk : k < 100) (h1 : 1 ≤ o) (ho2 : o < 200) (b : Bool) {k6 : Int32 → Int32 → Option Int32} {F s c d : Nat} (hc : c < 210) (hd : d < 3) :
    b_X1_doorsBetween_17 N w ow op (nI (2 + k)) (nI o) (zi b) k6 (F + 1) (nI s) (nI c) (nI d) = b_X1_doorsBetween_17 N w ow op (nI (2 + k)) (nI o) (zi b) k6 F (nI (s + (zlg now k o b c d).toNat)) (nI c) (nI (d + 1)) := by
  rw [b_X1_doorsBetween_17, if_neg (show ¬ (2 : Int32) < nI d from nI_nlt (a := 2) (by omega) (by decide)), nI_1, nI_1]
  have e := c_own_eq h hs (show c < 2 ^ 31 by omega) (show 1 ≤ 2 + k by omega) (by omega)
  show (if t_X4_at 210 ow (nI c) = nI (2 + k) then _ else _) = _
  unfold zlg zits
  cases hb : (zr now c && decide (zown now c = 2 + k)) with
  | false => rw [if_neg (fun q => by rw [e.mp q] at hb; cases hb)]; rfl
  | true =>
    rw [if_pos (e.mpr hb), Bool.true_and]
    rw [Bool.and_eq_true] at hb
    have hcl := zr_lt hb.1
    rw [c_beside h hs hcl (by omega)]
    cases hh : zh now c d with
    | false =>
      rw [if_neg zft, at_neg ow zneg1, if_neg (fun q => nI_ne0 (n := o) (by omega) (by omega) q.symm), Bool.false_and]; rfl
    | true =>
      obtain ⟨b1, -, -, -⟩ := zh_back h (by omega) hb.1 hh
      have e2 := c_own_eq h hs (c := zN (zw now) c d) (o := o) (by have := zr_210 h b1; omega) h1 (by omega)
      rw [b1, Bool.true_and, decide_eq_true_iff] at e2
      rw [if_pos rfl, Bool.true_and]
      by_cases q : zown now (zN (zw now) c d) = o
      · rw [if_pos (e2.mpr q), decide_eq_true q, Bool.true_and, c_isOpen ho hc (by omega)]
        cases b with
        | false => rw [if_pos zi_f]; rfl
        | true =>
          rw [if_neg (by decide)]
          cases zo now c d with
          | false => rw [if_pos zi_f]; rfl
          | true => rw [if_neg (by decide)]; rfl
      · rw [if_neg (fun x => q (e2.mp x)), decide_eq_false q, Bool.false_and]; rfl
theorem c_doorsBetween (h : zwf now) (hs : zsh now w cc rc dc lo ow) (ho : ∀ c, c < 210 → op c = nI (zmf (zo now c))) (hN : 1000 ≤ N) {k o : Nat} (hk : k < 100) (h1 : 1 ≤ o) (ho2 : o < 200) (b : Bool) : f_X1_doorsBetween N w ow op (nI (2 + k)) (nI o) (zi b) = some (nI (zlv now k o b)) := by
  unfold f_X1_doorsBetween zlv
  refine zloop (B := fun n x i => b_X1_doorsBetween_6 N w ow op (nI (2 + k)) (nI o) (zi b) n x i) (fin := some) (fun c => (zlg now k o b c 1).toNat + (zlg now k o b c 2).toNat) 210 ?_ ?_ N (by omega)
  · intro n x
    show b_X1_doorsBetween_6 N w ow op _ _ _ (n + 1) x _ = _
    rw [b_X1_doorsBetween_6, if_pos (show (210 : Int32) ≤ nI 210 by decide)]
  · intro n s c hc
    show b_X1_doorsBetween_6 N w ow op _ _ _ (n + 1) _ _ = b_X1_doorsBetween_6 N w ow op _ _ _ n _ _
    rw [b_X1_doorsBetween_6, if_neg (show ¬ (210 : Int32) ≤ nI c from nI_ge (b := 210) hc (by decide))]
    obtain ⟨M, hM⟩ : ∃ M, N = M + 3 := ⟨N - 3, by omega⟩
    have e : b_X1_doorsBetween_17 N w ow op (nI (2 + k)) (nI o) (zi b) (b_X1_doorsBetween_6 N w ow op (nI (2 + k)) (nI o) (zi b) n) (M + 3) (nI s) (nI c) (nI 1) = b_X1_doorsBetween_6 N w ow op (nI (2 + k)) (nI o) (zi b) n (nI (s + ((zlg now k o b c 1).toNat + (zlg now k o b c 2).toNat))) (nI (c + 1)) := by
      rw [show M + 3 = (M + 2) + 1 from rfl, c_db1 h hs ho hk h1 ho2 b hc (by decide), show M + 2 = (M + 1) + 1 from rfl, c_db1 h hs ho hk h1 ho2 b hc (by decide), b_X1_doorsBetween_17, if_pos (show (2 : Int32) < nI (1 + 1 + 1) by decide), nI_1, Nat.add_assoc]
    rw [← hM] at e
    exact e
/-- what the model counts for a letter: 1: rooms; 2, 3, 4: doors -/
def zmo (k j : Nat) : Nat := if j = 4 then 1 else 2 + k
theorem m_lv1 (h : zwf now) {k j : Nat} (hk : k < 100) (hj : 2 ≤ j) (hj4 : j ≤ 4) (k5 : Int32 → Int32 → Option Int32) {F s c d : Nat} (hc : zr now c = true) (hkc : zown now c = 2 + k) (hd : d = 1 ∨ d = 2) :
    b_X11_letterValue_61 N now (nI k) (nI j) k5 (F + 1) (nI s) (nI c) 1 (nI d) = b_X11_letterValue_61 N now (nI k) (nI j) k5 F (nI (s + (zlg now k (zmo k j) (!decide (j = 2)) c d).toNat)) (nI c) 1 (nI (d + 1)) := by
  have hcl := zr_lt hc
  have hwl := zwf_w h
  have hits : zits now k c = true := by unfold zits; rw [hc, decide_eq_true hkc]; rfl
  have b135 : ∀ x : Bool, b_X11_letterValue_135 N now (nI k) (nI j) k5 (b_X11_letterValue_61 N now (nI k) (nI j) k5 F) (nI s) (nI c) 1 (nI d) (zi x) = b_X11_letterValue_61 N now (nI k) (nI j) k5 F (nI (s + (x && (!(!decide (j = 2)) || zo now c d)).toNat)) (nI c) 1 (nI (d + 1)) := by
    intro x
    unfold b_X11_letterValue_135
    rw [nI_1]
    cases x with
    | false => rw [if_pos zi_f, Bool.false_and, zs0]
    | true =>
      rw [if_neg (by decide), Bool.true_and, Bool.not_not]
      by_cases q : j = 2
      · rw [if_pos (by rw [q]; rfl), decide_eq_true q, zs1]; rfl
      · rw [if_neg (show ¬ nI _ = (2 : Int32) from fun e => q ((nI_eq (by omega) (by decide : (2 : Nat) < 2 ^ 31)).mp e)), decide_eq_false q, Bool.false_or, bnd1_e (m_isOpen h hcl (by omega))]
        cases zo now c d with
        | false => rw [if_pos zi_f, zs0]
        | true => rw [if_neg (by decide), zs1]
  have b103 : ∀ v : Int32, b_X11_letterValue_103 N now (nI k) (nI j) k5 (b_X11_letterValue_61 N now (nI k) (nI j) k5 F) (nI s) (nI c) 1 (nI d) v = b_X11_letterValue_61 N now (nI k) (nI j) k5 F (nI (s + ((if j = 4 then decide (v = -1) else decide (v = nI k)) && (!(!decide (j = 2)) || zo now c d)).toNat)) (nI c) 1 (nI (d + 1)) := by
    intro v
    unfold b_X11_letterValue_103
    by_cases q : j = 4
    · rw [if_pos (by rw [q]; rfl), if_pos q]
      by_cases q2 : v = -1
      · rw [if_pos q2, decide_eq_true q2]; exact b135 true
      · rw [if_neg q2, decide_eq_false q2]; exact b135 false
    · rw [if_neg (show ¬ nI _ = (4 : Int32) from fun e => q ((nI_eq (by omega) (by decide : (4 : Nat) < 2 ^ 31)).mp e)), if_neg q]
      by_cases q2 : v = nI k
      · rw [if_pos q2, decide_eq_true q2]; exact b135 true
      · rw [if_neg q2, decide_eq_false q2]; exact b135 false
  rw [b_X11_letterValue_61, if_neg (show ¬ (3 : Int32) ≤ nI d from nI_ge (b := 3) (by omega) (by decide)), if_neg (by decide), if_neg (show ¬ nI j ≤ (1 : Int32) from nI_ge (a := 1) (by omega) (by omega)), bnd1_e (m_beside h hcl (by omega))]
  unfold zlg
  rw [hits, Bool.true_and]
  cases hh : zh now c d with
  | false =>
    rw [if_neg zft, if_neg (by decide), b103, Bool.false_and]
    have e : (if j = 4 then decide ((-2 : Int32) = -1) else decide ((-2 : Int32) = nI k)) = false := by
      by_cases q : j = 4
      · rw [if_pos q]; decide
      · rw [if_neg q, decide_eq_false (fun e => nI_pos (show k < 2 ^ 31 by omega) (by rw [← e]; decide))]
    rw [e, Bool.false_and]
  | true =>
    obtain ⟨b1, -, -, -⟩ := zh_back h (by omega) hc hh
    have hl2 := zr_lt b1
    have hol := zown_lt h (zN (zw now) c d)
    rw [if_pos (rfl : true = true), if_pos (nI_pos' (by omega)), bnd1_e (m_letterAt h hl2), b103, Bool.true_and]
    have e : (if j = 4 then decide ((if zown now (zN (zw now) c d) = 1 then (-1 : Int32) else nI (zown now (zN (zw now) c d) - 2)) = -1) else decide ((if zown now (zN (zw now) c d) = 1 then (-1 : Int32) else nI (zown now (zN (zw now) c d) - 2)) = nI k)) = decide (zown now (zN (zw now) c d) = zmo k j) := by
      have h2 : zown now (zN (zw now) c d) ≠ 1 → 2 ≤ zown now (zN (zw now) c d) := by
        intro q; unfold zown at q ⊢
        by_cases q2 : zN (zw now) c d / zw now = 5
        · rw [if_pos q2] at q; omega
        · rw [if_neg q2]; omega
      unfold zmo
      by_cases q : j = 4
      · rw [if_pos q, if_pos q]
        by_cases q2 : zown now (zN (zw now) c d) = 1
        · rw [if_pos q2, decide_eq_true q2]; decide
        · rw [if_neg q2, decide_eq_false q2, decide_eq_false (fun e => nI_pos (n := zown now (zN (zw now) c d) - 2) (by omega) (by rw [e]; decide))]
      · rw [if_neg q, if_neg q]
        by_cases q2 : zown now (zN (zw now) c d) = 1
        · rw [if_pos q2, decide_eq_false (show ¬ zown now (zN (zw now) c d) = 2 + k by omega), decide_eq_false (fun e => nI_pos (show k < 2 ^ 31 by omega) (by rw [← e]; decide))]
        · have h3 := h2 q2
          rw [if_neg q2]
          by_cases q3 : zown now (zN (zw now) c d) = 2 + k
          · rw [decide_eq_true q3, decide_eq_true]; rw [q3]; exact congrArg nI (by omega)
          · rw [decide_eq_false q3, decide_eq_false (fun e => q3 (by have := (nI_eq (by omega) (by omega)).mp e; omega))]
    rw [e]
noncomputable def zlm (now : Nat → Int32) (k j c : Nat) : Nat := if j = 1 then (zits now k c).toNat else (zlg now k (zmo k j) (!decide (j = 2)) c 1).toNat + (zlg now k (zmo k j) (!decide (j = 2)) c 2).toNat
theorem zlm_0 {k j c : Nat} (h : zits now k c = false) : zlm now k j c = 0 := by
  unfold zlm zlg
  rw [h]
  by_cases q : j = 1
  · rw [if_pos q]; rfl
  · rw [if_neg q]; rfl
theorem m_letterValue (h : zwf now) (hN : 1000 ≤ N) {k j : Nat} (hk : k < 100) (hj : 1 ≤ j) (hj4 : j ≤ 4) : f_X11_letterValue N now (nI k) (nI j) = some (nI (zS (zlm now k j) 210)) := by
  have hwl := zwf_w h
  have ecut : zS (zlm now k j) 210 = zS (zlm now k j) (6 * zw now) := by
    have := zS_cut (f := zlm now k j) (6 * zw now) (210 - 6 * zw now) (fun c hc _ => zlm_0 (by unfold zits; rw [zr_big h hc]; rfl))
    rw [show 6 * zw now + (210 - 6 * zw now) = 210 by omega] at this
    exact this
  unfold f_X11_letterValue
  rw [ecut]
  obtain ⟨M, hM⟩ : ∃ M, N = M + 3 := ⟨N - 3, by omega⟩
  have b61_0 : ∀ (k5 : Int32 → Int32 → Option Int32) (s c : Nat), b_X11_letterValue_61 N now (nI k) (nI j) k5 N (nI s) (nI c) 0 1 = k5 (nI s) (nI (c + 1)) := by
    intro k5 s c
    have e : b_X11_letterValue_61 N now (nI k) (nI j) k5 (M + 3) (nI s) (nI c) 0 1 = k5 (nI s) (nI (c + 1)) := by
      rw [show M + 3 = (M + 2) + 1 from rfl, b_X11_letterValue_61, if_neg (by decide), if_pos rfl, nI_1]
    rw [← hM] at e
    exact e
  refine zloop (B := fun n x i => b_X11_letterValue_5 N now (nI k) (nI j) n x i) (fin := some) (zlm now k j) (6 * zw now) ?_ ?_ N (by omega)
  · intro n x
    show b_X11_letterValue_5 N now _ _ (n + 1) x _ = _
    rw [b_X11_letterValue_5, m_cells h, if_pos (nI_le (Nat.le_refl _) (by omega))]
  · intro n s c hc
    show b_X11_letterValue_5 N now _ _ (n + 1) _ _ = b_X11_letterValue_5 N now _ _ n _ _
    have hskip : zits now k c = false → b_X11_letterValue_37 N now (nI k) (nI j) (b_X11_letterValue_5 N now (nI k) (nI j) n) (nI s) (nI c) = b_X11_letterValue_5 N now (nI k) (nI j) n (nI (s + zlm now k j c)) (nI (c + 1)) := by
      intro q
      unfold b_X11_letterValue_37 b_X11_letterValue_38
      rw [if_pos rfl, show nI s + (0 : Int32) = nI s from nI_add s 0, b61_0, zlm_0 q]; rfl
    rw [b_X11_letterValue_5, m_cells h, if_neg (nI_ge hc (by omega)), bnd1_e (m_isRoomAt h hc)]
    cases hr : zr now c with
    | false =>
      rw [if_pos zi_f]
      exact hskip (by unfold zits; rw [hr]; rfl)
    | true =>
      have hol := zown_lt h c
      have h2 : zown now c ≠ 1 → 2 ≤ zown now c := by
        intro q; unfold zown at q ⊢
        by_cases q2 : c / zw now = 5
        · rw [if_pos q2] at q; omega
        · rw [if_neg q2]; omega
      rw [if_neg (by decide), bnd1_e (m_letterAt h hc)]
      by_cases q : zown now c = 2 + k
      · have hits : zits now k c = true := by unfold zits; rw [hr, decide_eq_true q]; rfl
        rw [if_neg (show ¬ zown now c = 1 by omega), if_pos (congrArg nI (by omega))]
        unfold b_X11_letterValue_38
        rw [if_neg (by decide)]
        by_cases q1 : j = 1
        · have e : b_X11_letterValue_61 N now (nI k) (nI j) (b_X11_letterValue_5 N now (nI k) (nI j) n) (M + 3) (nI (s + 1)) (nI c) 1 1 = b_X11_letterValue_5 N now (nI k) (nI j) n (nI (s + 1)) (nI (c + 1)) := by
            rw [show M + 3 = (M + 2) + 1 from rfl, b_X11_letterValue_61, if_neg (by decide), if_neg (by decide), if_pos (show nI j ≤ (1 : Int32) by rw [q1]; decide), nI_1]
          rw [← hM] at e
          rw [if_pos (by rw [q1]; rfl), nI_1, e]
          unfold zlm
          rw [if_pos q1, hits]; rfl
        · have e : b_X11_letterValue_61 N now (nI k) (nI j) (b_X11_letterValue_5 N now (nI k) (nI j) n) (M + 3) (nI s) (nI c) 1 (nI 1) = b_X11_letterValue_5 N now (nI k) (nI j) n (nI (s + ((zlg now k (zmo k j) (!decide (j = 2)) c 1).toNat + (zlg now k (zmo k j) (!decide (j = 2)) c 2).toNat))) (nI (c + 1)) := by
            rw [show M + 3 = (M + 2) + 1 from rfl, m_lv1 h hk (by omega) hj4 _ hr q (Or.inl rfl), show M + 2 = (M + 1) + 1 from rfl, m_lv1 h hk (by omega) hj4 _ hr q (Or.inr rfl), b_X11_letterValue_61, if_pos (show (3 : Int32) ≤ nI (1 + 1 + 1) by decide), nI_1, Nat.add_assoc]
          rw [← hM] at e
          rw [if_neg (show ¬ nI _ = (1 : Int32) from fun e => q1 ((nI_eq (by omega) (by decide : (1 : Nat) < 2 ^ 31)).mp e)), show nI s + (0 : Int32) = nI s from nI_add s 0]
          refine e.trans ?_
          unfold zlm
          rw [if_neg q1]
      · rw [if_neg (fun e => by
          by_cases q1 : zown now c = 1
          · rw [if_pos q1] at e
            exact nI_pos (show k < 2 ^ 31 by omega) (by rw [← e]; decide)
          · rw [if_neg q1] at e
            have := h2 q1
            have := (nI_eq (by omega) (by omega)).mp e
            omega)]
        exact hskip (by unfold zits; rw [hr, decide_eq_false q]; rfl)
theorem o_letter (h : zwf now) (hs : zsh now w cc rc dc lo ow) (hc : zcl now sz st go le op sg) (hN : 1000 ≤ N) (x y : Int32) : ∃ r, f_X10_letter N w ow sz le op x y = some r ∧ f_X11_letter N now x y = some r := by
  have hn := zwf_n h
  obtain ⟨c1, c2, c3, c4, ho, c6⟩ := hc
  unfold f_X10_letter f_X11_letter
  rcases zarg x with hx | ⟨k, hk, rfl⟩
  · exact ⟨-1, by rw [if_pos hx], by rw [if_pos hx]⟩
  rw [if_neg (nI_pos hk), if_neg (nI_pos hk)]
  rcases zarg y with hy | ⟨j, hj, rfl⟩
  · exact ⟨-1, by rw [if_pos hy], by rw [zin_neg hy, if_pos rfl]⟩
  rw [if_neg (nI_pos hj), show t_X11_in (nI j) 0 (4 : Int32) = zi (decide (j ≤ 4)) from zin hj (by decide)]
  by_cases q4 : j ≤ 4
  · rw [if_pos (show nI j ≤ (4 : Int32) from nI_le q4 (by decide)), decide_eq_true q4, if_neg (show ¬ zi true = 0 by decide), c1, show (0 : Int32).toNatClampNeg = 0 from rfl, hn.2.2]
    by_cases qk : k < zn now
    · rw [if_pos (nI_lt qk (by omega)), if_pos (nI_lt qk (by omega))]
      have e2 : (2 : Int32) + nI k = nI (2 + k) := nI_add 2 k
      rw [e2]
      rcases (show j = 0 ∨ j = 1 ∨ j = 2 ∨ j = 3 ∨ j = 4 by omega) with rfl | rfl | rfl | rfl | rfl
      · refine ⟨now (1 + k), ?_, ?_⟩
        · rw [if_pos (by decide), at_lt le (by decide) (by omega), c4 k qk]
        · rw [if_pos (by decide), show (1 : Int32) + nI k = nI (1 + k) from nI_add 1 k, nI_clamp (show 1 + k < 2 ^ 31 by omega), if_neg (zck (show 1 + k < 639 by omega) (by decide))]
      · have e := m_letterValue h hN (k := k) (j := 1) (by omega) (by decide) (by decide)
        refine ⟨nI (zS (zlm now k 1) 210), ?_, ?_⟩
        · rw [if_neg (show ¬ nI 1 = (0 : Int32) by decide), if_pos (by decide), bnd1_e (c_roomsOf h hs hN (by omega))]
          rfl
        · rw [if_neg (show ¬ nI 1 = (0 : Int32) by decide), bnd1_e e]
      · have e := m_letterValue h hN (k := k) (j := 2) (by omega) (by decide) (by decide)
        refine ⟨nI (zS (zlm now k 2) 210), ?_, ?_⟩
        · rw [if_neg (show ¬ nI 2 = (0 : Int32) by decide), if_neg (show ¬ nI 2 = (1 : Int32) by decide), if_pos (by decide), bnd1_e (show f_X1_doorsBetween N w ow op (nI (2 + k)) (nI (2 + k)) 0 = some (nI (zlv now k (2 + k) false)) from c_doorsBetween h hs ho hN (k := k) (o := 2 + k) (by omega) (by omega) (by omega) false)]
          rfl
        · rw [if_neg (show ¬ nI 2 = (0 : Int32) by decide), bnd1_e e]
      · have e := m_letterValue h hN (k := k) (j := 3) (by omega) (by decide) (by decide)
        refine ⟨nI (zS (zlm now k 3) 210), ?_, ?_⟩
        · rw [if_neg (show ¬ nI 3 = (0 : Int32) by decide), if_neg (show ¬ nI 3 = (1 : Int32) by decide), if_neg (show ¬ nI 3 = (2 : Int32) by decide), if_pos (by decide), bnd1_e (show f_X1_doorsBetween N w ow op (nI (2 + k)) (nI (2 + k)) 1 = some (nI (zlv now k (2 + k) true)) from c_doorsBetween h hs ho hN (k := k) (o := 2 + k) (by omega) (by omega) (by omega) true)]
          rfl
        · rw [if_neg (show ¬ nI 3 = (0 : Int32) by decide), bnd1_e e]
      · have e := m_letterValue h hN (k := k) (j := 4) (by omega) (by decide) (by decide)
        refine ⟨nI (zS (zlm now k 4) 210), ?_, ?_⟩
        · rw [if_neg (show ¬ nI 4 = (0 : Int32) by decide), if_neg (show ¬ nI 4 = (1 : Int32) by decide), if_neg (show ¬ nI 4 = (2 : Int32) by decide), if_neg (show ¬ nI 4 = (3 : Int32) by decide), bnd1_e (show f_X1_doorsBetween N w ow op (nI (2 + k)) 1 1 = some (nI (zlv now k 1 true)) from c_doorsBetween h hs ho hN (k := k) (o := 1) (by omega) (by omega) (by omega) true)]
          rfl
        · rw [if_neg (show ¬ nI 4 = (0 : Int32) by decide), bnd1_e e]
    · rw [if_neg (nI_nlt (by omega) hk), if_neg (nI_nlt (by omega) hk)]
      exact ⟨-4, rfl, rfl⟩
  · rw [if_neg (show ¬ nI j ≤ (4 : Int32) from nI_ge (a := 4) (by omega) hj), decide_eq_false q4, if_pos zi_f]
    exact ⟨-1, rfl, rfl⟩
end OP1

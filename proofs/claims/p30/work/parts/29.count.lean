-- counting loops
theorem zloop {B : Nat → Int32 → Int32 → Option Int32} {fin : Int32 → Option Int32} (f : Nat → Nat) (M : Nat) (h1 : ∀ n x, B (n + 1) x (nI M) = fin x) (h2 : ∀ n s k, k < M → B (n + 1) (nI s) (nI k) = B n (nI (s + f k)) (nI (k + 1))) :
    ∀ F, M < F → B F 0 0 = fin (nI (zS f M)) := by
  have key : ∀ k, k ≤ M → ∀ F, M - k < F → B F (nI (zS f k)) (nI k) = fin (nI (zS f M)) := by
    refine dn M ?_ ?_
    · intro F hF
      obtain ⟨F, rfl⟩ : ∃ G, F = G + 1 := ⟨F - 1, by omega⟩
      exact h1 F _
    · intro k hk ih F hF
      obtain ⟨F, rfl⟩ : ∃ G, F = G + 1 := ⟨F - 1, by omega⟩
      rw [h2 F _ k hk]
      exact ih F (by omega)
  intro F hF
  exact key 0 (Nat.zero_le _) F (by omega)
theorem zadd0 (s : Nat) (b : Bool) : (if b = true then nI s + 1 else nI s + (0 : Int32)) = nI (s + b.toNat) := by
  cases b with
  | false => exact nI_add s 0
  | true => exact nI_add s 1
theorem zs0 (s : Nat) : nI s + (0 : Int32) = nI (s + (false).toNat) := nI_add s 0
theorem zs1 (s : Nat) : nI s + (1 : Int32) = nI (s + (true).toNat) := nI_add s 1
theorem zCt_cut {p : Nat → Bool} {a b : Nat} (hab : a ≤ b) (h : ∀ c, a ≤ c → p c = false) : zCt p b = zCt p a := by
  have e := zS_cut (f := fun c => (p c).toNat) a (b - a) (fun c hc _ => by show (p c).toNat = 0; rw [h c hc]; rfl)
  rw [show a + (b - a) = b by omega] at e
  exact e
section CNT
variable {now op ow sg le : Nat → Int32} {sz st go w cc rc dc lo : Int32} {N : Nat}
theorem zr_big (hw : zwf now) {c : Nat} (hc : 6 * zw now ≤ c) : zr now c = false := by
  cases h : zr now c with
  | false => rfl
  | true => have := zr_lt h; omega
theorem zo_big (hw : zwf now) {c d : Nat} (hd : d < 4) (hc : 6 * zw now ≤ c) : zo now c d = false := by
  cases h : zo now c d with
  | false => rfl
  | true => have := zr_lt (zo_r hw hd h); omega
theorem zo_nr (hw : zwf now) {c d : Nat} (hd : d < 4) (hc : zr now c = false) : zo now c d = false := by
  cases h : zo now c d with
  | false => rfl
  | true => rw [zo_r hw hd h] at hc; cases hc
theorem zdg_nr (hw : zwf now) {c : Nat} (hc : zr now c = false) : zdg now c = 0 := by
  unfold zdg
  rw [zo_nr hw (by decide) hc, zo_nr hw (by decide) hc, zo_nr hw (by decide) hc, zo_nr hw (by decide) hc]; rfl
theorem m_rooms (hw : zwf now) (hN : 1000 ≤ N) : f_X11_rooms N now = some (nI (zCt (zr now) 210)) := by
  have hwl := zwf_w hw
  unfold f_X11_rooms
  rw [zCt_cut (a := 6 * zw now) (by omega) (fun c hc => zr_big hw hc)]
  refine zloop (B := fun n x k => b_X11_rooms_4 N now n x k) (fin := some) (fun c => (zr now c).toNat) (6 * zw now) ?_ ?_ N (by omega)
  · intro n x
    show b_X11_rooms_4 N now (n + 1) x _ = _
    rw [b_X11_rooms_4, m_cells hw, if_pos (nI_le (Nat.le_refl _) (by omega))]
  · intro n s k hk
    show b_X11_rooms_4 N now (n + 1) _ _ = b_X11_rooms_4 N now n _ _
    rw [b_X11_rooms_4, m_cells hw, if_neg (nI_ge hk (by omega)), bnd1_e (m_isRoomAt hw hk), nI_1]
    cases zr now k with
    | false => rw [if_pos zi_f, zs0]
    | true => rw [if_neg (by decide), zs1]
theorem zo1 (hw : zwf now) {c : Nat} (hc : c < 210) : zo now c 1 = decide (now (9 + c) = 1) := by
  show (zh now c 1 && decide (now (9 + c) = 1)) = _
  rcases hw.2.2.2.2.1 c hc with q | ⟨q1, q2, q3⟩
  · rw [q]; exact Bool.and_false _
  · rw [q3, Bool.true_and]
theorem zo2 (hw : zwf now) {c : Nat} (hc : c < 210) : zo now c 2 = decide (now (219 + c) = 1) := by
  show (zh now c 2 && decide (now (219 + c) = 1)) = _
  rcases hw.2.2.2.2.2.1 c hc with q | ⟨q1, q2, q3⟩
  · rw [q]; exact Bool.and_false _
  · rw [q3, Bool.true_and]
/-- the open doors -/
noncomputable def zod (now : Nat → Int32) : Nat := zCt (fun c => zo now c 1) 210 + zCt (fun c => zo now c 2) 210
theorem zod_le (now : Nat → Int32) : zod now ≤ 420 := by
  have h1 := zCt_le (fun c => zo now c 1) 210
  have h2 := zCt_le (fun c => zo now c 2) 210
  unfold zod; omega
theorem m_openDoors (hw : zwf now) (hN : 1000 ≤ N) : f_X11_openDoors N now = some (nI (zod now)) := by
  unfold f_X11_openDoors
  have e : zod now = zS (fun k => (decide (now (9 + k) = 1)).toNat) 420 := by
    rw [show 420 = 210 + 210 from rfl, zS_front]
    unfold zod zCt
    rw [zS_congr (f := fun c => (zo now c 1).toNat) (g := fun k => (decide (now (9 + k) = 1)).toNat) 210 (fun c hc => by rw [zo1 hw hc])]
    rw [zS_congr (f := fun c => (zo now c 2).toNat) (g := fun c => (decide (now (9 + (c + 210)) = 1)).toNat) 210 (fun c hc => by rw [zo2 hw hc, show 9 + (c + 210) = 219 + c by omega])]
  rw [e]
  refine zloop (B := fun n x k => b_X11_openDoors_5 N now n x (nI 9 + k)) (fin := some) (fun k => (decide (now (9 + k) = 1)).toNat) 420 ?_ ?_ N (by omega)
  · intro n x
    show b_X11_openDoors_5 N now (n + 1) x (nI 9 + nI 420) = _
    rw [nI_add, b_X11_openDoors_5, if_pos (show (429 : Int32) ≤ nI (9 + 420) by decide)]
  · intro n s k hk
    show b_X11_openDoors_5 N now (n + 1) _ (nI 9 + nI k) = b_X11_openDoors_5 N now n _ (nI 9 + nI (k + 1))
    rw [nI_add, nI_add, b_X11_openDoors_5, if_neg (show ¬ (429 : Int32) ≤ nI (9 + k) from nI_ge (b := 429) (by omega) (by decide)), nI_clamp (show 9 + k < 2 ^ 31 by omega), if_neg (zck (show 9 + k < 639 by omega) (by decide)), nI_1, show 9 + (k + 1) = 9 + k + 1 from rfl]
    have hv : now (9 + k) = nI (decide (now (9 + k) = 1)).toNat := by
      rcases Nat.lt_or_ge k 210 with q | q
      · rcases hw.2.2.2.2.1 k q with q1 | ⟨q1, -⟩
        · rw [q1]; decide
        · rw [q1]; decide
      · rcases hw.2.2.2.2.2.1 (k - 210) (by omega) with q1 | ⟨q1, -⟩
        · rw [show 219 + (k - 210) = 9 + k by omega] at q1
          rw [q1]; decide
        · rw [show 219 + (k - 210) = 9 + k by omega] at q1
          rw [q1]; decide
    rw [show nI s + now (9 + k) = nI (s + (decide (now (9 + k) = 1)).toNat) by rw [← nI_add, ← hv]]
theorem c_openCount (hw : zwf now) (ho : ∀ c, c < 210 → op c = nI (zmf (zo now c))) (hN : 1000 ≤ N) : f_X1_openCount N op = some (nI (zod now)) := by
  unfold f_X1_openCount
  have e : zS (zdg now) 210 = 2 * zod now := zHand (zgr hw) (zgr2 hw)
  have hl := zod_le now
  have key := zloop (B := fun n x k => b_X1_openCount_4 N op n x k) (fin := fun x => some (x / (2 : Int32))) (zdg now) 210 (by
    intro n x
    show b_X1_openCount_4 N op (n + 1) x _ = _
    rw [b_X1_openCount_4, if_pos (show (210 : Int32) ≤ nI 210 by decide)]) (by
    intro n s k hk
    show b_X1_openCount_4 N op (n + 1) _ _ = b_X1_openCount_4 N op n _ _
    rw [b_X1_openCount_4, if_neg (show ¬ (210 : Int32) ≤ nI k from nI_ge (b := 210) hk (by decide)), c_openDoors ho hk, nI_add, nI_1]) N (by omega)
  refine key.trans ?_
  show some (nI (zS (zdg now) 210) / (2 : Int32)) = _
  rw [e, zdiv2 (by omega), Nat.mul_div_cancel_left _ (by decide)]
theorem m_openOnes (hw : zwf now) (hN : 1000 ≤ N) {c : Nat} (hc : c < 6 * zw now) : f_X11_openOnes N now (nI c) = some (nI (zdg now c)) := by
  unfold f_X11_openOnes
  refine (zloop (B := fun n x k => b_X11_openOnes_4 N now (nI c) n x k) (fin := some) (fun d => (zo now c d).toNat) 4 ?_ ?_ N (by omega)).trans ?_
  · intro n x
    show b_X11_openOnes_4 N now (nI c) (n + 1) x _ = _
    rw [b_X11_openOnes_4, if_pos (show (4 : Int32) ≤ nI 4 by decide)]
  · intro n s k hk
    show b_X11_openOnes_4 N now (nI c) (n + 1) _ _ = b_X11_openOnes_4 N now (nI c) n _ _
    rw [b_X11_openOnes_4, if_neg (show ¬ (4 : Int32) ≤ nI k from nI_ge (b := 4) hk (by decide)), bnd1_e (m_isOpen hw hc hk), nI_1]
    cases zo now c k with
    | false => rw [if_pos zi_f, zs0]
    | true => rw [if_neg (by decide), zs1]
  · show some (nI (0 + (zo now c 0).toNat + (zo now c 1).toNat + (zo now c 2).toNat + (zo now c 3).toNat)) = _
    rw [Nat.zero_add]; rfl
theorem m_isFork (hw : zwf now) (hN : 1000 ≤ N) {c : Nat} (hc : c < 6 * zw now) : f_X11_isFork N now (nI c) = some (zi (decide (3 ≤ zdg now c))) := by
  unfold f_X11_isFork
  have := zdg_4 (now := now) c
  rw [bnd1_e (m_isRoomAt hw hc)]
  cases hr : zr now c with
  | false => rw [if_pos zi_f, zdg_nr hw hr]; rfl
  | true =>
    rw [if_neg (by decide), bnd1_e (m_openOnes hw hN hc)]
    by_cases q : 3 ≤ zdg now c
    · rw [if_neg (show ¬ nI (zdg now c) ≤ (2 : Int32) from nI_ge (a := 2) (by omega) (by omega)), decide_eq_true q]; rfl
    · rw [if_pos (show nI (zdg now c) ≤ (2 : Int32) from nI_le (b := 2) (by omega) (by decide)), decide_eq_false q]; rfl
noncomputable def zrw (now : Nat → Int32) (a b : Nat) : Nat := zCt (fun c => zr now c && (decide (a ≤ zdg now c) && decide (zdg now c ≤ b))) 210
theorem m_roomsWith (hw : zwf now) (hN : 1000 ≤ N) {a b : Nat} (ha : a < 2 ^ 31) (hb : b < 2 ^ 31) : f_X11_roomsWith N now (nI a) (nI b) = some (nI (zrw now a b)) := by
  have hwl := zwf_w hw
  unfold f_X11_roomsWith zrw
  rw [zCt_cut (a := 6 * zw now) (by omega) (fun c hc => by rw [zr_big hw hc]; rfl)]
  refine zloop (B := fun n x k => b_X11_roomsWith_5 N now (nI a) (nI b) n x k) (fin := some) (fun c => (zr now c && (decide (a ≤ zdg now c) && decide (zdg now c ≤ b))).toNat) (6 * zw now) ?_ ?_ N (by omega)
  · intro n x
    show b_X11_roomsWith_5 N now (nI a) (nI b) (n + 1) x _ = _
    rw [b_X11_roomsWith_5, m_cells hw, if_pos (nI_le (Nat.le_refl _) (by omega))]
  · intro n s k hk
    show b_X11_roomsWith_5 N now (nI a) (nI b) (n + 1) _ _ = b_X11_roomsWith_5 N now (nI a) (nI b) n _ _
    have := zdg_4 (now := now) k
    rw [b_X11_roomsWith_5, m_cells hw, if_neg (nI_ge hk (by omega)), bnd1_e (m_isRoomAt hw hk), nI_1]
    cases zr now k with
    | false => rw [if_pos zi_f, Bool.false_and, zs0]
    | true =>
      rw [if_neg (by decide), bnd1_e (m_openOnes hw hN hk), Bool.true_and]
      unfold t_X11_in
      by_cases q1 : a ≤ zdg now k
      · rw [if_neg (nI_nlt q1 (by omega)), decide_eq_true q1, Bool.true_and]
        by_cases q2 : zdg now k ≤ b
        · rw [if_neg (nI_nlt q2 hb), if_neg (by decide), decide_eq_true q2, zs1]
        · rw [if_pos (nI_lt (by omega) (by omega)), if_pos rfl, decide_eq_false q2, zs0]
      · rw [if_pos (nI_lt (by omega) ha), if_pos rfl, decide_eq_false q1, Bool.false_and, zs0]
theorem c_roomsWith (hw : zwf now) (ho : ∀ c, c < 210 → op c = nI (zmf (zo now c))) (hN : 1000 ≤ N) {a b : Nat} (h1 : 1 ≤ a) (ha : a < 2 ^ 31) (hb : b < 2 ^ 31) : f_X1_roomsWithDoors N op (nI a) (nI b) = some (nI (zrw now a b)) := by
  unfold f_X1_roomsWithDoors zrw
  refine zloop (B := fun n x k => b_X1_roomsWithDoors_5 N op (nI a) (nI b) n x k) (fin := some) (fun c => (zr now c && (decide (a ≤ zdg now c) && decide (zdg now c ≤ b))).toNat) 210 ?_ ?_ N (by omega)
  · intro n x
    show b_X1_roomsWithDoors_5 N op (nI a) (nI b) (n + 1) x _ = _
    rw [b_X1_roomsWithDoors_5, if_pos (show (210 : Int32) ≤ nI 210 by decide)]
  · intro n s k hk
    show b_X1_roomsWithDoors_5 N op (nI a) (nI b) (n + 1) _ _ = b_X1_roomsWithDoors_5 N op (nI a) (nI b) n _ _
    have := zdg_4 (now := now) k
    rw [b_X1_roomsWithDoors_5, if_neg (show ¬ (210 : Int32) ≤ nI k from nI_ge (b := 210) hk (by decide)), c_openDoors ho hk, nI_1]
    have e0 : nI s = nI (s + (false).toNat) := rfl
    cases hr : zr now k with
    | false =>
      rw [zdg_nr hw hr, if_pos (nI_lt (by omega) ha), Bool.false_and]; rfl
    | true =>
      rw [Bool.true_and]
      by_cases q1 : a ≤ zdg now k
      · rw [if_neg (nI_nlt q1 (by omega)), decide_eq_true q1, Bool.true_and]
        by_cases q2 : zdg now k ≤ b
        · rw [if_neg (nI_nlt q2 hb), decide_eq_true q2, zs1]
        · rw [if_pos (nI_lt (by omega) (by omega)), decide_eq_false q2]; rfl
      · rw [if_pos (nI_lt (by omega) ha), decide_eq_false q1, Bool.false_and]; rfl
-- signs
def zsg (now : Nat → Int32) (c : Nat) : Nat := (now (429 + c)).toNatClampNeg
theorem zsg_ok (hw : zwf now) {c : Nat} (hc : c < 210) : now (429 + c) = nI (zsg now c) ∧ zsg now c ≤ 12 ∧ (zsg now c ≠ 0 → zr now c = true) := by
  obtain ⟨v, h1, h2, h3⟩ := hw.2.2.2.2.2.2.1 c hc
  have e : zsg now c = v := by unfold zsg; rw [h2, nI_clamp (by omega)]
  rw [e]; exact ⟨h2, h1, h3⟩
noncomputable def zsc (now : Nat → Int32) (b : Bool) : Nat := zCt (fun c => decide (c < 210 ∧ zsg now c ≠ 0) && (!b || decide (3 ≤ zdg now c))) 210
theorem zsig {v : Nat} (h : v ≤ 12) : nI v ≤ 0 ↔ v = 0 := by
  constructor
  · intro q
    rcases Nat.eq_zero_or_pos v with e | e
    · exact e
    · exact absurd q (nI_nle e (by omega))
  · intro q; rw [q]; decide
theorem m_signs (hw : zwf now) (hN : 1000 ≤ N) (b : Bool) : f_X11_signs N now (zi b) = some (nI (zsc now b)) := by
  have hwl := zwf_w hw
  unfold f_X11_signs zsc
  rw [zCt_cut (a := 6 * zw now) (by omega) (fun c hc => by
    by_cases q : c < 210
    · have := (zsg_ok hw q).2.2
      by_cases q2 : zsg now c = 0
      · rw [decide_eq_false (by omega), Bool.false_and]
      · have := zr_lt (this q2); omega
    · rw [decide_eq_false (by omega), Bool.false_and])]
  refine zloop (B := fun n x k => b_X11_signs_4 N now (zi b) n x k) (fin := some) (fun c => (decide (c < 210 ∧ zsg now c ≠ 0) && (!b || decide (3 ≤ zdg now c))).toNat) (6 * zw now) ?_ ?_ N (by omega)
  · intro n x
    show b_X11_signs_4 N now (zi b) (n + 1) x _ = _
    rw [b_X11_signs_4, m_cells hw, if_pos (nI_le (Nat.le_refl _) (by omega))]
  · intro n s k hk
    show b_X11_signs_4 N now (zi b) (n + 1) _ _ = b_X11_signs_4 N now (zi b) n _ _
    obtain ⟨e1, e2, e3⟩ := zsg_ok hw (show k < 210 by omega)
    rw [b_X11_signs_4, m_cells hw, if_neg (nI_ge hk (by omega)), show (429 : Int32) + nI k = nI (429 + k) from nI_add 429 k, nI_clamp (show 429 + k < 2 ^ 31 by omega), if_neg (zck (show 429 + k < 639 by omega) (by decide)), e1, nI_1]
    by_cases q : zsg now k = 0
    · rw [if_pos ((zsig e2).mpr q), decide_eq_false (by omega), Bool.false_and, zs0]
    · rw [if_neg (fun e => q ((zsig e2).mp e)), decide_eq_true (by omega), Bool.true_and]
      cases b with
      | false => rw [if_pos zi_f, zs1]; rfl
      | true =>
        rw [if_neg (by decide), bnd1_e (m_isFork hw hN hk)]
        show _ = b_X11_signs_4 N now (zi true) n (nI (s + (decide (3 ≤ zdg now k)).toNat)) (nI (k + 1))
        cases decide (3 ≤ zdg now k) with
        | false => rw [if_pos zi_f, zs0]
        | true => rw [if_neg (by decide), zs1]
theorem c_hasSign (hw : zwf now) (hg : ∀ c, c < 210 → sg c = now (429 + c)) {c : Nat} (hc : c < 210) : t_X1_hasSign sg (nI c) = zi (decide (zsg now c ≠ 0)) := by
  obtain ⟨e1, e2, e3⟩ := zsg_ok hw hc
  unfold t_X1_hasSign
  rw [at_lt sg (by decide) hc, hg c hc, e1]
  by_cases q : zsg now c = 0
  · rw [if_pos (by rw [q]; rfl), decide_eq_false (by omega)]; rfl
  · rw [if_neg (nI_ne0 (by omega) (by omega)), decide_eq_true q]; rfl
theorem c_signCounts (hw : zwf now) (ho : ∀ c, c < 210 → op c = nI (zmf (zo now c))) (hg : ∀ c, c < 210 → sg c = now (429 + c)) {c : Nat} (hc : c < 210) : t_X1_signCounts op sg (nI c) = zi (decide (zsg now c ≠ 0) && decide (3 ≤ zdg now c)) := by
  unfold t_X1_signCounts
  rw [c_hasSign hw hg hc, c_isFork ho hc]
  cases decide (zsg now c ≠ 0) with
  | false => rw [if_pos zi_f, Bool.false_and]; rfl
  | true =>
    rw [if_neg (by decide), Bool.true_and]
    cases decide (3 ≤ zdg now c) <;> rfl
theorem c_signCount (hw : zwf now) (ho : ∀ c, c < 210 → op c = nI (zmf (zo now c))) (hg : ∀ c, c < 210 → sg c = now (429 + c)) (hN : 1000 ≤ N) (b : Bool) : f_X1_signCount N op sg (zi b) = some (nI (zsc now b)) := by
  unfold f_X1_signCount zsc
  refine zloop (B := fun n x k => b_X1_signCount_4 N op sg (zi b) n x k) (fin := some) (fun c => (decide (c < 210 ∧ zsg now c ≠ 0) && (!b || decide (3 ≤ zdg now c))).toNat) 210 ?_ ?_ N (by omega)
  · intro n x
    show b_X1_signCount_4 N op sg (zi b) (n + 1) x _ = _
    rw [b_X1_signCount_4, if_pos (show (210 : Int32) ≤ nI 210 by decide)]
  · intro n s k hk
    show b_X1_signCount_4 N op sg (zi b) (n + 1) _ _ = b_X1_signCount_4 N op sg (zi b) n _ _
    rw [b_X1_signCount_4, if_neg (show ¬ (210 : Int32) ≤ nI k from nI_ge (b := 210) hk (by decide)), c_hasSign hw hg hk, c_signCounts hw ho hg hk, nI_1]
    have e : decide (k < 210 ∧ zsg now k ≠ 0) = decide (zsg now k ≠ 0) := by
      by_cases q : zsg now k = 0
      · rw [decide_eq_false (by omega), decide_eq_false (by omega)]
      · rw [decide_eq_true (by omega), decide_eq_true q]
    rw [e]
    cases b with
    | false =>
      rw [if_pos zi_f]
      cases decide (zsg now k ≠ 0) with
      | false => rw [if_pos zi_f]; rfl
      | true => rw [if_neg (by decide), zs1]; rfl
    | true =>
      rw [if_neg (by decide)]
      cases decide (zsg now k ≠ 0) with
      | false => rw [Bool.false_and, if_pos zi_f]; rfl
      | true =>
        rw [Bool.true_and]
        cases decide (3 ≤ zdg now k) with
        | false => rw [if_pos zi_f]; rfl
        | true => rw [if_neg (by decide), zs1]; rfl
end CNT

-- a new word; what the law does with the script
section ACT
variable {g : gS}
theorem w72 (len : Int32) (text : Nat → Int32) : ∀ F l2 s n p out, b_X11_word_72 nF len text F l2 s n p = some out → out.2.1 = s ∧ out.2.2.2 = p ∧ f_X11_rooms nF out.2.2.1 = some out.1 := by
  intro F
  induction F with
  | zero => intro l2 s n p out h; rw [b_X11_word_72] at h; cases h
  | succ F ih =>
    intro l2 s n p out h
    rw [b_X11_word_72] at h
    by_cases q : (6 : Int32) ≤ l2
    · rw [if_pos q] at h
      obtain ⟨a, e1, h⟩ := bnd1_s h
      obtain ⟨r, e2, h⟩ := bnd1_s h
      cases h
      exact ⟨rfl, rfl, e2⟩
    · rw [if_neg q] at h
      by_cases q2 : len ≤ l2
      · rw [if_pos q2] at h
        obtain ⟨-, h⟩ := chk_s h
        exact ih _ _ _ _ _ h
      · rw [if_neg q2] at h
        obtain ⟨-, h⟩ := chk_s h
        obtain ⟨-, h⟩ := chk_s h
        exact ih _ _ _ _ _ h
def W49 (s : Int32) (n p : Nat → Int32) (out : Int32 × Int32 × (Nat → Int32) × (Nat → Int32)) : Prop := out = (-2, s, n, p) ∨ ∃ s' p', f_X11_records nF s n p = some (s', p') ∧ out.2.1 = s' ∧ out.2.2.2 = p' ∧ f_X11_rooms nF out.2.2.1 = some out.1
theorem w49 {len : Int32} {text : Nat → Int32} {l1 s : Int32} {n p : Nat → Int32} {out : Int32 × Int32 × (Nat → Int32) × (Nat → Int32)} (h : b_X11_word_49 nF len text l1 s n p = some out) : W49 s n p out := by
  unfold b_X11_word_49 at h
  by_cases q : l1 = 0
  · rw [if_pos q] at h
    exact Or.inl (Option.some.inj h).symm
  · rw [if_neg q] at h
    obtain ⟨s', p', e1, h⟩ := bnd2_s h
    obtain ⟨e2, e3, e4⟩ := w72 _ _ _ _ _ _ _ _ h
    exact Or.inr ⟨s', p', e1, e2, e3, e4⟩
theorem w13 (len : Int32) (text : Nat → Int32) (s : Int32) (n p : Nat → Int32) : ∀ F l1 l2 out, b_X11_word_13 nF len text F l1 l2 s n p = some out → W49 s n p out := by
  intro F
  induction F with
  | zero => intro l1 l2 out h; rw [b_X11_word_13] at h; cases h
  | succ F ih =>
    intro l1 l2 out h
    rw [b_X11_word_13] at h
    by_cases q : len ≤ l2
    · rw [if_pos q] at h; exact w49 h
    · rw [if_neg q] at h
      by_cases q2 : l1 = 0
      · rw [if_pos q2] at h; exact w49 h
      · rw [if_neg q2] at h
        obtain ⟨-, h⟩ := chk_s h
        by_cases q3 : t_X11_shape (text l2.toNatClampNeg) ≤ 0
        · rw [if_pos q3] at h; exact ih _ _ _ h
        · rw [if_neg q3] at h; exact ih _ _ _ h
theorem a_word (hg : gI g) : Act g (C_word g) := by
  obtain ⟨w, cc, rc, dc, lo, ow, sz, st, go, le, op, sg, hn, yl, yo, ys, yz, ya, yg, tl, tc, R⟩ := gI_R hg
  obtain ⟨r0, o1, o2, o3, o4, o5, o6, o7, o8, o9, o10, o11, o12, o13, o14, o15, o16, o17, o18, o19, z1, z2, z3, e1, e2, R1⟩ := o_word R nF_le
  have hc1 : C_word g = (r0, (z639 z2, z3, z1, g.2.2.2.1, g.2.2.2.2)) := by unfold C_word; rw [e2]
  obtain ⟨h, hT, ⟨hh, h5, eh, hp⟩, -⟩ := hg
  rw [hc1]
  unfold f_X11_word at e2
  rcases w13 _ _ _ _ _ _ _ _ _ e2 with e | ⟨s', p', e3, e4, e5, e6⟩
  · cases e
    exact Or.inr ⟨Or.inr (Or.inl rfl), z639_id hT, rfl⟩
  · have e4 : z1 = s' := e4
    have e5 : z3 = p' := e5
    have e6 : f_X11_rooms nF z2 = some r0 := e6
    rw [eh, m_records nF_le h5 g.2.1] at e3
    obtain ⟨e7, e8⟩ := Prod.mk.inj (Option.some.inj e3)
    rw [m_rooms R1.1 nF_1] at e6
    have := zCt_le (zr z2) 210
    refine Or.inl ⟨zCt (zr z2) 210, by omega, (Option.some.inj e6).symm, hh, h5, eh, ?_, ?_⟩
    · show z1 = _
      rw [e4, ← e7]
    · show z3 = _
      rw [e5, ← e8]
-- a room out of a number
theorem p_anyRoom (h : zwf g.1) {y : Nat} (hy : y < 2 ^ 31) : ∃ c, zr g.1 c = true ∧ f_L_anyRoom nF g (nI y) = some (nI c, g) := by
  have hw := zwf_w h
  have key : ∀ n c F, c < 6 * zw g.1 → 5 * zw g.1 - c ≤ n → n < F → ∃ r, zr g.1 r = true ∧ b_L_anyRoom_13 nF (nI y) F (nI (6 * zw g.1)) (nI c) g = some (nI r, g) := by
    intro n
    induction n with
    | zero =>
      intro c F hc hn hF
      obtain ⟨F, rfl⟩ : ∃ G, F = G + 1 := ⟨F - 1, by omega⟩
      have hr := (zbase h (c := c) (by omega) hc).1
      refine ⟨c, hr, ?_⟩
      rw [b_L_anyRoom_13]
      refine st_bV (e_isRoom h hc) ?_
      exact st_el (by rw [hr]; decide) rfl
    | succ n ih =>
      intro c F hc hn hF
      obtain ⟨F, rfl⟩ : ∃ G, F = G + 1 := ⟨F - 1, by omega⟩
      cases hr : zr g.1 c with
      | true =>
        refine ⟨c, hr, ?_⟩
        rw [b_L_anyRoom_13]
        refine st_bV (e_isRoom h hc) ?_
        exact st_el (by rw [hr]; decide) rfl
      | false =>
        have h5 : c < 5 * zw g.1 := by
          rcases Nat.lt_or_ge c (5 * zw g.1) with q | q
          · exact q
          · rw [(zbase h q hc).1] at hr; cases hr
        obtain ⟨r, r1, r2⟩ := ih (c + 1) F (by omega) (by omega) (by omega)
        refine ⟨r, r1, ?_⟩
        rw [b_L_anyRoom_13]
        refine st_bV (e_isRoom h hc) ?_
        refine st_if (by rw [hr]; rfl) ?_
        refine st_el (fun e => by have := (nI_eq (b := 0) (by omega) (by decide)).mp e; omega) ?_
        rw [nI_1, pk_rem (by omega) (by omega) (by omega), Nat.mod_eq_of_lt (show c + 1 < 6 * zw g.1 by omega)]
        exact r2
  obtain ⟨r, r1, r2⟩ := key (5 * zw g.1) (y % (6 * zw g.1)) nF (Nat.mod_lt _ (by omega)) (by omega) (by have := nF_1; omega)
  refine ⟨r, r1, ?_⟩
  unfold f_L_anyRoom
  refine st_bV (e_c1 h) ?_
  rw [e6w h]
  refine st_el (fun e => by have := (nI_eq (b := 0) (by omega) (by decide)).mp e; omega) ?_
  rw [pk_rem hy (by omega) (by omega)]
  exact r2
-- texts
def Sm (g g' : gS) : Prop := g'.1 = g.1 ∧ g'.2.1 = g.2.1 ∧ g'.2.2.1 = g.2.2.1
theorem Act_sm {g' : gS} (hs : Sm g g') {p : Int32 × gS} (h : Act g' p) : Act g p := by
  obtain ⟨s1, s2, s3⟩ := hs
  rcases h with ⟨n, n1, n2, hh, h5, a1, a2, a3⟩ | ⟨a1, a2, a3⟩
  · exact Or.inl ⟨n, n1, n2, hh, h5, by rw [← s3]; exact a1, a2, by rw [a3, s1, s2]⟩
  · exact Or.inr ⟨a1, a2.trans s1, a3.trans s3⟩
theorem sm_type (hg : gI g) (x : Int32) : Sm g (C_type g x).2 := by
  obtain ⟨w, cc, rc, dc, lo, ow, sz, st, go, le, op, sg, hn, yl, yo, ys, yz, ya, yg, tl, tc, R⟩ := gI_R hg
  obtain ⟨r0, o1, o2, z1, z2, e1, e2, R1⟩ := o_type R x
  have hc1 : C_type g x = (r0, (g.1, g.2.1, g.2.2.1, z1, z2)) := by unfold C_type; rw [e2]
  rw [hc1]
  exact ⟨rfl, rfl, rfl⟩
theorem sm_clear : Sm g (C_clearText g).2 := ⟨rfl, rfl, rfl⟩
theorem p131 (va2 va3 : Int32) {g1 : gS} (h1 : gI g1) (hs : Sm g g1) : ∃ r g', b_L_acts_131 nF va2 va3 g1 = some (r, g') ∧ gI g' ∧ Act g (r, g') := ⟨(C_word g1).1, (C_word g1).2, rfl, gI_word h1, Act_sm hs (a_word h1)⟩
theorem p85 (va2 va3 : Int32) (l5 : Int64) {n : Nat} (hn : n < 100) : ∀ k, k ≤ n → ∀ F, n - k < F → ∀ l4 g1, gI g1 → Sm g g1 → ∃ r g', b_L_acts_85 nF va2 va3 F l4 l5 (nI n) (nI k) g1 = some (r, g') ∧ gI g' ∧ Act g (r, g') := by
  refine dn _ ?_ ?_
  · intro F hF l4 g1 h1 hs
    obtain ⟨F, rfl⟩ : ∃ G, F = G + 1 := ⟨F - 1, by omega⟩
    rw [b_L_acts_85, if_pos (nI_le (Nat.le_refl _) (by omega))]
    exact p131 va2 va3 h1 hs
  · intro k hk ih F hF l4 g1 h1 hs
    obtain ⟨F, rfl⟩ : ∃ G, F = G + 1 := ⟨F - 1, by omega⟩
    rw [b_L_acts_85, if_neg (nI_ge hk (by omega))]
    by_cases q : l4 < 0
    · rw [if_pos q]; exact p131 va2 va3 h1 hs
    · rw [if_neg q, nI_1 k]
      have hs2 := sm_type h1
      obtain ⟨r, g', e, e2, e3⟩ := ih F (by omega) _ _ (gI_type h1 _) ⟨(hs2 _).1.trans hs.1, (hs2 _).2.1.trans hs.2.1, (hs2 _).2.2.trans hs.2.2⟩
      exact ⟨r, g', e, e2, e3⟩
-- the law's act
theorem p_acts (hg : gI g) {va2 : Int32} {k yy : Nat} (hlow : f_L_low va2 12 = some (nI k)) (hk : k < 12) (hy : yy < 2 ^ 31) :
    ∃ r g', f_L_acts nF g va2 (nI yy) = some (r, g') ∧ gI g' ∧ Act g (r, g') ∧ ((k = 1 ∨ k = 2) → r = nI (zCt (zr g'.1) 210) - 1 ∧ zsing g'.1 = true ∧ zsc g'.1 false = zsc g.1 false) := by
  obtain ⟨c, hr, ec⟩ := p_anyRoom hg.1 (y := yy) hy
  have d28 : nI yy / (28 : Int32) = nI (yy / 28) := pk_div (d := 28) hy (by decide) (by decide)
  have d7 : nI yy / (7 : Int32) = nI (yy / 7) := pk_div (d := 7) hy (by decide) (by decide)
  have d5 : nI yy / (5 : Int32) = nI (yy / 5) := pk_div (d := 5) hy (by decide) (by decide)
  have d15 : nI yy / (15 : Int32) = nI (yy / 15) := pk_div (d := 15) hy (by decide) (by decide)
  have m3 : ∀ a, a < 2 ^ 31 → nI a - nI a / (3 : Int32) * (3 : Int32) = nI (a % 3) := fun a ha => pk_rem (d := 3) ha (by decide) (by decide)
  have m64 : nI yy - nI yy / (65536 : Int32) * (65536 : Int32) = nI (yy % 65536) := pk_rem (d := 65536) hy (by decide) (by decide)
  have hmake : ∃ r g', (some ((C_make g (nI (yy % 65536))).1, (C_make g (nI (yy % 65536))).2) : Option (Int32 × gS)) = some (r, g') ∧ gI g' ∧ Act g (r, g') ∧ (r = nI (zCt (zr g'.1) 210) - 1 ∧ zsing g'.1 = true ∧ zsc g'.1 false = zsc g.1 false) := by
    obtain ⟨n, n1, n2, n3, n4, n5, n6⟩ := a_make hg (seed := yy % 65536) (Nat.mod_lt _ (by decide))
    have r1 := zCt_le (zr g.1) 210
    refine ⟨_, _, rfl, gI_make hg _, Or.inl ⟨n, by omega, n2, n3⟩, ?_, n5, n6⟩
    rw [n4, n2]
    rw [← n1]
    exact (pk_sub (a := n + 1) (b := 1) (by omega)).symm
  have hdoor : ∃ r g', (if ((nI yy / (28 : Int32)) - (nI yy / (28 : Int32)) / (3 : Int32) * (3 : Int32)) ≤ 0 then b_L_acts_167 nF va2 (nI yy) (nI c) (((nI yy / (7 : Int32)) - (nI yy / (7 : Int32)) / (4 : Int32) * (4 : Int32))) ((0 : Int32)) g else b_L_acts_167 nF va2 (nI yy) (nI c) (((nI yy / (7 : Int32)) - (nI yy / (7 : Int32)) / (4 : Int32) * (4 : Int32))) ((1 : Int32)) g) = some (r, g') ∧ gI g' ∧ Act g (r, g') := by
    rw [d28, d7, m3 _ (by omega), zrem4 (by omega)]
    by_cases q : nI (yy / 28 % 3) ≤ 0
    · rw [if_pos q]
      exact ⟨_, _, rfl, gI_door hg _ _ _, a_door hg hr (d := yy / 7 % 4) (v := 0) (Nat.mod_lt _ (by decide)) (by decide)⟩
    · rw [if_neg q]
      exact ⟨_, _, rfl, gI_door hg _ _ _, a_door hg hr (d := yy / 7 % 4) (v := 1) (Nat.mod_lt _ (by decide)) (by decide)⟩
  have hsign : ∃ r g', (if ((nI yy / (5 : Int32)) - (nI yy / (5 : Int32)) / (3 : Int32) * (3 : Int32)) = (2 : Int32) then b_L_acts_216 nF va2 (nI yy) (nI c) (((nI yy / (5 : Int32)) - (nI yy / (5 : Int32)) / (3 : Int32) * (3 : Int32))) (((nI yy / (15 : Int32)) - (nI yy / (15 : Int32)) / (4 : Int32) * (4 : Int32))) g else b_L_acts_216 nF va2 (nI yy) (nI c) (((nI yy / (5 : Int32)) - (nI yy / (5 : Int32)) / (3 : Int32) * (3 : Int32))) ((0 : Int32)) g) = some (r, g') ∧ gI g' ∧ Act g (r, g') := by
    rw [d5, d15, m3 _ (by omega), zrem4 (by omega)]
    have hk3 := Nat.mod_lt (yy / 5) (show 0 < 3 by decide)
    have h4 := Nat.mod_lt (yy / 15) (show 0 < 4 by decide)
    by_cases q : nI (yy / 5 % 3) = (2 : Int32)
    · have q2 : yy / 5 % 3 = 2 := (nI_eq (b := 2) (by omega) (by decide)).mp q
      rw [if_pos q]
      exact ⟨_, _, rfl, gI_sign hg _ _ _, a_sign hg hr (kd := yy / 5 % 3) (d := yy / 15 % 4) (by omega) (by rw [if_pos q2]; omega)⟩
    · have q2 : ¬ yy / 5 % 3 = 2 := fun e => q (by rw [e]; rfl)
      rw [if_neg q]
      exact ⟨_, _, rfl, gI_sign hg _ _ _, a_sign hg hr (kd := yy / 5 % 3) (d := 0) (by omega) (by rw [if_neg q2]; omega)⟩
  unfold f_L_acts
  rw [bnd2_e ec, bnd1_e hlow]
  clear hlow
  have hc : k = 0 ∨ k = 1 ∨ k = 2 ∨ k = 3 ∨ k = 4 ∨ k = 5 ∨ k = 6 ∨ k = 7 ∨ k = 8 ∨ 9 ≤ k := by omega
  have no12 : ∀ {x : Nat}, x ≠ 1 → x ≠ 2 → ∀ {P : Prop}, (x = 1 ∨ x = 2) → P := fun a b _ e => by rcases e with e | e; exact absurd e a; exact absurd e b
  rcases hc with rfl | rfl | rfl | rfl | rfl | rfl | rfl | rfl | rfl | h9
  · rw [if_pos (show nI 0 = (0 : Int32) from rfl)]
    have en : (1 : Int32) + (nI yy - nI yy / (3 : Int32) * (3 : Int32)) = nI (1 + yy % 3) := by rw [m3 _ hy]; exact nI_add 1 _
    rw [en]
    obtain ⟨r, g', e1, e2, e3⟩ := p85 (g := g) va2 (nI yy) 4702678604050878285 (n := 1 + yy % 3) (by omega) 0 (Nat.zero_le _) nF (by have := nF_1; omega) (C_clearText g).1 (C_clearText g).2 (gI_clearText hg) sm_clear
    exact ⟨r, g', e1, e2, e3, no12 (by decide) (by decide)⟩
  · rw [if_neg (by decide), if_pos (show nI 1 = (1 : Int32) from rfl), m64]
    obtain ⟨r, g', e1, e2, e3, e4⟩ := hmake
    exact ⟨r, g', e1, e2, e3, fun _ => e4⟩
  · rw [if_neg (by decide), if_neg (by decide), if_pos (show nI 2 = (2 : Int32) from rfl), m64]
    obtain ⟨r, g', e1, e2, e3, e4⟩ := hmake
    exact ⟨r, g', e1, e2, e3, fun _ => e4⟩
  · rw [if_neg (by decide), if_neg (by decide), if_neg (by decide), if_pos (show nI 3 = (3 : Int32) from rfl)]
    obtain ⟨r, g', e1, e2, e3⟩ := hdoor
    exact ⟨r, g', e1, e2, e3, no12 (by decide) (by decide)⟩
  · rw [if_neg (by decide), if_neg (by decide), if_neg (by decide), if_neg (by decide), if_pos (show nI 4 = (4 : Int32) from rfl)]
    obtain ⟨r, g', e1, e2, e3⟩ := hdoor
    exact ⟨r, g', e1, e2, e3, no12 (by decide) (by decide)⟩
  · rw [if_neg (by decide), if_neg (by decide), if_neg (by decide), if_neg (by decide), if_neg (by decide), if_pos (show nI 5 = (5 : Int32) from rfl)]
    obtain ⟨r, g', e1, e2, e3⟩ := hdoor
    exact ⟨r, g', e1, e2, e3, no12 (by decide) (by decide)⟩
  · rw [if_neg (by decide), if_neg (by decide), if_neg (by decide), if_neg (by decide), if_neg (by decide), if_neg (by decide), if_pos (show nI 6 = (6 : Int32) from rfl)]
    exact ⟨_, _, rfl, gI_start hg _, a_start hg hr, no12 (by decide) (by decide)⟩
  · rw [if_neg (by decide), if_neg (by decide), if_neg (by decide), if_neg (by decide), if_neg (by decide), if_neg (by decide), if_neg (by decide), if_pos (show nI 7 = (7 : Int32) from rfl)]
    exact ⟨_, _, rfl, gI_goal hg _, a_goal hg hr, no12 (by decide) (by decide)⟩
  · rw [if_neg (by decide), if_neg (by decide), if_neg (by decide), if_neg (by decide), if_neg (by decide), if_neg (by decide), if_neg (by decide), if_neg (by decide), if_pos (show nI 8 = (8 : Int32) from rfl)]
    exact ⟨_, _, rfl, gI_unsign hg _, a_unsign hg hr, no12 (by decide) (by decide)⟩
  · have ne : ∀ j : Nat, j < 9 → ¬ nI k = nI j := fun j hj e => by have := (nI_eq (by omega) (by omega)).mp e; omega
    rw [if_neg (show ¬ nI k = (0 : Int32) from ne 0 (by decide)), if_neg (show ¬ nI k = (1 : Int32) from ne 1 (by decide)), if_neg (show ¬ nI k = (2 : Int32) from ne 2 (by decide)), if_neg (show ¬ nI k = (3 : Int32) from ne 3 (by decide)), if_neg (show ¬ nI k = (4 : Int32) from ne 4 (by decide)), if_neg (show ¬ nI k = (5 : Int32) from ne 5 (by decide)), if_neg (show ¬ nI k = (6 : Int32) from ne 6 (by decide)), if_neg (show ¬ nI k = (7 : Int32) from ne 7 (by decide)), if_neg (show ¬ nI k = (8 : Int32) from ne 8 (by decide))]
    obtain ⟨r, g', e1, e2, e3⟩ := hsign
    exact ⟨r, g', e1, e2, e3, no12 (by omega) (by omega)⟩
end ACT
-- the law, over the ghost
section LAW
variable {g : gS}
theorem and31 (x : Int32) : ∃ n, n < 2 ^ 31 ∧ x &&& (2147483647 : Int32) = nI n := by
  refine ⟨x.toBitVec.toNat % 2 ^ 31, Nat.mod_lt _ (by decide), ?_⟩
  apply Int32.toBitVec_inj.mp
  apply BitVec.eq_of_toNat_eq
  show (x.toBitVec &&& 2147483647#32).toNat = (BitVec.ofNat 32 (x.toBitVec.toNat % 2 ^ 31)).toNat
  rw [BitVec.toNat_and, show (2147483647#32).toNat = 2 ^ 31 - 1 from rfl, Nat.and_two_pow_sub_one_eq_mod, BitVec.toNat_ofNat]
  have := Nat.mod_lt x.toBitVec.toNat (show 0 < 2 ^ 31 by decide)
  rw [Nat.mod_eq_of_lt (show x.toBitVec.toNat % 2 ^ 31 < 2 ^ 32 by omega)]
theorem and31_nI {n : Nat} (h : n < 2 ^ 31) : nI n &&& (2147483647 : Int32) = nI n := by
  apply Int32.toBitVec_inj.mp
  apply BitVec.eq_of_toNat_eq
  show (BitVec.ofNat 32 n &&& 2147483647#32).toNat = (BitVec.ofNat 32 n).toNat
  rw [BitVec.toNat_and, show (2147483647#32).toNat = 2 ^ 31 - 1 from rfl, Nat.and_two_pow_sub_one_eq_mod, BitVec.toNat_ofNat, Nat.mod_eq_of_lt (show n < 2 ^ 32 by omega), Nat.mod_eq_of_lt h]
theorem p_low (x : Int32) {m : Nat} (h0 : 0 < m) (hm : m < 2 ^ 31) : ∃ n, n < m ∧ f_L_low x (nI m) = some (nI n) := by
  obtain ⟨a, a1, a2⟩ := and31 x
  refine ⟨a % m, Nat.mod_lt _ h0, ?_⟩
  unfold f_L_low
  rw [if_neg (fun e => by have := (nI_eq (b := 0) hm (by decide)).mp e; omega), a2, pk_rem a1 h0 hm]
theorem p_low_nI {a m : Nat} (ha : a < 2 ^ 31) (h0 : 0 < m) (hm : m < 2 ^ 31) : f_L_low (nI a) (nI m) = some (nI (a % m)) := by
  unfold f_L_low
  rw [if_neg (fun e => by have := (nI_eq (b := 0) hm (by decide)).mp e; omega), and31_nI ha, pk_rem ha h0 hm]
-- one turn, from its end
theorem y416 (xs : Nat → Int32) (L : Nat) (hg : gI g) (K : Int32 → Int32 → gS → Option (Int32 × gS)) (t : Nat) (hK : ∃ g', K 1 (nI (t + 1)) g = some (1, g')) : ∃ g', b_L_law_416 nF xs L K (nI t) g = some (1, g') := by
  obtain ⟨g', hK⟩ := hK
  refine ⟨g', ?_⟩
  unfold b_L_law_416
  rw [nI_1]
  by_cases q : (nI t - nI t / (10 : Int32) * (10 : Int32)) = (6 : Int32)
  · refine st_if q ?_
    refine st_b2 (p_refused hg) ?_
    exact st_el (by decide) hK
  · exact st_el q hK
theorem y388 (xs : Nat → Int32) (L : Nat) (hg : gI g) (K : Int32 → Int32 → gS → Option (Int32 × gS)) (t yy : Nat) (hy : yy < 2 ^ 31) (hK : ∃ g', K 1 (nI (t + 1)) g = some (1, g')) : ∃ g', b_L_law_388 nF xs L K (nI t) (nI yy) g = some (1, g') := by
  obtain ⟨g', h416⟩ := y416 xs L hg K t hK
  refine ⟨g', ?_⟩
  unfold b_L_law_388
  refine st_b2 (p_areSigns hg.1) ?_
  refine st_el (by decide) ?_
  by_cases q : (nI t - nI t / (4 : Int32) * (4 : Int32)) = (1 : Int32)
  · refine st_if q ?_
    have e40 : (1 : Int32) + (nI yy - nI yy / (40 : Int32) * (40 : Int32)) = nI (1 + yy % 40) := by
      rw [show nI yy - nI yy / (40 : Int32) * (40 : Int32) = nI (yy % 40) from pk_rem (d := 40) hy (by decide) (by decide)]
      exact nI_add 1 _
    have := Nat.mod_lt yy (show 0 < 40 by decide)
    rw [e40]
    refine st_b2 (p_isWalk hg.1 (most := 1 + yy % 40) (by omega)) ?_
    exact st_el (by decide) h416
  · exact st_el q h416
theorem y357 (xs : Nat → Int32) (L : Nat) (hg : gI g) (K : Int32 → Int32 → gS → Option (Int32 × gS)) (t yy : Nat) (hy : yy < 2 ^ 31) (hK : ∃ g', K 1 (nI (t + 1)) g = some (1, g')) : ∃ g', b_L_law_357 nF xs L K (nI t) (nI yy) g = some (1, g') := by
  obtain ⟨g', h388⟩ := y388 xs L hg K t yy hy hK
  refine ⟨g', ?_⟩
  unfold b_L_law_357
  by_cases q : (nI t - nI t / (3 : Int32) * (3 : Int32)) = (2 : Int32)
  · refine st_if q ?_
    obtain ⟨a, ha, ea⟩ := p_anyRoom hg.1 (y := yy / 3) (by omega)
    obtain ⟨b, hb, eb⟩ := p_anyRoom hg.1 (y := yy / 11) (by omega)
    rw [show nI yy / (3 : Int32) = nI (yy / 3) from pk_div (d := 3) hy (by decide) (by decide), show nI yy / (11 : Int32) = nI (yy / 11) from pk_div (d := 11) hy (by decide) (by decide)]
    refine st_b2 ea ?_
    refine st_b2 eb ?_
    refine st_b2 (p_areWays hg.1 ha hb) ?_
    exact st_el (by decide) h388
  · exact st_el q h388
theorem y339 (xs : Nat → Int32) (L : Nat) (hg : gI g) (K : Int32 → Int32 → gS → Option (Int32 × gS)) (t yy : Nat) (hy : yy < 2 ^ 31) (hK : ∃ g', K 1 (nI (t + 1)) g = some (1, g')) : ∃ g', b_L_law_339 nF xs L K 1 (nI t) (nI yy) g = some (1, g') := by
  obtain ⟨g', h357⟩ := y357 xs L hg K t yy hy hK
  refine ⟨g', ?_⟩
  unfold b_L_law_339
  refine st_el (by decide) ?_
  by_cases q : (nI t - nI t / (2 : Int32) * (2 : Int32)) = (1 : Int32)
  · exact st_if q h357
  · refine st_el q ?_
    refine st_b2 (p_areDoors hg.1) ?_
    exact st_el (by decide) h357
theorem y279 {g0 : gS} (xs : Nat → Int32) (L : Nat) (hg0 : gI g0) (hg : gI g) (K : Int32 → Int32 → gS → Option (Int32 × gS)) (t yy : Nat) (hy : yy < 2 ^ 31) (x : Int32) {pr : Int64} (hpr : f_L_print nF g0 = some (pr, g0)) {r : Int32} (ha : Act g0 (r, g)) (hK : ∀ g1, gI g1 → ∃ g', K 1 (nI (t + 1)) g1 = some (1, g')) : ∃ g', b_L_law_279 nF xs L K (nI t) x (nI yy) pr g0.2.2.1 r g = some (1, g') := by
  unfold b_L_law_279 b_L_law_284
  rcases ha with ⟨n, n1, n2, hR⟩ | ⟨hr, -, -⟩
  · have n2 : r = nI n := n2
    by_cases q : ((x >>> ((25 : Int32) &&& 31)) &&& (3 : Int32)) = 0
    · obtain ⟨h, h5, u1, u2, u3⟩ := a_undo hg0.2.1 hR
      have hgu := gI_undo hg
      obtain ⟨g', h339⟩ := y339 xs L hgu K t yy hy (hK _ hgu)
      have h320 : ∀ s, (C_undo g).1 = s → b_L_law_320 nF xs L K (nI t) (nI yy) pr (C_undo g).1 s (C_undo g).2 = some (1, g') := by
        intro s hs
        unfold b_L_law_320
        refine st_if hs ?_
        refine st_b2 (p_print_eq hg0.1 u3 hpr) ?_
        refine st_if (lg_cmp_0.mpr rfl) ?_
        unfold b_L_law_338
        exact h339
      refine ⟨g', ?_⟩
      refine st_el (by decide) ?_
      refine st_el (by rw [n2]; exact nI_pos n1) ?_
      refine st_if q ?_
      refine st_bV rfl ?_
      rw [u1]
      by_cases q5 : nI h = (5 : Int32)
      · have e5 : h = 5 := (nI_eq (b := 5) (by omega) (by decide)).mp q5
        refine st_if q5 (h320 _ ?_)
        rw [u2, if_pos e5]; rfl
      · have e5 : ¬ h = 5 := fun e => q5 (by rw [e]; rfl)
        refine st_el q5 (h320 _ ?_)
        rw [u2, if_neg e5]; rfl
    · obtain ⟨g', h339⟩ := y339 xs L hg K t yy hy (hK _ hg)
      refine ⟨g', ?_⟩
      refine st_el (by decide) ?_
      refine st_el (by rw [n2]; exact nI_pos n1) ?_
      exact st_el q h339
  · have hr : r = -1 ∨ r = -2 ∨ r = -3 ∨ r = -4 := hr
    have hneg : r < 0 := by rcases hr with rfl | rfl | rfl | rfl <;> decide
    obtain ⟨g', h339⟩ := y339 xs L hg K t yy hy (hK _ hg)
    exact ⟨g', st_el (by decide) (st_if hneg h339)⟩
theorem y234 {g0 : gS} (xs : Nat → Int32) (L : Nat) (hg0 : gI g0) (hg : gI g) (K : Int32 → Int32 → gS → Option (Int32 × gS)) (t yy kd : Nat) (hkd : kd < 12) (hy : yy < 2 ^ 31) (x : Int32) {pr : Int64} (hpr : f_L_print nF g0 = some (pr, g0)) {r : Int32} (ha : Act g0 (r, g)) (hmk : (kd = 1 ∨ kd = 2) → r = nI (zCt (zr g.1) 210) - 1 ∧ zsing g.1 = true ∧ zsc g.1 false = zsc g0.1 false) (hK : ∀ g1, gI g1 → ∃ g', K 1 (nI (t + 1)) g1 = some (1, g')) : ∃ g', b_L_law_234 nF xs L K (nI t) x (nI yy) pr g0.2.2.1 (nI (zsc g0.1 false)) (nI kd) r g = some (1, g') := by
  obtain ⟨g', h279⟩ := y279 xs L hg0 hg K t yy hy x hpr ha hK
  refine ⟨g', ?_⟩
  unfold b_L_law_234
  have h246 : (kd = 1 ∨ kd = 2) → b_L_law_246 nF xs L K (nI t) x (nI yy) pr g0.2.2.1 (nI (zsc g0.1 false)) r g = some (1, g') := by
    intro hk
    obtain ⟨m1, m2, m3⟩ := hmk hk
    unfold b_L_law_246
    refine st_bV (e_c2 hg.1) ?_
    refine st_if m1 ?_
    refine st_bV (e_c7 hg.1) ?_
    refine st_if (by rw [m2]; rfl) ?_
    refine st_bV (e_c12 hg.1) ?_
    exact st_if (by rw [m3]) h279
  by_cases q1 : nI kd = (1 : Int32)
  · exact st_if q1 (h246 (Or.inl ((nI_eq (b := 1) (by omega) (by decide)).mp q1)))
  · refine st_el q1 ?_
    by_cases q2 : nI kd = (2 : Int32)
    · exact st_if q2 (h246 (Or.inr ((nI_eq (b := 2) (by omega) (by decide)).mp q2)))
    · exact st_el q2 h279
theorem y150 (xs : Nat → Int32) (L : Nat) (hg : gI g) (K : Int32 → Int32 → gS → Option (Int32 × gS)) (t yy kd : Nat) (hkd : kd < 12) (hy : yy < 2 ^ 31) (x : Int32) {pr : Int64} (hpr : f_L_print nF g = some (pr, g)) (hK : ∀ g1, gI g1 → ∃ g', K 1 (nI (t + 1)) g1 = some (1, g')) : ∃ g', b_L_law_150 nF xs L K (nI t) x (nI yy) pr g.2.2.1 (nI (zsc g.1 false)) (nI kd) g = some (1, g') := by
  obtain ⟨q, q1, q2⟩ := p_low (x >>> ((4 : Int32) &&& 31)) (m := 99999) (by decide) (by decide)
  have ev : ((12 : Int32) * nI q) + nI kd = nI (12 * q + kd) := by rw [show (12 : Int32) * nI q = nI (12 * q) from pk_mul 12 q, nI_add]
  have hl : f_L_low (nI (12 * q + kd)) 12 = some (nI kd) := by
    have := p_low_nI (a := 12 * q + kd) (m := 12) (by omega) (by decide) (by decide)
    rw [show (12 * q + kd) % 12 = kd by omega] at this
    exact this
  obtain ⟨r, g1, e1, hg1, ha, hmk⟩ := p_acts hg hl hkd hy
  obtain ⟨g', h234⟩ := y234 xs L hg hg1 K t yy kd hkd hy x hpr ha hmk hK
  refine ⟨g', ?_⟩
  unfold b_L_law_150
  refine st_b1 q2 ?_
  rw [ev]
  refine st_b2 e1 ?_
  rcases ha with ⟨n, n1, n2, h, h5, a1, a2, a3⟩ | ⟨hr, a1, a2⟩
  · have n2 : r = nI n := n2
    have a2 : g1.2.2.1 = nI (if h = 5 then 5 else h + 1) := a2
    refine st_el (by rw [n2]; exact fun e => absurd (Int32.lt_trans e (by decide)) (nI_pos n1)) ?_
    refine st_el (by rw [n2]; exact nI_pos n1) ?_
    refine st_bV (e_c14 hg1.1) ?_
    have h207 : ∀ s, g1.2.2.1 = s → b_L_law_207 nF xs L K (nI t) x (nI yy) pr g.2.2.1 (nI (zsc g.1 false)) (nI kd) r g1.2.2.1 s g1 = some (1, g') := by
      intro s hs
      unfold b_L_law_207
      exact st_if hs h234
    by_cases q5 : nI h = (5 : Int32)
    · have e5 : h = 5 := (nI_eq (b := 5) (by omega) (by decide)).mp q5
      refine st_if (a1.trans q5) (h207 _ ?_)
      rw [a2, if_pos e5]; rfl
    · have e5 : ¬ h = 5 := fun e => q5 (by rw [e]; rfl)
      refine st_el (fun e => q5 (a1.symm.trans e)) (h207 _ ?_)
      rw [a2, if_neg e5, a1]; exact (nI_1 h).symm
  · have hr : r = -1 ∨ r = -2 ∨ r = -3 ∨ r = -4 := hr
    have a1 : g1.1 = g.1 := a1
    have a2 : g1.2.2.1 = g.2.2.1 := a2
    have h1 : ¬ r < (-4 : Int32) := by rcases hr with rfl | rfl | rfl | rfl <;> decide
    have h2 : r < 0 := by rcases hr with rfl | rfl | rfl | rfl <;> decide
    refine st_el h1 ?_
    refine st_if h2 ?_
    refine st_bV (e_c14 hg1.1) ?_
    refine st_if a2 ?_
    refine st_b2 (p_print_eq hg.1 a1 hpr) ?_
    exact st_if (lg_cmp_0.mpr rfl) h234
theorem y49 (xs : Nat → Int32) (L : Nat) : ∀ t, t ≤ 34 → ∀ F, 34 - t < F → ∀ g : gS, gI g → ∃ g', b_L_law_49 nF xs L F 1 (nI t) g = some (1, g') := by
  refine dn 34 ?_ ?_
  · intro F hF g hg
    obtain ⟨F, rfl⟩ : ∃ G, F = G + 1 := ⟨F - 1, by omega⟩
    refine ⟨g, ?_⟩
    rw [b_L_law_49, if_pos (show (34 : Int32) ≤ nI 34 by decide)]
    unfold b_L_law_444
    refine st_el (by decide) ?_
    refine st_b2 (p_refused hg) ?_
    refine st_el (by decide) ?_
    refine st_b2 (p_areDoors hg.1) ?_
    exact st_el (by decide) rfl
  · intro t ht ih F hF g hg
    obtain ⟨F, rfl⟩ : ∃ G, F = G + 1 := ⟨F - 1, by omega⟩
    have hK : ∀ g1, gI g1 → ∃ g', b_L_law_49 nF xs L F 1 (nI (t + 1)) g1 = some (1, g') := fun g1 h1 => ih F (by omega) g1 h1
    have e2 : (2 : Int32) * nI t = nI (2 * t) := pk_mul 2 t
    obtain ⟨r, hr⟩ := p_print hg.1
    obtain ⟨yy, y1, y2⟩ := p_low (t_L_cell xs L (nI (2 * t + 1))) (m := 1000000) (by decide) (by decide)
    obtain ⟨k3, k31, k32⟩ := p_low (t_L_cell xs L (nI (2 * t))) (m := 12) (by decide) (by decide)
    have y := fun kd hkd => y150 xs L hg (b_L_law_49 nF xs L F) t yy kd hkd (by omega) (t_L_cell xs L (nI (2 * t))) hr hK
    have key : ∃ g', (if nI t = 0 then b_L_law_150 nF xs L (b_L_law_49 nF xs L F) (nI t) (t_L_cell xs L (nI (2 * t))) (nI yy) r g.2.2.1 (nI (zsc g.1 false)) ((0 : Int32)) g
        else if nI t = (1 : Int32) then b_L_law_128 nF xs L (b_L_law_49 nF xs L F) (nI t) (t_L_cell xs L (nI (2 * t))) (nI yy) r g.2.2.1 (nI (zsc g.1 false)) g
        else if (nI t - nI t / (9 : Int32) * (9 : Int32)) = (8 : Int32) then b_L_law_128 nF xs L (b_L_law_49 nF xs L F) (nI t) (t_L_cell xs L (nI (2 * t))) (nI yy) r g.2.2.1 (nI (zsc g.1 false)) g
        else if (nI t - nI t / (3 : Int32) * (3 : Int32)) = 0 then b_L_law_150 nF xs L (b_L_law_49 nF xs L F) (nI t) (t_L_cell xs L (nI (2 * t))) (nI yy) r g.2.2.1 (nI (zsc g.1 false)) ((9 : Int32)) g
        else bnd1 (f_L_low (t_L_cell xs L (nI (2 * t))) (12 : Int32)) fun v147 => b_L_law_150 nF xs L (b_L_law_49 nF xs L F) (nI t) (t_L_cell xs L (nI (2 * t))) (nI yy) r g.2.2.1 (nI (zsc g.1 false)) v147 g) = some (1, g') := by
      by_cases q0 : nI t = 0
      · obtain ⟨g', e⟩ := y 0 (by decide); exact ⟨g', st_if q0 e⟩
      by_cases q1 : nI t = (1 : Int32)
      · obtain ⟨g', e⟩ := y 1 (by decide); exact ⟨g', st_el q0 (st_if q1 e)⟩
      by_cases q8 : (nI t - nI t / (9 : Int32) * (9 : Int32)) = (8 : Int32)
      · obtain ⟨g', e⟩ := y 1 (by decide); exact ⟨g', st_el q0 (st_el q1 (st_if q8 e))⟩
      by_cases q3 : (nI t - nI t / (3 : Int32) * (3 : Int32)) = 0
      · obtain ⟨g', e⟩ := y 9 (by decide); exact ⟨g', st_el q0 (st_el q1 (st_el q8 (st_if q3 e)))⟩
      obtain ⟨g', e⟩ := y k3 k31
      exact ⟨g', st_el q0 (st_el q1 (st_el q8 (st_el q3 (st_b1 k32 e))))⟩
    obtain ⟨g', key⟩ := key
    refine ⟨g', ?_⟩
    rw [b_L_law_49, if_neg (show ¬ (34 : Int32) ≤ nI t from nI_ge (b := 34) ht (by decide)), if_neg (show ¬ (1 : Int32) = 0 by decide), e2, if_neg (nI_pos (by omega : 2 * t < 2 ^ 31)), nI_1]
    refine st_bV rfl ?_
    refine st_el (nI_pos (by omega)) ?_
    refine st_bV rfl ?_
    refine st_b1 y2 ?_
    refine st_b2 hr ?_
    refine st_bV (e_c14 hg.1) ?_
    refine st_bV (e_c12 hg.1) ?_
    exact key
theorem p_law (xs : Nat → Int32) (L : Nat) (hg : gI g) (h0 : g.2.2.1 = 0) (r0 : zr g.1 0 = true) (r55 : zr g.1 55 = true) : ∃ g', f_L_law nF xs L g = some (1, g') := by
  have hu : C_undo g = (-2, g) := by
    unfold C_undo f_X11_undo
    rw [h0, if_pos rfl]
    show ((-2 : Int32), (z639 g.1, g.2.1, (0 : Int32), g.2.2.2.1, g.2.2.2.2)) = (-2, g)
    rw [← h0]
    exact congrArg (fun y => ((-2 : Int32), y)) (gI_eta hg.2.1)
  obtain ⟨g', e⟩ := y49 xs L 0 (by decide) nF (by have := nF_1; omega) g hg
  refine ⟨g', ?_⟩
  unfold f_L_law
  refine st_bV hu ?_
  refine st_if rfl ?_
  refine st_b2 (p_refused hg) ?_
  refine st_el (by decide) ?_
  refine st_b2 (p_areDoors hg.1) ?_
  refine st_el (by decide) ?_
  refine st_b2 (p_areWays hg.1 (a := 0) (b := 55) r0 r55) ?_
  exact st_el (by decide) e
end LAW

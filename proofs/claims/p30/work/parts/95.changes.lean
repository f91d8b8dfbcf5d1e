-- the changes
section CHG
variable {g : gS}
/-- from the ghost the class' contents -/
theorem gI_R (hg : gI g) : ∃ (w cc rc dc lo : Int32) (ow : Nat → Int32) (sz st go : Int32) (le op sg : Nat → Int32) (hn : Int32) (yl yo ys : Nat → Nat → Int32) (yz ya yg : Nat → Int32) (tl : Int32) (tc : Nat → Int32), zRl w cc rc dc lo ow sz st go le op sg hn yl yo ys yz ya yg tl tc g.1 g.2.1 g.2.2.1 g.2.2.2.1 g.2.2.2.2 := by
  obtain ⟨h, hT, ⟨hh, h5, eh, hp⟩, t, ht, et, hx⟩ := hg
  obtain ⟨k, k1, k2⟩ := zlowest h
  refine ⟨nI (zw g.1), nI (6 * zw g.1), nI (zCt (zr g.1) 210), nI (zCt (fun c => zr g.1 c && zh g.1 c 1) 210 + zCt (fun c => zr g.1 c && zh g.1 c 2) 210), nI k, fun c => if zr g.1 c = true then (if c / zw g.1 = 5 then 1 else nI (2 + c % zw g.1 / 6)) else 0, g.1 0, g.1 7, g.1 8, fun k => g.1 (1 + k), fun c => nI (zmf (zo g.1 c)), fun c => g.1 (429 + c), g.2.2.1, fun j k => zpa g.2.1 j (1 + k), fun j c => nI (zmf (zo (zpa g.2.1 j) c)), fun j c => zpa g.2.1 j (429 + c), fun j => zpa g.2.1 j 0, fun j => zpa g.2.1 j 7, fun j => zpa g.2.1 j 8, g.2.2.2.1, g.2.2.2.2, h, ⟨rfl, rfl, rfl, rfl, ⟨k, rfl, k1, k2⟩, fun _ _ => rfl⟩, ⟨rfl, rfl, rfl, fun _ _ => rfl, fun _ _ => rfl, fun _ _ => rfl⟩, ⟨hh, eh, eh, h5, fun j hj => ⟨hp j hj, rfl, rfl, rfl, fun _ _ => rfl, fun _ _ => rfl, fun _ _ => rfl⟩⟩, t, et, et, ht, fun k hk => ?_⟩
  obtain ⟨q, q1, q2, q3⟩ := hx k hk
  exact ⟨q, q1, q2, q3, q3⟩
theorem R_gI {w cc rc dc lo : Int32} {ow : Nat → Int32} {sz st go : Int32} {le op sg : Nat → Int32} {hn : Int32} {yl yo ys : Nat → Nat → Int32} {yz ya yg : Nat → Int32} {tl : Int32} {tc now past : Nat → Int32} {saved length : Int32} {text : Nat → Int32} (R : zRl w cc rc dc lo ow sz st go le op sg hn yl yo ys yz ya yg tl tc now past saved length text) (hT : ∀ k, 639 ≤ k → now k = 0) : gI (now, past, saved, length, text) := by
  obtain ⟨h, -, -, ⟨hh, -, e2, h5, hp⟩, t, -, e4, ht, hx⟩ := R
  refine ⟨h, hT, ⟨hh, h5, e2, fun j hj => (hp j hj).1⟩, t, ht, e4, fun k hk => ?_⟩
  obtain ⟨q, q1, q2, -, q3⟩ := hx k hk
  exact ⟨q, q1, q2, q3⟩
theorem gI_word (hg : gI g) : gI (C_word g).2 := by
  obtain ⟨w, cc, rc, dc, lo, ow, sz, st, go, le, op, sg, hn, yl, yo, ys, yz, ya, yg, tl, tc, R⟩ := gI_R hg
  obtain ⟨r0, o1, o2, o3, o4, o5, o6, o7, o8, o9, o10, o11, o12, o13, o14, o15, o16, o17, o18, o19, z1, z2, z3, e1, e2, R1⟩ := o_word R nF_le
  have hc1 : C_word g = (r0, (z639 z2, z3, z1, g.2.2.2.1, g.2.2.2.2)) := by unfold C_word; rw [e2]
  rw [hc1]
  exact R_gI (zRl_T R1) (fun k hk => z639_ge hk)
theorem gI_make (hg : gI g) (x0 : Int32) : gI (C_make g x0).2 := by
  obtain ⟨w, cc, rc, dc, lo, ow, sz, st, go, le, op, sg, hn, yl, yo, ys, yz, ya, yg, tl, tc, R⟩ := gI_R hg
  obtain ⟨r0, o1, o2, o3, o4, o5, o6, o7, o8, o9, o10, o11, z1, z2, z3, z4, z5, z6, z7, e1, e2, R1⟩ := o_make R nF_le 0 fz fz 0 0 fz fz x0
  have hc1 : C_make g x0 = (r0, (z639 z4, z5, z1, g.2.2.2.1, g.2.2.2.2)) := by unfold C_make; rw [e2]
  rw [hc1]
  exact R_gI (zRl_T R1) (fun k hk => z639_ge hk)
theorem gI_door (hg : gI g) (x0 : Int32) (x1 : Int32) (x2 : Int32) : gI (C_door g x0 x1 x2).2 := by
  obtain ⟨w, cc, rc, dc, lo, ow, sz, st, go, le, op, sg, hn, yl, yo, ys, yz, ya, yg, tl, tc, R⟩ := gI_R hg
  obtain ⟨r0, o1, o2, o3, o4, o5, o6, o7, o8, z1, z2, z3, e1, e2, R1⟩ := o_door R nF_le x0 x1 x2
  have hc1 : C_door g x0 x1 x2 = (r0, (z639 z2, z3, z1, g.2.2.2.1, g.2.2.2.2)) := by unfold C_door; rw [e2]
  rw [hc1]
  exact R_gI (zRl_T R1) (fun k hk => z639_ge hk)
theorem gI_start (hg : gI g) (x0 : Int32) : gI (C_start g x0).2 := by
  obtain ⟨w, cc, rc, dc, lo, ow, sz, st, go, le, op, sg, hn, yl, yo, ys, yz, ya, yg, tl, tc, R⟩ := gI_R hg
  obtain ⟨r0, o1, o2, o3, o4, o5, o6, o7, o8, z1, z2, z3, e1, e2, R1⟩ := o_start R nF_le x0
  have hc1 : C_start g x0 = (r0, (z639 z2, z3, z1, g.2.2.2.1, g.2.2.2.2)) := by unfold C_start; rw [e2]
  rw [hc1]
  exact R_gI (zRl_T R1) (fun k hk => z639_ge hk)
theorem gI_goal (hg : gI g) (x0 : Int32) : gI (C_goal g x0).2 := by
  obtain ⟨w, cc, rc, dc, lo, ow, sz, st, go, le, op, sg, hn, yl, yo, ys, yz, ya, yg, tl, tc, R⟩ := gI_R hg
  obtain ⟨r0, o1, o2, o3, o4, o5, o6, o7, o8, z1, z2, z3, e1, e2, R1⟩ := o_goal R nF_le x0
  have hc1 : C_goal g x0 = (r0, (z639 z2, z3, z1, g.2.2.2.1, g.2.2.2.2)) := by unfold C_goal; rw [e2]
  rw [hc1]
  exact R_gI (zRl_T R1) (fun k hk => z639_ge hk)
theorem gI_sign (hg : gI g) (x0 : Int32) (x1 : Int32) (x2 : Int32) : gI (C_sign g x0 x1 x2).2 := by
  obtain ⟨w, cc, rc, dc, lo, ow, sz, st, go, le, op, sg, hn, yl, yo, ys, yz, ya, yg, tl, tc, R⟩ := gI_R hg
  obtain ⟨r0, o1, o2, o3, o4, o5, o6, o7, o8, z1, z2, z3, e1, e2, R1⟩ := o_sign R nF_le x0 x1 x2
  have hc1 : C_sign g x0 x1 x2 = (r0, (z639 z2, z3, z1, g.2.2.2.1, g.2.2.2.2)) := by unfold C_sign; rw [e2]
  rw [hc1]
  exact R_gI (zRl_T R1) (fun k hk => z639_ge hk)
theorem gI_unsign (hg : gI g) (x0 : Int32) : gI (C_unsign g x0).2 := by
  obtain ⟨w, cc, rc, dc, lo, ow, sz, st, go, le, op, sg, hn, yl, yo, ys, yz, ya, yg, tl, tc, R⟩ := gI_R hg
  obtain ⟨r0, o1, o2, o3, o4, o5, o6, o7, o8, z1, z2, z3, e1, e2, R1⟩ := o_unsign R nF_le x0
  have hc1 : C_unsign g x0 = (r0, (z639 z2, z3, z1, g.2.2.2.1, g.2.2.2.2)) := by unfold C_unsign; rw [e2]
  rw [hc1]
  exact R_gI (zRl_T R1) (fun k hk => z639_ge hk)
theorem gI_undo (hg : gI g) : gI (C_undo g).2 := by
  obtain ⟨w, cc, rc, dc, lo, ow, sz, st, go, le, op, sg, hn, yl, yo, ys, yz, ya, yg, tl, tc, R⟩ := gI_R hg
  obtain ⟨r0, o1, o2, o3, o4, o5, o6, o7, o8, o9, o10, o11, o12, o13, z1, z2, e1, e2, R1⟩ := o_undo R nF_le
  have hc1 : C_undo g = (r0, (z639 z2, g.2.1, z1, g.2.2.2.1, g.2.2.2.2)) := by unfold C_undo; rw [e2]
  rw [hc1]
  exact R_gI (zRl_T R1) (fun k hk => z639_ge hk)
theorem gI_type (hg : gI g) (x0 : Int32) : gI (C_type g x0).2 := by
  obtain ⟨w, cc, rc, dc, lo, ow, sz, st, go, le, op, sg, hn, yl, yo, ys, yz, ya, yg, tl, tc, R⟩ := gI_R hg
  obtain ⟨r0, o1, o2, z1, z2, e1, e2, R1⟩ := o_type R x0
  have hc1 : C_type g x0 = (r0, (g.1, g.2.1, g.2.2.1, z1, z2)) := by unfold C_type; rw [e2]
  rw [hc1]
  exact R_gI R1 hg.2.1
theorem gI_clearText (hg : gI g) : gI (C_clearText g).2 := by
  obtain ⟨w, cc, rc, dc, lo, ow, sz, st, go, le, op, sg, hn, yl, yo, ys, yz, ya, yg, tl, tc, R⟩ := gI_R hg
  obtain ⟨r0, o1, z1, e1, e2, R1⟩ := o_clearText R
  have hc1 : C_clearText g = (r0, (g.1, g.2.1, g.2.2.1, z1, g.2.2.2.2)) := by unfold C_clearText; rw [e2]
  rw [hc1]
  exact R_gI R1 hg.2.1
/-- the change was kept in the history -/
def Rec (g g' : gS) : Prop := ∃ h, h ≤ 5 ∧ g.2.2.1 = nI h ∧ g'.2.2.1 = nI (if h = 5 then 5 else h + 1) ∧ g'.2.1 = zrec h g.1 g.2.1
/-- what a call that changes does: it is kept in the history, or nothing changes -/
def Act (g : gS) (p : Int32 × gS) : Prop := (∃ n, n < 2 ^ 31 ∧ p.1 = nI n ∧ Rec g p.2) ∨ ((p.1 = -1 ∨ p.1 = -2 ∨ p.1 = -3 ∨ p.1 = -4) ∧ p.2.1 = g.1 ∧ p.2.2.2.1 = g.2.2.1)
theorem zpa_rec (h : Nat) (h5 : h ≤ 5) (now past : Nat → Int32) {k : Nat} (hk : k < 639) : zpa (zrec h now past) ((if h = 5 then 5 else h + 1) - 1) k = now k := by
  unfold zpa zrec
  by_cases q : h = 5
  · subst q
    rw [if_pos rfl, if_pos rfl, if_neg (by omega), if_pos (by omega)]
    exact congrArg now (by omega)
  · rw [if_neg q, if_neg q, if_pos (by omega)]
    exact congrArg now (by omega)
/-- undone, all is as it was -/
theorem a_undo {g' : gS} (hT : ∀ k, 639 ≤ k → g.1 k = 0) (hR : Rec g g') : ∃ h, h ≤ 5 ∧ g.2.2.1 = nI h ∧ (C_undo g').1 = nI ((if h = 5 then 5 else h + 1) - 1) ∧ (C_undo g').2.1 = g.1 := by
  obtain ⟨h, h5, e1, e2, e3⟩ := hR
  refine ⟨h, h5, e1, ?_⟩
  obtain ⟨now', k1, k2⟩ := m_undo (now := g'.1) nF_le (h := if h = 5 then 5 else h + 1) (by split <;> omega) (by split <;> omega) g'.2.1
  have hc1 : C_undo g' = (nI ((if h = 5 then 5 else h + 1) - 1), (z639 now', g'.2.1, nI ((if h = 5 then 5 else h + 1) - 1), g'.2.2.2.1, g'.2.2.2.2)) := by
    unfold C_undo; rw [e2, k1]
  rw [hc1]
  refine ⟨rfl, ?_⟩
  show z639 now' = g.1
  funext k
  by_cases q : k < 639
  · rw [z639_lt q, k2 k q, e3]
    exact zpa_rec h h5 g.1 g.2.1 q
  · rw [z639_ge (by omega), hT k (by omega)]
-- each of them
theorem a_make (hg : gI g) {seed : Nat} (hs : seed < 65536) : ∃ n, n + 1 = zCt (zr g.1) 210 ∧ (C_make g (nI seed)).1 = nI n ∧ Rec g (C_make g (nI seed)).2 ∧ zr (C_make g (nI seed)).2.1 = zr g.1 ∧ zsing (C_make g (nI seed)).2.1 = true ∧ zsc (C_make g (nI seed)).2.1 false = zsc g.1 false := by
  obtain ⟨h, hT, ⟨hh, h5, eh, hp⟩, -⟩ := hg
  obtain ⟨dm', dr', o', lab', e⟩ := m_make nF_1 h (nI seed) (nI (if hh = 5 then 5 else hh + 1)) 0 0 (zrec hh g.1 g.2.1) fz fz (seed := seed) rfl (by omega)
  obtain ⟨t1, t2⟩ := zmk_tree h seed
  obtain ⟨k1, k2, k3, k4, k5⟩ := zmk_ok h seed
  have hid : z639 (zmk g.1 seed).1 = (zmk g.1 seed).1 := z639_id (fun k hk => by
    rw [k2 k (Or.inr (by omega))]
    show (if 9 ≤ k ∧ k < 429 then 0 else g.1 k) = 0
    rw [if_neg (by omega)]; exact hT k hk)
  have hc1 : C_make g (nI seed) = (nI (zmk g.1 seed).2.2, ((zmk g.1 seed).1, zrec hh g.1 g.2.1, nI (if hh = 5 then 5 else hh + 1), g.2.2.2.1, g.2.2.2.2)) := by
    unfold C_make f_X11_make
    rw [show t_X11_in (nI seed) 0 (65535 : Int32) = zi (decide (seed ≤ 65535)) from zin (by omega) (by decide), decide_eq_true (show seed ≤ 65535 by omega), if_neg (show ¬ zi true = 0 by decide), eh, bnd2_e (m_records nF_le h5 g.2.1), e]
    show (nI (zmk g.1 seed).2.2, (z639 (zmk g.1 seed).1, zrec hh g.1 g.2.1, nI (if hh = 5 then 5 else hh + 1), g.2.2.2.1, g.2.2.2.2)) = _
    rw [hid]
  rw [hc1]
  have x1 := (zsame h (now' := zclr g.1) zclr_lo).2.2.1
  have x2 := (zsame (zclr_wf h) (now' := (zmk g.1 seed).1) (fun k hk => k2 k (Or.inl (by omega)))).2.2.1
  refine ⟨(zmk g.1 seed).2.2, by rw [← k5]; exact t1, rfl, ⟨hh, h5, eh, rfl, rfl⟩, x2.trans x1, t2, ?_⟩
  refine zCt_congr 210 (fun c hc => ?_)
  have : zsg (zmk g.1 seed).1 c = zsg g.1 c := by
    unfold zsg
    rw [k2 _ (Or.inr (by omega))]
    show (if 9 ≤ 429 + c ∧ 429 + c < 429 then (0 : Int32) else g.1 (429 + c)).toNatClampNeg = _
    rw [if_neg (by omega)]
  show (decide (c < 210 ∧ zsg (zmk g.1 seed).1 c ≠ 0) && (!false || decide (3 ≤ zdg (zmk g.1 seed).1 c))) = (decide (c < 210 ∧ zsg g.1 c ≠ 0) && (!false || decide (3 ≤ zdg g.1 c)))
  rw [this]; rfl
theorem a_door (hg : gI g) {c d v : Nat} (hr : zr g.1 c = true) (hd : d < 4) (hv : v ≤ 1) : Act g (C_door g (nI c) (nI d) (nI v)) := by
  obtain ⟨h, hT, ⟨hh, h5, eh, hp⟩, -⟩ := hg
  have h2 := zr_210 h hr
  have ein : t_X11_in (nI v) 0 (1 : Int32) = 1 := by
    rw [show t_X11_in (nI v) 0 (1 : Int32) = zi (decide (v ≤ 1)) from zin (by omega) (by decide), decide_eq_true hv]; rfl
  cases hhd : zh g.1 c d with
  | false =>
    rw [r_door4 h hT hd hr hhd ein]
    exact Or.inr ⟨Or.inr (Or.inr (Or.inr rfl)), rfl, rfl⟩
  | true =>
    obtain ⟨d1, d2, d3⟩ := m_doorAt h hd hhd
    obtain ⟨b1, b2, b3, b4⟩ := zh_back h hd hr hhd
    have t210 := zr_210 h b1
    have hc1 : C_door g (nI c) (nI d) (nI v) = (g.1 (za g.1 c d), (z639 (upd g.1 (za g.1 c d) (nI v)), zrec hh g.1 g.2.1, nI (if hh = 5 then 5 else hh + 1), g.2.2.2.1, g.2.2.2.2)) := by
      unfold C_door f_X11_door
      rw [bnd1_e (m_hasRoom h (by omega : c < 2 ^ 31)), hr, if_neg (show ¬ zi true = 0 by decide), show t_X11_in (nI d) 0 (3 : Int32) = zi (decide (d ≤ 3)) from zin (by omega) (by decide), decide_eq_true (show d ≤ 3 by omega), if_neg (show ¬ zi true = 0 by decide), ein, if_neg (by decide), bnd1_e (m_beside h (zr_lt hr) hd), hhd, if_pos rfl, if_pos (nI_pos' (by omega)), eh, bnd2_e (m_records nF_le h5 g.2.1), d1, nI_clamp (by omega : za g.1 c d < 2 ^ 31), if_neg (zck (show za g.1 c d < 639 by omega) (by decide)), if_neg (zck (show za g.1 c d < 639 by omega) (by decide))]
    rw [hc1]
    refine Or.inl ⟨(zo g.1 c d).toNat, by cases zo g.1 c d <;> decide, ?_, hh, h5, eh, rfl, rfl⟩
    show g.1 (za g.1 c d) = _
    rw [zdoor_v h hd hhd]
    cases zo g.1 c d <;> rfl
theorem a_puts (hg : gI g) {j c : Nat} (hj : j = 7 ∨ j = 8) (hr : zr g.1 c = true) : ∃ hh, hh ≤ 5 ∧ g.2.2.1 = nI hh ∧ f_X11_puts nF g.2.2.1 g.1 g.2.1 (nI j) (nI c) = some (g.1 j, nI (if hh = 5 then 5 else hh + 1), upd g.1 j (nI c), zrec hh g.1 g.2.1) := by
  obtain ⟨h, hT, ⟨hh, h5, eh, hp⟩, -⟩ := hg
  refine ⟨hh, h5, eh, ?_⟩
  unfold f_X11_puts
  rw [eh, bnd2_e (m_records nF_le h5 g.2.1), nI_clamp (by omega : j < 2 ^ 31), if_neg (zck (show j < 639 by omega) (by decide)), if_neg (zck (show j < 639 by omega) (by decide))]
theorem a_start (hg : gI g) {c : Nat} (hr : zr g.1 c = true) : Act g (C_start g (nI c)) := by
  obtain ⟨hh, h5, eh, e⟩ := a_puts hg (j := 7) (Or.inl rfl) hr
  have h := hg.1
  have h2 := zr_210 h hr
  obtain ⟨st, e7, hst⟩ := h.2.2.1
  have s2 := zr_210 h hst
  have hc1 : C_start g (nI c) = (g.1 7, (z639 (upd g.1 7 (nI c)), zrec hh g.1 g.2.1, nI (if hh = 5 then 5 else hh + 1), g.2.2.2.1, g.2.2.2.2)) := by
    unfold C_start f_X11_start
    rw [bnd1_e (m_hasRoom h (by omega : c < 2 ^ 31)), hr, if_neg (show ¬ zi true = 0 by decide), bnd4_e (show f_X11_puts nF g.2.2.1 g.1 g.2.1 (7 : Int32) (nI c) = _ from e)]
  rw [hc1]
  exact Or.inl ⟨st, by omega, e7, hh, h5, eh, rfl, rfl⟩
theorem a_goal (hg : gI g) {c : Nat} (hr : zr g.1 c = true) : Act g (C_goal g (nI c)) := by
  obtain ⟨hh, h5, eh, e⟩ := a_puts hg (j := 8) (Or.inr rfl) hr
  have h := hg.1
  have h2 := zr_210 h hr
  obtain ⟨st, e8, hst⟩ := h.2.2.2.1
  have s2 := zr_210 h hst
  have hc1 : C_goal g (nI c) = (g.1 8, (z639 (upd g.1 8 (nI c)), zrec hh g.1 g.2.1, nI (if hh = 5 then 5 else hh + 1), g.2.2.2.1, g.2.2.2.2)) := by
    unfold C_goal f_X11_goal
    rw [bnd1_e (m_hasRoom h (by omega : c < 2 ^ 31)), hr, if_neg (show ¬ zi true = 0 by decide), bnd4_e (show f_X11_puts nF g.2.2.1 g.1 g.2.1 (8 : Int32) (nI c) = _ from e)]
  rw [hc1]
  exact Or.inl ⟨st, by omega, e8, hh, h5, eh, rfl, rfl⟩
theorem a_unsign (hg : gI g) {c : Nat} (hr : zr g.1 c = true) : Act g (C_unsign g (nI c)) := by
  obtain ⟨h, hT, ⟨hh, h5, eh, hp⟩, -⟩ := hg
  have h2 := zr_210 h hr
  obtain ⟨sg1, sg2, sg3⟩ := zsg_ok h h2
  have e429 : (429 : Int32) + nI c = nI (429 + c) := nI_add 429 c
  by_cases q : zsg g.1 c = 0
  · have hc1 : C_unsign g (nI c) = (-4, g) := by
      unfold C_unsign f_X11_unsign
      rw [bnd1_e (m_hasRoom h (by omega : c < 2 ^ 31)), hr, if_neg (show ¬ zi true = 0 by decide), e429, nI_clamp (by omega : 429 + c < 2 ^ 31), if_neg (zck (show 429 + c < 639 by omega) (by decide)), sg1, q, if_pos (show nI 0 = 0 from rfl)]
      exact congrArg (fun y => ((-4 : Int32), y)) (gI_eta hT)
    rw [hc1]
    exact Or.inr ⟨Or.inr (Or.inr (Or.inr rfl)), rfl, rfl⟩
  · have hc1 : C_unsign g (nI c) = (nI ((zsg g.1 c - 1) / 4), (z639 (upd g.1 (429 + c) 0), zrec hh g.1 g.2.1, nI (if hh = 5 then 5 else hh + 1), g.2.2.2.1, g.2.2.2.2)) := by
      unfold C_unsign f_X11_unsign
      rw [bnd1_e (m_hasRoom h (by omega : c < 2 ^ 31)), hr, if_neg (show ¬ zi true = 0 by decide), e429, nI_clamp (by omega : 429 + c < 2 ^ 31), if_neg (zck (show 429 + c < 639 by omega) (by decide)), sg1, if_neg (show ¬ nI (zsg g.1 c) = 0 from fun e => q ((nI_eq (b := 0) (by omega) (by decide)).mp e)), eh, bnd2_e (m_records nF_le h5 g.2.1), if_neg (zck (show 429 + c < 639 by omega) (by decide)), if_neg (zck (show 429 + c < 639 by omega) (by decide)), show nI (zsg g.1 c) - (1 : Int32) = nI (zsg g.1 c - 1) from pk_sub (b := 1) (by omega), zdiv4 (by omega)]
    rw [hc1]
    exact Or.inl ⟨_, by omega, rfl, hh, h5, eh, rfl, rfl⟩
theorem a_sign (hg : gI g) {c kd d : Nat} (hr : zr g.1 c = true) (hk : kd ≤ 2) (hd : d ≤ if kd = 2 then 3 else 0) : Act g (C_sign g (nI c) (nI kd) (nI d)) := by
  have hG := gI_sign hg (nI c) (nI kd) (nI d)
  obtain ⟨h, hT, ⟨hh, h5, eh, hp⟩, -⟩ := id hg
  have h2 := zr_210 h hr
  have hd3 : d ≤ 3 := by split at hd <;> omega
  obtain ⟨sg1, sg2, sg3⟩ := zsg_ok h h2
  have e429 : (429 : Int32) + nI c = nI (429 + c) := nI_add 429 c
  have esv : ((1 : Int32) + (4 : Int32) * nI kd) + nI d = nI (1 + 4 * kd + d) := by
    rw [show (4 : Int32) * nI kd = nI (4 * kd) from pk_mul 4 _, show (1 : Int32) + nI (4 * kd) = nI (1 + 4 * kd) from nI_add 1 _, nI_add]
  have hput : (zsg g.1 c = 0 → ¬ zsc g.1 false = 20) → b_X11_sign_63 nF (nI c) (nI kd) (nI d) g.2.2.1 g.1 g.2.1 = some (nI (zsc (upd g.1 (429 + c) (nI (1 + 4 * kd + d))) false), nI (if hh = 5 then 5 else hh + 1), upd g.1 (429 + c) (nI (1 + 4 * kd + d)), zrec hh g.1 g.2.1) := by
    intro hlim
    have l20 := zsc_le h
    have hw' := zsign (v := 1 + 4 * kd + d) h hr (by omega) (fun _ q0 => by have := hlim q0; omega)
    unfold b_X11_sign_63
    rw [eh, bnd2_e (m_records nF_le h5 g.2.1), e429, nI_clamp (by omega : 429 + c < 2 ^ 31), if_neg (zck (show 429 + c < 639 by omega) (by decide)), esv, bnd1_e (show f_X11_signs nF (upd g.1 (429 + c) (nI (1 + 4 * kd + d))) 0 = some (nI (zsc (upd g.1 (429 + c) (nI (1 + 4 * kd + d))) false)) from m_signs hw' nF_1 false)]
  have fin : (zsg g.1 c = 0 → ¬ zsc g.1 false = 20) → f_X11_sign nF g.2.2.1 g.1 g.2.1 (nI c) (nI kd) (nI d) = b_X11_sign_63 nF (nI c) (nI kd) (nI d) g.2.2.1 g.1 g.2.1 → Act g (C_sign g (nI c) (nI kd) (nI d)) := by
    intro hlim hf
    have hc1 : C_sign g (nI c) (nI kd) (nI d) = (nI (zsc (upd g.1 (429 + c) (nI (1 + 4 * kd + d))) false), (z639 (upd g.1 (429 + c) (nI (1 + 4 * kd + d))), zrec hh g.1 g.2.1, nI (if hh = 5 then 5 else hh + 1), g.2.2.2.1, g.2.2.2.2)) := by
      unfold C_sign
      rw [hf, hput hlim]
    rw [hc1]
    have : zsc (upd g.1 (429 + c) (nI (1 + 4 * kd + d))) false ≤ 210 := zCt_le _ _
    exact Or.inl ⟨_, by omega, rfl, hh, h5, eh, rfl, rfl⟩
  have b29 : ∀ m : Nat, m < 2 ^ 31 → d ≤ m → b_X11_sign_29 nF (nI c) (nI kd) (nI d) (nI d) 0 (nI m) g.2.2.1 g.1 g.2.1 = if zsg g.1 c = 0 ∧ zsc g.1 false = 20 then some (-3, g.2.2.1, g.1, g.2.1) else b_X11_sign_63 nF (nI c) (nI kd) (nI d) g.2.2.1 g.1 g.2.1 := by
    intro m hm hdm
    unfold b_X11_sign_29
    rw [zin (by omega) hm, decide_eq_true hdm, if_neg (show ¬ zi true = 0 by decide), e429, nI_clamp (by omega : 429 + c < 2 ^ 31), if_neg (zck (show 429 + c < 639 by omega) (by decide)), sg1]
    have l20 := zsc_le h
    by_cases q : zsg g.1 c = 0
    · rw [if_pos (by rw [q]; rfl), bnd1_e (show f_X11_signs nF g.1 0 = some (nI (zsc g.1 false)) from m_signs h nF_1 false)]
      by_cases q2 : zsc g.1 false = 20
      · rw [if_pos (by rw [q2]; rfl), if_pos ⟨q, q2⟩]
      · rw [if_neg (show ¬ nI (zsc g.1 false) = (20 : Int32) from fun e => q2 ((nI_eq (b := 20) (by omega) (by decide)).mp e)), if_neg (fun e => q2 e.2)]
    · rw [if_neg (show ¬ nI (zsg g.1 c) = 0 from fun e => q ((nI_eq (b := 0) (by omega) (by decide)).mp e)), if_neg (fun e => q e.1)]
  have hf : f_X11_sign nF g.2.2.1 g.1 g.2.1 (nI c) (nI kd) (nI d) = if zsg g.1 c = 0 ∧ zsc g.1 false = 20 then some (-3, g.2.2.1, g.1, g.2.1) else b_X11_sign_63 nF (nI c) (nI kd) (nI d) g.2.2.1 g.1 g.2.1 := by
    unfold f_X11_sign
    rw [bnd1_e (m_hasRoom h (by omega : c < 2 ^ 31)), hr, if_neg (show ¬ zi true = 0 by decide), show t_X11_in (nI kd) 0 (2 : Int32) = zi (decide (kd ≤ 2)) from zin (by omega) (by decide), decide_eq_true hk, if_neg (show ¬ zi true = 0 by decide)]
    by_cases q2 : kd = 2
    · rw [if_pos (show nI kd = (2 : Int32) by rw [q2]; rfl)]
      rw [if_pos q2] at hd
      exact b29 3 (by decide) hd
    · rw [if_neg (show ¬ nI kd = (2 : Int32) from fun e => q2 ((nI_eq (b := 2) (by omega) (by decide)).mp e))]
      rw [if_neg q2] at hd
      exact b29 0 (by decide) hd
  by_cases q : zsg g.1 c = 0 ∧ zsc g.1 false = 20
  · have hc1 : C_sign g (nI c) (nI kd) (nI d) = (-3, g) := by
      unfold C_sign
      rw [hf, if_pos q]
      exact congrArg (fun y => ((-3 : Int32), y)) (gI_eta hT)
    rw [hc1]
    exact Or.inr ⟨Or.inr (Or.inr (Or.inl rfl)), rfl, rfl⟩
  · rw [if_neg q] at hf
    exact fin (fun a b => q ⟨a, b⟩) hf
end CHG

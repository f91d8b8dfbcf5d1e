-- the answers over the ghost, evaluated
theorem oA_e {α : Type} {o : Option (Int32 × α)} {r : Int32} {a : α} (h : o = some (r, a)) : oA o = r := by rw [h]; rfl
theorem oB_e {o : Option Int32} {r : Int32} (h : o = some r) : oB o = r := by rw [h]; rfl
section EVA
variable {g : gS}
theorem e_c0 (h : zwf g.1) : V_count g 0 = nI (zn g.1) := by
  unfold V_count f_X11_count
  rw [if_pos rfl]
  exact (zwf_n h).2.2
theorem e_c1 (h : zwf g.1) : V_count g 1 = nI (zw g.1) := by
  unfold V_count f_X11_count
  rw [if_neg (show ¬ (1 : Int32) = 0 by decide), if_pos rfl]
  exact m_wide h
theorem e_c2 (h : zwf g.1) : V_count g 2 = nI (zCt (zr g.1) 210) := by
  unfold V_count f_X11_count
  rw [if_neg (show ¬ (2 : Int32) = 0 by decide), if_neg (show ¬ (2 : Int32) = 1 by decide), if_pos rfl]
  rw [bnd1_e (m_rooms h nF_1)]; rfl
theorem e_c3 (h : zwf g.1) : V_count g 3 = nI (zCt (zvd g.1) 420) := by
  unfold V_count f_X11_count
  rw [if_neg (show ¬ (3 : Int32) = 0 by decide), if_neg (show ¬ (3 : Int32) = 1 by decide), if_neg (show ¬ (3 : Int32) = 2 by decide), if_pos rfl]
  obtain ⟨d', e1, -⟩ := m_countsDoors h nF_1 0 fz
  rw [bnd2_e e1]; rfl
theorem e_c4 (h : zwf g.1) : V_count g 4 = nI (zod g.1) := by
  unfold V_count f_X11_count
  rw [if_neg (show ¬ (4 : Int32) = 0 by decide), if_neg (show ¬ (4 : Int32) = 1 by decide), if_neg (show ¬ (4 : Int32) = 2 by decide), if_neg (show ¬ (4 : Int32) = 3 by decide), if_pos rfl]
  rw [bnd1_e (m_openDoors h nF_1)]; rfl
theorem e_c5 (h : zwf g.1) : V_count g 5 = nI (zpt g.1) := by
  unfold V_count f_X11_count
  rw [if_neg (show ¬ (5 : Int32) = 0 by decide), if_neg (show ¬ (5 : Int32) = 1 by decide), if_neg (show ¬ (5 : Int32) = 2 by decide), if_neg (show ¬ (5 : Int32) = 3 by decide), if_neg (show ¬ (5 : Int32) = 4 by decide), if_pos rfl]
  obtain ⟨l', e2⟩ := m_parts h nF_1 fz
  rw [bnd2_e e2]; rfl
theorem e_c6 (h : zwf g.1) : V_count g 6 = nI (zod g.1) - nI (zCt (zr g.1) 210) + nI (zpt g.1) := by
  unfold V_count f_X11_count
  rw [if_neg (show ¬ (6 : Int32) = 0 by decide), if_neg (show ¬ (6 : Int32) = 1 by decide), if_neg (show ¬ (6 : Int32) = 2 by decide), if_neg (show ¬ (6 : Int32) = 3 by decide), if_neg (show ¬ (6 : Int32) = 4 by decide), if_neg (show ¬ (6 : Int32) = 5 by decide), if_pos rfl]
  obtain ⟨l', e2⟩ := m_loops h nF_1 fz
  rw [bnd2_e e2]; rfl
theorem e_c7 (h : zwf g.1) : V_count g 7 = zi (zsing g.1) := by
  unfold V_count f_X11_count
  rw [if_neg (show ¬ (7 : Int32) = 0 by decide), if_neg (show ¬ (7 : Int32) = 1 by decide), if_neg (show ¬ (7 : Int32) = 2 by decide), if_neg (show ¬ (7 : Int32) = 3 by decide), if_neg (show ¬ (7 : Int32) = 4 by decide), if_neg (show ¬ (7 : Int32) = 5 by decide), if_neg (show ¬ (7 : Int32) = 6 by decide), if_pos rfl]
  obtain ⟨l', e2⟩ := m_isSingle h nF_1 fz
  rw [bnd2_e e2]
  cases zsing g.1 with
  | false => rw [if_pos zi_f]; rfl
  | true => rw [if_neg (show ¬ zi true = 0 by decide)]; rfl
theorem e_c8 (h : zwf g.1) : V_count g 8 = nI (zrw g.1 1 1) := by
  unfold V_count f_X11_count
  rw [if_neg (show ¬ (8 : Int32) = 0 by decide), if_neg (show ¬ (8 : Int32) = 1 by decide), if_neg (show ¬ (8 : Int32) = 2 by decide), if_neg (show ¬ (8 : Int32) = 3 by decide), if_neg (show ¬ (8 : Int32) = 4 by decide), if_neg (show ¬ (8 : Int32) = 5 by decide), if_neg (show ¬ (8 : Int32) = 6 by decide), if_neg (show ¬ (8 : Int32) = 7 by decide), if_pos rfl]
  rw [bnd1_e (show f_X11_roomsWith nF g.1 1 1 = some (nI (zrw g.1 1 1)) from m_roomsWith h nF_1 (by decide) (by decide))]; rfl
theorem e_c9 (h : zwf g.1) : V_count g 9 = nI (zrw g.1 3 4) := by
  unfold V_count f_X11_count
  rw [if_neg (show ¬ (9 : Int32) = 0 by decide), if_neg (show ¬ (9 : Int32) = 1 by decide), if_neg (show ¬ (9 : Int32) = 2 by decide), if_neg (show ¬ (9 : Int32) = 3 by decide), if_neg (show ¬ (9 : Int32) = 4 by decide), if_neg (show ¬ (9 : Int32) = 5 by decide), if_neg (show ¬ (9 : Int32) = 6 by decide), if_neg (show ¬ (9 : Int32) = 7 by decide), if_neg (show ¬ (9 : Int32) = 8 by decide), if_pos rfl]
  rw [bnd1_e (show f_X11_roomsWith nF g.1 3 4 = some (nI (zrw g.1 3 4)) from m_roomsWith h nF_1 (by decide) (by decide))]; rfl
theorem e_c10 (h : zwf g.1) : V_count g 10 = g.1 7 := by
  unfold V_count f_X11_count
  rw [if_neg (show ¬ (10 : Int32) = 0 by decide), if_neg (show ¬ (10 : Int32) = 1 by decide), if_neg (show ¬ (10 : Int32) = 2 by decide), if_neg (show ¬ (10 : Int32) = 3 by decide), if_neg (show ¬ (10 : Int32) = 4 by decide), if_neg (show ¬ (10 : Int32) = 5 by decide), if_neg (show ¬ (10 : Int32) = 6 by decide), if_neg (show ¬ (10 : Int32) = 7 by decide), if_neg (show ¬ (10 : Int32) = 8 by decide), if_neg (show ¬ (10 : Int32) = 9 by decide), if_pos rfl]
  rw [if_neg (by decide)]; rfl
theorem e_c11 (h : zwf g.1) : V_count g 11 = g.1 8 := by
  unfold V_count f_X11_count
  rw [if_neg (show ¬ (11 : Int32) = 0 by decide), if_neg (show ¬ (11 : Int32) = 1 by decide), if_neg (show ¬ (11 : Int32) = 2 by decide), if_neg (show ¬ (11 : Int32) = 3 by decide), if_neg (show ¬ (11 : Int32) = 4 by decide), if_neg (show ¬ (11 : Int32) = 5 by decide), if_neg (show ¬ (11 : Int32) = 6 by decide), if_neg (show ¬ (11 : Int32) = 7 by decide), if_neg (show ¬ (11 : Int32) = 8 by decide), if_neg (show ¬ (11 : Int32) = 9 by decide), if_neg (show ¬ (11 : Int32) = 10 by decide), if_pos rfl]
  rw [if_neg (by decide)]; rfl
theorem e_c12 (h : zwf g.1) : V_count g 12 = nI (zsc g.1 false) := by
  unfold V_count f_X11_count
  rw [if_neg (show ¬ (12 : Int32) = 0 by decide), if_neg (show ¬ (12 : Int32) = 1 by decide), if_neg (show ¬ (12 : Int32) = 2 by decide), if_neg (show ¬ (12 : Int32) = 3 by decide), if_neg (show ¬ (12 : Int32) = 4 by decide), if_neg (show ¬ (12 : Int32) = 5 by decide), if_neg (show ¬ (12 : Int32) = 6 by decide), if_neg (show ¬ (12 : Int32) = 7 by decide), if_neg (show ¬ (12 : Int32) = 8 by decide), if_neg (show ¬ (12 : Int32) = 9 by decide), if_neg (show ¬ (12 : Int32) = 10 by decide), if_neg (show ¬ (12 : Int32) = 11 by decide), if_pos rfl]
  rw [bnd1_e (show f_X11_signs nF g.1 0 = some (nI (zsc g.1 false)) from m_signs h nF_1 false)]; rfl
theorem e_c13 (h : zwf g.1) : V_count g 13 = nI (zsc g.1 true) := by
  unfold V_count f_X11_count
  rw [if_neg (show ¬ (13 : Int32) = 0 by decide), if_neg (show ¬ (13 : Int32) = 1 by decide), if_neg (show ¬ (13 : Int32) = 2 by decide), if_neg (show ¬ (13 : Int32) = 3 by decide), if_neg (show ¬ (13 : Int32) = 4 by decide), if_neg (show ¬ (13 : Int32) = 5 by decide), if_neg (show ¬ (13 : Int32) = 6 by decide), if_neg (show ¬ (13 : Int32) = 7 by decide), if_neg (show ¬ (13 : Int32) = 8 by decide), if_neg (show ¬ (13 : Int32) = 9 by decide), if_neg (show ¬ (13 : Int32) = 10 by decide), if_neg (show ¬ (13 : Int32) = 11 by decide), if_neg (show ¬ (13 : Int32) = 12 by decide), if_pos rfl]
  rw [bnd1_e (show f_X11_signs nF g.1 1 = some (nI (zsc g.1 true)) from m_signs h nF_1 true)]; rfl
theorem e_c14 (h : zwf g.1) : V_count g 14 = g.2.2.1 := by
  unfold V_count f_X11_count
  rw [if_neg (show ¬ (14 : Int32) = 0 by decide), if_neg (show ¬ (14 : Int32) = 1 by decide), if_neg (show ¬ (14 : Int32) = 2 by decide), if_neg (show ¬ (14 : Int32) = 3 by decide), if_neg (show ¬ (14 : Int32) = 4 by decide), if_neg (show ¬ (14 : Int32) = 5 by decide), if_neg (show ¬ (14 : Int32) = 6 by decide), if_neg (show ¬ (14 : Int32) = 7 by decide), if_neg (show ¬ (14 : Int32) = 8 by decide), if_neg (show ¬ (14 : Int32) = 9 by decide), if_neg (show ¬ (14 : Int32) = 10 by decide), if_neg (show ¬ (14 : Int32) = 11 by decide), if_neg (show ¬ (14 : Int32) = 12 by decide), if_neg (show ¬ (14 : Int32) = 13 by decide), if_pos rfl]
  rfl
theorem e_c16 : V_count g 16 = -1 := by
  unfold V_count f_X11_count
  rw [if_neg (show ¬ (16 : Int32) = 0 by decide), if_neg (show ¬ (16 : Int32) = 1 by decide), if_neg (show ¬ (16 : Int32) = 2 by decide), if_neg (show ¬ (16 : Int32) = 3 by decide), if_neg (show ¬ (16 : Int32) = 4 by decide), if_neg (show ¬ (16 : Int32) = 5 by decide), if_neg (show ¬ (16 : Int32) = 6 by decide), if_neg (show ¬ (16 : Int32) = 7 by decide), if_neg (show ¬ (16 : Int32) = 8 by decide), if_neg (show ¬ (16 : Int32) = 9 by decide), if_neg (show ¬ (16 : Int32) = 10 by decide), if_neg (show ¬ (16 : Int32) = 11 by decide), if_neg (show ¬ (16 : Int32) = 12 by decide), if_neg (show ¬ (16 : Int32) = 13 by decide), if_neg (show ¬ (16 : Int32) = 14 by decide), if_neg (show ¬ (16 : Int32) = 15 by decide)]
  rfl
theorem e_cnow {g' : gS} (h : zwf g.1) (e : g'.1 = g.1) {k : Nat} (hk : k < 14) : V_count g' (nI k) = V_count g (nI k) := by
  have h' : zwf g'.1 := by rw [e]; exact h
  have hc : k = 0 ∨ k = 1 ∨ k = 2 ∨ k = 3 ∨ k = 4 ∨ k = 5 ∨ k = 6 ∨ k = 7 ∨ k = 8 ∨ k = 9 ∨ k = 10 ∨ k = 11 ∨ k = 12 ∨ k = 13 := by omega
  rcases hc with rfl | rfl | rfl | rfl | rfl | rfl | rfl | rfl | rfl | rfl | rfl | rfl | rfl | rfl
  · exact (e_c0 h').trans (by rw [e]; exact (e_c0 h).symm)
  · exact (e_c1 h').trans (by rw [e]; exact (e_c1 h).symm)
  · exact (e_c2 h').trans (by rw [e]; exact (e_c2 h).symm)
  · exact (e_c3 h').trans (by rw [e]; exact (e_c3 h).symm)
  · exact (e_c4 h').trans (by rw [e]; exact (e_c4 h).symm)
  · exact (e_c5 h').trans (by rw [e]; exact (e_c5 h).symm)
  · exact (e_c6 h').trans (by rw [e]; exact (e_c6 h).symm)
  · exact (e_c7 h').trans (by rw [e]; exact (e_c7 h).symm)
  · exact (e_c8 h').trans (by rw [e]; exact (e_c8 h).symm)
  · exact (e_c9 h').trans (by rw [e]; exact (e_c9 h).symm)
  · exact (e_c10 h').trans (by rw [e]; exact (e_c10 h).symm)
  · exact (e_c11 h').trans (by rw [e]; exact (e_c11 h).symm)
  · exact (e_c12 h').trans (by rw [e]; exact (e_c12 h).symm)
  · exact (e_c13 h').trans (by rw [e]; exact (e_c13 h).symm)
-- rooms
theorem e_isRoom (h : zwf g.1) {c : Nat} (hc : c < 6 * zw g.1) : V_isRoom g (nI c) = zi (zr g.1 c) := by
  have hw := zwf_w h
  unfold V_isRoom f_X11_isRoom
  rw [m_cells h, show nI (6 * zw g.1) - (1 : Int32) = nI (6 * zw g.1 - 1) from pk_sub (b := 1) (by omega), zin (by omega) (by omega), decide_eq_true (show c ≤ 6 * zw g.1 - 1 by omega), if_neg (show ¬ zi true = 0 by decide), bnd1_e (m_isRoomAt h hc)]
  cases zr g.1 c with
  | false => rw [if_pos zi_f]; rfl
  | true => rw [if_neg (show ¬ zi true = 0 by decide)]; rfl
theorem e_isRoom_ge (h : zwf g.1) {c : Nat} (hc : 6 * zw g.1 ≤ c) (h2 : c < 2 ^ 31) : V_isRoom g (nI c) = -1 := by
  have hw := zwf_w h
  unfold V_isRoom f_X11_isRoom
  rw [m_cells h, show nI (6 * zw g.1) - (1 : Int32) = nI (6 * zw g.1 - 1) from pk_sub (b := 1) (by omega), zin h2 (by omega), decide_eq_false (show ¬ c ≤ 6 * zw g.1 - 1 by omega), if_pos zi_f]
  rfl
theorem e_doors (h : zwf g.1) {c : Nat} (hc : c < 2 ^ 31) : V_doors g (nI c) = if zr g.1 c = true then nI (zmf (zo g.1 c)) else -1 := by
  have hw := zwf_w h
  unfold V_doors f_X11_doors
  rw [bnd1_e (m_hasRoom h hc)]
  cases hr : zr g.1 c with
  | false => rw [if_pos zi_f, if_neg zft]; rfl
  | true =>
    rw [if_neg (show ¬ zi true = 0 by decide), if_pos rfl]
    have hc6 := zr_lt hr
    obtain ⟨M, hM⟩ : ∃ M, nF = M + 5 := ⟨nF - 5, by have := nF_1; omega⟩
    have st : ∀ F s d, d < 4 → b_X11_doors_14 nF g.1 (nI c) (F + 1) s (nI d) = b_X11_doors_14 nF g.1 (nI c) F (s ||| (if zi (zo g.1 c d) = 0 then (0 : Int32) else (1 : Int32) <<< (nI d &&& 31))) (nI (d + 1)) := by
      intro F s d hd
      rw [b_X11_doors_14, if_neg (show ¬ (4 : Int32) ≤ nI d from nI_ge (b := 4) hd (by decide)), bnd1_e (m_isOpen h hc6 hd), nI_1]
      by_cases q : zi (zo g.1 c d) = 0
      · rw [if_pos q, if_pos q]
      · rw [if_neg q, if_neg q]
    have e : b_X11_doors_14 nF g.1 (nI c) nF 0 0 = some (nI (zm4 (zo g.1 c 0) (zo g.1 c 1) (zo g.1 c 2) (zo g.1 c 3))) := by
      rw [← zmask_acc (zo g.1 c 0) (zo g.1 c 1) (zo g.1 c 2) (zo g.1 c 3)]
      have s0 := st (M + 4) 0 0 (by decide)
      have s1 := fun x => st (M + 3) x 1 (by decide)
      have s2 := fun x => st (M + 2) x 2 (by decide)
      have s3 := fun x => st (M + 1) x 3 (by decide)
      have s4 : ∀ x, b_X11_doors_14 nF g.1 (nI c) (M + 1) x (nI 4) = some x := fun x => by rw [b_X11_doors_14, if_pos (show (4 : Int32) ≤ nI 4 by decide)]
      have hF : b_X11_doors_14 nF g.1 (nI c) nF = b_X11_doors_14 nF g.1 (nI c) (M + 4 + 1) := congrArg _ hM
      rw [hF]
      refine Eq.trans s0 ?_
      refine Eq.trans (s1 _) ?_
      refine Eq.trans (s2 _) ?_
      refine Eq.trans (s3 _) ?_
      exact s4 _
    exact oB_e e
theorem e_doors_neg {x : Int32} (hx : x < 0) : V_doors g x = -1 := by
  unfold V_doors f_X11_doors
  rw [bnd1_e (m_hasRoom_neg hx), if_pos rfl]; rfl
theorem e_part (h : zwf g.1) {c : Nat} (hc : c < 2 ^ 31) : V_part g (nI c) = if zr g.1 c = true then nI (zCt (zrep g.1) (zL (zo g.1) (zN (zw g.1)) c)) else -1 := by
  obtain ⟨l', e⟩ := m_part h nF_1 fz hc
  exact oA_e e
theorem e_part_neg {x : Int32} (hx : x < 0) : V_part g x = -1 := by
  unfold V_part f_X11_part
  rw [bnd1_e (m_hasRoom_neg hx), if_pos rfl]; rfl
theorem e_letterOf (h : zwf g.1) {c : Nat} (hc : c < 2 ^ 31) (hr : zr g.1 c = false) : V_letterOf g (nI c) = -1 := by
  unfold V_letterOf f_X11_letterOf
  rw [bnd1_e (m_hasRoom h hc), hr, if_pos zi_f]; rfl
-- letters
theorem e_let (h : zwf g.1) {k j : Nat} (hk : k < zn g.1) (hj : 1 ≤ j) (hj4 : j ≤ 4) : V_letter g (nI k) (nI j) = nI (zS (zlm g.1 k j) 210) := by
  have hn := zwf_n h
  unfold V_letter f_X11_letter
  rw [if_neg (nI_pos (by omega)), show t_X11_in (nI j) 0 (4 : Int32) = zi (decide (j ≤ 4)) from zin (by omega) (by decide), decide_eq_true hj4, if_neg (show ¬ zi true = 0 by decide), show (0 : Int32).toNatClampNeg = 0 from rfl, hn.2.2, if_pos (nI_lt hk (by omega)), if_neg (show ¬ nI j = 0 from fun e => by have := (nI_eq (b := 0) (by omega) (by decide)).mp e; omega), bnd1_e (m_letterValue h nF_1 (by omega) hj hj4)]
  rfl
theorem e_let_neg {x y : Int32} (hx : x < 0) : V_letter g x y = -1 := by
  unfold V_letter f_X11_letter
  rw [if_pos hx]; rfl
theorem e_let_what {k : Nat} {y : Int32} (hk : k < 2 ^ 31) (hy : y < 0) : V_letter g (nI k) y = -1 := by
  unfold V_letter f_X11_letter
  rw [if_neg (nI_pos hk), zin_neg hy, if_pos rfl]; rfl
theorem e_let_6 (h : zwf g.1) : V_letter g 6 0 = -4 := by
  have hn := zwf_n h
  unfold V_letter f_X11_letter
  rw [if_neg (by decide), if_neg (by decide), show (0 : Int32).toNatClampNeg = 0 from rfl, hn.2.2, if_neg (show ¬ (6 : Int32) < nI (zn g.1) from nI_nlt (a := 6) hn.2.1 (by decide))]; rfl
-- ways
noncomputable abbrev zE (g : gS) (b a : Nat) : Nat := (zF (zo g.1) (zN (zw g.1)) b).1 a
theorem e_dist (h : zwf g.1) {a b : Nat} (ha : zr g.1 a = true) (hb : zr g.1 b = true) : V_distance g (nI a) (nI b) = if zE g b a = 0 then -4 else nI (zE g b a - 1) := by
  have ha2 := zr_210 h ha
  have hb2 := zr_210 h hb
  unfold V_distance f_X11_distance
  obtain ⟨far', ring', e2, R2⟩ := m_lays h hb nF_1 fz fz
  have l9 : zE g b a ≤ 210 := (zF_spec (zgr h) hb).2.2.2.2.2.2.2.2 a
  rw [bnd1_e (m_hasRoom h (by omega : a < 2 ^ 31)), ha, if_neg (show ¬ zi true = 0 by decide), bnd1_e (m_hasRoom h (by omega : b < 2 ^ 31)), hb, if_neg (show ¬ zi true = 0 by decide), bnd2_e e2, nI_clamp (by omega : a < 2 ^ 31), if_neg (zck ha2 (by decide)), if_neg (zck ha2 (by decide)), R2.1 a (zr_lt ha)]
  by_cases q : zE g b a = 0
  · rw [if_neg (fun e => (zd_nn (by omega)).mp e q), if_pos q]; rfl
  · rw [if_pos ((zd_nn (by omega)).mpr q), if_neg q]
    obtain ⟨n, hn⟩ : ∃ n, zE g b a = n + 1 := ⟨zE g b a - 1, by omega⟩
    show zd (zE g b a) = nI (zE g b a - 1)
    rw [hn]; rfl
theorem e_dist_neg (h : zwf g.1) {a : Nat} {y : Int32} (ha : zr g.1 a = true) (hy : y < 0) : V_distance g (nI a) y = -1 := by
  have ha2 := zr_210 h ha
  unfold V_distance f_X11_distance
  rw [bnd1_e (m_hasRoom h (by omega : a < 2 ^ 31)), ha, if_neg (show ¬ zi true = 0 by decide), bnd1_e (m_hasRoom_neg hy), if_pos rfl]; rfl
theorem e_again (h : zwf g.1) {a b : Nat} (ha : zr g.1 a = true) (hb : zr g.1 b = true) : V_again g (nI a) (nI b) = if zsing g.1 = true then V_distance g (nI a) (nI b) else -2 := by
  have ha2 := zr_210 h ha
  have hb2 := zr_210 h hb
  have l9 : zE g b a ≤ 210 := (zF_spec (zgr h) hb).2.2.2.2.2.2.2.2 a
  obtain ⟨far', ring', e2, R2⟩ := m_lays h hb nF_1 fz fz
  have ed : f_X11_distance nF g.1 fz fz (nI a) (nI b) = some (V_distance g (nI a) (nI b), far', ring') := by
    unfold V_distance f_X11_distance
    rw [bnd1_e (m_hasRoom h (by omega : a < 2 ^ 31)), ha, if_neg (show ¬ zi true = 0 by decide), bnd1_e (m_hasRoom h (by omega : b < 2 ^ 31)), hb, if_neg (show ¬ zi true = 0 by decide), bnd2_e e2, nI_clamp (by omega : a < 2 ^ 31), if_neg (zck ha2 (by decide)), if_neg (zck ha2 (by decide)), R2.1 a (zr_lt ha)]
    by_cases q : 0 ≤ zd (zE g b a)
    · rw [if_pos q]; rfl
    · rw [if_neg q]; rfl
  obtain ⟨lab', e3⟩ := m_isSingle h nF_1 fz
  unfold V_again f_X11_again
  have hne : ¬ V_distance g (nI a) (nI b) = -1 := by
    rw [e_dist h ha hb]
    by_cases q : zE g b a = 0
    · rw [if_pos q]; decide
    · rw [if_neg q]; exact fun e => absurd (show nI (zE g b a - 1) < 0 by rw [e]; decide) (nI_pos (by omega))
  rw [bnd3_e ed, if_neg hne, bnd2_e e3]
  cases zsing g.1 with
  | false => rw [if_pos zi_f, if_neg zft]; rfl
  | true => rw [if_neg (show ¬ zi true = 0 by decide), if_pos rfl]; rfl
theorem e_again_bad (h : zwf g.1) {a : Nat} {y : Int32} (ha : a < 2 ^ 31) (hr : zr g.1 a = false) : V_again g (nI a) y = -1 := by
  unfold V_again f_X11_again f_X11_distance
  rw [bnd1_e (m_hasRoom h ha), hr, if_pos zi_f, bnd3_e rfl, if_pos rfl]; rfl
theorem e_way (h : zwf g.1) {a b i : Nat} (ha : zr g.1 a = true) (hb : zr g.1 b = true) (hi : i < 2 ^ 31) : V_way g (nI a) (nI b) (nI i) = if i + 1 ≤ zE g b a then nI (zIt g.1 b i a) else -4 := by
  have ha2 := zr_210 h ha
  have hb2 := zr_210 h hb
  have l9 : zE g b a ≤ 210 := (zF_spec (zgr h) hb).2.2.2.2.2.2.2.2 a
  obtain ⟨far', ring', e2, R2⟩ := m_lays h hb nF_1 fz fz
  unfold V_way f_X11_way
  rw [bnd1_e (m_hasRoom h (by omega : a < 2 ^ 31)), ha, if_neg (show ¬ zi true = 0 by decide), bnd1_e (m_hasRoom h (by omega : b < 2 ^ 31)), hb, if_neg (show ¬ zi true = 0 by decide), if_pos (nI_pos' hi), bnd2_e e2, nI_clamp (by omega : a < 2 ^ 31), if_neg (zck ha2 (by decide)), R2.1 a (zr_lt ha)]
  by_cases q : i + 1 ≤ zE g b a
  · rw [if_pos (show nI i ≤ zd (zE g b a) from (zd_le (a := i + 1) (by omega) (by omega)).mpr q), if_pos q]
    have e4 := m_ahead (ring := ring') h nF_1 hb R2.1 (nI a) (nI b) i 0 a nF (by have := nF_1; omega) q (by omega)
    rw [Nat.zero_add] at e4
    exact oA_e e4
  · rw [if_neg (show ¬ nI i ≤ zd (zE g b a) from fun e => q ((zd_le (a := i + 1) (by omega) (by omega)).mp e)), if_neg q]; rfl
theorem e_way_neg (h : zwf g.1) {a b : Nat} {z : Int32} (ha : zr g.1 a = true) (hb : zr g.1 b = true) (hz : z < 0) : V_way g (nI a) (nI b) z = -1 := by
  have ha2 := zr_210 h ha
  have hb2 := zr_210 h hb
  unfold V_way f_X11_way
  rw [bnd1_e (m_hasRoom h (by omega : a < 2 ^ 31)), ha, if_neg (show ¬ zi true = 0 by decide), bnd1_e (m_hasRoom h (by omega : b < 2 ^ 31)), hb, if_neg (show ¬ zi true = 0 by decide), if_neg (fun e => absurd (Int32.lt_of_le_of_lt e hz) (by decide))]; rfl
/-- the farthest room of a room, and its number, one more -/
noncomputable abbrev zBf (g : gS) (a : Nat) : Nat × Nat := zBs (zF (zo g.1) (zN (zw g.1)) a).1 210
theorem e_far0 (h : zwf g.1) {a : Nat} (ha : zr g.1 a = true) : V_farthest g (nI a) 0 = nI (zBf g a).1 := by
  have ha2 := zr_210 h ha
  obtain ⟨far', ring', e2, R2⟩ := m_lays h ha nF_1 fz fz
  unfold V_farthest f_X11_farthest
  rw [bnd1_e (m_hasRoom h (by omega : a < 2 ^ 31)), ha, if_neg (show ¬ zi true = 0 by decide), if_neg (by decide), bnd2_e e2, bnd1_e (m_farthestOf h nF_1 ha R2.1), if_pos rfl]; rfl
theorem e_far1 (h : zwf g.1) {a : Nat} (ha : zr g.1 a = true) : V_farthest g (nI a) 1 = nI ((zBf g a).2 - 1) := by
  have ha2 := zr_210 h ha
  have hwl := zwf_w h
  obtain ⟨far', ring', e2, R2⟩ := m_lays h ha nF_1 fz fz
  obtain ⟨b1, b2, b3, b4⟩ : (zBf g a).1 < 6 * zw g.1 ∧ zE g a (zBf g a).1 = (zBf g a).2 ∧ 1 ≤ (zBf g a).2 ∧ (zBf g a).2 ≤ 210 := zBs_at h ha
  unfold V_farthest f_X11_farthest
  rw [bnd1_e (m_hasRoom h (by omega : a < 2 ^ 31)), ha, if_neg (show ¬ zi true = 0 by decide), if_neg (by decide), bnd2_e e2, bnd1_e (m_farthestOf h nF_1 ha R2.1), if_neg (by decide), nI_clamp (show (zBf g a).1 < 2 ^ 31 by omega), if_neg (zck (show (zBf g a).1 < 210 by omega) (by decide)), R2.1 _ b1]
  show zd (zE g a (zBf g a).1) = _
  rw [b2]
  obtain ⟨n, hn⟩ : ∃ n, (zBf g a).2 = n + 1 := ⟨(zBf g a).2 - 1, by omega⟩
  rw [hn]; rfl
theorem e_far_bad (h : zwf g.1) {a : Nat} (ha : zr g.1 a = true) : V_farthest g (nI a) 2 = -1 := by
  have ha2 := zr_210 h ha
  unfold V_farthest f_X11_farthest
  rw [bnd1_e (m_hasRoom h (by omega : a < 2 ^ 31)), ha, if_neg (show ¬ zi true = 0 by decide), if_pos (by decide)]; rfl
theorem e_long (h : zwf g.1) {i : Nat} (hi : i ≤ 2) : V_longest g (nI i) = if i = 0 then nI ((zLo g.1 210).1 - 1) else if i = 1 then nI (zLo g.1 210).2.1 else nI (zLo g.1 210).2.2 := by
  have hwl := zwf_w h
  obtain ⟨far', ring', e2⟩ := m_longest h nF_1 hi fz fz
  have hp := zLo_pos h (zbase h (Nat.le_refl (5 * zw g.1)) (by omega)).1 210 (by omega)
  unfold V_longest f_X11_longest
  rw [show t_X11_in (nI i) 0 (2 : Int32) = zi (decide (i ≤ 2)) from zin (by omega) (by decide), decide_eq_true hi, if_neg (show ¬ zi true = 0 by decide), e2]
  obtain ⟨n, hn⟩ : ∃ n, (zLo g.1 210).1 = n + 1 := ⟨(zLo g.1 210).1 - 1, by omega⟩
  rcases (show i = 0 ∨ i = 1 ∨ i = 2 by omega) with rfl | rfl | rfl
  · rw [if_pos rfl, hn]; rfl
  · rfl
  · rfl
theorem e_long_neg {x : Int32} (hx : x < 0) : V_longest g x = -1 := by
  unfold V_longest f_X11_longest
  rw [zin_neg hx, if_pos rfl]; rfl
-- the signs
theorem e_points (h : zwf g.1) {goal : Nat} (e8 : g.1 8 = nI goal) (hgo : zr g.1 goal = true) {c : Nat} (hr : zr g.1 c = true) : V_points g (nI c) = if (decide (zsg g.1 c ≠ 0) && decide (3 ≤ zdg g.1 c)) = true then (if zDir g.1 goal c < 4 then nI (zDir g.1 goal c) else -4) else -2 := by
  have h210 := zr_210 h hr
  have g210 := zr_210 h hgo
  obtain ⟨far', ring', e2, R2⟩ := m_lays h hgo nF_1 fz fz
  unfold V_points f_X11_points
  rw [bnd1_e (m_hasRoom h (by omega : c < 2 ^ 31)), hr, if_neg (show ¬ zi true = 0 by decide), bnd1_e (m_hasSign h nF_1 (zr_lt hr))]
  cases hsg : (decide (zsg g.1 c ≠ 0) && decide (3 ≤ zdg g.1 c)) with
  | false => rw [if_pos zi_f, if_neg zft]; rfl
  | true =>
    have hv : zsg g.1 c ≠ 0 := by
      rw [Bool.and_eq_true] at hsg
      exact of_decide_eq_true hsg.1
    rw [if_neg (show ¬ zi true = 0 by decide), if_pos rfl, show (8 : Int32).toNatClampNeg = 8 from rfl, e8, bnd2_e e2, bnd1_e (m_pointed h nF_1 hgo e8 R2.1 (zr_lt hr) hv)]
    by_cases q : zDir g.1 goal c < 4
    · rw [if_pos (zdr_nn.mpr q), if_pos q, zdr_lt q]; rfl
    · rw [if_neg (fun e => q (zdr_nn.mp e)), if_neg q]; rfl
theorem e_points_bad (h : zwf g.1) {c : Nat} (hc : c < 2 ^ 31) (hr : zr g.1 c = false) : V_points g (nI c) = -1 := by
  unfold V_points f_X11_points
  rw [bnd1_e (m_hasRoom h hc), hr, if_pos zi_f]; rfl
end EVA
-- the state's print; refused calls
theorem st_bV {α β : Type} {x y : α} {k : α → β} {o : β} (h : x = y) (hk : k y = o) : bV x k = o := by subst h; exact hk
theorem st_if {α : Type} {c : Prop} [Decidable c] {a b o : α} (h : c) (ha : a = o) : (if c then a else b) = o := (if_pos h).trans ha
theorem st_el {α : Type} {c : Prop} [Decidable c] {a b o : α} (h : ¬ c) (hb : b = o) : (if c then a else b) = o := (if_neg h).trans hb
theorem st_b1 {α γ : Type} {x : Option α} {a : α} {k : α → Option γ} {o : Option γ} (h : x = some a) (hk : k a = o) : bnd1 x k = o := (bnd1_e h).trans hk
theorem st_b2 {α β γ : Type} {x : Option (α × β)} {a : α} {b : β} {k : α → β → Option γ} {o : Option γ} (h : x = some (a, b)) (hk : k a b = o) : bnd2 x k = o := (bnd2_e h).trans hk
/-- what the ghost keeps -/
def gI (g : gS) : Prop := zwf g.1 ∧ (∀ k, 639 ≤ k → g.1 k = 0) ∧ (∃ h, h ≤ 5 ∧ g.2.2.1 = nI h ∧ ∀ j, j < h → zwf (zpa g.2.1 j)) ∧ ∃ t, t ≤ 200 ∧ g.2.2.2.1 = nI t ∧ ∀ k, k < t → ∃ q, 32 ≤ q ∧ q ≤ 126 ∧ g.2.2.2.2 k = nI q
theorem z639_id {f : Nat → Int32} (h : ∀ k, 639 ≤ k → f k = 0) : z639 f = f := by
  funext k
  unfold z639
  by_cases q : k < 639
  · rw [if_pos q]
  · rw [if_neg q, h k (by omega)]
theorem lg_cmp_0 {x y : Int64} : lg_cmp x y = 0 ↔ x = y := by
  unfold lg_cmp
  by_cases h1 : x > y
  · rw [if_pos h1]
    exact ⟨fun e => absurd e (by decide), fun e => by subst e; exact (Int64.lt_irrefl h1).elim⟩
  · rw [if_neg h1]
    by_cases h2 : x = y
    · rw [if_pos h2]; exact ⟨fun _ => h2, fun _ => rfl⟩
    · rw [if_neg h2]; exact ⟨fun e => absurd e (by decide), fun e => absurd e h2⟩
section PRN
variable {g g' : gS}
theorem V_walk_now (e : g'.1 = g.1) (x y : Int32) : V_walk g' x y = V_walk g x y := by unfold V_walk; rw [e]
theorem V_doors_now (e : g'.1 = g.1) (x : Int32) : V_doors g' x = V_doors g x := by unfold V_doors; rw [e]
theorem V_points_now (e : g'.1 = g.1) (x : Int32) : V_points g' x = V_points g x := by unfold V_points; rw [e]
theorem e6w (h : zwf g.1) : (6 : Int32) * nI (zw g.1) = nI (6 * zw g.1) := pk_mul 6 _
theorem p33 (h : zwf g.1) : ∀ k, k ≤ 6 * zw g.1 → ∀ F, 6 * zw g.1 - k < F → ∀ l1, ∃ r, b_L_print_33 nF F l1 (nI k) g = some (r, g) := by
  have hw := zwf_w h
  refine dn _ ?_ ?_
  · intro F hF l1
    obtain ⟨F, rfl⟩ : ∃ G, F = G + 1 := ⟨F - 1, by omega⟩
    rw [b_L_print_33, bV_e (e_c1 h)]
    unfold bV
    rw [e6w h, if_pos (nI_le (Nat.le_refl _) (by omega))]
    exact ⟨_, rfl⟩
  · intro k hk ih F hF l1
    obtain ⟨F, rfl⟩ : ∃ G, F = G + 1 := ⟨F - 1, by omega⟩
    rw [b_L_print_33, bV_e (e_c1 h)]
    unfold bV
    rw [e6w h, if_neg (nI_ge hk (by omega)), nI_1]
    exact ih F (by omega) _
theorem p33_eq (h : zwf g.1) (e : g'.1 = g.1) : ∀ F l1 l3 r, b_L_print_33 nF F l1 l3 g = some (r, g) → b_L_print_33 nF F l1 l3 g' = some (r, g') := by
  intro F
  induction F with
  | zero => intro l1 l3 r hr; rw [b_L_print_33] at hr; cases hr
  | succ F ih =>
    intro l1 l3 r hr
    rw [b_L_print_33] at hr ⊢
    unfold bV at hr ⊢
    rw [show V_count g' 1 = V_count g 1 from e_cnow h e (k := 1) (by decide), V_walk_now e, V_doors_now e, V_points_now e]
    dsimp only at hr ⊢
    by_cases q : (6 : Int32) * V_count g 1 ≤ l3
    · rw [if_pos q] at hr ⊢
      rw [(Prod.mk.inj (Option.some.inj hr)).1]
    · rw [if_neg q] at hr ⊢
      exact ih _ _ _ hr
theorem p6 (h : zwf g.1) : ∀ k, k ≤ 14 → ∀ F, 14 - k < F → ∀ l1, ∃ r, b_L_print_6 nF F l1 (nI k) g = some (r, g) := by
  have hw := zwf_w h
  have hN := nF_1
  refine dn _ ?_ ?_
  · intro F hF l1
    obtain ⟨F, rfl⟩ : ∃ G, F = G + 1 := ⟨F - 1, by omega⟩
    rw [b_L_print_6, if_pos (show (14 : Int32) ≤ nI 14 by decide)]
    exact p33 h 0 (Nat.zero_le _) nF (by omega) _
  · intro k hk ih F hF l1
    obtain ⟨F, rfl⟩ : ∃ G, F = G + 1 := ⟨F - 1, by omega⟩
    rw [b_L_print_6, if_neg (show ¬ (14 : Int32) ≤ nI k from nI_ge (b := 14) hk (by decide)), nI_1]
    exact ih F (by omega) _
theorem p6_eq (h : zwf g.1) (e : g'.1 = g.1) : ∀ k, k ≤ 14 → ∀ F, 14 - k < F → ∀ l1 r, b_L_print_6 nF F l1 (nI k) g = some (r, g) → b_L_print_6 nF F l1 (nI k) g' = some (r, g') := by
  refine dn _ ?_ ?_
  · intro F hF l1 r hr
    obtain ⟨F, rfl⟩ : ∃ G, F = G + 1 := ⟨F - 1, by omega⟩
    rw [b_L_print_6, if_pos (show (14 : Int32) ≤ nI 14 by decide)] at hr ⊢
    exact p33_eq h e _ _ _ _ hr
  · intro k hk ih F hF l1 r hr
    obtain ⟨F, rfl⟩ : ∃ G, F = G + 1 := ⟨F - 1, by omega⟩
    rw [b_L_print_6, if_neg (show ¬ (14 : Int32) ≤ nI k from nI_ge (b := 14) hk (by decide)), nI_1] at hr ⊢
    unfold bV at hr ⊢
    rw [e_cnow h e hk]
    exact ih F (by omega) _ _ hr
theorem p_print (h : zwf g.1) : ∃ r, f_L_print nF g = some (r, g) := p6 h 0 (Nat.zero_le _) nF (by have := nF_1; omega) _
theorem p_print_eq (h : zwf g.1) (e : g'.1 = g.1) {r : Int64} (hr : f_L_print nF g = some (r, g)) : f_L_print nF g' = some (r, g') := p6_eq h e 0 (Nat.zero_le _) nF (by have := nF_1; omega) _ _ hr
end PRN
section REF
variable {g : gS}
theorem gI_eta (h : ∀ k, 639 ≤ k → g.1 k = 0) : (z639 g.1, g.2.1, g.2.2.1, g.2.2.2.1, g.2.2.2.2) = g := by rw [z639_id h]
theorem r_make (h : ∀ k, 639 ≤ k → g.1 k = 0) {x : Int32} (hx : x < 0) : C_make g x = (-1, g) := by
  unfold C_make f_X11_make
  rw [zin_neg hx, if_pos rfl]
  exact congrArg (fun y => ((-1 : Int32), y)) (gI_eta h)
theorem r_door1 (h : zwf g.1) (hT : ∀ k, 639 ≤ k → g.1 k = 0) {c : Nat} (hc : c < 2 ^ 31) (hr : zr g.1 c = false) (y z : Int32) : C_door g (nI c) y z = (-1, g) := by
  unfold C_door f_X11_door
  rw [bnd1_e (m_hasRoom h hc), hr, if_pos zi_f]
  exact congrArg (fun y => ((-1 : Int32), y)) (gI_eta hT)
theorem r_door2 (h : zwf g.1) (hT : ∀ k, 639 ≤ k → g.1 k = 0) {c : Nat} (hr : zr g.1 c = true) {y : Int32} (hy : y < 0) (z : Int32) : C_door g (nI c) y z = (-1, g) := by
  have h2 := zr_210 h hr
  unfold C_door f_X11_door
  rw [bnd1_e (m_hasRoom h (by omega : c < 2 ^ 31)), hr, if_neg (show ¬ zi true = 0 by decide), zin_neg hy, if_pos rfl]
  exact congrArg (fun y => ((-1 : Int32), y)) (gI_eta hT)
theorem r_door3 (h : zwf g.1) (hT : ∀ k, 639 ≤ k → g.1 k = 0) {c : Nat} (hr : zr g.1 c = true) : C_door g (nI c) 0 2 = (-1, g) := by
  have h2 := zr_210 h hr
  unfold C_door f_X11_door
  rw [bnd1_e (m_hasRoom h (by omega : c < 2 ^ 31)), hr, if_neg (show ¬ zi true = 0 by decide), if_neg (by decide), if_pos (by decide)]
  exact congrArg (fun y => ((-1 : Int32), y)) (gI_eta hT)
theorem r_door4 (h : zwf g.1) (hT : ∀ k, 639 ≤ k → g.1 k = 0) {c d : Nat} (hd : d < 4) (hr : zr g.1 c = true) (hh : zh g.1 c d = false) {z : Int32} (hz : t_X11_in z 0 1 = 1) : C_door g (nI c) (nI d) z = (-4, g) := by
  have h2 := zr_210 h hr
  unfold C_door f_X11_door
  rw [bnd1_e (m_hasRoom h (by omega : c < 2 ^ 31)), hr, if_neg (show ¬ zi true = 0 by decide), show t_X11_in (nI d) 0 (3 : Int32) = zi (decide (d ≤ 3)) from zin (by omega) (by decide), decide_eq_true (show d ≤ 3 by omega), if_neg (show ¬ zi true = 0 by decide), hz, if_neg (by decide), bnd1_e (m_beside h (zr_lt hr) hd), hh, if_neg zft, if_neg (by decide)]
  exact congrArg (fun y => ((-4 : Int32), y)) (gI_eta hT)
theorem r_start (hT : ∀ k, 639 ≤ k → g.1 k = 0) {x : Int32} (hx : x < 0) : C_start g x = (-1, g) := by
  unfold C_start f_X11_start
  rw [bnd1_e (m_hasRoom_neg hx), if_pos rfl]
  exact congrArg (fun y => ((-1 : Int32), y)) (gI_eta hT)
theorem r_goal (h : zwf g.1) (hT : ∀ k, 639 ≤ k → g.1 k = 0) {c : Nat} (hc : c < 2 ^ 31) (hr : zr g.1 c = false) : C_goal g (nI c) = (-1, g) := by
  unfold C_goal f_X11_goal
  rw [bnd1_e (m_hasRoom h hc), hr, if_pos zi_f]
  exact congrArg (fun y => ((-1 : Int32), y)) (gI_eta hT)
theorem r_sign1 (h : zwf g.1) (hT : ∀ k, 639 ≤ k → g.1 k = 0) {c : Nat} (hr : zr g.1 c = true) : C_sign g (nI c) 3 0 = (-1, g) := by
  have h2 := zr_210 h hr
  unfold C_sign f_X11_sign
  rw [bnd1_e (m_hasRoom h (by omega : c < 2 ^ 31)), hr, if_neg (show ¬ zi true = 0 by decide), if_pos (by decide)]
  exact congrArg (fun y => ((-1 : Int32), y)) (gI_eta hT)
theorem r_sign2 (h : zwf g.1) (hT : ∀ k, 639 ≤ k → g.1 k = 0) {c : Nat} (hr : zr g.1 c = true) : C_sign g (nI c) 0 1 = (-1, g) := by
  have h2 := zr_210 h hr
  unfold C_sign f_X11_sign b_X11_sign_29
  rw [bnd1_e (m_hasRoom h (by omega : c < 2 ^ 31)), hr, if_neg (show ¬ zi true = 0 by decide), if_neg (by decide), if_neg (by decide), if_pos (by decide)]
  exact congrArg (fun y => ((-1 : Int32), y)) (gI_eta hT)
theorem r_sign3 (hT : ∀ k, 639 ≤ k → g.1 k = 0) {x : Int32} (hx : x < 0) (y z : Int32) : C_sign g x y z = (-1, g) := by
  unfold C_sign f_X11_sign
  rw [bnd1_e (m_hasRoom_neg hx), if_pos rfl]
  exact congrArg (fun y => ((-1 : Int32), y)) (gI_eta hT)
theorem r_unsign (hT : ∀ k, 639 ≤ k → g.1 k = 0) {x : Int32} (hx : x < 0) : C_unsign g x = (-1, g) := by
  unfold C_unsign f_X11_unsign
  rw [bnd1_e (m_hasRoom_neg hx), if_pos rfl]
  exact congrArg (fun y => ((-1 : Int32), y)) (gI_eta hT)
theorem r_type : C_type g 31 = (-1, g) := by
  unfold C_type f_X11_type
  rw [if_pos (by decide)]
theorem r_fault {x : Int32} (hx : x < 0) : V_fault g x = -1 := by
  unfold V_fault f_X11_fault
  rw [zin_neg hx, if_pos rfl]; rfl
theorem r_walk1 {x : Int32} (hx : x < 0) (y : Int32) : V_walk g x y = -1 := by
  unfold V_walk f_X11_walk
  rw [zin_neg hx, if_pos rfl]; rfl
theorem r_walk2 (y : Int32) : V_walk g 2001 y = -1 := by
  unfold V_walk f_X11_walk
  rw [if_pos (by decide)]; rfl
theorem r_walk3 {y : Int32} (hy : y < 0) : V_walk g 5 y = -1 := by
  unfold V_walk f_X11_walk
  rw [if_neg (by decide), zin_neg hy, if_pos rfl]; rfl
theorem p_refused (hg : gI g) : f_L_refused nF g = some (1, g) := by
  obtain ⟨h, hT, -, -⟩ := hg
  have hw := zwf_w h
  obtain ⟨r, hr⟩ := p_print h
  obtain ⟨st, e7, hst⟩ := h.2.2.1
  have s210 := zr_210 h hst
  have e6 := e6w h
  have hbig : zr g.1 (6 * zw g.1) = false := zr_big h (Nat.le_refl _)
  have hb31 : 6 * zw g.1 < 2 ^ 31 := by omega
  have hlast : zr g.1 (6 * zw g.1 - 1) = true := (zbase h (by omega) (by omega)).1
  have hdown : zh g.1 (6 * zw g.1 - 1) 2 = false := by
    have := zr_big h (c := 6 * zw g.1 - 1 + zw g.1) (by omega)
    exact this
  unfold f_L_refused
  refine st_b2 hr ?_
  refine st_bV (e_c14 h) ?_
  refine st_bV (e_c1 h) ?_
  refine st_bV ((e_c10 h).trans e7) ?_
  rw [e6]
  refine st_bV (e_letterOf h hb31 hbig) ?_
  refine st_if rfl ?_
  refine st_bV (e_let_neg (by decide)) ?_
  refine st_if rfl ?_
  refine st_bV (e_let_what (k := 0) (by decide) (by decide)) ?_
  refine st_if rfl ?_
  refine st_bV (e_let_6 h) ?_
  refine st_if rfl ?_
  refine st_bV (e_isRoom_ge h (Nat.le_refl _) hb31) ?_
  refine st_if rfl ?_
  refine st_bV (r_make hT (by decide)) ?_
  refine st_if rfl ?_
  refine st_bV (r_door1 h hT hb31 hbig 0 0) ?_
  refine st_if rfl ?_
  refine st_bV (r_door2 h hT hst (by decide) 0) ?_
  refine st_if rfl ?_
  rw [show nI (6 * zw g.1) - (1 : Int32) = nI (6 * zw g.1 - 1) from pk_sub (b := 1) (by omega)]
  refine st_bV (r_door4 h hT (d := 2) (by decide) hlast hdown (by decide)) ?_
  refine st_if rfl ?_
  refine st_bV (r_door3 h hT hst) ?_
  refine st_if rfl ?_
  refine st_bV (e_doors_neg (by decide)) ?_
  refine st_if rfl ?_
  refine st_bV e_c16 ?_
  refine st_if rfl ?_
  refine st_bV (e_part_neg (by decide)) ?_
  refine st_if rfl ?_
  refine st_bV (r_start hT (by decide)) ?_
  refine st_if rfl ?_
  refine st_bV (r_goal h hT hb31 hbig) ?_
  refine st_if rfl ?_
  refine st_bV (e_dist_neg h hst (by decide)) ?_
  refine st_if rfl ?_
  unfold b_L_refused_206
  refine st_el (by decide) ?_
  refine st_bV (e_again_bad h hb31 hbig) ?_
  refine st_if rfl ?_
  refine st_bV (e_way_neg h hst hst (by decide)) ?_
  refine st_if rfl ?_
  refine st_bV ((e_way h (i := 1) hst hst (by decide)).trans (if_neg (by rw [show zE g st st = 1 from (zF_spec (zgr h) hst).1]; decide))) ?_
  refine st_if rfl ?_
  refine st_bV (e_far_bad h hst) ?_
  refine st_if rfl ?_
  refine st_bV (e_long_neg (by decide)) ?_
  refine st_if rfl ?_
  refine st_bV (r_sign1 h hT hst) ?_
  refine st_if rfl ?_
  refine st_bV (r_sign2 h hT hst) ?_
  refine st_if rfl ?_
  refine st_bV (r_sign3 hT (by decide) 0 0) ?_
  refine st_if rfl ?_
  refine st_bV (r_unsign hT (by decide)) ?_
  refine st_if rfl ?_
  refine st_bV (e_points_bad h hb31 hbig) ?_
  refine st_if rfl ?_
  refine st_bV (r_walk1 (by decide) 0) ?_
  refine st_if rfl ?_
  refine st_bV (r_walk2 1) ?_
  refine st_if rfl ?_
  refine st_bV (r_walk3 (by decide)) ?_
  refine st_if rfl ?_
  refine st_bV r_type ?_
  refine st_if rfl ?_
  refine st_bV (r_fault (by decide)) ?_
  refine st_if rfl ?_
  unfold b_L_refused_382
  refine st_el (by decide) ?_
  refine st_b2 hr ?_
  refine st_if (lg_cmp_0.mpr rfl) ?_
  refine st_bV (e_c14 h) ?_
  exact st_if rfl rfl
end REF

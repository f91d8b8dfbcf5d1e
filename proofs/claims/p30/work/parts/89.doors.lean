-- doors, parts, counts fit one another
theorem zmask_bit : ∀ b0 b1 b2 b3 : Bool, ∀ d : Fin 4, ((nI (zm4 b0 b1 b2 b3) >>> (nI d.val &&& 31)) &&& (1 : Int32)) = zi (if d.val = 0 then b0 else if d.val = 1 then b1 else if d.val = 2 then b2 else b3) := by decide +kernel
theorem zmask_ones : ∀ b0 b1 b2 b3 : Bool, t_L_ones (nI (zm4 b0 b1 b2 b3)) = nI (b0.toNat + b1.toNat + b2.toNat + b3.toNat) := by
  unfold t_L_ones
  decide +kernel
theorem zbit_of (f : Nat → Bool) {d : Nat} (hd : d < 4) : ((nI (zmf f) >>> (nI d &&& 31)) &&& (1 : Int32)) = zi (f d) := by
  have := zmask_bit (f 0) (f 1) (f 2) (f 3) ⟨d, hd⟩
  rw [show (if (⟨d, hd⟩ : Fin 4).val = 0 then f 0 else if (⟨d, hd⟩ : Fin 4).val = 1 then f 1 else if (⟨d, hd⟩ : Fin 4).val = 2 then f 2 else f 3) = f d from zsel f hd] at this
  exact this
theorem zCt_iv (a b : Nat) : ∀ n, zCt (fun c => decide (a ≤ c ∧ c < b)) n = min n b - min n a := by
  intro n
  induction n with
  | zero => show 0 = _; omega
  | succ n ih =>
    rw [zCt_s, ih]
    by_cases q : a ≤ n ∧ n < b
    · rw [decide_eq_true q]; show _ + 1 = _; omega
    · rw [decide_eq_false q]; show _ + 0 = _; omega
theorem zCt_mono {p q : Nat → Bool} (n : Nat) (h : ∀ c, c < n → p c = true → q c = true) : zCt p n ≤ zCt q n := zS_le n (fun c hc => by
  cases hp : p c with
  | false => exact Nat.zero_le _
  | true => rw [h c hc hp]; exact Nat.le_refl _)
theorem zCt_strict {p : Nat → Bool} {a b : Nat} (hab : a < b) (ha : p a = true) : zCt p a < zCt p b := by
  obtain ⟨d, rfl⟩ : ∃ d, b = a + 1 + d := ⟨b - a - 1, by omega⟩
  clear hab
  have h1 : zCt p (a + 1) = zCt p a + 1 := by rw [zCt_s, ha]; rfl
  have h2 : ∀ d, zCt p (a + 1) ≤ zCt p (a + 1 + d) := by
    intro d
    induction d with
    | zero => exact Nat.le_refl _
    | succ d ih =>
      have := zCt_s p (a + 1 + d)
      rw [show a + 1 + (d + 1) = (a + 1 + d) + 1 from rfl]; omega
  have := h2 d
  omega
section DRS
variable {g : gS}
theorem zbes (h : zwf g.1) {c d : Nat} (hd : d < 4) (hc : c < 210) (ho : zo g.1 c d = true) : t_L_beside (nI (zw g.1)) (nI c) (nI d) = nI (zN (zw g.1) c d) := by
  have hw := zwf_w h
  have h2 := zgr2 h
  unfold t_L_beside zN
  rcases zd4 hd with rfl | rfl | rfl | rfl
  · rw [if_pos (show nI 0 = 0 from rfl), if_pos rfl]; exact pk_sub (h2.2.1 c ho)
  · rw [if_neg (by decide), if_pos (show nI 1 = (1 : Int32) from rfl), if_neg (by decide), if_pos rfl]; exact nI_add c 1
  · rw [if_neg (by decide), if_neg (by decide), if_pos (show nI 2 = (2 : Int32) from rfl), if_neg (by decide), if_neg (by decide), if_pos rfl]; exact nI_add c _
  · rw [if_neg (by decide), if_neg (by decide), if_neg (by decide), if_neg (by decide), if_neg (by decide), if_neg (by decide)]; exact pk_sub (b := 1) (h2.2.2 c ho)
theorem zL_nx (h : zwf g.1) {c d : Nat} (hd : d < 4) (ho : zo g.1 c d = true) : zL (zo g.1) (zN (zw g.1)) (zN (zw g.1) c d) = zL (zo g.1) (zN (zw g.1)) c :=
  ((zL_spec (zgr h)).2.2.2 c (zN (zw g.1) c d)).mp ⟨1, d, hd, ho, rfl⟩ |>.symm
theorem zrep_L (h : zwf g.1) {c : Nat} (hc : zr g.1 c = true) : zrep g.1 (zL (zo g.1) (zN (zw g.1)) c) = true := by
  obtain ⟨L1, L2, L3, L4⟩ := zL_spec (zgr h)
  have := zC_rm (zgr h) (L3 c) hc
  unfold zrep
  rw [this, L2 c, decide_eq_true rfl]; rfl
/-- parts told apart by their numbers -/
theorem zpart_eq (h : zwf g.1) {a b : Nat} (ha : zr g.1 a = true) (hb : zr g.1 b = true) : zCt (zrep g.1) (zL (zo g.1) (zN (zw g.1)) a) = zCt (zrep g.1) (zL (zo g.1) (zN (zw g.1)) b) ↔ zL (zo g.1) (zN (zw g.1)) a = zL (zo g.1) (zN (zw g.1)) b := by
  refine ⟨fun e => ?_, fun e => by rw [e]⟩
  rcases Nat.lt_trichotomy (zL (zo g.1) (zN (zw g.1)) a) (zL (zo g.1) (zN (zw g.1)) b) with q | q | q
  · have := zCt_strict q (zrep_L h ha); omega
  · exact q
  · have := zCt_strict q (zrep_L h hb); omega
-- the directions of one room
theorem d215 (h : zwf g.1) {c : Nat} (hc : zr g.1 c = true) (K : Int32 → Int32 → Int32 → Int32 → Int32 → Int32 → Int32 → Int32 → Int32 → gS → Option (Int32 × gS)) (l2 l3 l4 l5 l6 l7 : Int32) :
    ∀ d, d ≤ 4 → ∀ F, 4 - d < F → b_L_areDoors_215 nF K F (nI (zw g.1)) l2 l3 l4 l5 l6 l7 1 (nI c) 1 (nI (zmf (zo g.1 c))) (nI d) g = K (nI (zw g.1)) l2 l3 l4 l5 l6 l7 1 (nI c + 1) g := by
  have c210 := zr_210 h hc
  refine dn 4 ?_ ?_
  · intro F hF
    obtain ⟨F, rfl⟩ : ∃ G, F = G + 1 := ⟨F - 1, by omega⟩
    rw [b_L_areDoors_215, if_pos (show (4 : Int32) ≤ nI 4 by decide)]
  · intro d hd ih F hF
    obtain ⟨F, rfl⟩ : ∃ G, F = G + 1 := ⟨F - 1, by omega⟩
    have hih := ih F (by omega)
    rw [b_L_areDoors_215, if_neg (show ¬ (4 : Int32) ≤ nI d from nI_ge (b := 4) hd (by decide)), if_neg (by decide), if_neg (by decide), zbit_of _ hd, nI_1]
    cases ho : zo g.1 c d with
    | false =>
      unfold bV
      dsimp only
      rw [if_pos zi_f]
      exact hih
    | true =>
      obtain ⟨g1, g2, g3, g4⟩ := (zgr h).1 c d hd ho
      have t6 := zr_lt g2
      have t210 := zr_210 h g2
      rw [bV_e (zbes h hd c210 ho)]
      refine st_el (by decide) ?_
      refine st_bV (e_isRoom h t6) ?_
      refine st_if (by rw [g2]; rfl) ?_
      refine st_bV ((e_doors h (by omega)).trans (if_pos g2)) ?_
      refine st_if ?_ ?_
      · rw [show (nI d + (2 : Int32)) - (nI d + (2 : Int32)) / (4 : Int32) * (4 : Int32) = nI (zO d) from zmodI (b := 2) (by omega), zbit_of _ (zO_lt d), g3]; rfl
      refine st_bV ((e_part h (by omega)).trans (if_pos g2)) ?_
      refine st_bV ((e_part h (by omega)).trans (if_pos hc)) ?_
      exact st_if (by rw [zL_nx h hd ho]) hih
-- one cell
noncomputable def zR1 (now : Nat → Int32) (c : Nat) : Bool := decide (zdg now c = 1)
noncomputable def zR3 (now : Nat → Int32) (c : Nat) : Bool := decide (3 ≤ zdg now c)
theorem ones0 : t_L_ones 0 = 0 := zmask_ones false false false false
theorem d215n (K : Int32 → Int32 → Int32 → Int32 → Int32 → Int32 → Int32 → Int32 → Int32 → gS → Option (Int32 × gS)) (l1 l2 l3 l4 l5 l6 l7 l9 l11 : Int32) : b_L_areDoors_215 nF K nF l1 l2 l3 l4 l5 l6 l7 1 l9 0 l11 0 g = K l1 l2 l3 l4 l5 l6 l7 1 (l9 + 1) g := by
  obtain ⟨M, hM⟩ : ∃ M, nF = M + 1 := ⟨nF - 1, by have := nF_1; omega⟩
  have e : b_L_areDoors_215 nF K nF = b_L_areDoors_215 nF K (M + 1) := congrArg _ hM
  rw [e, b_L_areDoors_215, if_neg (by decide), if_neg (by decide), if_pos rfl]
theorem d150 (h : zwf g.1) {c : Nat} (hc : zr g.1 c = true) (K : Int32 → Int32 → Int32 → Int32 → Int32 → Int32 → Int32 → Int32 → Int32 → gS → Option (Int32 × gS)) (l2 l3 l4 l6 s0 s1 : Int32) :
    b_L_areDoors_150 nF K (nI (zw g.1)) l2 l3 l4 l6 (nI (zCt (zrep g.1) c)) (nI c) 1 (nI (zmf (zo g.1 c))) s0 s1 g = K (nI (zw g.1)) l2 l3 l4 (s0 + s1) l6 (nI (zCt (zrep g.1) (c + 1))) 1 (nI c + 1) g := by
  have c210 := zr_210 h hc
  have hle : zL (zo g.1) (zN (zw g.1)) c ≤ c := zL_le c
  have b1 := zCt_le (zrep g.1) c
  have b2 := zCt_le (zrep g.1) (zL (zo g.1) (zN (zw g.1)) c)
  have k4 : ∀ x, b_L_areDoors_178 nF K (nI (zw g.1)) l2 l3 l4 (s0 + s1) l6 (nI c) 1 (nI (zmf (zo g.1 c))) x g = K (nI (zw g.1)) l2 l3 l4 (s0 + s1) l6 x 1 (nI c + 1) g := by
    intro x
    unfold b_L_areDoors_178
    exact st_el (by decide) (d215 h hc K l2 l3 l4 (s0 + s1) l6 x 0 (by decide) nF (by have := nF_1; omega))
  unfold b_L_areDoors_150
  refine st_el (by decide) ?_
  refine st_bV ((e_part h (by omega)).trans (if_pos hc)) ?_
  by_cases q : zL (zo g.1) (zN (zw g.1)) c = c
  · have hrep : zrep g.1 c = true := by unfold zrep; rw [hc, decide_eq_true q]; rfl
    refine st_if (by rw [q]) ?_
    refine (k4 _).trans ?_
    rw [zCt_s, hrep, nI_1]; rfl
  · have hrep : zrep g.1 c = false := by unfold zrep; rw [hc, decide_eq_false q]; rfl
    have hlt : zCt (zrep g.1) (zL (zo g.1) (zN (zw g.1)) c) < zCt (zrep g.1) c := zCt_strict (by omega) (zrep_L h hc)
    refine st_el (fun e => by have := (nI_eq (by omega) (by omega)).mp e; omega) ?_
    unfold b_L_areDoors_176
    refine (k4 _).trans ?_
    rw [zCt_s, hrep]; rfl
theorem d131 (h : zwf g.1) {c : Nat} (hc : zr g.1 c = true) (K : Int32 → Int32 → Int32 → Int32 → Int32 → Int32 → Int32 → Int32 → Int32 → gS → Option (Int32 × gS)) (l2 l3 l6 s0 s1 : Int32) :
    b_L_areDoors_131 nF K (nI (zw g.1)) l2 l3 (nI (zCt (zR3 g.1) c)) l6 (nI (zCt (zrep g.1) c)) (nI c) 1 (nI (zmf (zo g.1 c))) s0 s1 g = K (nI (zw g.1)) l2 l3 (s0 + s1) (nI (zCt (zR3 g.1) (c + 1))) l6 (nI (zCt (zrep g.1) (c + 1))) 1 (nI c + 1) g := by
  unfold b_L_areDoors_131
  refine st_bV (y := nI (zdg g.1 c)) (zmask_ones _ _ _ _) ?_
  have h4 := zdg_4 (now := g.1) c
  by_cases q : zdg g.1 c ≤ 2
  · refine st_if (nI_le (b := 2) q (by decide)) ?_
    refine (d150 h hc K l2 l3 _ l6 _ _).trans ?_
    have e : zR3 g.1 c = false := decide_eq_false (by omega)
    rw [show nI (zCt (zR3 g.1) c) + (0 : Int32) = nI (zCt (zR3 g.1) c + 0) from nI_add _ 0, zCt_s (zR3 g.1), e]; rfl
  · refine st_el (nI_ge (a := 2) (by omega) (by omega)) ?_
    refine (d150 h hc K l2 l3 _ l6 _ _).trans ?_
    have e : zR3 g.1 c = true := decide_eq_true (by omega)
    rw [nI_1, zCt_s (zR3 g.1), e]; rfl
theorem d105 (h : zwf g.1) {c : Nat} (hc : zr g.1 c = true) (K : Int32 → Int32 → Int32 → Int32 → Int32 → Int32 → Int32 → Int32 → Int32 → gS → Option (Int32 × gS)) (l6 s0 s1 : Int32) :
    b_L_areDoors_105 nF K (nI (zw g.1)) (nI (zS (zdg g.1) c)) (nI (zCt (zR1 g.1) c)) (nI (zCt (zR3 g.1) c)) l6 (nI (zCt (zrep g.1) c)) (nI c) 1 (nI (zmf (zo g.1 c))) s0 s1 g = K (nI (zw g.1)) (s0 + s1) (nI (zS (zdg g.1) (c + 1))) (nI (zCt (zR1 g.1) (c + 1))) (nI (zCt (zR3 g.1) (c + 1))) l6 (nI (zCt (zrep g.1) (c + 1))) 1 (nI c + 1) g := by
  unfold b_L_areDoors_105
  refine st_bV (y := nI (zdg g.1 c)) (zmask_ones _ _ _ _) ?_
  refine st_bV (y := nI (zdg g.1 c)) (zmask_ones _ _ _ _) ?_
  have h4 := zdg_4 (now := g.1) c
  have e0 : nI (zS (zdg g.1) c) + nI (zdg g.1 c) = nI (zS (zdg g.1) (c + 1)) := nI_add _ _
  by_cases q : zdg g.1 c = 1
  · refine st_if (by rw [q]; rfl) ?_
    refine (d131 h hc K _ _ l6 _ _).trans ?_
    have e : zR1 g.1 c = true := decide_eq_true q
    rw [e0, nI_1, zCt_s (zR1 g.1), e]; rfl
  · refine st_el (fun e => q ((nI_eq (b := 1) (by omega) (by decide)).mp e)) ?_
    refine (d131 h hc K _ _ l6 _ _).trans ?_
    have e : zR1 g.1 c = false := decide_eq_false q
    rw [e0, show nI (zCt (zR1 g.1) c) + (0 : Int32) = nI (zCt (zR1 g.1) c + 0) from nI_add _ 0, zCt_s (zR1 g.1), e]; rfl
theorem d46 (h : zwf g.1) {c F : Nat} (hc : c < 6 * zw g.1) :
    b_L_areDoors_46 nF (F + 1) (nI (zw g.1)) (nI (zCt (zr g.1) c)) (nI (zS (zdg g.1) c)) (nI (zCt (zR1 g.1) c)) (nI (zCt (zR3 g.1) c)) 0 (nI (zCt (zrep g.1) c)) 1 (nI c) g =
    b_L_areDoors_46 nF F (nI (zw g.1)) (nI (zCt (zr g.1) (c + 1))) (nI (zS (zdg g.1) (c + 1))) (nI (zCt (zR1 g.1) (c + 1))) (nI (zCt (zR3 g.1) (c + 1))) 0 (nI (zCt (zrep g.1) (c + 1))) 1 (nI (c + 1)) g := by
  have hw := zwf_w h
  rw [b_L_areDoors_46, e6w h, if_neg (nI_ge hc (by omega)), if_neg (show ¬ (1 : Int32) = 0 by decide)]
  refine st_bV (e_isRoom h hc) ?_
  cases hr : zr g.1 c with
  | true =>
    have c210 := zr_210 h hr
    refine st_if rfl ?_
    unfold b_L_areDoors_75
    refine st_el (by decide) ?_
    refine st_bV ((e_doors h (by omega)).trans (if_pos hr)) ?_
    unfold b_L_areDoors_92
    refine st_el (by decide) ?_
    refine (d105 h hr (b_L_areDoors_46 nF F) _ _ _).trans ?_
    rw [nI_1, nI_1, zCt_s (zr g.1), hr]; rfl
  | false =>
    refine st_el (by decide) ?_
    unfold b_L_areDoors_75
    refine st_if rfl ?_
    unfold b_L_areDoors_92
    refine st_if rfl ?_
    unfold b_L_areDoors_105
    refine st_bV ones0 ?_
    refine st_bV ones0 ?_
    refine st_el (by decide) ?_
    unfold b_L_areDoors_131
    refine st_bV ones0 ?_
    refine st_if (by decide) ?_
    unfold b_L_areDoors_150
    refine st_if rfl ?_
    unfold b_L_areDoors_176 b_L_areDoors_178
    refine st_if rfl ?_
    refine st_bV ((e_doors h (by omega)).trans (if_neg (by rw [hr]; exact zft))) ?_
    refine st_if rfl ?_
    refine st_bV ((e_part h (by omega)).trans (if_neg (by rw [hr]; exact zft))) ?_
    refine st_if rfl ?_
    refine (d215n (b_L_areDoors_46 nF F) _ _ _ _ _ _ _ _ _).trans ?_
    have z1 : zdg g.1 c = 0 := zdg_nr h hr
    have a0 : ∀ n : Nat, nI n + (0 : Int32) = nI n := fun n => nI_add n 0
    have s1 : zCt (zr g.1) (c + 1) = zCt (zr g.1) c := by rw [zCt_s, hr]; rfl
    have s2 : zS (zdg g.1) (c + 1) = zS (zdg g.1) c := by show zS (zdg g.1) c + zdg g.1 c = _; rw [z1]; rfl
    have s3 : zCt (zR1 g.1) (c + 1) = zCt (zR1 g.1) c := by rw [zCt_s, show zR1 g.1 c = false from decide_eq_false (by omega)]; rfl
    have s4 : zCt (zR3 g.1) (c + 1) = zCt (zR3 g.1) c := by rw [zCt_s, show zR3 g.1 c = false from decide_eq_false (by omega)]; rfl
    have s5 : zCt (zrep g.1) (c + 1) = zCt (zrep g.1) c := by rw [zCt_s, show zrep g.1 c = false by unfold zrep; rw [hr]; rfl]; rfl
    rw [a0, a0, a0, a0, nI_1, s1, s2, s3, s4, s5]
theorem d46a (h : zwf g.1) : b_L_areDoors_46 nF nF (nI (zw g.1)) 0 0 0 0 0 0 1 0 g = b_L_areDoors_317 nF nF (nI (zw g.1)) (nI (zCt (zr g.1) 210)) (nI (zS (zdg g.1) 210)) (nI (zCt (zR1 g.1) 210)) (nI (zCt (zR3 g.1) 210)) 0 (nI (zCt (zrep g.1) 210)) 1 0 g := by
  have hw := zwf_w h
  have cut : ∀ p : Nat → Bool, (∀ c, zr g.1 c = false → p c = false) → zCt p 210 = zCt p (6 * zw g.1) := fun p hp => zCt_cut (by omega) (fun c hc => hp c (zr_big h hc))
  rw [cut (zr g.1) (fun c hc => hc), cut (zR1 g.1) (fun c hc => decide_eq_false (by rw [zdg_nr h hc]; decide)), cut (zR3 g.1) (fun c hc => decide_eq_false (by rw [zdg_nr h hc]; decide)), cut (zrep g.1) (fun c hc => by unfold zrep; rw [hc]; rfl)]
  have s2 : zS (zdg g.1) 210 = zS (zdg g.1) (6 * zw g.1) := by
    have := zS_cut (f := zdg g.1) (6 * zw g.1) (210 - 6 * zw g.1) (fun c hc _ => zdg_nr h (zr_big h hc))
    rw [show 6 * zw g.1 + (210 - 6 * zw g.1) = 210 by omega] at this
    exact this
  rw [s2]
  have key : ∀ k, k ≤ 6 * zw g.1 → ∀ F, 6 * zw g.1 - k < F → b_L_areDoors_46 nF F (nI (zw g.1)) (nI (zCt (zr g.1) k)) (nI (zS (zdg g.1) k)) (nI (zCt (zR1 g.1) k)) (nI (zCt (zR3 g.1) k)) 0 (nI (zCt (zrep g.1) k)) 1 (nI k) g = b_L_areDoors_317 nF nF (nI (zw g.1)) (nI (zCt (zr g.1) (6 * zw g.1))) (nI (zS (zdg g.1) (6 * zw g.1))) (nI (zCt (zR1 g.1) (6 * zw g.1))) (nI (zCt (zR3 g.1) (6 * zw g.1))) 0 (nI (zCt (zrep g.1) (6 * zw g.1))) 1 0 g := by
    refine dn _ ?_ ?_
    · intro F hF
      obtain ⟨F, rfl⟩ : ∃ G, F = G + 1 := ⟨F - 1, by omega⟩
      rw [b_L_areDoors_46, e6w h, if_pos (nI_le (Nat.le_refl _) (by omega))]
    · intro k hk ih F hF
      obtain ⟨F, rfl⟩ : ∃ G, F = G + 1 := ⟨F - 1, by omega⟩
      rw [d46 h hk]
      exact ih F (by omega)
  exact key 0 (Nat.zero_le _) nF (by have := nF_1; omega)
end DRS

-- the walker's checks
section ISW
variable {g : gS} {st goal : Nat}
theorem nsub_eq {x a b : Nat} (hx : x < 2 ^ 29) (ha : a < 2 ^ 29) (hb : b < 2 ^ 29) : nI x = nI a - nI b ↔ x + b = a := by
  have e1 := pk_sub_toInt (a := a) (b := b) (by omega) (by omega)
  have e2 := pk_sub_toInt (a := x) (b := 0) (by omega) (by omega)
  rw [show nI x - nI 0 = nI x from pk_sub (Nat.zero_le x)] at e2
  rw [← Int32.toInt_inj, e1, e2]
  omega
theorem st_dir {α : Type} (h : zwf g.1) {c d : Nat} (hd : d < 4) (hc : c < 210) (ho : zo g.1 c d = true) (K : Int32 → α) :
    (if nI (zN (zw g.1) c d) = nI c - nI (zw g.1) then K 0 else if nI (zN (zw g.1) c d) = nI c + (1 : Int32) then K 1 else if nI (zN (zw g.1) c d) = nI c + nI (zw g.1) then K 2 else K 3) = K (nI d) := by
  have hw := zwf_w h
  have h2 := zgr2 h
  rcases zd4 hd with rfl | rfl | rfl | rfl
  · have := h2.2.1 c ho
    have ez : zN (zw g.1) c 0 = c - zw g.1 := rfl
    rw [ez]
    exact st_if ((nsub_eq (by omega) (by omega) (by omega)).mpr (by omega)) rfl
  · have ez : zN (zw g.1) c 1 = c + 1 := rfl
    rw [ez]
    refine st_el (fun e => by have := (nsub_eq (by omega) (by omega) (by omega)).mp e; omega) ?_
    exact st_if (nI_1 c).symm rfl
  · have ez : zN (zw g.1) c 2 = c + zw g.1 := rfl
    rw [ez]
    refine st_el (fun e => by have := (nsub_eq (by omega) (by omega) (by omega)).mp e; omega) ?_
    refine st_el (fun e => by rw [nI_1] at e; have := (nI_eq (by omega) (by omega)).mp e; omega) ?_
    exact st_if (nI_add c _).symm rfl
  · have := h2.2.2 c ho
    have ez : zN (zw g.1) c 3 = c - 1 := rfl
    rw [ez]
    refine st_el (fun e => by have := (nsub_eq (by omega) (by omega) (by omega)).mp e; omega) ?_
    refine st_el (fun e => by rw [nI_1] at e; have := (nI_eq (by omega) (by omega)).mp e; omega) ?_
    exact st_el (fun e => by rw [nI_add] at e; have := (nI_eq (by omega) (by omega)).mp e; omega) rfl
theorem zCh_no {now : Nat → Int32} {goal c f : Nat} (h : ¬ zCh now goal c f < 4) : zmf (zo now c) = 0 := by
  have hs : ¬ zSn now goal c < 4 := fun q => h (by unfold zCh; rw [if_pos q]; exact q)
  have hw : ¬ zWo now c f < 4 := fun q => h (by unfold zCh; rw [if_neg hs]; exact q)
  have k1 : ¬ zo now c ((f + 1) % 4) = true := fun e => hw (by unfold zWo; rw [if_pos e]; omega)
  have k2 : ¬ zo now c ((f + 2) % 4) = true := fun e => hw (by unfold zWo; rw [if_neg k1, if_pos e]; omega)
  have k3 : ¬ zo now c ((f + 3) % 4) = true := fun e => hw (by unfold zWo; rw [if_neg k1, if_neg k2, if_pos e]; omega)
  have k4 : ¬ zo now c ((f + 4) % 4) = true := fun e => hw (by unfold zWo; rw [if_neg k1, if_neg k2, if_neg k3, if_pos e]; omega)
  have all : ∀ d, d < 4 → zo now c d = (fun _ => false) d := by
    intro d hd
    show zo now c d = false
    have hc : d = (f + 1) % 4 ∨ d = (f + 2) % 4 ∨ d = (f + 3) % 4 ∨ d = (f + 4) % 4 := by omega
    rcases hc with e | e | e | e <;> rw [e]
    · exact Bool.eq_false_iff.mpr k1
    · exact Bool.eq_false_iff.mpr k2
    · exact Bool.eq_false_iff.mpr k3
    · exact Bool.eq_false_iff.mpr k4
  rw [zmf_congr all]; rfl
theorem w315 (h : zwf g.1) (e8 : g.1 8 = nI goal) {a : Nat} (va2 l3 l6 : Int32) (h6 : nI a = nI goal → l6 = l3) : b_L_isWalk_315 nF va2 l3 (nI a) l6 g = some (1, g) := by
  unfold b_L_isWalk_315
  refine st_bV ((e_c11 h).trans e8) ?_
  by_cases q : nI a = nI goal
  · refine st_if q ?_
    exact st_if (h6 q) rfl
  · exact st_el q rfl
theorem w265 (h : zwf g.1) (e7 : g.1 7 = nI st) (hst : zr g.1 st = true) (e8 : g.1 8 = nI goal) (hgo : zr g.1 goal = true) {most : Nat} (hm : most ≤ 2000) :
    b_L_isWalk_265 nF (nI most) (nI (zWx g.1 goal most st 2).2.2) (nI (zWx g.1 goal most st 2).1) (if (zWx g.1 goal 2000 st 2).1 = goal then nI (zWx g.1 goal 2000 st 2).2.2 else -4) g = some (1, g) := by
  have g210 := zr_210 h hgo
  have s210 := zr_210 h hst
  have a210 := zr_210 h (zWx_rm (goal := goal) h most st 2 hst (by decide)).1
  have hle := zWx_le (now := g.1) (goal := goal) most st 2
  have hle2 := zWx_le (now := g.1) (goal := goal) 2000 st 2
  have hmono := zWx_mono (now := g.1) (goal := goal) most 2000 st 2 hm
  have hstop : nI (zWx g.1 goal most st 2).1 = nI goal → zWx g.1 goal 2000 st 2 = zWx g.1 goal most st 2 := fun e => zWx_stop most st 2 ((nI_eq (by omega) (by omega)).mp e) 2000 hm
  unfold b_L_isWalk_265
  by_cases q : (zWx g.1 goal 2000 st 2).1 = goal
  · rw [if_pos q]
    refine st_el (fun e => absurd (show nI (zWx g.1 goal 2000 st 2).2.2 < 0 by rw [e]; decide) (nI_pos (by omega))) ?_
    refine st_el (nI_nlt hmono (by omega)) ?_
    obtain ⟨w1, w2, w3⟩ := e_walk h e7 hst e8 hgo hle2
    rw [zWx_made] at w1
    refine st_bV (w1.trans (by rw [q])) ?_
    refine st_bV ((e_c11 h).trans e8) ?_
    refine st_if rfl ?_
    refine st_bV ((e_c10 h).trans e7) ?_
    refine st_bV ((e_c11 h).trans e8) ?_
    refine st_bV (e_dist h hst hgo) ?_
    have hW := zWx_W (goal := goal) h 2000 st 2
    rw [q] at hW
    obtain ⟨f1, f2⟩ := zW_F (zgr h) hgo _ _ hW
    refine st_el ?_ ?_
    · have f1 : ¬ zE g goal st = 0 := f1
      have f2 : zE g goal st ≤ (zWx g.1 goal 2000 st 2).2.2 + 1 := f2
      rw [if_neg f1]
      exact nI_nlt (by omega) (by omega)
    exact w315 h e8 _ _ _ (fun e => by rw [hstop e])
  · rw [if_neg q]
    refine st_if rfl ?_
    refine w315 h e8 _ _ _ (fun e => absurd ?_ q)
    rw [hstop e]; exact (nI_eq (by omega) (by omega)).mp e
theorem w218 (h : zwf g.1) (e7 : g.1 7 = nI st) (hst : zr g.1 st = true) (e8 : g.1 8 = nI goal) (hgo : zr g.1 goal = true) {most : Nat} (hm : most ≤ 2000) :
    b_L_isWalk_218 nF (nI most) (nI (zWx g.1 goal most st 2).2.2) (nI (zWx g.1 goal most st 2).1) 1 g = some (1, g) := by
  have g210 := zr_210 h hgo
  have ar := (zWx_rm (goal := goal) h most st 2 hst (by decide)).1
  have a210 := zr_210 h ar
  have hle := zWx_le (now := g.1) (goal := goal) most st 2
  unfold b_L_isWalk_218
  refine st_bV (e_walked h e7 hst e8 hgo) ?_
  refine st_el (by decide) ?_
  refine st_bV (e_walk h e7 hst e8 hgo hm).1 ?_
  refine st_if rfl ?_
  have k := w265 h e7 hst e8 hgo hm
  by_cases q : nI (zWx g.1 goal most st 2).2.2 = nI most
  · exact st_if q k
  · refine st_el q ?_
    refine st_bV ((e_c11 h).trans e8) ?_
    by_cases q2 : nI (zWx g.1 goal most st 2).1 = nI goal
    · exact st_if q2 k
    · refine st_el q2 ?_
      refine st_bV ((e_doors h (by omega)).trans (if_pos ar)) ?_
      refine st_if ?_ k
      rcases zWx_end (now := g.1) (goal := goal) most st 2 with e | e | e
      · exact absurd (by rw [e]) q
      · exact absurd (by rw [e]) q2
      · rw [zCh_no e]; rfl
theorem w68 (h : zwf g.1) (e7 : g.1 7 = nI st) (hst : zr g.1 st = true) (e8 : g.1 8 = nI goal) (hgo : zr g.1 goal = true) {most : Nat} (hm : most ≤ 2000) :
    ∀ k, k ≤ (zWx g.1 goal most st 2).2.2 → ∀ F, (zWx g.1 goal most st 2).2.2 - k < F → b_L_isWalk_68 nF (nI most) F (nI (zw g.1)) (nI (zWx g.1 goal most st 2).2.2) (nI (zWx g.1 goal k st 2).1) 1 (nI (k + 1)) g = some (1, g) := by
  have hwl := zwf_w h
  have g210 := zr_210 h hgo
  have hle := zWx_le (now := g.1) (goal := goal) most st 2
  refine dn _ ?_ ?_
  · intro F hF
    obtain ⟨F, rfl⟩ : ∃ G, F = G + 1 := ⟨F - 1, by omega⟩
    rw [b_L_isWalk_68, if_pos (nI_lt (by omega) (by omega)), zWx_made]
    exact w218 h e7 hst e8 hgo hm
  · intro k hk ih F hF
    obtain ⟨F, rfl⟩ : ∃ G, F = G + 1 := ⟨F - 1, by omega⟩
    have hih := ih F (by omega)
    obtain ⟨p1, p2, p3⟩ := zWx_st most st 2 k hk
    have cr := (zWx_rm (goal := goal) h k st 2 hst (by decide)).1
    have pre := zWx_pre (now := g.1) (goal := goal) most st 2 (k + 1) hk
    obtain ⟨w1, w2, w3⟩ := e_walk h e7 hst e8 hgo (most := k + 1) (by omega)
    rw [p3] at w1 hih
    rw [pre] at w2
    generalize (zWx g.1 goal k st 2).1 = c at *
    generalize (zWx g.1 goal k st 2).2.1 = f at *
    have c210 := zr_210 h cr
    have hop := zCh_ok p2
    rw [b_L_isWalk_68, if_neg (nI_nlt (by omega) (by omega)), if_neg (show ¬ (1 : Int32) = 0 by decide)]
    refine st_bV w1 ?_
    refine (st_dir h p2 c210 hop (fun s => b_L_isWalk_128 nF (nI most) (b_L_isWalk_68 nF (nI most) F) (nI (zw g.1)) (nI (zWx g.1 goal most st 2).2.2) (nI c) (nI (k + 1)) (nI (zN (zw g.1) c (zCh g.1 goal c f))) s g)).trans ?_
    show b_L_isWalk_128 nF (nI most) (b_L_isWalk_68 nF (nI most) F) (nI (zw g.1)) (nI (zWx g.1 goal most st 2).2.2) (nI c) (nI (k + 1)) (nI (zN (zw g.1) c (zCh g.1 goal c f))) (nI (zCh g.1 goal c f)) g = _
    unfold b_L_isWalk_128
    refine st_bV (zbes h p2 c210 hop) ?_
    refine st_if rfl ?_
    refine st_bV ((e_doors h (by omega)).trans (if_pos cr)) ?_
    refine st_if (by rw [zbit_of _ p2, hop]; rfl) ?_
    refine st_bV w2 ?_
    refine st_if rfl ?_
    refine st_bV ((e_c11 h).trans e8) ?_
    refine st_el (fun e => p1 ((nI_eq (by omega) (by omega)).mp e)) ?_
    refine st_bV (e_points h e8 hgo cr) ?_
    have k201 : b_L_isWalk_201 nF (nI most) (b_L_isWalk_68 nF (nI most) F) (nI (zw g.1)) (nI (zWx g.1 goal most st 2).2.2) (nI (k + 1)) (nI (zN (zw g.1) c (zCh g.1 goal c f))) g = some (1, g) := by
      unfold b_L_isWalk_201
      rw [nI_1]
      exact hih
    cases hsg : (decide (zsg g.1 c ≠ 0) && decide (3 ≤ zdg g.1 c)) with
    | false =>
      rw [if_neg zft]
      exact st_if (by decide) k201
    | true =>
      rw [if_pos rfl]
      by_cases qd : zDir g.1 goal c < 4
      · rw [if_pos qd]
        refine st_el (nI_pos (by omega)) ?_
        refine st_bV (e_points h e8 hgo cr) ?_
        refine st_if ?_ k201
        rw [hsg, if_pos rfl, if_pos qd]
        have es : zSn g.1 goal c = zDir g.1 goal c := by unfold zSn; rw [if_pos hsg]
        have ec : zCh g.1 goal c f = zDir g.1 goal c := by unfold zCh; rw [es, if_pos qd]
        rw [ec]
      · rw [if_neg qd]
        exact st_if (by decide) k201
theorem p_isWalk (h : zwf g.1) {most : Nat} (hm : most ≤ 2000) : f_L_isWalk nF g (nI most) = some (1, g) := by
  obtain ⟨st, e7, hst⟩ := h.2.2.1
  obtain ⟨goal, e8, hgo⟩ := h.2.2.2.1
  have hle := zWx_le (now := g.1) (goal := goal) most st 2
  obtain ⟨w1, w2, n2, w3, w4⟩ := e_walk h e7 hst e8 hgo hm
  obtain ⟨z1, z2, -⟩ := e_walk h e7 hst e8 hgo (most := 0) (by decide)
  unfold f_L_isWalk
  refine st_bV (e_c1 h) ?_
  refine st_bV w2 ?_
  refine st_bV ((e_c10 h).trans e7) ?_
  refine st_el (nI_nlt hle (by omega)) ?_
  refine st_bV w3 ?_
  refine st_el (by rw [nI_1]; exact nI_nlt w4 (by omega)) ?_
  refine st_bV z1 ?_
  refine st_if rfl ?_
  refine st_bV z2 ?_
  refine st_if rfl ?_
  exact w68 h e7 hst e8 hgo hm 0 (Nat.zero_le _) nF (by have := nF_le; omega)
end ISW

-- the class beside the model's row
def zm4 (b0 b1 b2 b3 : Bool) : Nat := b0.toNat + 2 * b1.toNat + 4 * b2.toNat + 8 * b3.toNat
def zmf (f : Nat → Bool) : Nat := zm4 (f 0) (f 1) (f 2) (f 3)
noncomputable def zdg (now : Nat → Int32) (c : Nat) : Nat := (zo now c 0).toNat + (zo now c 1).toNat + (zo now c 2).toNat + (zo now c 3).toNat
/-- the class' state: size, start, goal, letters, masks of open doors, signs -/
def zcl (now : Nat → Int32) (sz st go : Int32) (le op sg : Nat → Int32) : Prop :=
  sz = now 0 ∧ st = now 7 ∧ go = now 8 ∧ (∀ k, k < zn now → le k = now (1 + k)) ∧ (∀ c, c < 210 → op c = nI (zmf (zo now c))) ∧ (∀ c, c < 210 → sg c = now (429 + c))
/-- the class' shape -/
def zsh (now : Nat → Int32) (w cc rc dc lo : Int32) (ow : Nat → Int32) : Prop :=
  w = nI (zw now) ∧ cc = nI (6 * zw now) ∧ rc = nI (zCt (zr now) 210) ∧ dc = nI (zCt (fun c => zr now c && zh now c 1) 210 + zCt (fun c => zr now c && zh now c 2) 210) ∧
  (∃ k, lo = nI k ∧ zr now k = true ∧ ∀ j, j < k → zr now j = false) ∧ (∀ c, c < 210 → ow c = if zr now c = true then (if c / zw now = 5 then 1 else nI (2 + c % zw now / 6)) else 0)
theorem zmask_open : ∀ b0 b1 b2 b3 : Bool, ∀ d : Fin 4, (if ((nI (zm4 b0 b1 b2 b3) >>> (nI d.val &&& 31)) &&& (1 : Int32)) = (1 : Int32) then (1 : Int32) else 0) = zi (if d.val = 0 then b0 else if d.val = 1 then b1 else if d.val = 2 then b2 else b3) := by decide +kernel
theorem zmask_cnt : ∀ b0 b1 b2 b3 : Bool, t_J6_bitCount_0f7a4 (nI (zm4 b0 b1 b2 b3)) = nI (b0.toNat + b1.toNat + b2.toNat + b3.toNat) := by decide +kernel
theorem zmask_or : ∀ b0 b1 b2 b3 : Bool, ∀ d : Fin 4, (nI (zm4 b0 b1 b2 b3) ||| ((1 : Int32) <<< (nI d.val &&& 31))) = nI (zmf (fun d' => if d' = d.val then true else if d' = 0 then b0 else if d' = 1 then b1 else if d' = 2 then b2 else b3)) := by decide +kernel
theorem zmask_and : ∀ b0 b1 b2 b3 : Bool, ∀ d : Fin 4, (nI (zm4 b0 b1 b2 b3) &&& (((1 : Int32) <<< (nI d.val &&& 31)) ^^^ (-1 : Int32))) = nI (zmf (fun d' => if d' = d.val then false else if d' = 0 then b0 else if d' = 1 then b1 else if d' = 2 then b2 else b3)) := by decide +kernel
theorem zsel (f : Nat → Bool) {d : Nat} (hd : d < 4) : (if d = 0 then f 0 else if d = 1 then f 1 else if d = 2 then f 2 else f 3) = f d := by
  rcases zd4 hd with rfl | rfl | rfl | rfl <;> rfl
theorem zmf_congr {f g : Nat → Bool} (h : ∀ d, d < 4 → f d = g d) : zmf f = zmf g := by
  unfold zmf
  rw [h 0 (by decide), h 1 (by decide), h 2 (by decide), h 3 (by decide)]
section CLS
variable {now op ow sg le : Nat → Int32} {sz st go w cc rc dc lo : Int32}
theorem c_isOpen (h : ∀ c, c < 210 → op c = nI (zmf (zo now c))) {c d : Nat} (hc : c < 210) (hd : d < 4) : t_X1_isOpen op (nI c) (nI d) = zi (zo now c d) := by
  unfold t_X1_isOpen
  rw [at_lt op (by decide) hc, h c hc]
  have e := zmask_open (zo now c 0) (zo now c 1) (zo now c 2) (zo now c 3) ⟨d, hd⟩
  rw [zsel (zo now c) hd] at e
  exact e
theorem c_openDoors (h : ∀ c, c < 210 → op c = nI (zmf (zo now c))) {c : Nat} (hc : c < 210) : t_X1_openDoors op (nI c) = nI (zdg now c) := by
  unfold t_X1_openDoors
  rw [at_lt op (by decide) hc, h c hc]
  exact zmask_cnt _ _ _ _
theorem zdg_4 (c : Nat) : zdg now c ≤ 4 := by
  unfold zdg
  have := Bool.toNat_le (zo now c 0)
  have := Bool.toNat_le (zo now c 1)
  have := Bool.toNat_le (zo now c 2)
  have := Bool.toNat_le (zo now c 3)
  omega
theorem c_isFork (h : ∀ c, c < 210 → op c = nI (zmf (zo now c))) {c : Nat} (hc : c < 210) : t_X1_isFork op (nI c) = zi (decide (3 ≤ zdg now c)) := by
  unfold t_X1_isFork
  have := zdg_4 (now := now) c
  rw [c_openDoors h hc]
  by_cases q : 3 ≤ zdg now c
  · rw [if_neg (show ¬ nI (zdg now c) < (3 : Int32) from nI_nlt (b := 3) q (by omega)), decide_eq_true q]; rfl
  · rw [if_pos (show nI (zdg now c) < (3 : Int32) from nI_lt (b := 3) (by omega) (by decide)), decide_eq_false q]; rfl
theorem c_holds (hw : zwf now) (h : zsh now w cc rc dc lo ow) {c : Nat} (hc : c < 2 ^ 31) : t_X5_holds ow (nI c) = zi (zr now c) := by
  obtain ⟨-, -, -, -, -, h6⟩ := h
  unfold t_X5_holds
  rw [at_nI ow (by decide) hc]
  by_cases hl : c < 210
  · rw [if_pos hl, h6 c hl]
    cases hr : zr now c with
    | false => rfl
    | true =>
      rw [if_pos rfl]
      by_cases q : c / zw now = 5
      · rw [if_pos q]; rfl
      · have := zwf_w hw
        have h9 := Nat.mod_lt c (by omega : 0 < zw now)
        rw [if_neg q, if_neg (nI_ne0 (by omega) (by omega))]; rfl
  · rw [if_neg hl, if_pos rfl]
    cases hr : zr now c with
    | false => rfl
    | true => exact absurd (zr_210 hw hr) hl
theorem c_holds_neg {x : Int32} (hx : x < 0) : t_X5_holds ow x = 0 := by
  unfold t_X5_holds
  rw [at_neg ow hx, if_pos rfl]
theorem c_stride {c d : Nat} (hw : zwf now) (hd : d < 4) (hh : zh now c d = true) : nI c + t_X5_stride (nI (zw now)) (nI d) = nI (zN (zw now) c d) := by
  have h9 := zwf_w hw
  unfold t_X5_stride
  rcases zd4 hd with rfl | rfl | rfl | rfl
  · obtain ⟨h1, h2⟩ := zh_0.mp hh
    rw [if_neg (show ¬ nI 0 = (1 : Int32) by decide), if_neg (show ¬ nI 0 = (2 : Int32) by decide), if_neg (show ¬ nI 0 = (3 : Int32) by decide)]
    rw [← Int32.sub_eq_add_neg, pk_sub h1]; rfl
  · rw [if_pos (by decide)]; exact nI_1 c
  · rw [if_neg (show ¬ nI 2 = (1 : Int32) by decide), if_pos (by decide)]; exact nI_add c _
  · have := (zmod_dn (by omega : 0 < zw now) (zh_3.mp hh).1).2
    rw [if_neg (show ¬ nI 3 = (1 : Int32) by decide), if_neg (show ¬ nI 3 = (2 : Int32) by decide), if_pos (by decide), sb_m1 this]; rfl
theorem c_b44 (hw : zwf now) (hs : zsh now w cc rc dc lo ow) (a : Int32) (x : Int32) {t : Nat} (ht : t < 2 ^ 31) (e : x + t_X5_stride w a = nI t) : tb_X5_beside_44 w ow x a = if zr now t = true then nI t else -1 := by
  unfold tb_X5_beside_44
  rw [e, c_holds hw hs ht]
  cases zr now t <;> rfl
theorem c_beside (hw : zwf now) (hs : zsh now w cc rc dc lo ow) {c d : Nat} (hc : c < 6 * zw now) (hd : d < 4) : t_X5_beside w ow (nI c) (nI d) = if zh now c d = true then nI (zN (zw now) c d) else -1 := by
  have h9 := zwf_w hw
  have hm := Nat.mod_lt c (by omega : 0 < zw now)
  have ew : w = nI (zw now) := hs.1
  unfold t_X5_beside
  rw [if_neg (by rw [ew]; exact nI_nle (by omega) (by omega))]
  rw [show nI c - nI c / w * w = nI (c % zw now) by rw [ew]; exact pk_rem (by omega) (by omega) (by omega)]
  unfold tb_X5_beside_17
  rcases zd4 hd with rfl | rfl | rfl | rfl
  · rw [if_neg (show ¬ nI 0 = (1 : Int32) by decide)]
    unfold tb_X5_beside_33
    rw [if_neg (show ¬ nI 0 = (3 : Int32) by decide)]
    by_cases hl : zw now ≤ c
    · rw [c_b44 hw hs (nI 0) (nI c) (t := c - zw now) (by omega) (by
        rw [ew]; unfold t_X5_stride
        rw [if_neg (show ¬ nI 0 = (1 : Int32) by decide), if_neg (show ¬ nI 0 = (2 : Int32) by decide), if_neg (show ¬ nI 0 = (3 : Int32) by decide), ← Int32.sub_eq_add_neg, pk_sub hl])]
      by_cases hr : zr now (c - zw now) = true
      · rw [if_pos hr, if_pos (zh_0.mpr ⟨hl, hr⟩)]; rfl
      · rw [if_neg hr, if_neg (fun q => hr (zh_0.mp q).2)]
    · unfold tb_X5_beside_44
      rw [c_holds_neg (by
        rw [ew]; unfold t_X5_stride
        rw [if_neg (show ¬ nI 0 = (1 : Int32) by decide), if_neg (show ¬ nI 0 = (2 : Int32) by decide), if_neg (show ¬ nI 0 = (3 : Int32) by decide), ← Int32.sub_eq_add_neg]
        exact pk_sneg (by omega) (by omega)), if_pos rfl, if_neg (fun q => hl (zh_0.mp q).1)]
  · rw [if_pos (by decide), ew, show nI (zw now) - (1 : Int32) = nI (zw now - 1) from pk_sub (b := 1) (by omega)]
    by_cases hl : c % zw now = zw now - 1
    · rw [if_pos (by rw [hl]), if_neg (fun q => (zh_1.mp q).1 hl)]
    · rw [if_neg (fun q => hl ((nI_eq (by omega) (by omega)).mp q))]
      unfold tb_X5_beside_33
      rw [if_neg (show ¬ nI 1 = (3 : Int32) by decide), ← ew, c_b44 hw hs (nI 1) (nI c) (t := c + 1) (by omega) (by unfold t_X5_stride; rw [if_pos (by decide)]; exact nI_1 c)]
      by_cases hr : zr now (c + 1) = true
      · rw [if_pos hr, if_pos (zh_1.mpr ⟨hl, hr⟩)]; rfl
      · rw [if_neg hr, if_neg (fun q => hr (zh_1.mp q).2)]
  · rw [if_neg (show ¬ nI 2 = (1 : Int32) by decide)]
    unfold tb_X5_beside_33
    rw [if_neg (show ¬ nI 2 = (3 : Int32) by decide), c_b44 hw hs (nI 2) (nI c) (t := c + zw now) (by omega) (by
      rw [ew]; unfold t_X5_stride; rw [if_neg (show ¬ nI 2 = (1 : Int32) by decide), if_pos (by decide)]; exact nI_add c _)]
    rfl
  · rw [if_neg (show ¬ nI 3 = (1 : Int32) by decide)]
    unfold tb_X5_beside_33
    rw [if_pos (by decide)]
    by_cases hl : c % zw now = 0
    · rw [if_pos (by rw [hl]; rfl), if_neg (fun q => (zh_3.mp q).1 hl)]
    · have h8 := (zmod_dn (by omega : 0 < zw now) hl).2
      rw [if_neg (nI_ne0 (by omega) (by omega)), c_b44 hw hs (nI 3) (nI c) (t := c - 1) (by omega) (by
        unfold t_X5_stride
        rw [if_neg (show ¬ nI 3 = (1 : Int32) by decide), if_neg (show ¬ nI 3 = (2 : Int32) by decide), if_pos (by decide)]; exact sb_m1 h8)]
      by_cases hr : zr now (c - 1) = true
      · rw [if_pos hr, if_pos (zh_3.mpr ⟨hl, hr⟩)]; rfl
      · rw [if_neg hr, if_neg (fun q => hr (zh_3.mp q).2)]
theorem zN_lt (hw : zwf now) {c d : Nat} (hc : c < 210) : zN (zw now) c d < 2 ^ 31 := by
  have := zwf_w hw
  unfold zN; repeat' (first | omega | split)
theorem c_hasDoor (hw : zwf now) (hs : zsh now w cc rc dc lo ow) {c d : Nat} (hc : c < 210) (hd : d < 4) : t_X5_hasDoor w ow (nI c) (nI d) = zi (zr now c && zh now c d) := by
  unfold t_X5_hasDoor
  rw [c_holds hw hs (by omega)]
  cases hr : zr now c with
  | false => rfl
  | true =>
    rw [if_neg (by decide), c_beside hw hs (zr_lt hr) hd]
    cases hh : zh now c d with
    | false => rfl
    | true =>
      rw [if_pos rfl, if_neg (fun e => nI_pos (zN_lt hw hc) (by rw [e]; decide))]; rfl
end CLS
-- a changed row
theorem zsameN {now now' : Nat → Int32} (h : znn now) (e : ∀ k, k < 7 → now' k = now k) : zn now' = zn now ∧ zw now' = zw now ∧ zr now' = zr now ∧ zh now' = zh now ∧ za now' = za now := by
  have e1 : zn now' = zn now := by unfold zn; rw [e 0 (by decide)]
  have e2 : zw now' = zw now := by unfold zw; rw [e1]
  have hw := znn_w h
  have e3 : zr now' = zr now := by
    funext c
    unfold zr
    have := Nat.mod_lt c (by omega : 0 < zw now)
    rw [e2, e (1 + c % zw now / 6) (by omega)]
  refine ⟨e1, e2, e3, ?_, ?_⟩
  · funext c d
    unfold zh
    rw [e2, e3]
  · funext c d
    unfold za
    rw [e2]
theorem zsame {now now' : Nat → Int32} (h : zwf now) (e : ∀ k, k < 7 → now' k = now k) : zn now' = zn now ∧ zw now' = zw now ∧ zr now' = zr now ∧ zh now' = zh now ∧ za now' = za now := zsameN (zwf_n h) e
theorem zupd_lo {now : Nat → Int32} {j : Nat} {x : Int32} (hj : 7 ≤ j) : ∀ k, k < 7 → upd now j x k = now k := fun k hk => pk_un (by omega)
theorem za_inj {now : Nat → Int32} (h : zwf now) {c d c' d' : Nat} (hd : d < 4) (hd' : d' < 4) (hc : zr now c = true) (hh : zh now c d = true) (hh' : zh now c' d' = true) (e : za now c' d' = za now c d) :
    (c' = c ∧ d' = d) ∨ (c' = zN (zw now) c d ∧ d' = zO d) := by
  have hw := zwf_w h
  have hl := zr_lt hc
  have f0 : ∀ {c}, zh now c 0 = true → zw now ≤ c ∧ c - zw now < 6 * zw now := fun q => ⟨(zh_0.mp q).1, zr_lt (zh_0.mp q).2⟩
  have f1 : ∀ {c}, zh now c 1 = true → c + 1 < 6 * zw now := fun q => zr_lt (zh_1.mp q).2
  have f2 : ∀ {c}, zh now c 2 = true → c + zw now < 6 * zw now := fun q => zr_lt (zh_2.mp q)
  have f3 : ∀ {c}, zh now c 3 = true → 1 ≤ c ∧ c - 1 < 6 * zw now := fun q => ⟨(zmod_dn (by omega : 0 < zw now) (zh_3.mp q).1).2, zr_lt (zh_3.mp q).2⟩
  rcases zd4 hd with rfl | rfl | rfl | rfl <;> rcases zd4 hd' with rfl | rfl | rfl | rfl
  · have a := f0 hh; have b := f0 hh'
    have e : 219 + c' - zw now = 219 + c - zw now := e
    exact Or.inl ⟨by omega, rfl⟩
  · have a := f0 hh; have b := f1 hh'
    have e : 9 + c' = 219 + c - zw now := e
    omega
  · have a := f0 hh; have b := f2 hh'
    have e : 219 + c' = 219 + c - zw now := e
    exact Or.inr ⟨by show c' = c - zw now; omega, rfl⟩
  · have a := f0 hh; have b := f3 hh'
    have e : 9 + c' - 1 = 219 + c - zw now := e
    omega
  · have a := f1 hh; have b := f0 hh'
    have e : 219 + c' - zw now = 9 + c := e
    omega
  · have a := f1 hh; have b := f1 hh'
    have e : 9 + c' = 9 + c := e
    exact Or.inl ⟨by omega, rfl⟩
  · have a := f1 hh; have b := f2 hh'
    have e : 219 + c' = 9 + c := e
    omega
  · have a := f1 hh; have b := f3 hh'
    have e : 9 + c' - 1 = 9 + c := e
    exact Or.inr ⟨by show c' = c + 1; omega, rfl⟩
  · have a := f2 hh; have b := f0 hh'
    have e : 219 + c' - zw now = 219 + c := e
    exact Or.inr ⟨by show c' = c + zw now; omega, rfl⟩
  · have a := f2 hh; have b := f1 hh'
    have e : 9 + c' = 219 + c := e
    omega
  · have a := f2 hh; have b := f2 hh'
    have e : 219 + c' = 219 + c := e
    exact Or.inl ⟨by omega, rfl⟩
  · have a := f2 hh; have b := f3 hh'
    have e : 9 + c' - 1 = 219 + c := e
    omega
  · have a := f3 hh; have b := f0 hh'
    have e : 219 + c' - zw now = 9 + c - 1 := e
    omega
  · have a := f3 hh; have b := f1 hh'
    have e : 9 + c' = 9 + c - 1 := e
    exact Or.inr ⟨by show c' = c - 1; omega, rfl⟩
  · have a := f3 hh; have b := f2 hh'
    have e : 219 + c' = 9 + c - 1 := e
    omega
  · have a := f3 hh; have b := f3 hh'
    have e : 9 + c' - 1 = 9 + c - 1 := e
    exact Or.inl ⟨by omega, rfl⟩
theorem za_lo {now : Nat → Int32} (h : zwf now) {c d : Nat} (hd : d < 4) (hh : zh now c d = true) : 9 ≤ za now c d ∧ za now c d < 429 := ⟨(m_doorAt h hd hh).2.2, (m_doorAt h hd hh).2.1⟩
/-- the doors, when one is set -/
theorem zo_set {now : Nat → Int32} (h : zwf now) {c d : Nat} (hd : d < 4) (hc : zr now c = true) (hh : zh now c d = true) (x : Int32) (c' d' : Nat) (hd' : d' < 4) :
    zo (upd now (za now c d) x) c' d' = if (c' = c ∧ d' = d) ∨ (c' = zN (zw now) c d ∧ d' = zO d) then decide (x = 1) else zo now c' d' := by
  obtain ⟨e1, e2, e3, e4, e5⟩ := zsame h (zupd_lo (now := now) (x := x) (show 7 ≤ za now c d by have := (za_lo h hd hh).1; omega))
  obtain ⟨b1, b2, b3, b4⟩ := zh_back h hd hc hh
  unfold zo
  rw [e4, e5]
  by_cases q : (c' = c ∧ d' = d) ∨ (c' = zN (zw now) c d ∧ d' = zO d)
  · rw [if_pos q]
    rcases q with ⟨rfl, rfl⟩ | ⟨rfl, rfl⟩
    · rw [hh, Bool.true_and, pk_us]
    · rw [b2, b4, Bool.true_and, pk_us]
  · rw [if_neg q]
    cases hh' : zh now c' d' with
    | false => rfl
    | true =>
      rw [Bool.true_and, Bool.true_and, pk_un (fun e => q (za_inj h hd hd' hc hh hh' e))]
theorem zN_ne {now : Nat → Int32} (h : zwf now) {c d : Nat} (hd : d < 4) (hh : zh now c d = true) : zN (zw now) c d ≠ c := by
  have hw := zwf_w h
  rcases zd4 hd with rfl | rfl | rfl | rfl
  · have := (zh_0.mp hh).1
    show c - zw now ≠ c
    omega
  · show c + 1 ≠ c
    omega
  · show c + zw now ≠ c
    omega
  · have := (zmod_dn (by omega : 0 < zw now) (zh_3.mp hh).1).2
    show c - 1 ≠ c
    omega
theorem zopp : ∀ d, d < 4 → t_X10_opposite (nI d) = nI (zO d) := by
  intro d hd
  rcases zd4 hd with rfl | rfl | rfl | rfl <;> decide +kernel
/-- one side of a door, set -/
theorem c_setSide {op : Nat → Int32} {g : Nat → Nat → Bool} (ho : ∀ c, c < 210 → op c = nI (zmf (g c))) {c d : Nat} (hc : c < 210) (hd : d < 4) (v : Bool) :
    ∀ c', c' < 210 → t_X1_setSide op (nI c) (nI d) (zi v) c' = nI (zmf (fun d' => if c' = c ∧ d' = d then v else g c' d')) := by
  intro c' hc'
  unfold t_X1_setSide
  rw [at_lt op (by decide) hc, ho c hc]
  have key : (if zi v = 0 then t_X4_put 210 op (nI c) (nI (zmf (g c)) &&& (((1 : Int32) <<< (nI d &&& 31)) ^^^ (-1 : Int32))) else t_X4_put 210 op (nI c) (nI (zmf (g c)) ||| ((1 : Int32) <<< (nI d &&& 31)))) = upd op c (nI (zmf (fun d' => if d' = d then v else g c d'))) := by
    have cg : zmf (fun d' => if d' = d then v else if d' = 0 then g c 0 else if d' = 1 then g c 1 else if d' = 2 then g c 2 else g c 3) = zmf (fun d' => if d' = d then v else g c d') := by
      refine zmf_congr (fun d' hd' => ?_)
      show (if d' = d then v else if d' = 0 then g c 0 else if d' = 1 then g c 1 else if d' = 2 then g c 2 else g c 3) = if d' = d then v else g c d'
      rw [zsel (g c) hd']
    cases v with
    | false =>
      rw [if_pos zi_f, put_lt op _ (by decide) hc]
      have := zmask_and (g c 0) (g c 1) (g c 2) (g c 3) ⟨d, hd⟩
      rw [← cg]
      exact congrArg (upd op c) this
    | true =>
      rw [if_neg (by decide), put_lt op _ (by decide) hc]
      have := zmask_or (g c 0) (g c 1) (g c 2) (g c 3) ⟨d, hd⟩
      rw [← cg]
      exact congrArg (upd op c) this
  rw [key]
  by_cases q : c' = c
  · subst q
    rw [pk_us]
    refine congrArg nI (zmf_congr (fun d' _ => ?_))
    by_cases q2 : d' = d
    · rw [if_pos q2, if_pos ⟨rfl, q2⟩]
    · rw [if_neg q2, if_neg (fun e => q2 e.2)]
  · rw [pk_un q, ho c' hc']
    refine congrArg nI (zmf_congr (fun d' _ => ?_))
    rw [if_neg (fun e => q e.1)]
theorem c_setDoor {now op : Nat → Int32} (h : zwf now) (ho : ∀ c, c < 210 → op c = nI (zmf (zo now c))) {c d : Nat} (hd : d < 4) (hc : zr now c = true) (hh : zh now c d = true) (v : Bool) :
    ∀ c', c' < 210 → t_X1_setDoor (nI (zw now)) op (nI c) (nI d) (zi v) c' = nI (zmf (zo (upd now (za now c d) (zi v)) c')) := by
  obtain ⟨b1, b2, b3, b4⟩ := zh_back h hd hc hh
  intro c' hc'
  unfold t_X1_setDoor
  rw [c_stride h hd hh, zopp d hd]
  rw [c_setSide (g := fun c' d' => if c' = c ∧ d' = d then v else zo now c' d') (c_setSide ho (zr_210 h hc) hd v) (zr_210 h b1) (zO_lt d) v c' hc']
  refine congrArg nI (zmf_congr (fun d' hd' => ?_))
  show _ = zo (upd now (za now c d) (zi v)) c' d'
  rw [zo_set h hd hc hh (zi v) c' d' hd']
  have ev : decide (zi v = 1) = v := by cases v <;> rfl
  rw [ev]
  show (if c' = zN (zw now) c d ∧ d' = zO d then v else if c' = c ∧ d' = d then v else zo now c' d') = _
  by_cases q1 : c' = zN (zw now) c d ∧ d' = zO d
  · rw [if_pos q1, if_pos (Or.inr q1)]
  · by_cases q2 : c' = c ∧ d' = d
    · rw [if_neg q1, if_pos q2, if_pos (Or.inl q2)]
    · rw [if_neg q1, if_neg q2, if_neg (by rintro (q | q); exact q2 q; exact q1 q)]

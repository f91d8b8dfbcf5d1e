-- doors opened one by one where they join two parts
/-- the row, the labels, the doors opened, after the first j doors of the row A -/
def zKr (w : Nat) (a : Nat → Nat → Nat) (A : Nat → Nat) (now0 : Nat → Int32) : Nat → (Nat → Int32) × (Nat → Nat) × Nat
  | 0 => (now0, (fun c => c), 0)
  | j + 1 => if (zKr w a A now0 j).2.1 (A j / 2) = (zKr w a A now0 j).2.1 (zN w (A j / 2) (1 + A j % 2)) then zKr w a A now0 j else
      (upd (zKr w a A now0 j).1 (a (A j / 2) (1 + A j % 2)) 1, zJ (zKr w a A now0 j).2.1 ((zKr w a A now0 j).2.1 (A j / 2)) ((zKr w a A now0 j).2.1 (zN w (A j / 2) (1 + A j % 2))), (zKr w a A now0 j).2.2 + 1)
theorem zod_set {now : Nat → Int32} (h : zwf now) {c d : Nat} (hd : d = 1 ∨ d = 2) (hc : zr now c = true) (hh : zh now c d = true) (hcl : zo now c d = false) : zod (upd now (za now c d) 1) = zod now + 1 := by
  have hd4 : d < 4 := by omega
  have hc2 := zr_210 h hc
  have hs := zo_set h hd4 hc hh 1
  have hO : zO d = 0 ∨ zO d = 3 := by unfold zO; omega
  unfold zod
  rcases hd with rfl | rfl
  · have e1 : zCt (fun c => zo (upd now (za now c 1) 1) c 1) 210 = zCt (fun c => zo (upd now (za now c 1) 1) c 1) 210 := rfl
    have e2 : zCt (fun c' => zo (upd now (za now c 1) 1) c' 1) 210 = zCt (fun c' => zo now c' 1) 210 + 1 := by
      refine zS_up (r := c) hc2 ?_ ?_
      · show (zo (upd now (za now c 1) 1) c 1).toNat = (zo now c 1).toNat + 1
        rw [hs c 1 (by decide), if_pos (Or.inl ⟨rfl, rfl⟩), hcl]; rfl
      · intro c' hc'
        show (zo (upd now (za now c 1) 1) c' 1).toNat = (zo now c' 1).toNat
        rw [hs c' 1 (by decide), if_neg (by rintro (⟨q, _⟩ | ⟨_, q⟩); exact hc' q; omega)]
    have e3 : zCt (fun c' => zo (upd now (za now c 1) 1) c' 2) 210 = zCt (fun c' => zo now c' 2) 210 := zCt_congr 210 (fun c' _ => by
      show zo (upd now (za now c 1) 1) c' 2 = zo now c' 2
      rw [hs c' 2 (by decide), if_neg (by rintro (⟨_, q⟩ | ⟨_, q⟩); exact absurd q (by decide); omega)])
    rw [e2, e3]; omega
  · have e2 : zCt (fun c' => zo (upd now (za now c 2) 1) c' 2) 210 = zCt (fun c' => zo now c' 2) 210 + 1 := by
      refine zS_up (r := c) hc2 ?_ ?_
      · show (zo (upd now (za now c 2) 1) c 2).toNat = (zo now c 2).toNat + 1
        rw [hs c 2 (by decide), if_pos (Or.inl ⟨rfl, rfl⟩), hcl]; rfl
      · intro c' hc'
        show (zo (upd now (za now c 2) 1) c' 2).toNat = (zo now c' 2).toNat
        rw [hs c' 2 (by decide), if_neg (by rintro (⟨q, _⟩ | ⟨_, q⟩); exact hc' q; omega)]
    have e3 : zCt (fun c' => zo (upd now (za now c 2) 1) c' 1) 210 = zCt (fun c' => zo now c' 1) 210 := zCt_congr 210 (fun c' _ => by
      show zo (upd now (za now c 2) 1) c' 1 = zo now c' 1
      rw [hs c' 1 (by decide), if_neg (by rintro (⟨_, q⟩ | ⟨_, q⟩); exact absurd q (by decide); omega)])
    rw [e2, e3]; omega
section KRU
variable {now0 op ow : Nat → Int32} {w cc rc dc lo : Int32} {N : Nat} {A : Nat → Nat} {m : Nat}
/-- what holds on the way -/
def zKI (now0 : Nat → Int32) (S : (Nat → Int32) × (Nat → Nat) × Nat) : Prop :=
  zwf S.1 ∧ (∀ k, k < 9 ∨ 429 ≤ k → S.1 k = now0 k) ∧ (∀ c, S.2.1 c ≤ c) ∧ (∀ c d, d < 4 → zo S.1 c d = true → S.2.1 c = S.2.1 (zN (zw now0) c d)) ∧ zod S.1 = S.2.2
theorem zKI_s (h0 : zwf now0) (hA : ∀ j, j < m → zvd now0 (A j) = true) (hz : zod now0 = 0) (hcl : ∀ c d, d < 4 → zo now0 c d = false) : ∀ j, j ≤ m → zKI now0 (zKr (zw now0) (za now0) A now0 j)
  | 0, _ => ⟨h0, fun _ _ => rfl, fun c => Nat.le_refl c, fun c d hd ho => (by
      have ho : zo now0 c d = true := ho
      rw [hcl c d hd] at ho; cases ho), hz⟩
  | j + 1, hj => by
    have ih := zKI_s h0 hA hz hcl j (by omega)
    have hv := hA j (by omega)
    obtain ⟨k1, k2, k3, k4, k5⟩ := ih
    rw [zKr]
    generalize hS : zKr (zw now0) (za now0) A now0 j = S at *
    by_cases q : S.2.1 (A j / 2) = S.2.1 (zN (zw now0) (A j / 2) (1 + A j % 2))
    · rw [if_pos q]; exact ⟨k1, k2, k3, k4, k5⟩
    · rw [if_neg q]
      unfold zvd at hv
      rw [Bool.and_eq_true] at hv
      obtain ⟨v1, v2⟩ := hv
      obtain ⟨s1, s2, s3, s4, s5⟩ := zsame h0 (now' := S.1) (fun k hk => k2 k (Or.inl (by omega)))
      have hd : 1 + A j % 2 = 1 ∨ 1 + A j % 2 = 2 := by omega
      have v1' : zr S.1 (A j / 2) = true := by rw [s3]; exact v1
      have v2' : zh S.1 (A j / 2) (1 + A j % 2) = true := by rw [s4]; exact v2
      have hclosed : zo S.1 (A j / 2) (1 + A j % 2) = false := by
        cases ho : zo S.1 (A j / 2) (1 + A j % 2) with
        | false => rfl
        | true => exact absurd (k4 _ _ (by omega) ho) q
      have hlo := za_lo k1 (by omega) v2'
      rw [← s5]
      refine ⟨zwf_door k1 (by omega) v1' v2' true, ?_, zJ_b k3 _ _, ?_, ?_⟩
      · intro k hk
        show upd S.1 _ 1 k = now0 k
        rw [pk_un (by omega)]; exact k2 k hk
      · intro c d hd4 ho
        replace ho : zo (upd S.1 (za S.1 (A j / 2) (1 + A j % 2)) 1) c d = true := ho
        show zJ _ _ _ c = zJ _ _ _ (zN (zw now0) c d)
        rw [zo_set k1 (by omega) v1' v2' 1 c d hd4] at ho
        by_cases e : (c = A j / 2 ∧ d = 1 + A j % 2) ∨ (c = zN (zw S.1) (A j / 2) (1 + A j % 2) ∧ d = zO (1 + A j % 2))
        · rw [zJ_iff]
          right
          rcases e with ⟨rfl, rfl⟩ | ⟨rfl, rfl⟩
          · exact ⟨Or.inl rfl, Or.inr rfl⟩
          · have hb := (zh_back k1 (by omega) v1' v2').2.2.1
            rw [s2] at hb ⊢
            rw [hb]
            exact ⟨Or.inr rfl, Or.inl rfl⟩
        · rw [if_neg e] at ho
          exact zJ_eq (k4 c d hd4 ho)
      · show zod (upd S.1 _ 1) = S.2.2 + 1
        rw [zod_set k1 hd v1' v2' hclosed, k5]
theorem c_join (hN : 1000 ≤ N) {lab : Nat → Int32} {l : Nat → Nat} (hl : ∀ c, c < 210 → lab c = nI (l c)) (hb : ∀ c, c < 210 → l c < 2 ^ 31) {a b : Nat} (ha : a < 210) (hb2 : b < 210) :
    ∃ lab', f_X3_join N lab (nI a) (nI b) = some (if l a = l b then 0 else 1, lab') ∧ ∀ c, c < 210 → lab' c = nI (if l a = l b then l c else zK l (l a) (l b) c) := by
  unfold f_X3_join
  rw [at_lt lab (by decide) ha, at_lt lab (by decide) hb2, hl a ha, hl b hb2]
  by_cases q : l a = l b
  · rw [if_pos (by rw [q]), if_pos q]
    refine ⟨lab, rfl, fun c hc => ?_⟩
    rw [if_pos q]; exact hl c hc
  · rw [if_neg (fun e => q ((nI_eq (hb a ha) (hb b hb2)).mp e)), if_neg q]
    have key : ∀ k, k ≤ 210 → ∀ F, 210 - k < F → ∀ D, (∀ c, c < 210 → D c = nI (if c < k ∧ l c = l b then l a else l c)) → ∃ lab', b_X3_join_30 N (nI a) (nI b) F (nI (l a)) (nI (l b)) (nI k) D = some (1, lab') ∧ ∀ c, c < 210 → lab' c = nI (if l a = l b then l c else zK l (l a) (l b) c) := by
      refine dn 210 ?_ ?_
      · intro F hF D hD
        obtain ⟨F, rfl⟩ : ∃ G, F = G + 1 := ⟨F - 1, by omega⟩
        rw [b_X3_join_30, if_pos (show (210 : Int32) ≤ nI 210 by decide)]
        refine ⟨D, rfl, fun c hc => ?_⟩
        rw [hD c hc, if_neg q]
        unfold zK
        by_cases e : l c = l b
        · rw [if_pos ⟨hc, e⟩, if_pos e]
        · rw [if_neg (fun x => e x.2), if_neg e]
      · intro k hk ih F hF D hD
        obtain ⟨F, rfl⟩ : ∃ G, F = G + 1 := ⟨F - 1, by omega⟩
        rw [b_X3_join_30, if_neg (show ¬ (210 : Int32) ≤ nI k from nI_ge (b := 210) hk (by decide)), at_lt D (by decide) hk, show D k = nI (l k) by rw [hD k hk, if_neg (fun e => Nat.lt_irrefl _ e.1)], nI_1]
        by_cases e : l k = l b
        · rw [if_pos (by rw [e]), put_lt D _ (by decide) hk]
          refine ih F (by omega) _ (fun c hc => ?_)
          by_cases e2 : c = k
          · rw [e2, pk_us, if_pos ⟨Nat.lt_succ_self k, e⟩]
          · rw [pk_un e2, hD c hc]
            by_cases e3 : c < k ∧ l c = l b
            · rw [if_pos e3, if_pos ⟨by omega, e3.2⟩]
            · rw [if_neg e3, if_neg (fun x => e3 ⟨by omega, x.2⟩)]
        · rw [if_neg (fun x => e ((nI_eq (hb k hk) (hb b hb2)).mp x))]
          refine ih F (by omega) _ (fun c hc => ?_)
          rw [hD c hc]
          by_cases e3 : c < k ∧ l c = l b
          · rw [if_pos e3, if_pos ⟨by omega, e3.2⟩]
          · rw [if_neg e3]
            by_cases e4 : c = k
            · rw [if_neg (fun x => e (by rw [← e4]; exact x.2))]
            · rw [if_neg (fun x => e3 ⟨by omega, x.2⟩)]
    exact key 0 (by omega) N (by omega) lab (fun c hc => by rw [if_neg (fun e => Nat.not_lt_zero _ e.1)]; exact hl c hc)
theorem zcode_at (q : Nat) (hq : q < 420) : nI (zcode q) >>> ((2 : Int32) &&& 31) = nI (q / 2) ∧ nI (zcode q) &&& (3 : Int32) = nI (1 + q % 2) := by
  unfold zcode
  constructor
  · rw [pk_shrN (by omega) _ 2 (by decide)]
    exact congrArg nI (by omega)
  · rw [pk_andN (by omega) 2 (by decide)]
    exact congrArg nI (by omega)
theorem c_kr (h0 : zwf now0) (hA : ∀ j, j < m → zvd now0 (A j) = true ∧ A j < 420) (hz : zod now0 = 0) (hcl : ∀ c d, d < 4 → zo now0 c d = false) (hm : m ≤ 420) (hN : 1000 ≤ N) (va2 : Int32) (cz : Int32) {o : Nat → Int32} (ho : ∀ j, j < m → o j = nI (zcode (A j))) :
    ∀ k, k ≤ m → ∀ F, m - k < F → ∀ (lab op : Nat → Int32) (cl : Nat → Nat), (∀ c, c < 210 → lab c = nI (cl c)) → (∀ c, c < 210 → cl c < 2 ^ 31) →
      (∀ a b, a < 210 → b < 210 → (cl a = cl b ↔ (zKr (zw now0) (za now0) A now0 k).2.1 a = (zKr (zw now0) (za now0) A now0 k).2.1 b)) → (∀ c, c < 210 → op c = nI (zmf (zo (zKr (zw now0) (za now0) A now0 k).1 c))) →
      ∃ lab' op', b_X3_openFrom_61 N (nI (zw now0)) ow va2 F (nI m) (nI (zKr (zw now0) (za now0) A now0 k).2.2) (nI k) cz o lab op = some (nI (zKr (zw now0) (za now0) A now0 m).2.2, cz, o, lab', op') ∧ ∀ c, c < 210 → op' c = nI (zmf (zo (zKr (zw now0) (za now0) A now0 m).1 c)) := by
  refine dn m ?_ ?_
  · intro F hF lab op cl h1 h2 h3 h4
    obtain ⟨F, rfl⟩ : ∃ G, F = G + 1 := ⟨F - 1, by omega⟩
    rw [b_X3_openFrom_61, if_pos (nI_le (Nat.le_refl _) (by omega))]
    exact ⟨lab, op, rfl, h4⟩
  · intro k hk ih F hF lab op cl h1 h2 h3 h4
    obtain ⟨F, rfl⟩ : ∃ G, F = G + 1 := ⟨F - 1, by omega⟩
    obtain ⟨hv, hq⟩ := hA k hk
    obtain ⟨c1, c2⟩ := zcode_at (A k) hq
    obtain ⟨k1, k2, k3, k4, k5⟩ := zKI_s h0 (fun j hj => (hA j hj).1) hz hcl k (by omega)
    have hih := ih F (by omega)
    rw [zKr] at hih
    generalize hS : zKr (zw now0) (za now0) A now0 k = S at *
    unfold zvd at hv
    rw [Bool.and_eq_true] at hv
    obtain ⟨v1, v2⟩ := hv
    obtain ⟨s1, s2, s3, s4, s5⟩ := zsame h0 (now' := S.1) (fun k hk => k2 k (Or.inl (by omega)))
    have v1' : zr S.1 (A k / 2) = true := by rw [s3]; exact v1
    have v2' : zh S.1 (A k / 2) (1 + A k % 2) = true := by rw [s4]; exact v2
    have r1 := zr_210 h0 v1
    have r2 := zr_210 h0 (zh_back h0 (by omega) v1 v2).1
    obtain ⟨lab', e1, e2⟩ := c_join hN h1 h2 r1 r2
    rw [b_X3_openFrom_61, if_neg (nI_ge hk (by omega)), if_neg (show ¬ (420 : Int32) ≤ nI k from nI_ge (b := 420) (by omega) (by decide)), at_lt o (by decide) (show k < 420 by omega), ho k hk, c1, c2, c_stride h0 (by omega) v2, bnd2_e e1, nI_1]
    by_cases q : cl (A k / 2) = cl (zN (zw now0) (A k / 2) (1 + A k % 2))
    · rw [if_pos q, if_pos rfl]
      rw [if_pos ((h3 _ _ r1 r2).mp q)] at hih
      refine hih lab' op cl (fun c hc => ?_) h2 h3 h4
      rw [e2 c hc, if_pos q]
    · rw [if_neg q, if_neg (by decide)]
      rw [if_neg (fun e => q ((h3 _ _ r1 r2).mpr e))] at hih
      rw [nI_1]
      refine hih lab' _ (zK cl (cl (A k / 2)) (cl (zN (zw now0) (A k / 2) (1 + A k % 2)))) (fun c hc => ?_) (fun c hc => ?_) (fun a b ha hb => ?_) ?_
      · rw [e2 c hc, if_neg q]
      · unfold zK
        by_cases e : cl c = cl (zN (zw now0) (A k / 2) (1 + A k % 2))
        · rw [if_pos e]; exact h2 _ r1
        · rw [if_neg e]; exact h2 _ hc
      · show zK cl _ _ a = zK cl _ _ b ↔ zJ S.2.1 _ _ a = zJ S.2.1 _ _ b
        rw [zK_iff, zJ_iff, h3 a b ha hb, h3 a _ ha r1, h3 a _ ha r2, h3 b _ hb r1, h3 b _ hb r2]
      · have := c_setDoor k1 h4 (by omega : 1 + A k % 2 < 4) v1' v2' true
        rw [s2, s5] at this
        exact this
theorem c_openFrom (h0 : zwf now0) (hs : zsh now0 w cc rc dc lo ow) (hz : zod now0 = 0) (hcl : ∀ c d, d < 4 → zo now0 c d = false) (hN : 1000 ≤ N) {seed : Nat} (hseed : seed < 65537) (cz : Int32) (o lab op : Nat → Int32) :
    ∃ z' o' lab' op', f_X3_openFrom N cz o lab w ow op (nI seed) = some (nI (zKr (zw now0) (za now0) (zShf (zCt (zvd now0) 420 - 1) seed (zDa (zvd now0) 420)) now0 (zCt (zvd now0) 420)).2.2, z', o', lab', op') ∧
      ∀ c, c < 210 → op' c = nI (zmf (zo (zKr (zw now0) (za now0) (zShf (zCt (zvd now0) 420 - 1) seed (zDa (zvd now0) 420)) now0 (zCt (zvd now0) 420)).1 c)) := by
  have hm := zCt_le (zvd now0) 420
  have ew : w = nI (zw now0) := hs.1
  obtain ⟨o1, e1, e2⟩ := c_listDoors h0 hs hN o
  obtain ⟨z2, o2, e3, e4⟩ := c_shuffle hN hm seed (zDa (zvd now0) 420) o1 hseed e2
  have hA : ∀ j, j < zCt (zvd now0) 420 → zvd now0 (zShf (zCt (zvd now0) 420 - 1) seed (zDa (zvd now0) 420) j) = true ∧ zShf (zCt (zvd now0) 420 - 1) seed (zDa (zvd now0) 420) j < 420 := by
    intro j hj
    exact zShf_ok (p := fun q => zvd now0 q = true ∧ q < 420) (m := zCt (zvd now0) 420) (zCt (zvd now0) 420 - 1) seed (zDa (zvd now0) 420) (by omega) (fun j hj => zDa_ok (zvd now0) 420 j hj) j hj
  unfold f_X3_openFrom
  rw [bnd1_e (fill_4 (by decide) (by omega) op 0), bnd2_e e1, bnd2_e e3]
  have key : ∀ k, k ≤ 210 → ∀ F, 210 - k < F → ∀ D, (∀ c, c < k → D c = nI c) → ∃ z' o' lab' op', b_X3_openFrom_30 N w ow (nI seed) F (nI (zCt (zvd now0) 420)) (nI k) z2 o2 D (ffill 210 0 op) = some (nI (zKr (zw now0) (za now0) (zShf (zCt (zvd now0) 420 - 1) seed (zDa (zvd now0) 420)) now0 (zCt (zvd now0) 420)).2.2, z', o', lab', op') ∧
      ∀ c, c < 210 → op' c = nI (zmf (zo (zKr (zw now0) (za now0) (zShf (zCt (zvd now0) 420 - 1) seed (zDa (zvd now0) 420)) now0 (zCt (zvd now0) 420)).1 c)) := by
    refine dn 210 ?_ ?_
    · intro F hF D hD
      obtain ⟨F, rfl⟩ : ∃ G, F = G + 1 := ⟨F - 1, by omega⟩
      rw [b_X3_openFrom_30, if_pos (show (210 : Int32) ≤ nI 210 by decide), ew]
      obtain ⟨lab', op', f1, f2⟩ := c_kr (ow := ow) (A := zShf (zCt (zvd now0) 420 - 1) seed (zDa (zvd now0) 420)) h0 hA hz hcl hm hN (nI seed) z2 e4 0 (Nat.zero_le _) N (by omega) D (ffill 210 0 op) (fun c => c) (fun c hc => hD c hc) (fun c hc => by omega) (fun a b _ _ => Iff.rfl) (fun c hc => by
        rw [ffill_lt hc]
        show 0 = nI (zm4 (zo now0 c 0) (zo now0 c 1) (zo now0 c 2) (zo now0 c 3))
        rw [hcl c 0 (by decide), hcl c 1 (by decide), hcl c 2 (by decide), hcl c 3 (by decide)]; rfl)
      exact ⟨z2, o2, lab', op', f1, f2⟩
    · intro k hk ih F hF D hD
      obtain ⟨F, rfl⟩ : ∃ G, F = G + 1 := ⟨F - 1, by omega⟩
      rw [b_X3_openFrom_30, if_neg (show ¬ (210 : Int32) ≤ nI k from nI_ge (b := 210) hk (by decide)), put_lt D _ (by decide) hk, nI_1]
      refine ih F (by omega) _ (fun c hc => ?_)
      by_cases q : c = k
      · rw [q, pk_us]
      · rw [pk_un q]; exact hD c (by omega)
  exact key 0 (by omega) N (by omega) lab (fun c hc => absurd hc (Nat.not_lt_zero c))
-- the model
theorem m_kr (h0 : zwf now0) (hA : ∀ j, j < m → zvd now0 (A j) = true ∧ A j < 420) (hz : zod now0 = 0) (hcl : ∀ c d, d < 4 → zo now0 c d = false) (hm : m ≤ 420) (hN : 1000 ≤ N) (va1 cs cz : Int32) (past : Nat → Int32) {o : Nat → Int32} (ho : ∀ j, j < m → o j = nI (A j)) :
    ∀ k, k ≤ m → ∀ F, m - k < F → ∀ (lab now : Nat → Int32), (∀ c, c < 6 * zw now0 → lab c = nI ((zKr (zw now0) (za now0) A now0 k).2.1 c)) → now = (zKr (zw now0) (za now0) A now0 k).1 →
      ∃ lab', b_X11_make_107 N va1 F (nI k) cs (nI m) cz now past o lab = some (nI (zKr (zw now0) (za now0) A now0 m).2.2, cs, nI m, cz, (zKr (zw now0) (za now0) A now0 m).1, past, o, lab') := by
  have hwl := zwf_w h0
  refine dn m ?_ ?_
  · intro F hF lab now h1 h2
    obtain ⟨F, rfl⟩ : ∃ G, F = G + 1 := ⟨F - 1, by omega⟩
    obtain ⟨k1, k2, k3, k4, k5⟩ := zKI_s h0 (fun j hj => (hA j hj).1) hz hcl m (by omega)
    rw [b_X11_make_107, if_pos (nI_le (Nat.le_refl _) (by omega)), h2, bnd1_e (m_openDoors k1 hN), k5]
    exact ⟨lab, rfl⟩
  · intro k hk ih F hF lab now h1 h2
    obtain ⟨F, rfl⟩ : ∃ G, F = G + 1 := ⟨F - 1, by omega⟩
    obtain ⟨hv, hq⟩ := hA k hk
    obtain ⟨k1, k2, k3, k4, k5⟩ := zKI_s h0 (fun j hj => (hA j hj).1) hz hcl k (by omega)
    have hih := ih F (by omega)
    rw [zKr] at hih
    generalize hS : zKr (zw now0) (za now0) A now0 k = S at *
    unfold zvd at hv
    rw [Bool.and_eq_true] at hv
    obtain ⟨v1, v2⟩ := hv
    obtain ⟨s1, s2, s3, s4, s5⟩ := zsame h0 (now' := S.1) (fun k hk => k2 k (Or.inl (by omega)))
    have v1' : zr S.1 (A k / 2) = true := by rw [s3]; exact v1
    have v2' : zh S.1 (A k / 2) (1 + A k % 2) = true := by rw [s4]; exact v2
    have r1 := zr_210 h0 v1
    have hb1 := (zh_back h0 (by omega) v1 v2).1
    have r2 := zr_210 h0 hb1
    have l1 := zr_lt v1
    have l2 := zr_lt hb1
    have hbs : f_X11_beside now (nI (A k / 2)) (nI (1 + A k % 2)) = some (nI (zN (zw now0) (A k / 2) (1 + A k % 2))) := by
      rw [h2, m_beside k1 (by rw [s2]; exact l1) (by omega), if_pos v2', s2]
    obtain ⟨d1, d2, d3⟩ := m_doorAt k1 (by omega : 1 + A k % 2 < 4) v2'
    have b1 := k3 (A k / 2)
    have b2 := k3 (zN (zw now0) (A k / 2) (1 + A k % 2))
    rw [b_X11_make_107, if_neg (nI_ge hk (by omega)), nI_clamp (show k < 2 ^ 31 by omega), if_neg (zck (show k < 420 by omega) (by decide)), if_neg (zck (show k < 420 by omega) (by decide)), ho k hk, zrem2 (by omega), zdiv2 (by omega),
      show (1 : Int32) + nI (A k % 2) = nI (1 + A k % 2) from nI_add 1 _, bnd1_e hbs, nI_clamp (show A k / 2 < 2 ^ 31 by omega), if_neg (zck r1 (by decide)), nI_clamp (show zN (zw now0) (A k / 2) (1 + A k % 2) < 2 ^ 31 by omega), if_neg (zck r2 (by decide)), h1 _ l1, h1 _ l2, nI_1]
    by_cases q : S.2.1 (A k / 2) = S.2.1 (zN (zw now0) (A k / 2) (1 + A k % 2))
    · rw [if_pos (by rw [q])]
      rw [if_pos q] at hih
      exact hih lab now h1 h2
    · rw [if_neg (fun e => q ((nI_eq (by omega) (by omega)).mp e))]
      rw [if_neg q] at hih
      have hw1 := zwf_door k1 (by omega) v1' v2' true
      have hwd : zw (upd S.1 (za S.1 (A k / 2) (1 + A k % 2)) (zi true)) = zw now0 := by
        rw [(zsame k1 (zupd_lo (by omega))).2.1, s2]
      obtain ⟨lab', e1, e2⟩ := m_joinsTwo hw1 hN (lab := lab) (l := S.2.1) (fun c hc => h1 c (by rw [← hwd]; exact hc)) (fun c hc => by have := k3 c; have := hwd; omega) (a := S.2.1 (A k / 2)) (b := S.2.1 (zN (zw now0) (A k / 2) (1 + A k % 2))) (by omega) (by omega)
      rw [h2, d1, nI_clamp (show za S.1 (A k / 2) (1 + A k % 2) < 2 ^ 31 by omega), if_neg (zck (show za S.1 (A k / 2) (1 + A k % 2) < 639 by omega) (by decide)), if_neg (zck r1 (by decide)), if_neg (zck r2 (by decide)), bnd1_e (show f_X11_joinsTwo N (upd S.1 (za S.1 (A k / 2) (1 + A k % 2)) 1) lab _ _ = some lab' from e1)]
      refine hih lab' _ (fun c hc => ?_) ?_
      · exact e2 c (by rw [hwd]; exact hc)
      · show _ = upd S.1 (za now0 (A k / 2) (1 + A k % 2)) 1
        rw [s5]
theorem m_shuf (h0 : zwf now0) (hN : 1000 ≤ N) (hm : m ≤ 420) (va1 cs : Int32) (past lab : Nat → Int32) {R : Option (Int32 × Int32 × Int32 × Int32 × (Nat → Int32) × (Nat → Int32) × (Nat → Int32) × (Nat → Int32)) → Prop} {Az : Nat → Nat}
    (hR : ∀ z' o' lab', (∀ j, j < m → o' j = nI (Az j)) → (∀ c, c < 6 * zw now0 → lab' c = nI (zL (zo now0) (zN (zw now0)) c)) → R (b_X11_make_107 N va1 N 0 cs (nI m) z' now0 past o' lab')) :
    ∀ k F, k < F → ∀ z (A : Nat → Nat) (o : Nat → Int32), (k < m ∨ k = 0) → z < 65537 → (∀ j, j < m → o j = nI (A j)) → zShf k z A = Az → R (b_X11_make_55 N va1 F (nI k) cs (nI m) (nI z) now0 past o lab) := by
  intro k
  induction k with
  | zero =>
    intro F hF z A o _ _ ho hAz
    obtain ⟨F, rfl⟩ : ∃ G, F = G + 1 := ⟨F - 1, by omega⟩
    obtain ⟨lab', e1, e2⟩ := m_labels h0 hN lab
    rw [b_X11_make_55, if_pos (show nI 0 ≤ 0 by decide), bnd1_e e1]
    exact hR (nI z) o lab' (by rw [← hAz]; exact ho) e2
  | succ k ih =>
    intro F hF z A o hk hz ho hAz
    obtain ⟨F, rfl⟩ : ∃ G, F = G + 1 := ⟨F - 1, by omega⟩
    have hk : k + 1 < m := by omega
    have hmod := Nat.mod_lt (zZ z) (show 0 < k + 2 by omega)
    have hzl := zZ_lt z
    have ed : f_X11_draw (nI z) (nI (k + 1) + 1) = some (nI (zZ z % (k + 2)), nI (zZ z)) := by
      unfold f_X11_draw
      rw [nI_1, if_neg (nI_ne0 (by omega) (by omega)), zdraw hz]
      exact congrArg (fun x => some (x, nI (zZ z))) (pk_rem (by omega) (by omega) (by omega))
    rw [b_X11_make_55, if_neg (nI_nle (by omega) (by omega)), bnd2_e ed, nI_clamp (show k + 1 < 2 ^ 31 by omega), nI_clamp (show zZ z % (k + 2) < 2 ^ 31 by omega), if_neg (zck (show k + 1 < 420 by omega) (by decide)), if_neg (zck (show zZ z % (k + 2) < 420 by omega) (by decide)),
      if_neg (zck (show k + 1 < 420 by omega) (by decide)), if_neg (zck (show zZ z % (k + 2) < 420 by omega) (by decide)), pk_m1]
    exact ih F (by omega) (zZ z) (zSw A (k + 1) (zZ z % (k + 2))) _ (by omega) hzl (zSw_row (g := fun q => q) ho hk (by omega)) hAz
/-- the row with all doors closed -/
def zclr (now : Nat → Int32) : Nat → Int32 := fun k => if 9 ≤ k ∧ k < 429 then 0 else now k
theorem zclr_lo {now : Nat → Int32} : ∀ k, k < 7 → zclr now k = now k := fun k hk => if_neg (by omega)
theorem zclr_wf {now : Nat → Int32} (h : zwf now) : zwf (zclr now) := by
  have e : ∀ k, k < 9 ∨ 429 ≤ k → zclr now k = now k := fun k hk => if_neg (by omega)
  refine zwf_of h (fun k hk => e k (by omega)) ?_ ?_ ?_ ?_ ?_ ?_
  · rw [e 7 (by omega)]; exact h.2.2.1
  · rw [e 8 (by omega)]; exact h.2.2.2.1
  · intro c hc; exact Or.inl (if_pos (by omega))
  · intro c hc; exact Or.inl (if_pos (by omega))
  · intro c hc; rw [e _ (by omega)]; exact h.2.2.2.2.2.2.1 c hc
  · rw [zCt_congr (q := fun c => decide (now (429 + c) ≠ 0)) 210 (fun c hc => by rw [e _ (by omega)])]
    exact h.2.2.2.2.2.2.2
theorem zclr_o {now : Nat → Int32} (h : zwf now) : ∀ c d, d < 4 → zo (zclr now) c d = false := by
  intro c d hd
  cases ho : zo (zclr now) c d with
  | false => rfl
  | true =>
    obtain ⟨h1, h2⟩ := zo_h.mp ho
    obtain ⟨l1, l2⟩ := za_lo (zclr_wf h) hd h1
    have : zclr now (za (zclr now) c d) = 0 := if_pos ⟨l1, l2⟩
    rw [this] at h2; exact absurd h2 (by decide)
theorem zclr_d {now : Nat → Int32} (h : zwf now) : zod (zclr now) = 0 := by
  unfold zod
  have e : ∀ d, d < 4 → zCt (fun c => zo (zclr now) c d) 210 = 0 := fun d hd => by
    rw [zCt_congr (q := fun _ => false) 210 (fun c _ => zclr_o h c d hd)]; exact zS_0 210
  rw [e 1 (by decide), e 2 (by decide)]
/-- the row after 'make' -/
noncomputable def zmk (now : Nat → Int32) (seed : Nat) : (Nat → Int32) × (Nat → Nat) × Nat := zKr (zw now) (za (zclr now)) (zShf (zCt (zvd (zclr now)) 420 - 1) seed (zDa (zvd (zclr now)) 420)) (zclr now) (zCt (zvd (zclr now)) 420)
theorem zclr_w {now : Nat → Int32} (h : zwf now) : zw (zclr now) = zw now := (zsame h zclr_lo).2.1
theorem zmk_A {now : Nat → Int32} {seed : Nat} : ∀ j, j < zCt (zvd (zclr now)) 420 → zvd (zclr now) (zShf (zCt (zvd (zclr now)) 420 - 1) seed (zDa (zvd (zclr now)) 420) j) = true ∧ zShf (zCt (zvd (zclr now)) 420 - 1) seed (zDa (zvd (zclr now)) 420) j < 420 := by
  intro j hj
  exact zShf_ok (p := fun q => zvd (zclr now) q = true ∧ q < 420) (m := zCt (zvd (zclr now)) 420) (zCt (zvd (zclr now)) 420 - 1) seed (zDa (zvd (zclr now)) 420) (by omega) (fun j hj => zDa_ok (zvd (zclr now)) 420 j hj) j hj
theorem zmk_ok {now : Nat → Int32} (h : zwf now) (seed : Nat) : zKI (zclr now) (zmk now seed) := by
  unfold zmk
  rw [← zclr_w h]
  exact zKI_s (zclr_wf h) (fun j hj => (zmk_A j hj).1) (zclr_d h) (zclr_o h) _ (Nat.le_refl _)
theorem m_make (hN : 1000 ≤ N) {now : Nat → Int32} (h : zwf now) (va1 cs dm dr : Int32) (past o lab : Nat → Int32) {seed : Nat} (hv : va1 = nI seed) (hseed : seed < 65537) :
    ∃ dm' dr' o' lab', b_X11_make_19 N va1 N 9 cs dm dr now past o lab = some (nI (zmk now seed).2.2, cs, dm', dr', (zmk now seed).1, past, o', lab') := by
  have hw0 := zclr_wf h
  have hm := zCt_le (zvd (zclr now)) 420
  have key : ∀ k, k ≤ 420 → ∀ F, 420 - k < F → ∀ D, (∀ j, D j = if 9 ≤ j ∧ j < 9 + k then 0 else now j) → ∃ dm' dr' o' lab', b_X11_make_19 N va1 F (nI (9 + k)) cs dm dr D past o lab = some (nI (zmk now seed).2.2, cs, dm', dr', (zmk now seed).1, past, o', lab') := by
    refine dn 420 ?_ ?_
    · intro F hF D hD
      obtain ⟨F, rfl⟩ : ∃ G, F = G + 1 := ⟨F - 1, by omega⟩
      have e : D = zclr now := by funext j; rw [hD j]; rfl
      subst e
      obtain ⟨o1, e1, e2⟩ := m_countsDoors hw0 hN dm o
      rw [b_X11_make_19, if_pos (show (429 : Int32) ≤ nI (9 + 420) by decide), bnd2_e e1, hv]
      have hR : ∀ z' o' lab', (∀ j, j < zCt (zvd (zclr now)) 420 → o' j = nI (zShf (zCt (zvd (zclr now)) 420 - 1) seed (zDa (zvd (zclr now)) 420) j)) → (∀ c, c < 6 * zw (zclr now) → lab' c = nI (zL (zo (zclr now)) (zN (zw (zclr now))) c)) → ∃ dm' dr' o'' lab'', b_X11_make_107 N (nI seed) N 0 cs (nI (zCt (zvd (zclr now)) 420)) z' (zclr now) past o' lab' = some (nI (zmk now seed).2.2, cs, dm', dr', (zmk now seed).1, past, o'', lab'') := by
        intro z' o' lab' p1 p2
        have hlab : ∀ n, zLab (zo (zclr now)) (zN (zw (zclr now))) n = fun c => c := by
          intro n
          induction n with
          | zero => rfl
          | succ n ih =>
            rw [zLab, ih]
            unfold zLs
            rw [zclr_o h n 1 (by decide), zclr_o h n 2 (by decide)]; rfl
        obtain ⟨lab'', f1⟩ := m_kr (A := zShf (zCt (zvd (zclr now)) 420 - 1) seed (zDa (zvd (zclr now)) 420)) hw0 zmk_A (zclr_d h) (zclr_o h) hm hN (nI seed) cs z' past p1 0 (Nat.zero_le _) N (by omega) lab' (zclr now) (fun c hc => by
          rw [p2 c hc, zL_eq, hlab]; rfl) rfl
        unfold zmk
        rw [← zclr_w h]
        exact ⟨_, _, _, lab'', f1⟩
      rcases Nat.eq_zero_or_pos (zCt (zvd (zclr now)) 420) with q | q
      · have hb : b_X11_make_55 N (nI seed) N (nI (zCt (zvd (zclr now)) 420) - 1) cs (nI (zCt (zvd (zclr now)) 420)) (nI seed) (zclr now) past o1 lab = b_X11_make_55 N (nI seed) N (nI 0) cs (nI (zCt (zvd (zclr now)) 420)) (nI seed) (zclr now) past o1 lab := by
          obtain ⟨M, rfl⟩ : ∃ M, N = M + 1 := ⟨N - 1, by omega⟩
          rw [b_X11_make_55, b_X11_make_55, if_pos (show nI (zCt (zvd (zclr now)) 420) - (1 : Int32) ≤ 0 by rw [q]; decide), if_pos (show nI 0 ≤ 0 by decide)]
        rw [hb]
        exact m_shuf (R := fun x => ∃ dm' dr' o'' lab'', x = some (nI (zmk now seed).2.2, cs, dm', dr', (zmk now seed).1, past, o'', lab'')) hw0 hN hm (nI seed) cs past lab hR 0 N (by omega) seed (zDa (zvd (zclr now)) 420) o1 (Or.inr rfl) hseed e2 (by rw [q])
      · rw [show nI (zCt (zvd (zclr now)) 420) - (1 : Int32) = nI (zCt (zvd (zclr now)) 420 - 1) from pk_sub (b := 1) q]
        exact m_shuf (R := fun x => ∃ dm' dr' o'' lab'', x = some (nI (zmk now seed).2.2, cs, dm', dr', (zmk now seed).1, past, o'', lab'')) hw0 hN hm (nI seed) cs past lab hR (zCt (zvd (zclr now)) 420 - 1) N (by omega) seed (zDa (zvd (zclr now)) 420) o1 (by omega) hseed e2 rfl
    · intro k hk ih F hF D hD
      obtain ⟨F, rfl⟩ : ∃ G, F = G + 1 := ⟨F - 1, by omega⟩
      rw [b_X11_make_19, if_neg (show ¬ (429 : Int32) ≤ nI (9 + k) from nI_ge (b := 429) (by omega) (by decide)), nI_clamp (show 9 + k < 2 ^ 31 by omega), if_neg (zck (show 9 + k < 639 by omega) (by decide)), nI_1]
      refine ih F (by omega) _ (fun j => ?_)
      by_cases q : j = 9 + k
      · rw [q, pk_us, if_pos (by omega)]
      · rw [pk_un q, hD j]
        by_cases q2 : 9 ≤ j ∧ j < 9 + k
        · rw [if_pos q2, if_pos (by omega)]
        · rw [if_neg q2, if_neg (by omega)]
  exact key 0 (by omega) N (by omega) now (fun j => by rw [if_neg (by omega)])
end KRU

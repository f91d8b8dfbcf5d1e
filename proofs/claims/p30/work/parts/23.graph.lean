-- sums, and the spreading from a room over a graph
def zS (f : Nat → Nat) : Nat → Nat
  | 0 => 0
  | n + 1 => zS f n + f n
theorem zS_congr {f g : Nat → Nat} : ∀ n, (∀ c, c < n → f c = g c) → zS f n = zS g n
  | 0, _ => rfl
  | n + 1, h => by rw [zS, zS, zS_congr n (fun c hc => h c (by omega)), h n (by omega)]
theorem zS_le {f g : Nat → Nat} : ∀ n, (∀ c, c < n → f c ≤ g c) → zS f n ≤ zS g n
  | 0, _ => Nat.le_refl _
  | n + 1, h => by
    have h1 := zS_le n (fun c hc => h c (by omega))
    have h2 := h n (by omega)
    rw [zS, zS]; omega
theorem zS_add (f g : Nat → Nat) : ∀ n, zS (fun c => f c + g c) n = zS f n + zS g n
  | 0 => rfl
  | n + 1 => by rw [zS, zS, zS, zS_add f g n]; omega
theorem zS_0 : ∀ n, zS (fun _ => 0) n = 0
  | 0 => rfl
  | n + 1 => by rw [zS, zS_0 n]
theorem zS_eq {f g : Nat → Nat} : ∀ n, (∀ c, c < n → f c ≤ g c) → zS f n = zS g n → ∀ c, c < n → f c = g c
  | 0, _, _ => fun c hc => by omega
  | n + 1, h, e => fun c hc => by
    have h1 := zS_le n (fun c hc => h c (by omega))
    have h2 := h n (by omega)
    rw [zS, zS] at e
    rcases Nat.lt_or_ge c n with q | q
    · exact zS_eq n (fun c hc => h c (by omega)) (by omega) c q
    · have : c = n := by omega
      subst this; omega
theorem zS_cut {f : Nat → Nat} (a : Nat) : ∀ b, (∀ c, a ≤ c → c < a + b → f c = 0) → zS f (a + b) = zS f a
  | 0, _ => rfl
  | b + 1, h => by
    rw [show a + (b + 1) = (a + b) + 1 from rfl, zS, zS_cut a b (fun c h1 h2 => h c h1 (by omega)), h (a + b) (by omega) (by omega)]; rfl
theorem zS_front {f : Nat → Nat} (s : Nat) : ∀ n, zS f (s + n) = zS f s + zS (fun c => f (c + s)) n
  | 0 => rfl
  | n + 1 => by
    rw [show s + (n + 1) = (s + n) + 1 from rfl, zS, zS_front s n, zS, show n + s = s + n by omega]; omega
/-- a sum shifted: what stands below s, and from n on, is 0 -/
theorem zS_shift {f : Nat → Nat} (s n : Nat) (h1 : ∀ c, c < s → f c = 0) (h2 : ∀ c, n ≤ c → c < n + s → f c = 0) : zS (fun c => f (c + s)) n = zS f n := by
  have e1 := zS_front (f := f) s n
  have e2 := zS_cut (f := f) n s h2
  have e3 : zS f s = 0 := by rw [zS_congr s h1, zS_0]
  rw [show s + n = n + s by omega] at e1
  omega
theorem zS_up {f g : Nat → Nat} {r n : Nat} (hr : r < n) (h1 : g r = f r + 1) (h : ∀ c, c ≠ r → g c = f c) : zS g n = zS f n + 1 := by
  induction n with
  | zero => omega
  | succ n ih =>
    rw [zS, zS]
    rcases Nat.lt_or_ge r n with q | q
    · rw [ih q, h n (by omega)]; omega
    · have : r = n := by omega
      subst this
      rw [zS_congr r (fun c hc => h c (by omega)), h1]; omega
def zCt (p : Nat → Bool) (n : Nat) : Nat := zS (fun c => (p c).toNat) n
theorem zCt_s (p : Nat → Bool) (n : Nat) : zCt p (n + 1) = zCt p n + (p n).toNat := rfl
theorem zCt_le (p : Nat → Bool) (n : Nat) : zCt p n ≤ n := by
  have h := zS_le (f := fun c => (p c).toNat) (g := fun _ => 1) n (fun c _ => Bool.toNat_le (p c))
  have e : ∀ n, zS (fun _ => 1) n = n := by
    intro n
    induction n with
    | zero => rfl
    | succ n ih => rw [zS, ih]
  rw [e] at h
  exact h
theorem zCt_congr {p q : Nat → Bool} (n : Nat) (h : ∀ c, c < n → p c = q c) : zCt p n = zCt q n := zS_congr n (fun c hc => by rw [h c hc])
theorem zCt_lt {p : Nat → Bool} {r n : Nat} (hr : r < n) (h : p r = false) : zCt p n < n := by
  have e := zS_up (f := fun c => (p c).toNat) (g := fun c => if c = r then 1 else (p c).toNat) hr (by simp [h]) (fun c hc => by simp [hc])
  have h2 := zS_le (f := fun c => if c = r then 1 else (p c).toNat) (g := fun _ => 1) n (fun c _ => by
    by_cases q : c = r
    · simp [q]
    · simp only [if_neg q]; exact Bool.toNat_le (p c))
  have e1 : ∀ n, zS (fun _ => 1) n = n := by
    intro n
    induction n with
    | zero => rfl
    | succ n ih => rw [zS, ih]
  rw [e1] at h2
  unfold zCt
  omega
-- the graph
def zO (d : Nat) : Nat := (d + 2) % 4
theorem zO_lt (d : Nat) : zO d < 4 := Nat.mod_lt _ (by decide)
def zG (rm : Nat → Bool) (op : Nat → Nat → Bool) (nx : Nat → Nat → Nat) : Prop :=
  (∀ c d, d < 4 → op c d = true → rm c = true ∧ rm (nx c d) = true ∧ op (nx c d) (zO d) = true ∧ nx (nx c d) (zO d) = c) ∧ (∀ c, rm c = true → c < 210)
def zU (f : Nat → Nat) (k x : Nat) : Nat → Nat := fun j => if j = k then x else f j
theorem zU_s (f : Nat → Nat) (k x : Nat) : zU f k x k = x := if_pos rfl
theorem zU_n {f : Nat → Nat} {k x j : Nat} (h : j ≠ k) : zU f k x j = f j := if_neg h
abbrev zT : Type := (Nat → Nat) × (Nat → Nat) × Nat
def zReach (T : zT) (r v : Nat) : zT := if T.1 r = 0 then (zU T.1 r v, zU T.2.1 T.2.2 r, T.2.2 + 1) else T
def zDirs (op : Nat → Nat → Bool) (nx : Nat → Nat → Nat) (c : Nat) (T : zT) : Nat → zT
  | 0 => T
  | k + 1 => if op c k = true then zReach (zDirs op nx c T k) (nx c k) ((zDirs op nx c T k).1 c + 1) else zDirs op nx c T k
def zHead (op : Nat → Nat → Bool) (nx : Nat → Nat → Nat) (T : zT) : Nat → zT
  | 0 => T
  | h + 1 => if h < (zHead op nx T h).2.2 then zDirs op nx ((zHead op nx T h).2.1 h) (zHead op nx T h) 4 else zHead op nx T h
def z0 (src : Nat) : zT := (zU (fun _ => 0) src 1, zU (fun _ => 0) 0 src, 1)
/-- the spread from a room: distances, one more each, 0: not reached; the queue; its length -/
theorem zF_ex (op : Nat → Nat → Bool) (nx : Nat → Nat → Nat) (src : Nat) : ∃ T : zT, T = zHead op nx (z0 src) 210 := ⟨_, rfl⟩
noncomputable def zF (op : Nat → Nat → Bool) (nx : Nat → Nat → Nat) (src : Nat) : zT := Classical.choose (zF_ex op nx src)
theorem zF_eq (op : Nat → Nat → Bool) (nx : Nat → Nat → Nat) (src : Nat) : zF op nx src = zHead op nx (z0 src) 210 := Classical.choose_spec (zF_ex op nx src)
/-- while it spreads: heads below h are through, of the head h the directions below k -/
def zI (rm : Nat → Bool) (op : Nat → Nat → Bool) (nx : Nat → Nat → Nat) (src : Nat) (T : zT) (h k : Nat) : Prop :=
  T.1 src = 1 ∧ (∀ c, T.1 c = 1 → c = src) ∧ (∀ c, T.1 c ≠ 0 → rm c = true ∧ ∃ i, i < T.2.2 ∧ T.2.1 i = c) ∧ (∀ i, i < T.2.2 → T.1 (T.2.1 i) ≠ 0) ∧
  (∀ i j, i ≤ j → j < T.2.2 → T.1 (T.2.1 i) ≤ T.1 (T.2.1 j)) ∧ (∀ j, j < T.2.2 → h < T.2.2 → T.1 (T.2.1 j) ≤ T.1 (T.2.1 h) + 1) ∧
  (∀ i d, i < T.2.2 → d < 4 → (i < h ∨ (i = h ∧ d < k)) → op (T.2.1 i) d = true → T.1 (nx (T.2.1 i) d) ≠ 0 ∧ T.1 (nx (T.2.1 i) d) ≤ T.1 (T.2.1 i) + 1) ∧
  (∀ c, 2 ≤ T.1 c → ∃ d, d < 4 ∧ op c d = true ∧ T.1 (nx c d) + 1 = T.1 c) ∧ T.2.2 = zCt (fun c => decide (0 < T.1 c)) 210 ∧ (∀ i, i < T.2.2 → T.1 (T.2.1 i) ≤ i + 1)
theorem zI_0 {rm : Nat → Bool} {op : Nat → Nat → Bool} {nx : Nat → Nat → Nat} (hG : zG rm op nx) {src : Nat} (hs : rm src = true) : zI rm op nx src (z0 src) 0 0 := by
  have hE : ∀ c, (z0 src).1 c = if c = src then 1 else 0 := fun c => rfl
  have hQ : ∀ i, (z0 src).2.1 i = if i = 0 then src else 0 := fun c => rfl
  have hm : (z0 src).2.2 = 1 := rfl
  refine ⟨by simp [hE], ?_, ?_, ?_, ?_, ?_, ?_, ?_, ?_, ?_⟩
  · intro c h
    rw [hE] at h
    by_cases q : c = src
    · exact q
    · rw [if_neg q] at h; cases h
  · intro c h
    rw [hE] at h
    by_cases q : c = src
    · subst q; exact ⟨hs, 0, by rw [hm]; decide, by rw [hQ]; rfl⟩
    · rw [if_neg q] at h; exact absurd rfl h
  · intro i hi
    rw [hm] at hi
    have : i = 0 := by omega
    subst this
    rw [hQ, hE]; simp
  · intro i j hij hj
    rw [hm] at hj
    have h1 : j = 0 := by omega
    have h2 : i = 0 := by omega
    subst h1; subst h2; exact Nat.le_refl _
  · intro j hj h0
    rw [hm] at hj
    have h1 : j = 0 := by omega
    subst h1; omega
  · intro i d _ _ h; omega
  · intro c h
    rw [hE] at h
    by_cases q : c = src
    · rw [if_pos q] at h; omega
    · rw [if_neg q] at h; omega
  · rw [hm]
    have e := zS_up (f := fun _ => 0) (g := fun c => (decide (0 < (z0 src).1 c)).toNat) (r := src) (n := 210) (hG.2 src hs) (by simp [hE]) (fun c hc => by simp [hE, hc])
    rw [zS_0] at e
    exact e.symm
  · intro i hi
    rw [hm] at hi
    have : i = 0 := by omega
    subst this
    rw [hQ, hE]; simp
theorem zI_reach {rm : Nat → Bool} {op : Nat → Nat → Bool} {nx : Nat → Nat → Nat} (hG : zG rm op nx) {src h k : Nat} {T : zT} (H : zI rm op nx src T h k) (hm : h < T.2.2) (hk : k < 4) (ho : op (T.2.1 h) k = true) :
    zI rm op nx src (zReach T (nx (T.2.1 h) k) (T.1 (T.2.1 h) + 1)) h (k + 1) := by
  obtain ⟨Ia, Ib, Ic, Id, Ie, If, Ig, Ih, Ii, Ij⟩ := H
  obtain ⟨g1, g2, g3, g4⟩ := hG.1 _ _ hk ho
  unfold zReach
  by_cases hr : T.1 (nx (T.2.1 h) k) = 0
  · rw [if_pos hr]
    generalize hrr : nx (T.2.1 h) k = r at *
    have hc0 : T.1 (T.2.1 h) ≠ 0 := Id h hm
    have hne : ∀ c, T.1 c ≠ 0 → zU T.1 r (T.1 (T.2.1 h) + 1) c = T.1 c := fun c hc => zU_n (fun e => hc (by rw [e]; exact hr))
    have hq : ∀ i, i < T.2.2 → zU T.2.1 T.2.2 r i = T.2.1 i := fun i hi => zU_n (by omega)
    have hr210 := hG.2 r g2
    refine ⟨?_, ?_, ?_, ?_, ?_, ?_, ?_, ?_, ?_, ?_⟩
    · show zU T.1 r _ src = 1
      rw [hne src (by rw [Ia]; decide)]; exact Ia
    · intro c hc
      replace hc : zU T.1 r (T.1 (T.2.1 h) + 1) c = 1 := hc
      by_cases q : c = r
      · rw [q, zU_s] at hc; omega
      · rw [zU_n q] at hc; exact Ib c hc
    · intro c hc
      replace hc : zU T.1 r (T.1 (T.2.1 h) + 1) c ≠ 0 := hc
      by_cases q : c = r
      · rw [q]; exact ⟨g2, T.2.2, Nat.lt_succ_self _, zU_s _ _ _⟩
      · rw [zU_n q] at hc
        obtain ⟨h1, i, h2, h3⟩ := Ic c hc
        exact ⟨h1, i, Nat.lt_succ_of_lt h2, by show zU T.2.1 T.2.2 r i = c; rw [hq i h2]; exact h3⟩
    · intro i hi
      replace hi : i < T.2.2 + 1 := hi
      show zU T.1 r _ (zU T.2.1 T.2.2 r i) ≠ 0
      rcases Nat.lt_or_ge i T.2.2 with q | q
      · rw [hq i q, hne _ (Id i q)]; exact Id i q
      · have : i = T.2.2 := by omega
        rw [this, zU_s, zU_s]; omega
    · intro i j hij hj
      replace hj : j < T.2.2 + 1 := hj
      show zU T.1 r _ (zU T.2.1 T.2.2 r i) ≤ zU T.1 r _ (zU T.2.1 T.2.2 r j)
      rcases Nat.lt_or_ge j T.2.2 with q | q
      · rw [hq i (by omega), hq j q, hne _ (Id i (by omega)), hne _ (Id j q)]; exact Ie i j hij q
      · have ej : j = T.2.2 := by omega
        rw [ej, zU_s, zU_s]
        rcases Nat.lt_or_ge i T.2.2 with q2 | q2
        · rw [hq i q2, hne _ (Id i q2)]; exact If i q2 hm
        · have ei : i = T.2.2 := by omega
          rw [ei, zU_s, zU_s]; exact Nat.le_refl _
    · intro j hj _
      replace hj : j < T.2.2 + 1 := hj
      show zU T.1 r _ (zU T.2.1 T.2.2 r j) ≤ zU T.1 r _ (zU T.2.1 T.2.2 r h) + 1
      rw [hq h hm, hne _ hc0]
      rcases Nat.lt_or_ge j T.2.2 with q | q
      · rw [hq j q, hne _ (Id j q)]; exact If j q hm
      · have ej : j = T.2.2 := by omega
        rw [ej, zU_s, zU_s]; exact Nat.le_refl _
    · intro i d hi hd hid hop
      have hi2 : i < T.2.2 := by omega
      replace hop : op (zU T.2.1 T.2.2 r i) d = true := hop
      show zU T.1 r _ (nx (zU T.2.1 T.2.2 r i) d) ≠ 0 ∧ zU T.1 r _ (nx (zU T.2.1 T.2.2 r i) d) ≤ zU T.1 r _ (zU T.2.1 T.2.2 r i) + 1
      rw [hq i hi2] at hop ⊢
      rw [hne _ (Id i hi2)]
      by_cases q : i < h ∨ (i = h ∧ d < k)
      · obtain ⟨e1, e2⟩ := Ig i d hi2 hd q hop
        rw [hne _ e1]; exact ⟨e1, e2⟩
      · have e1 : i = h := by omega
        have e2 : d = k := by omega
        rw [e1, e2, hrr, zU_s]; exact ⟨by omega, Nat.le_refl _⟩
    · intro c hc
      replace hc : 2 ≤ zU T.1 r (T.1 (T.2.1 h) + 1) c := hc
      show ∃ d, d < 4 ∧ op c d = true ∧ zU T.1 r _ (nx c d) + 1 = zU T.1 r _ c
      by_cases q : c = r
      · rw [q, zU_s]
        refine ⟨zO k, zO_lt k, g3, ?_⟩
        rw [g4, hne _ hc0]
      · rw [zU_n q] at hc ⊢
        obtain ⟨d, h1, h2, h3⟩ := Ih c hc
        exact ⟨d, h1, h2, by rw [hne _ (by omega)]; exact h3⟩
    · show T.2.2 + 1 = zCt (fun c => decide (0 < zU T.1 r (T.1 (T.2.1 h) + 1) c)) 210
      rw [Ii]
      refine (zS_up (f := fun c => (decide (0 < T.1 c)).toNat) (g := fun c => (decide (0 < zU T.1 r (T.1 (T.2.1 h) + 1) c)).toNat) (r := r) hr210 ?_ ?_).symm
      · show (decide (0 < zU T.1 r (T.1 (T.2.1 h) + 1) r)).toNat = (decide (0 < T.1 r)).toNat + 1
        rw [zU_s, hr]; simp
      · intro c hc
        show (decide (0 < zU T.1 r (T.1 (T.2.1 h) + 1) c)).toNat = _
        rw [zU_n hc]
    · intro i hi
      replace hi : i < T.2.2 + 1 := hi
      show zU T.1 r _ (zU T.2.1 T.2.2 r i) ≤ i + 1
      rcases Nat.lt_or_ge i T.2.2 with q | q
      · rw [hq i q, hne _ (Id i q)]; exact Ij i q
      · have ei : i = T.2.2 := by omega
        rw [ei, zU_s, zU_s]
        have := Ij h hm
        omega
  · rw [if_neg hr]
    refine ⟨Ia, Ib, Ic, Id, Ie, If, ?_, Ih, Ii, Ij⟩
    intro i d hi hd hid hop
    by_cases q : i < h ∨ (i = h ∧ d < k)
    · exact Ig i d hi hd q hop
    · have e1 : i = h := by omega
      have e2 : d = k := by omega
      rw [e1, e2]
      refine ⟨hr, ?_⟩
      obtain ⟨_, j, h1, h2⟩ := Ic _ hr
      rw [← h2]
      exact If j h1 hm
theorem zReach_m (T : zT) (r v : Nat) : T.2.2 ≤ (zReach T r v).2.2 ∧ (∀ i, i < T.2.2 → (zReach T r v).2.1 i = T.2.1 i) ∧ ∀ c, T.1 c ≠ 0 → (zReach T r v).1 c = T.1 c := by
  unfold zReach
  by_cases h : T.1 r = 0
  · rw [if_pos h]
    exact ⟨Nat.le_succ _, fun i hi => zU_n (by omega), fun c hc => zU_n (fun e => hc (by rw [e]; exact h))⟩
  · rw [if_neg h]; exact ⟨Nat.le_refl _, fun _ _ => rfl, fun _ _ => rfl⟩
theorem zDirs_m (op : Nat → Nat → Bool) (nx : Nat → Nat → Nat) (c : Nat) (T : zT) : ∀ k, T.2.2 ≤ (zDirs op nx c T k).2.2 ∧ (∀ i, i < T.2.2 → (zDirs op nx c T k).2.1 i = T.2.1 i) ∧ ∀ c', T.1 c' ≠ 0 → (zDirs op nx c T k).1 c' = T.1 c'
  | 0 => ⟨Nat.le_refl _, fun _ _ => rfl, fun _ _ => rfl⟩
  | k + 1 => by
    obtain ⟨h1, h2, h3⟩ := zDirs_m op nx c T k
    rw [zDirs]
    by_cases h : op c k = true
    · rw [if_pos h]
      obtain ⟨r1, r2, r3⟩ := zReach_m (zDirs op nx c T k) (nx c k) ((zDirs op nx c T k).1 c + 1)
      exact ⟨by omega, fun i hi => by rw [r2 i (by omega), h2 i hi], fun c' hc => by rw [r3 c' (by rw [h3 c' hc]; exact hc), h3 c' hc]⟩
    · rw [if_neg h]; exact ⟨h1, h2, h3⟩
theorem zI_dirs {rm : Nat → Bool} {op : Nat → Nat → Bool} {nx : Nat → Nat → Nat} (hG : zG rm op nx) {src h : Nat} {T : zT} (H : zI rm op nx src T h 0) (hm : h < T.2.2) : ∀ k, k ≤ 4 → zI rm op nx src (zDirs op nx (T.2.1 h) T k) h k
  | 0, _ => H
  | k + 1, hk => by
    have ih := zI_dirs hG H hm k (by omega)
    obtain ⟨h1, h2, h3⟩ := zDirs_m op nx (T.2.1 h) T k
    rw [zDirs]
    by_cases ho : op (T.2.1 h) k = true
    · rw [if_pos ho]
      have e := h2 h hm
      have := zI_reach hG ih (by omega) (by omega) (by rw [e]; exact ho)
      rw [e] at this
      exact this
    · rw [if_neg ho]
      obtain ⟨Ia, Ib, Ic, Id, Ie, If, Ig, Ih, Ii, Ij⟩ := ih
      refine ⟨Ia, Ib, Ic, Id, Ie, If, ?_, Ih, Ii, Ij⟩
      intro i d hi hd hid hop
      by_cases q : i < h ∨ (i = h ∧ d < k)
      · exact Ig i d hi hd q hop
      · have e1 : i = h := by omega
        have e2 : d = k := by omega
        rw [e1, e2, h2 h hm] at hop
        exact absurd hop ho
theorem zI_head {rm : Nat → Bool} {op : Nat → Nat → Bool} {nx : Nat → Nat → Nat} (hG : zG rm op nx) {src : Nat} (hs : rm src = true) : ∀ h, zI rm op nx src (zHead op nx (z0 src) h) h 0
  | 0 => zI_0 hG hs
  | h + 1 => by
    have ih := zI_head hG hs h
    rw [zHead]
    by_cases hm : h < (zHead op nx (z0 src) h).2.2
    · rw [if_pos hm]
      have := zI_dirs hG ih hm 4 (by omega)
      have hm2 := zDirs_m op nx ((zHead op nx (z0 src) h).2.1 h) (zHead op nx (z0 src) h) 4
      generalize zDirs op nx ((zHead op nx (z0 src) h).2.1 h) (zHead op nx (z0 src) h) 4 = T at *
      obtain ⟨Ia, Ib, Ic, Id, Ie, If, Ig, Ih, Ii, Ij⟩ := this
      refine ⟨Ia, Ib, Ic, Id, Ie, ?_, ?_, Ih, Ii, Ij⟩
      · intro j hj h1
        have h2 := If j hj (by omega)
        have h3 := Ie h (h + 1) (by omega) h1
        omega
      · intro i d hi hd hid hop
        exact Ig i d hi hd (by omega) hop
    · rw [if_neg hm]
      obtain ⟨Ia, Ib, Ic, Id, Ie, If, Ig, Ih, Ii, Ij⟩ := ih
      refine ⟨Ia, Ib, Ic, Id, Ie, fun j hj h1 => by omega, ?_, Ih, Ii, Ij⟩
      intro i d hi hd hid hop
      exact Ig i d hi hd (by omega) hop
theorem zHead_m {rm : Nat → Bool} {op : Nat → Nat → Bool} {nx : Nat → Nat → Nat} (hG : zG rm op nx) {src : Nat} (hs : rm src = true) (h : Nat) : (zHead op nx (z0 src) h).2.2 ≤ 210 := by
  obtain ⟨Ia, Ib, Ic, Id, Ie, If, Ig, Ih, Ii, Ij⟩ := zI_head hG hs h
  rw [Ii]; exact zCt_le _ _
/-- what the spread tells -/
theorem zF_spec {rm : Nat → Bool} {op : Nat → Nat → Bool} {nx : Nat → Nat → Nat} (hG : zG rm op nx) {src : Nat} (hs : rm src = true) :
    (zF op nx src).1 src = 1 ∧ (∀ c, (zF op nx src).1 c = 1 → c = src) ∧ (∀ c, (zF op nx src).1 c ≠ 0 → rm c = true ∧ ∃ i, i < (zF op nx src).2.2 ∧ (zF op nx src).2.1 i = c) ∧ (∀ i, i < (zF op nx src).2.2 → (zF op nx src).1 ((zF op nx src).2.1 i) ≠ 0) ∧
    (∀ c d, d < 4 → op c d = true → (zF op nx src).1 c ≠ 0 → (zF op nx src).1 (nx c d) ≠ 0 ∧ (zF op nx src).1 (nx c d) ≤ (zF op nx src).1 c + 1) ∧
    (∀ c, 2 ≤ (zF op nx src).1 c → ∃ d, d < 4 ∧ op c d = true ∧ (zF op nx src).1 (nx c d) + 1 = (zF op nx src).1 c) ∧
    (zF op nx src).2.2 = zCt (fun c => decide (0 < (zF op nx src).1 c)) 210 ∧ (zF op nx src).2.2 ≤ 210 ∧ ∀ c, (zF op nx src).1 c ≤ 210 := by
  have hm := zHead_m hG hs 210
  obtain ⟨Ia, Ib, Ic, Id, Ie, If, Ig, Ih, Ii, Ij⟩ := zI_head hG hs 210
  rw [zF_eq]
  refine ⟨Ia, Ib, Ic, Id, ?_, Ih, Ii, hm, ?_⟩
  · intro c d hd ho hc
    obtain ⟨_, i, h1, h2⟩ := Ic c hc
    rw [← h2] at ho ⊢
    exact Ig i d h1 hd (by omega) ho
  · intro c
    by_cases hc : (zHead op nx (z0 src) 210).1 c = 0
    · omega
    · obtain ⟨_, i, h1, h2⟩ := Ic c hc
      rw [← h2]
      have := Ij i h1
      omega

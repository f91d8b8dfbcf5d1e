-- the answers and the changes over the ghost: the reference's row and history, its scratch rows empty (written by wip/p30/calls30.py)
abbrev gS : Type := (Nat → Int32) × (Nat → Int32) × Int32 × Int32 × (Nat → Int32)
theorem nF_ex : ∃ N : Nat, 10000 ≤ N := ⟨10000, Nat.le_refl _⟩
noncomputable def nF : Nat := Classical.choose nF_ex
theorem nF_le : 10000 ≤ nF := Classical.choose_spec nF_ex
theorem nF_1 : 1000 ≤ nF := Nat.le_trans (by decide) nF_le
def fz : Nat → Int32 := fun _ => 0
def z639 (f : Nat → Int32) : Nat → Int32 := fun k => if k < 639 then f k else 0
def oA {α : Type} (o : Option (Int32 × α)) : Int32 := match o with | none => 0 | some p => p.1
def oB (o : Option Int32) : Int32 := match o with | none => 0 | some p => p
def bV {α β : Type} (x : α) (k : α → β) : β := k x
theorem bV_s {α β : Type} {x : α} {k : α → β} {o : β} (h : bV x k = o) : ∃ r, x = r ∧ k r = o := ⟨x, rfl, h⟩
theorem bV_e {α β : Type} {x y : α} {k : α → β} (h : x = y) : bV x k = k y := by rw [h]; rfl
noncomputable def V_letterOf (g : gS) (x0 : Int32) : Int32 := oB (f_X11_letterOf g.1 x0)
noncomputable def V_letter (g : gS) (x0 : Int32) (x1 : Int32) : Int32 := oB (f_X11_letter nF g.1 x0 x1)
noncomputable def V_isRoom (g : gS) (x0 : Int32) : Int32 := oB (f_X11_isRoom g.1 x0)
noncomputable def V_doors (g : gS) (x0 : Int32) : Int32 := oB (f_X11_doors nF g.1 x0)
noncomputable def V_count (g : gS) (x0 : Int32) : Int32 := oA (f_X11_count nF g.2.2.1 g.2.2.2.1 0 g.1 fz fz x0)
noncomputable def V_part (g : gS) (x0 : Int32) : Int32 := oA (f_X11_part nF g.1 fz x0)
noncomputable def V_distance (g : gS) (x0 : Int32) (x1 : Int32) : Int32 := oA (f_X11_distance nF g.1 fz fz x0 x1)
noncomputable def V_again (g : gS) (x0 : Int32) (x1 : Int32) : Int32 := oA (f_X11_again nF g.1 fz fz fz x0 x1)
noncomputable def V_way (g : gS) (x0 : Int32) (x1 : Int32) (x2 : Int32) : Int32 := oA (f_X11_way nF g.1 fz fz x0 x1 x2)
noncomputable def V_farthest (g : gS) (x0 : Int32) (x1 : Int32) : Int32 := oA (f_X11_farthest nF g.1 fz fz x0 x1)
noncomputable def V_longest (g : gS) (x0 : Int32) : Int32 := oA (f_X11_longest nF g.1 fz fz x0)
noncomputable def V_grade (g : gS) : Int32 := oA (f_X11_grade nF g.1 fz fz)
noncomputable def V_points (g : gS) (x0 : Int32) : Int32 := oA (f_X11_points nF g.1 fz fz x0)
noncomputable def V_walk (g : gS) (x0 : Int32) (x1 : Int32) : Int32 := oA (f_X11_walk nF 0 0 0 g.1 fz fz fz x0 x1)
noncomputable def V_walked (g : gS) : Int32 := oA (f_X11_walked nF 0 0 0 g.1 fz fz fz)
noncomputable def V_fault (g : gS) (x0 : Int32) : Int32 := oA (f_X11_fault nF g.2.2.2.1 0 0 g.1 g.2.2.2.2 x0)
noncomputable def C_word (g : gS) : Int32 × gS := match f_X11_word nF g.2.2.1 g.2.2.2.1 g.1 g.2.1 g.2.2.2.2 with | none => (0, g) | some o => (o.1, (z639 o.2.2.1, o.2.2.2, o.2.1, g.2.2.2.1, g.2.2.2.2))
noncomputable def C_make (g : gS) (x0 : Int32) : Int32 × gS := match f_X11_make nF g.2.2.1 0 0 g.1 g.2.1 fz fz x0 with | none => (0, g) | some o => (o.1, (z639 o.2.2.2.2.1, o.2.2.2.2.2.1, o.2.1, g.2.2.2.1, g.2.2.2.2))
noncomputable def C_door (g : gS) (x0 : Int32) (x1 : Int32) (x2 : Int32) : Int32 × gS := match f_X11_door nF g.2.2.1 g.1 g.2.1 x0 x1 x2 with | none => (0, g) | some o => (o.1, (z639 o.2.2.1, o.2.2.2, o.2.1, g.2.2.2.1, g.2.2.2.2))
noncomputable def C_start (g : gS) (x0 : Int32) : Int32 × gS := match f_X11_start nF g.2.2.1 g.1 g.2.1 x0 with | none => (0, g) | some o => (o.1, (z639 o.2.2.1, o.2.2.2, o.2.1, g.2.2.2.1, g.2.2.2.2))
noncomputable def C_goal (g : gS) (x0 : Int32) : Int32 × gS := match f_X11_goal nF g.2.2.1 g.1 g.2.1 x0 with | none => (0, g) | some o => (o.1, (z639 o.2.2.1, o.2.2.2, o.2.1, g.2.2.2.1, g.2.2.2.2))
noncomputable def C_sign (g : gS) (x0 : Int32) (x1 : Int32) (x2 : Int32) : Int32 × gS := match f_X11_sign nF g.2.2.1 g.1 g.2.1 x0 x1 x2 with | none => (0, g) | some o => (o.1, (z639 o.2.2.1, o.2.2.2, o.2.1, g.2.2.2.1, g.2.2.2.2))
noncomputable def C_unsign (g : gS) (x0 : Int32) : Int32 × gS := match f_X11_unsign nF g.2.2.1 g.1 g.2.1 x0 with | none => (0, g) | some o => (o.1, (z639 o.2.2.1, o.2.2.2, o.2.1, g.2.2.2.1, g.2.2.2.2))
noncomputable def C_undo (g : gS) : Int32 × gS := match f_X11_undo nF g.2.2.1 g.1 g.2.1 with | none => (0, g) | some o => (o.1, (z639 o.2.2, g.2.1, o.2.1, g.2.2.2.1, g.2.2.2.2))
noncomputable def C_type (g : gS) (x0 : Int32) : Int32 × gS := match f_X11_type g.2.2.2.1 g.2.2.2.2 x0 with | none => (0, g) | some o => (o.1, (g.1, g.2.1, g.2.2.1, o.2.1, o.2.2))
noncomputable def C_clearText (g : gS) : Int32 × gS := match f_X11_clearText g.2.2.2.1 with | none => (0, g) | some o => (o.1, (g.1, g.2.1, g.2.2.1, o.2, g.2.2.2.2))
theorem z639_lt {f : Nat → Int32} {k : Nat} (h : k < 639) : z639 f k = f k := if_pos h
theorem z639_ge {f : Nat → Int32} {k : Nat} (h : 639 ≤ k) : z639 f k = 0 := if_neg (Nat.not_lt.mpr h)
theorem zRl_T {w cc rc dc lo : Int32} {ow : Nat → Int32} {sz st go : Int32} {le op sg : Nat → Int32} {hn : Int32} {yl yo ys : Nat → Nat → Int32} {yz ya yg : Nat → Int32} {tl : Int32} {tc now past : Nat → Int32} {saved length : Int32} {text : Nat → Int32} (R : zRl w cc rc dc lo ow sz st go le op sg hn yl yo ys yz ya yg tl tc now past saved length text) : zRl w cc rc dc lo ow sz st go le op sg hn yl yo ys yz ya yg tl tc (z639 now) past saved length text := by
  obtain ⟨h, hs, hc, hh, ht⟩ := R
  have e : ∀ k, k < 639 → z639 now k = now k := fun k hk => if_pos hk
  exact ⟨(zcong h e).1, zsh_cong h (fun k hk => e k (by omega)) hs, zcl_cong h e hc, hh, ht⟩

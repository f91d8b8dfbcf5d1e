-- the reference as pure functions (definitions and what is total), out of whole's parts 14 to 16: no contract of its code is needed here
noncomputable def f_X11_wide (ft_now : Nat → Int32) : Option (Int32) :=
  some ((((6 : Int32) * (ft_now ((0 : Int32)).toNatClampNeg)) - (1 : Int32)))
noncomputable def t_X11_wide (ft_now : Nat → Int32) : Int32 :=
  (((6 : Int32) * (ft_now ((0 : Int32)).toNatClampNeg)) - (1 : Int32))
theorem tot_X11_wide (ft_now : Nat → Int32) : f_X11_wide ft_now = some (t_X11_wide ft_now) := by
  simp only [f_X11_wide, t_X11_wide]
noncomputable def f_X11_rows (va1 : Int32) (va2 : Int32) (va3 : Int32) (va4 : Int32) (va5 : Int32) : Option (Int32) :=
  some ((((((((((32 : Int32) * va1) + va2) * (32 : Int32)) + va3) * (32 : Int32)) + va4) * (32 : Int32)) + va5))
noncomputable def t_X11_rows (va1 : Int32) (va2 : Int32) (va3 : Int32) (va4 : Int32) (va5 : Int32) : Int32 :=
  (((((((((32 : Int32) * va1) + va2) * (32 : Int32)) + va3) * (32 : Int32)) + va4) * (32 : Int32)) + va5)
theorem tot_X11_rows (va1 : Int32) (va2 : Int32) (va3 : Int32) (va4 : Int32) (va5 : Int32) : f_X11_rows va1 va2 va3 va4 va5 = some (t_X11_rows va1 va2 va3 va4 va5) := by
  simp only [f_X11_rows, t_X11_rows]
noncomputable def f_X11_shape (va1 : Int32) : Option (Int32) :=
  if va1 = (65 : Int32) then
    some ((t_X11_rows ((31 : Int32)) ((17 : Int32)) ((31 : Int32)) ((17 : Int32)) ((17 : Int32))))
  else
    if va1 = (66 : Int32) then
      some ((0 : Int32))
    else
      if va1 = (67 : Int32) then
        some ((t_X11_rows ((31 : Int32)) ((16 : Int32)) ((16 : Int32)) ((16 : Int32)) ((31 : Int32))))
      else
        if va1 = (68 : Int32) then
          some ((0 : Int32))
        else
          if va1 = (69 : Int32) then
            some ((t_X11_rows ((31 : Int32)) ((16 : Int32)) ((30 : Int32)) ((16 : Int32)) ((31 : Int32))))
          else
            if va1 = (70 : Int32) then
              some ((t_X11_rows ((31 : Int32)) ((16 : Int32)) ((30 : Int32)) ((16 : Int32)) ((16 : Int32))))
            else
              if va1 = (71 : Int32) then
                some ((t_X11_rows ((31 : Int32)) ((16 : Int32)) ((23 : Int32)) ((17 : Int32)) ((31 : Int32))))
              else
                if va1 = (72 : Int32) then
                  some ((t_X11_rows ((17 : Int32)) ((17 : Int32)) ((31 : Int32)) ((17 : Int32)) ((17 : Int32))))
                else
                  if va1 = (73 : Int32) then
                    some ((t_X11_rows ((4 : Int32)) ((4 : Int32)) ((4 : Int32)) ((4 : Int32)) ((4 : Int32))))
                  else
                    if va1 = (74 : Int32) then
                      some ((0 : Int32))
                    else
                      if va1 = (75 : Int32) then
                        some ((0 : Int32))
                      else
                        if va1 = (76 : Int32) then
                          some ((t_X11_rows ((16 : Int32)) ((16 : Int32)) ((16 : Int32)) ((16 : Int32)) ((31 : Int32))))
                        else
                          if va1 = (77 : Int32) then
                            some ((t_X11_rows ((31 : Int32)) ((21 : Int32)) ((21 : Int32)) ((21 : Int32)) ((21 : Int32))))
                          else
                            if va1 = (78 : Int32) then
                              some ((0 : Int32))
                            else
                              if va1 = (79 : Int32) then
                                some ((t_X11_rows ((31 : Int32)) ((17 : Int32)) ((17 : Int32)) ((17 : Int32)) ((31 : Int32))))
                              else
                                if va1 = (80 : Int32) then
                                  some ((t_X11_rows ((31 : Int32)) ((17 : Int32)) ((31 : Int32)) ((16 : Int32)) ((16 : Int32))))
                                else
                                  if va1 = (81 : Int32) then
                                    some ((0 : Int32))
                                  else
                                    if va1 = (82 : Int32) then
                                      some ((0 : Int32))
                                    else
                                      if va1 = (83 : Int32) then
                                        some ((t_X11_rows ((31 : Int32)) ((16 : Int32)) ((31 : Int32)) ((1 : Int32)) ((31 : Int32))))
                                      else
                                        if va1 = (84 : Int32) then
                                          some ((t_X11_rows ((31 : Int32)) ((4 : Int32)) ((4 : Int32)) ((4 : Int32)) ((4 : Int32))))
                                        else
                                          if va1 = (85 : Int32) then
                                            some ((t_X11_rows ((17 : Int32)) ((17 : Int32)) ((17 : Int32)) ((17 : Int32)) ((31 : Int32))))
                                          else
                                            if va1 = (86 : Int32) then
                                              some ((0 : Int32))
                                            else
                                              if va1 = (87 : Int32) then
                                                some ((t_X11_rows ((21 : Int32)) ((21 : Int32)) ((21 : Int32)) ((21 : Int32)) ((31 : Int32))))
                                              else
                                                some ((0 : Int32))
noncomputable def t_X11_shape (va1 : Int32) : Int32 :=
  if va1 = (65 : Int32) then
    (t_X11_rows ((31 : Int32)) ((17 : Int32)) ((31 : Int32)) ((17 : Int32)) ((17 : Int32)))
  else
    if va1 = (66 : Int32) then
      (0 : Int32)
    else
      if va1 = (67 : Int32) then
        (t_X11_rows ((31 : Int32)) ((16 : Int32)) ((16 : Int32)) ((16 : Int32)) ((31 : Int32)))
      else
        if va1 = (68 : Int32) then
          (0 : Int32)
        else
          if va1 = (69 : Int32) then
            (t_X11_rows ((31 : Int32)) ((16 : Int32)) ((30 : Int32)) ((16 : Int32)) ((31 : Int32)))
          else
            if va1 = (70 : Int32) then
              (t_X11_rows ((31 : Int32)) ((16 : Int32)) ((30 : Int32)) ((16 : Int32)) ((16 : Int32)))
            else
              if va1 = (71 : Int32) then
                (t_X11_rows ((31 : Int32)) ((16 : Int32)) ((23 : Int32)) ((17 : Int32)) ((31 : Int32)))
              else
                if va1 = (72 : Int32) then
                  (t_X11_rows ((17 : Int32)) ((17 : Int32)) ((31 : Int32)) ((17 : Int32)) ((17 : Int32)))
                else
                  if va1 = (73 : Int32) then
                    (t_X11_rows ((4 : Int32)) ((4 : Int32)) ((4 : Int32)) ((4 : Int32)) ((4 : Int32)))
                  else
                    if va1 = (74 : Int32) then
                      (0 : Int32)
                    else
                      if va1 = (75 : Int32) then
                        (0 : Int32)
                      else
                        if va1 = (76 : Int32) then
                          (t_X11_rows ((16 : Int32)) ((16 : Int32)) ((16 : Int32)) ((16 : Int32)) ((31 : Int32)))
                        else
                          if va1 = (77 : Int32) then
                            (t_X11_rows ((31 : Int32)) ((21 : Int32)) ((21 : Int32)) ((21 : Int32)) ((21 : Int32)))
                          else
                            if va1 = (78 : Int32) then
                              (0 : Int32)
                            else
                              if va1 = (79 : Int32) then
                                (t_X11_rows ((31 : Int32)) ((17 : Int32)) ((17 : Int32)) ((17 : Int32)) ((31 : Int32)))
                              else
                                if va1 = (80 : Int32) then
                                  (t_X11_rows ((31 : Int32)) ((17 : Int32)) ((31 : Int32)) ((16 : Int32)) ((16 : Int32)))
                                else
                                  if va1 = (81 : Int32) then
                                    (0 : Int32)
                                  else
                                    if va1 = (82 : Int32) then
                                      (0 : Int32)
                                    else
                                      if va1 = (83 : Int32) then
                                        (t_X11_rows ((31 : Int32)) ((16 : Int32)) ((31 : Int32)) ((1 : Int32)) ((31 : Int32)))
                                      else
                                        if va1 = (84 : Int32) then
                                          (t_X11_rows ((31 : Int32)) ((4 : Int32)) ((4 : Int32)) ((4 : Int32)) ((4 : Int32)))
                                        else
                                          if va1 = (85 : Int32) then
                                            (t_X11_rows ((17 : Int32)) ((17 : Int32)) ((17 : Int32)) ((17 : Int32)) ((31 : Int32)))
                                          else
                                            if va1 = (86 : Int32) then
                                              (0 : Int32)
                                            else
                                              if va1 = (87 : Int32) then
                                                (t_X11_rows ((21 : Int32)) ((21 : Int32)) ((21 : Int32)) ((21 : Int32)) ((31 : Int32)))
                                              else
                                                (0 : Int32)
theorem tot_X11_shape (va1 : Int32) : f_X11_shape va1 = some (t_X11_shape va1) := by
  by_cases hc_1_0 : va1 = (65 : Int32)
  · simp only [f_X11_shape, t_X11_shape, if_pos hc_1_0]
  · by_cases hc_1_1 : va1 = (66 : Int32)
    · simp only [f_X11_shape, t_X11_shape, if_neg hc_1_0, if_pos hc_1_1]
    · by_cases hc_1_2 : va1 = (67 : Int32)
      · simp only [f_X11_shape, t_X11_shape, if_neg hc_1_0, if_neg hc_1_1, if_pos hc_1_2]
      · by_cases hc_1_3 : va1 = (68 : Int32)
        · simp only [f_X11_shape, t_X11_shape, if_neg hc_1_0, if_neg hc_1_1, if_neg hc_1_2, if_pos hc_1_3]
        · by_cases hc_1_4 : va1 = (69 : Int32)
          · simp only [f_X11_shape, t_X11_shape, if_neg hc_1_0, if_neg hc_1_1, if_neg hc_1_2, if_neg hc_1_3, if_pos hc_1_4]
          · by_cases hc_1_5 : va1 = (70 : Int32)
            · simp only [f_X11_shape, t_X11_shape, if_neg hc_1_0, if_neg hc_1_1, if_neg hc_1_2, if_neg hc_1_3, if_neg hc_1_4, if_pos hc_1_5]
            · by_cases hc_1_6 : va1 = (71 : Int32)
              · simp only [f_X11_shape, t_X11_shape, if_neg hc_1_0, if_neg hc_1_1, if_neg hc_1_2, if_neg hc_1_3, if_neg hc_1_4, if_neg hc_1_5, if_pos hc_1_6]
              · by_cases hc_1_7 : va1 = (72 : Int32)
                · simp only [f_X11_shape, t_X11_shape, if_neg hc_1_0, if_neg hc_1_1, if_neg hc_1_2, if_neg hc_1_3, if_neg hc_1_4, if_neg hc_1_5, if_neg hc_1_6, if_pos hc_1_7]
                · by_cases hc_1_8 : va1 = (73 : Int32)
                  · simp only [f_X11_shape, t_X11_shape, if_neg hc_1_0, if_neg hc_1_1, if_neg hc_1_2, if_neg hc_1_3, if_neg hc_1_4, if_neg hc_1_5, if_neg hc_1_6, if_neg hc_1_7, if_pos hc_1_8]
                  · by_cases hc_1_9 : va1 = (74 : Int32)
                    · simp only [f_X11_shape, t_X11_shape, if_neg hc_1_0, if_neg hc_1_1, if_neg hc_1_2, if_neg hc_1_3, if_neg hc_1_4, if_neg hc_1_5, if_neg hc_1_6, if_neg hc_1_7, if_neg hc_1_8, if_pos hc_1_9]
                    · by_cases hc_1_10 : va1 = (75 : Int32)
                      · simp only [f_X11_shape, t_X11_shape, if_neg hc_1_0, if_neg hc_1_1, if_neg hc_1_2, if_neg hc_1_3, if_neg hc_1_4, if_neg hc_1_5, if_neg hc_1_6, if_neg hc_1_7, if_neg hc_1_8, if_neg hc_1_9, if_pos hc_1_10]
                      · by_cases hc_1_11 : va1 = (76 : Int32)
                        · simp only [f_X11_shape, t_X11_shape, if_neg hc_1_0, if_neg hc_1_1, if_neg hc_1_2, if_neg hc_1_3, if_neg hc_1_4, if_neg hc_1_5, if_neg hc_1_6, if_neg hc_1_7, if_neg hc_1_8, if_neg hc_1_9, if_neg hc_1_10, if_pos hc_1_11]
                        · by_cases hc_1_12 : va1 = (77 : Int32)
                          · simp only [f_X11_shape, t_X11_shape, if_neg hc_1_0, if_neg hc_1_1, if_neg hc_1_2, if_neg hc_1_3, if_neg hc_1_4, if_neg hc_1_5, if_neg hc_1_6, if_neg hc_1_7, if_neg hc_1_8, if_neg hc_1_9, if_neg hc_1_10, if_neg hc_1_11, if_pos hc_1_12]
                          · by_cases hc_1_13 : va1 = (78 : Int32)
                            · simp only [f_X11_shape, t_X11_shape, if_neg hc_1_0, if_neg hc_1_1, if_neg hc_1_2, if_neg hc_1_3, if_neg hc_1_4, if_neg hc_1_5, if_neg hc_1_6, if_neg hc_1_7, if_neg hc_1_8, if_neg hc_1_9, if_neg hc_1_10, if_neg hc_1_11, if_neg hc_1_12, if_pos hc_1_13]
                            · by_cases hc_1_14 : va1 = (79 : Int32)
                              · simp only [f_X11_shape, t_X11_shape, if_neg hc_1_0, if_neg hc_1_1, if_neg hc_1_2, if_neg hc_1_3, if_neg hc_1_4, if_neg hc_1_5, if_neg hc_1_6, if_neg hc_1_7, if_neg hc_1_8, if_neg hc_1_9, if_neg hc_1_10, if_neg hc_1_11, if_neg hc_1_12, if_neg hc_1_13, if_pos hc_1_14]
                              · by_cases hc_1_15 : va1 = (80 : Int32)
                                · simp only [f_X11_shape, t_X11_shape, if_neg hc_1_0, if_neg hc_1_1, if_neg hc_1_2, if_neg hc_1_3, if_neg hc_1_4, if_neg hc_1_5, if_neg hc_1_6, if_neg hc_1_7, if_neg hc_1_8, if_neg hc_1_9, if_neg hc_1_10, if_neg hc_1_11, if_neg hc_1_12, if_neg hc_1_13, if_neg hc_1_14, if_pos hc_1_15]
                                · by_cases hc_1_16 : va1 = (81 : Int32)
                                  · simp only [f_X11_shape, t_X11_shape, if_neg hc_1_0, if_neg hc_1_1, if_neg hc_1_2, if_neg hc_1_3, if_neg hc_1_4, if_neg hc_1_5, if_neg hc_1_6, if_neg hc_1_7, if_neg hc_1_8, if_neg hc_1_9, if_neg hc_1_10, if_neg hc_1_11, if_neg hc_1_12, if_neg hc_1_13, if_neg hc_1_14, if_neg hc_1_15, if_pos hc_1_16]
                                  · by_cases hc_1_17 : va1 = (82 : Int32)
                                    · simp only [f_X11_shape, t_X11_shape, if_neg hc_1_0, if_neg hc_1_1, if_neg hc_1_2, if_neg hc_1_3, if_neg hc_1_4, if_neg hc_1_5, if_neg hc_1_6, if_neg hc_1_7, if_neg hc_1_8, if_neg hc_1_9, if_neg hc_1_10, if_neg hc_1_11, if_neg hc_1_12, if_neg hc_1_13, if_neg hc_1_14, if_neg hc_1_15, if_neg hc_1_16, if_pos hc_1_17]
                                    · by_cases hc_1_18 : va1 = (83 : Int32)
                                      · simp only [f_X11_shape, t_X11_shape, if_neg hc_1_0, if_neg hc_1_1, if_neg hc_1_2, if_neg hc_1_3, if_neg hc_1_4, if_neg hc_1_5, if_neg hc_1_6, if_neg hc_1_7, if_neg hc_1_8, if_neg hc_1_9, if_neg hc_1_10, if_neg hc_1_11, if_neg hc_1_12, if_neg hc_1_13, if_neg hc_1_14, if_neg hc_1_15, if_neg hc_1_16, if_neg hc_1_17, if_pos hc_1_18]
                                      · by_cases hc_1_19 : va1 = (84 : Int32)
                                        · simp only [f_X11_shape, t_X11_shape, if_neg hc_1_0, if_neg hc_1_1, if_neg hc_1_2, if_neg hc_1_3, if_neg hc_1_4, if_neg hc_1_5, if_neg hc_1_6, if_neg hc_1_7, if_neg hc_1_8, if_neg hc_1_9, if_neg hc_1_10, if_neg hc_1_11, if_neg hc_1_12, if_neg hc_1_13, if_neg hc_1_14, if_neg hc_1_15, if_neg hc_1_16, if_neg hc_1_17, if_neg hc_1_18, if_pos hc_1_19]
                                        · by_cases hc_1_20 : va1 = (85 : Int32)
                                          · simp only [f_X11_shape, t_X11_shape, if_neg hc_1_0, if_neg hc_1_1, if_neg hc_1_2, if_neg hc_1_3, if_neg hc_1_4, if_neg hc_1_5, if_neg hc_1_6, if_neg hc_1_7, if_neg hc_1_8, if_neg hc_1_9, if_neg hc_1_10, if_neg hc_1_11, if_neg hc_1_12, if_neg hc_1_13, if_neg hc_1_14, if_neg hc_1_15, if_neg hc_1_16, if_neg hc_1_17, if_neg hc_1_18, if_neg hc_1_19, if_pos hc_1_20]
                                          · by_cases hc_1_21 : va1 = (86 : Int32)
                                            · simp only [f_X11_shape, t_X11_shape, if_neg hc_1_0, if_neg hc_1_1, if_neg hc_1_2, if_neg hc_1_3, if_neg hc_1_4, if_neg hc_1_5, if_neg hc_1_6, if_neg hc_1_7, if_neg hc_1_8, if_neg hc_1_9, if_neg hc_1_10, if_neg hc_1_11, if_neg hc_1_12, if_neg hc_1_13, if_neg hc_1_14, if_neg hc_1_15, if_neg hc_1_16, if_neg hc_1_17, if_neg hc_1_18, if_neg hc_1_19, if_neg hc_1_20, if_pos hc_1_21]
                                            · by_cases hc_1_22 : va1 = (87 : Int32)
                                              · simp only [f_X11_shape, t_X11_shape, if_neg hc_1_0, if_neg hc_1_1, if_neg hc_1_2, if_neg hc_1_3, if_neg hc_1_4, if_neg hc_1_5, if_neg hc_1_6, if_neg hc_1_7, if_neg hc_1_8, if_neg hc_1_9, if_neg hc_1_10, if_neg hc_1_11, if_neg hc_1_12, if_neg hc_1_13, if_neg hc_1_14, if_neg hc_1_15, if_neg hc_1_16, if_neg hc_1_17, if_neg hc_1_18, if_neg hc_1_19, if_neg hc_1_20, if_neg hc_1_21, if_pos hc_1_22]
                                              · simp only [f_X11_shape, t_X11_shape, if_neg hc_1_0, if_neg hc_1_1, if_neg hc_1_2, if_neg hc_1_3, if_neg hc_1_4, if_neg hc_1_5, if_neg hc_1_6, if_neg hc_1_7, if_neg hc_1_8, if_neg hc_1_9, if_neg hc_1_10, if_neg hc_1_11, if_neg hc_1_12, if_neg hc_1_13, if_neg hc_1_14, if_neg hc_1_15, if_neg hc_1_16, if_neg hc_1_17, if_neg hc_1_18, if_neg hc_1_19, if_neg hc_1_20, if_neg hc_1_21, if_neg hc_1_22]
noncomputable def f_X11_isRoomAt (ft_now : Nat → Int32) (va1 : Int32) : Option (Int32) :=
  if (t_X11_wide (ft_now)) = 0 then none else
  if (t_X11_wide (ft_now)) = 0 then none else
  if (va1 / (t_X11_wide (ft_now))) = (5 : Int32) then
    some ((1 : Int32))
  else
    if (5 : Int32) ≤ ((va1 - va1 / (t_X11_wide (ft_now)) * (t_X11_wide (ft_now))) - (va1 - va1 / (t_X11_wide (ft_now)) * (t_X11_wide (ft_now))) / (6 : Int32) * (6 : Int32)) then
      some ((0 : Int32))
    else
      if ((1 : Int32) + ((va1 - va1 / (t_X11_wide (ft_now)) * (t_X11_wide (ft_now))) / (6 : Int32))) < 0 ∨ 639 ≤ (((1 : Int32) + ((va1 - va1 / (t_X11_wide (ft_now)) * (t_X11_wide (ft_now))) / (6 : Int32)))).toNatClampNeg then none else
      if ((((t_X11_shape ((ft_now (((1 : Int32) + ((va1 - va1 / (t_X11_wide (ft_now)) * (t_X11_wide (ft_now))) / (6 : Int32)))).toNatClampNeg))) >>> (((5 : Int32) * ((4 : Int32) - (va1 / (t_X11_wide (ft_now))))) &&& 31)) >>> (((4 : Int32) - ((va1 - va1 / (t_X11_wide (ft_now)) * (t_X11_wide (ft_now))) - (va1 - va1 / (t_X11_wide (ft_now)) * (t_X11_wide (ft_now))) / (6 : Int32) * (6 : Int32))) &&& 31)) &&& (1 : Int32)) = (1 : Int32) then
        some ((1 : Int32))
      else
        some ((0 : Int32))
noncomputable def b_X11_begins_38 (N : Nat) : Nat → Int32 → (Nat → Int32) → Option ((Nat → Int32))
  | 0, _, _ => none
  | n + 1, l1, cft_now =>
    bnd1 (f_X11_isRoomAt (cft_now) (l1)) fun r40 =>
    if r40 = 0 then
      b_X11_begins_38 N n ((l1 + (1 : Int32))) (cft_now)
    else
      some ((upd cft_now ((8 : Int32)).toNatClampNeg l1))
noncomputable def b_X11_begins_3 (N : Nat) : Nat → Int32 → (Nat → Int32) → Option ((Nat → Int32))
  | 0, _, _ => none
  | n + 1, l1, cft_now =>
    if (639 : Int32) ≤ l1 then
      b_X11_begins_38 N N ((0 : Int32)) ((upd cft_now ((7 : Int32)).toNatClampNeg ((5 : Int32) * (t_X11_wide (cft_now)))))
    else
      if l1 < 0 ∨ 639 ≤ (l1).toNatClampNeg then none else
      b_X11_begins_3 N n ((l1 + (1 : Int32))) ((upd cft_now (l1).toNatClampNeg (0 : Int32)))
noncomputable def f_X11_begins (N : Nat) (ft_now : Nat → Int32) : Option ((Nat → Int32)) :=
  b_X11_begins_3 N N ((9 : Int32)) (ft_now)
noncomputable def f_X11_in (va1 : Int32) (va2 : Int32) (va3 : Int32) : Option (Int32) :=
  if va1 < va2 then
    some ((0 : Int32))
  else
    if va3 < va1 then
      some ((0 : Int32))
    else
      some ((1 : Int32))
noncomputable def t_X11_in (va1 : Int32) (va2 : Int32) (va3 : Int32) : Int32 :=
  if va1 < va2 then
    (0 : Int32)
  else
    if va3 < va1 then
      (0 : Int32)
    else
      (1 : Int32)
theorem tot_X11_in (va1 : Int32) (va2 : Int32) (va3 : Int32) : f_X11_in va1 va2 va3 = some (t_X11_in va1 va2 va3) := by
  by_cases hc_2 : va1 < va2
  · simp only [f_X11_in, t_X11_in, if_pos hc_2]
  · by_cases hc_7 : va3 < va1
    · simp only [f_X11_in, t_X11_in, if_neg hc_2, if_pos hc_7]
    · simp only [f_X11_in, t_X11_in, if_neg hc_2, if_neg hc_7]
theorem bl_X11_in (va1 : Int32) (va2 : Int32) (va3 : Int32) : t_X11_in va1 va2 va3 = 0 ∨ t_X11_in va1 va2 va3 = 1 := by
  unfold t_X11_in
  repeat' (first | exact Or.inl rfl | exact Or.inr rfl | fail | split)
noncomputable def b_X11_records_51 (N : Nat) (ft_now : Nat → Int32) : Nat → Int32 → Int32 → (Nat → Int32) → Option (Int32 × (Nat → Int32))
  | 0, _, _, _ => none
  | n + 1, l1, cit_saved, cft_past =>
    if (639 : Int32) ≤ l1 then
      some ((cit_saved + (1 : Int32)), cft_past)
    else
      if l1 < 0 ∨ 639 ≤ (l1).toNatClampNeg then none else
      if (((639 : Int32) * cit_saved) + l1) < 0 ∨ 3195 ≤ ((((639 : Int32) * cit_saved) + l1)).toNatClampNeg then none else
      b_X11_records_51 N ft_now n ((l1 + (1 : Int32))) (cit_saved) ((upd cft_past ((((639 : Int32) * cit_saved) + l1)).toNatClampNeg (ft_now (l1).toNatClampNeg)))
noncomputable def b_X11_records_10 (N : Nat) (ft_now : Nat → Int32) : Nat → Int32 → Int32 → (Nat → Int32) → Option (Int32 × (Nat → Int32))
  | 0, _, _, _ => none
  | n + 1, l1, cit_saved, cft_past =>
    if (2556 : Int32) ≤ l1 then
      b_X11_records_51 N ft_now N ((0 : Int32)) ((cit_saved - (1 : Int32))) (cft_past)
    else
      if (l1 + (639 : Int32)) < 0 ∨ 3195 ≤ ((l1 + (639 : Int32))).toNatClampNeg then none else
      if l1 < 0 ∨ 3195 ≤ (l1).toNatClampNeg then none else
      b_X11_records_10 N ft_now n ((l1 + (1 : Int32))) (cit_saved) ((upd cft_past (l1).toNatClampNeg (cft_past ((l1 + (639 : Int32))).toNatClampNeg)))
noncomputable def f_X11_records (N : Nat) (it_saved : Int32) (ft_now : Nat → Int32) (ft_past : Nat → Int32) : Option (Int32 × (Nat → Int32)) :=
  if it_saved = (5 : Int32) then
    b_X11_records_10 N ft_now N ((0 : Int32)) (it_saved) (ft_past)
  else
    b_X11_records_51 N ft_now N ((0 : Int32)) (it_saved) (ft_past)
noncomputable def b_X11_undo_22 (N : Nat) (ft_past : Nat → Int32) : Nat → Int32 → Int32 → (Nat → Int32) → Option (Int32 × Int32 × (Nat → Int32))
  | 0, _, _, _ => none
  | n + 1, l1, cit_saved, cft_now =>
    if (639 : Int32) ≤ l1 then
      some (cit_saved, cit_saved, cft_now)
    else
      if (((639 : Int32) * cit_saved) + l1) < 0 ∨ 3195 ≤ ((((639 : Int32) * cit_saved) + l1)).toNatClampNeg then none else
      if l1 < 0 ∨ 639 ≤ (l1).toNatClampNeg then none else
      b_X11_undo_22 N ft_past n ((l1 + (1 : Int32))) (cit_saved) ((upd cft_now (l1).toNatClampNeg (ft_past ((((639 : Int32) * cit_saved) + l1)).toNatClampNeg)))
noncomputable def f_X11_undo (N : Nat) (it_saved : Int32) (ft_now : Nat → Int32) (ft_past : Nat → Int32) : Option (Int32 × Int32 × (Nat → Int32)) :=
  if it_saved = 0 then
    some ((-2 : Int32), it_saved, ft_now)
  else
    b_X11_undo_22 N ft_past N ((0 : Int32)) ((it_saved - (1 : Int32))) (ft_now)
noncomputable def f_X11_cells (ft_now : Nat → Int32) : Option (Int32) :=
  some (((6 : Int32) * (t_X11_wide (ft_now))))
noncomputable def t_X11_cells (ft_now : Nat → Int32) : Int32 :=
  ((6 : Int32) * (t_X11_wide (ft_now)))
theorem tot_X11_cells (ft_now : Nat → Int32) : f_X11_cells ft_now = some (t_X11_cells ft_now) := by
  simp only [f_X11_cells, t_X11_cells]
noncomputable def f_X11_hasRoom (ft_now : Nat → Int32) (va1 : Int32) : Option (Int32) :=
  if (t_X11_in (va1) ((0 : Int32)) (((t_X11_cells (ft_now)) - (1 : Int32)))) = 0 then
    some ((0 : Int32))
  else
    bnd1 (f_X11_isRoomAt (ft_now) (va1)) fun r16 =>
    if r16 = 0 then
      some ((0 : Int32))
    else
      some ((1 : Int32))
noncomputable def b_X11_rooms_4 (N : Nat) (ft_now : Nat → Int32) : Nat → Int32 → Int32 → Option (Int32)
  | 0, _, _ => none
  | n + 1, l1, l2 =>
    if (t_X11_cells (ft_now)) ≤ l2 then
      some (l1)
    else
      bnd1 (f_X11_isRoomAt (ft_now) (l2)) fun r15 =>
      if r15 = 0 then
        b_X11_rooms_4 N ft_now n ((l1 + (0 : Int32))) ((l2 + (1 : Int32)))
      else
        b_X11_rooms_4 N ft_now n ((l1 + (1 : Int32))) ((l2 + (1 : Int32)))
noncomputable def f_X11_rooms (N : Nat) (ft_now : Nat → Int32) : Option (Int32) :=
  b_X11_rooms_4 N ft_now N ((0 : Int32)) ((0 : Int32))
noncomputable def b_X11_word_72 (N : Nat) (it_length : Int32) (ft_text : Nat → Int32) : Nat → Int32 → Int32 → (Nat → Int32) → (Nat → Int32) → Option (Int32 × Int32 × (Nat → Int32) × (Nat → Int32))
  | 0, _, _, _, _ => none
  | n + 1, l2, cit_saved, cft_now, cft_past =>
    if (6 : Int32) ≤ l2 then
      bnd1 (f_X11_begins N (cft_now)) fun o111_0 =>
      bnd1 (f_X11_rooms N (o111_0)) fun r115 =>
      some (r115, cit_saved, o111_0, cft_past)
    else
      if it_length ≤ l2 then
        if ((1 : Int32) + l2) < 0 ∨ 639 ≤ (((1 : Int32) + l2)).toNatClampNeg then none else
        b_X11_word_72 N it_length ft_text n ((l2 + (1 : Int32))) (cit_saved) ((upd cft_now (((1 : Int32) + l2)).toNatClampNeg (0 : Int32))) (cft_past)
      else
        if l2 < 0 ∨ 200 ≤ (l2).toNatClampNeg then none else
        if ((1 : Int32) + l2) < 0 ∨ 639 ≤ (((1 : Int32) + l2)).toNatClampNeg then none else
        b_X11_word_72 N it_length ft_text n ((l2 + (1 : Int32))) (cit_saved) ((upd cft_now (((1 : Int32) + l2)).toNatClampNeg (ft_text (l2).toNatClampNeg))) (cft_past)
noncomputable def b_X11_word_49 (N : Nat) (it_length : Int32) (ft_text : Nat → Int32) (l1 : Int32) (cit_saved : Int32) (cft_now : Nat → Int32) (cft_past : Nat → Int32) : Option (Int32 × Int32 × (Nat → Int32) × (Nat → Int32)) :=
  if l1 = 0 then
    some ((-2 : Int32), cit_saved, cft_now, cft_past)
  else
    bnd2 (f_X11_records N (cit_saved) (cft_now) (cft_past)) fun o57_0 o57_1 =>
    b_X11_word_72 N it_length ft_text N ((0 : Int32)) (o57_0) ((upd cft_now ((0 : Int32)).toNatClampNeg it_length)) (o57_1)
noncomputable def b_X11_word_13 (N : Nat) (it_length : Int32) (ft_text : Nat → Int32) : Nat → Int32 → Int32 → Int32 → (Nat → Int32) → (Nat → Int32) → Option (Int32 × Int32 × (Nat → Int32) × (Nat → Int32))
  | 0, _, _, _, _, _ => none
  | n + 1, l1, l2, cit_saved, cft_now, cft_past =>
    if it_length ≤ l2 then
      b_X11_word_49 N it_length ft_text (l1) (cit_saved) (cft_now) (cft_past)
    else
      if l1 = 0 then
        b_X11_word_49 N it_length ft_text (l1) (cit_saved) (cft_now) (cft_past)
      else
        if l2 < 0 ∨ 200 ≤ (l2).toNatClampNeg then none else
        if (t_X11_shape ((ft_text (l2).toNatClampNeg))) ≤ 0 then
          b_X11_word_13 N it_length ft_text n ((0 : Int32)) ((l2 + (1 : Int32))) (cit_saved) (cft_now) (cft_past)
        else
          b_X11_word_13 N it_length ft_text n ((1 : Int32)) ((l2 + (1 : Int32))) (cit_saved) (cft_now) (cft_past)
noncomputable def f_X11_word (N : Nat) (it_saved : Int32) (it_length : Int32) (ft_now : Nat → Int32) (ft_past : Nat → Int32) (ft_text : Nat → Int32) : Option (Int32 × Int32 × (Nat → Int32) × (Nat → Int32)) :=
  b_X11_word_13 N it_length ft_text N ((t_X11_in (it_length) ((1 : Int32)) ((6 : Int32)))) ((0 : Int32)) (it_saved) (ft_now) (ft_past)
noncomputable def f_X11_letterAt (ft_now : Nat → Int32) (va1 : Int32) : Option (Int32) :=
  if (t_X11_wide (ft_now)) = 0 then none else
  if (va1 / (t_X11_wide (ft_now))) = (5 : Int32) then
    some ((-1 : Int32))
  else
    if (t_X11_wide (ft_now)) = 0 then none else
    some (((va1 - va1 / (t_X11_wide (ft_now)) * (t_X11_wide (ft_now))) / (6 : Int32)))
noncomputable def f_X11_letterOf (ft_now : Nat → Int32) (va1 : Int32) : Option (Int32) :=
  bnd1 (f_X11_hasRoom (ft_now) (va1)) fun r2 =>
  if r2 = 0 then
    some ((-1 : Int32))
  else
    bnd1 (f_X11_letterAt (ft_now) (va1)) fun r12 =>
    if 0 ≤ r12 then
      some (r12)
    else
      some ((-4 : Int32))
noncomputable def b_X11_beside_79 (ft_now : Nat → Int32) (va1 : Int32) (va2 : Int32) (l4 : Int32) (s0 : Int32) : Option (Int32) :=
  if s0 = 0 then
    bnd1 (f_X11_hasRoom (ft_now) (l4)) fun r89 =>
    if r89 = 0 then
      some ((-1 : Int32))
    else
      some (l4)
  else
    some ((-1 : Int32))
noncomputable def b_X11_beside_78 (ft_now : Nat → Int32) (va1 : Int32) (va2 : Int32) (l4 : Int32) : Option (Int32) :=
  b_X11_beside_79 ft_now va1 va2 (l4) ((0 : Int32))
noncomputable def b_X11_beside_74 (ft_now : Nat → Int32) (va1 : Int32) (va2 : Int32) (l4 : Int32) : Option (Int32) :=
  b_X11_beside_79 ft_now va1 va2 (l4) ((1 : Int32))
noncomputable def b_X11_beside_65 (ft_now : Nat → Int32) (va1 : Int32) (va2 : Int32) (l3 : Int32) (l4 : Int32) : Option (Int32) :=
  if va2 = (3 : Int32) then
    if l3 = 0 then
      b_X11_beside_74 ft_now va1 va2 (l4)
    else
      b_X11_beside_78 ft_now va1 va2 (l4)
  else
    b_X11_beside_78 ft_now va1 va2 (l4)
noncomputable def b_X11_beside_48 (ft_now : Nat → Int32) (va1 : Int32) (va2 : Int32) (l3 : Int32) (s0 : Int32) : Option (Int32) :=
  if va2 = (1 : Int32) then
    if l3 = ((t_X11_wide (ft_now)) - (1 : Int32)) then
      b_X11_beside_74 ft_now va1 va2 (s0)
    else
      b_X11_beside_65 ft_now va1 va2 (l3) (s0)
  else
    b_X11_beside_65 ft_now va1 va2 (l3) (s0)
noncomputable def f_X11_beside (ft_now : Nat → Int32) (va1 : Int32) (va2 : Int32) : Option (Int32) :=
  if (t_X11_wide (ft_now)) = 0 then none else
  if va2 = 0 then
    b_X11_beside_48 ft_now va1 va2 ((va1 - va1 / (t_X11_wide (ft_now)) * (t_X11_wide (ft_now)))) ((va1 - (t_X11_wide (ft_now))))
  else
    if va2 = (1 : Int32) then
      b_X11_beside_48 ft_now va1 va2 ((va1 - va1 / (t_X11_wide (ft_now)) * (t_X11_wide (ft_now)))) ((va1 + (1 : Int32)))
    else
      if va2 = (2 : Int32) then
        b_X11_beside_48 ft_now va1 va2 ((va1 - va1 / (t_X11_wide (ft_now)) * (t_X11_wide (ft_now)))) ((va1 + (t_X11_wide (ft_now))))
      else
        b_X11_beside_48 ft_now va1 va2 ((va1 - va1 / (t_X11_wide (ft_now)) * (t_X11_wide (ft_now)))) ((va1 - (1 : Int32)))
noncomputable def f_X11_doorAt (ft_now : Nat → Int32) (va1 : Int32) (va2 : Int32) : Option (Int32) :=
  if va2 = 0 then
    some ((((219 : Int32) + va1) - (t_X11_wide (ft_now))))
  else
    if va2 = (1 : Int32) then
      some (((9 : Int32) + va1))
    else
      if va2 = (2 : Int32) then
        some (((219 : Int32) + va1))
      else
        some ((((9 : Int32) + va1) - (1 : Int32)))
noncomputable def t_X11_doorAt (ft_now : Nat → Int32) (va1 : Int32) (va2 : Int32) : Int32 :=
  if va2 = 0 then
    (((219 : Int32) + va1) - (t_X11_wide (ft_now)))
  else
    if va2 = (1 : Int32) then
      ((9 : Int32) + va1)
    else
      if va2 = (2 : Int32) then
        ((219 : Int32) + va1)
      else
        (((9 : Int32) + va1) - (1 : Int32))
theorem tot_X11_doorAt (ft_now : Nat → Int32) (va1 : Int32) (va2 : Int32) : f_X11_doorAt ft_now va1 va2 = some (t_X11_doorAt ft_now va1 va2) := by
  by_cases hc_1 : va2 = 0
  · simp only [f_X11_doorAt, t_X11_doorAt, if_pos hc_1]
  · by_cases hc_19 : va2 = (1 : Int32)
    · simp only [f_X11_doorAt, t_X11_doorAt, if_neg hc_1, if_pos hc_19]
    · by_cases hc_31 : va2 = (2 : Int32)
      · simp only [f_X11_doorAt, t_X11_doorAt, if_neg hc_1, if_neg hc_19, if_pos hc_31]
      · simp only [f_X11_doorAt, t_X11_doorAt, if_neg hc_1, if_neg hc_19, if_neg hc_31]
noncomputable def f_X11_isOpen (ft_now : Nat → Int32) (va1 : Int32) (va2 : Int32) : Option (Int32) :=
  bnd1 (f_X11_beside (ft_now) (va1) (va2)) fun r3 =>
  if r3 < 0 then
    some ((0 : Int32))
  else
    if (t_X11_doorAt (ft_now) (va1) (va2)) < 0 ∨ 639 ≤ ((t_X11_doorAt (ft_now) (va1) (va2))).toNatClampNeg then none else
    if (ft_now ((t_X11_doorAt (ft_now) (va1) (va2))).toNatClampNeg) = (1 : Int32) then
      some ((1 : Int32))
    else
      some ((0 : Int32))
noncomputable def b_X11_openOnes_4 (N : Nat) (ft_now : Nat → Int32) (va1 : Int32) : Nat → Int32 → Int32 → Option (Int32)
  | 0, _, _ => none
  | n + 1, l2, l3 =>
    if (4 : Int32) ≤ l3 then
      some (l2)
    else
      bnd1 (f_X11_isOpen (ft_now) (va1) (l3)) fun r13 =>
      if r13 = 0 then
        b_X11_openOnes_4 N ft_now va1 n ((l2 + (0 : Int32))) ((l3 + (1 : Int32)))
      else
        b_X11_openOnes_4 N ft_now va1 n ((l2 + (1 : Int32))) ((l3 + (1 : Int32)))
noncomputable def f_X11_openOnes (N : Nat) (ft_now : Nat → Int32) (va1 : Int32) : Option (Int32) :=
  b_X11_openOnes_4 N ft_now va1 N ((0 : Int32)) ((0 : Int32))
noncomputable def b_X11_countsDoors_25 (N : Nat) (ft_now : Nat → Int32) (k7 : Int32 → Int32 → (Nat → Int32) → Option (Int32 × (Nat → Int32))) : Nat → Int32 → Int32 → Int32 → (Nat → Int32) → Option (Int32 × (Nat → Int32))
  | 0, _, _, _, _ => none
  | n + 1, l1, l2, cit_doorMany, cft_doors =>
    if (3 : Int32) ≤ l2 then
      k7 ((l1 + (1 : Int32))) (cit_doorMany) (cft_doors)
    else
      bnd1 (f_X11_beside (ft_now) (l1) (l2)) fun r33 =>
      if r33 < 0 then
        b_X11_countsDoors_25 N ft_now k7 n (l1) ((l2 + (1 : Int32))) (cit_doorMany) (cft_doors)
      else
        if cit_doorMany < 0 ∨ 420 ≤ (cit_doorMany).toNatClampNeg then none else
        b_X11_countsDoors_25 N ft_now k7 n (l1) ((l2 + (1 : Int32))) ((cit_doorMany + (1 : Int32))) ((upd cft_doors (cit_doorMany).toNatClampNeg ((((2 : Int32) * l1) + l2) - (1 : Int32))))
noncomputable def b_X11_countsDoors_7 (N : Nat) (ft_now : Nat → Int32) : Nat → Int32 → Int32 → (Nat → Int32) → Option (Int32 × (Nat → Int32))
  | 0, _, _, _ => none
  | n + 1, l1, cit_doorMany, cft_doors =>
    if (t_X11_cells (ft_now)) ≤ l1 then
      some (cit_doorMany, cft_doors)
    else
      bnd1 (f_X11_isRoomAt (ft_now) (l1)) fun r17 =>
      if r17 = 0 then
        b_X11_countsDoors_7 N ft_now n ((l1 + (1 : Int32))) (cit_doorMany) (cft_doors)
      else
        b_X11_countsDoors_25 N ft_now (b_X11_countsDoors_7 N ft_now n) N (l1) ((1 : Int32)) (cit_doorMany) (cft_doors)
noncomputable def f_X11_countsDoors (N : Nat) (it_doorMany : Int32) (ft_now : Nat → Int32) (ft_doors : Nat → Int32) : Option (Int32 × (Nat → Int32)) :=
  b_X11_countsDoors_7 N ft_now N ((0 : Int32)) ((0 : Int32)) (ft_doors)
noncomputable def b_X11_letterValue_135 (N : Nat) (ft_now : Nat → Int32) (va1 : Int32) (va2 : Int32) (k5 : Int32 → Int32 → Option (Int32)) (k61 : Int32 → Int32 → Int32 → Int32 → Option (Int32)) (l3 : Int32) (l4 : Int32) (l5 : Int32) (l6 : Int32) (s0 : Int32) : Option (Int32) :=
  if s0 = 0 then
    k61 ((l3 + (0 : Int32))) (l4) (l5) ((l6 + (1 : Int32)))
  else
    if va2 = (2 : Int32) then
      k61 ((l3 + (1 : Int32))) (l4) (l5) ((l6 + (1 : Int32)))
    else
      bnd1 (f_X11_isOpen (ft_now) (l4) (l6)) fun r153 =>
      if r153 = 0 then
        k61 ((l3 + (0 : Int32))) (l4) (l5) ((l6 + (1 : Int32)))
      else
        k61 ((l3 + (1 : Int32))) (l4) (l5) ((l6 + (1 : Int32)))
noncomputable def b_X11_letterValue_103 (N : Nat) (ft_now : Nat → Int32) (va1 : Int32) (va2 : Int32) (k5 : Int32 → Int32 → Option (Int32)) (k61 : Int32 → Int32 → Int32 → Int32 → Option (Int32)) (l3 : Int32) (l4 : Int32) (l5 : Int32) (l6 : Int32) (s0 : Int32) : Option (Int32) :=
  if va2 = (4 : Int32) then
    if s0 = (-1 : Int32) then
      b_X11_letterValue_135 N ft_now va1 va2 (k5) (k61) (l3) (l4) (l5) (l6) ((1 : Int32))
    else
      b_X11_letterValue_135 N ft_now va1 va2 (k5) (k61) (l3) (l4) (l5) (l6) ((0 : Int32))
  else
    if s0 = va1 then
      b_X11_letterValue_135 N ft_now va1 va2 (k5) (k61) (l3) (l4) (l5) (l6) ((1 : Int32))
    else
      b_X11_letterValue_135 N ft_now va1 va2 (k5) (k61) (l3) (l4) (l5) (l6) ((0 : Int32))
noncomputable def b_X11_letterValue_61 (N : Nat) (ft_now : Nat → Int32) (va1 : Int32) (va2 : Int32) (k5 : Int32 → Int32 → Option (Int32)) : Nat → Int32 → Int32 → Int32 → Int32 → Option (Int32)
  | 0, _, _, _, _ => none
  | n + 1, l3, l4, l5, l6 =>
    if (3 : Int32) ≤ l6 then
      k5 (l3) ((l4 + (1 : Int32)))
    else
      if l5 = 0 then
        k5 (l3) ((l4 + (1 : Int32)))
      else
        if va2 ≤ (1 : Int32) then
          k5 (l3) ((l4 + (1 : Int32)))
        else
          bnd1 (f_X11_beside (ft_now) (l4) (l6)) fun r82 =>
          if 0 ≤ r82 then
            bnd1 (f_X11_letterAt (ft_now) (r82)) fun r100 =>
            b_X11_letterValue_103 N ft_now va1 va2 (k5) (b_X11_letterValue_61 N ft_now va1 va2 k5 n) (l3) (l4) (l5) (l6) (r100)
          else
            b_X11_letterValue_103 N ft_now va1 va2 (k5) (b_X11_letterValue_61 N ft_now va1 va2 k5 n) (l3) (l4) (l5) (l6) ((-2 : Int32))
noncomputable def b_X11_letterValue_38 (N : Nat) (ft_now : Nat → Int32) (va1 : Int32) (va2 : Int32) (k5 : Int32 → Int32 → Option (Int32)) (l3 : Int32) (l4 : Int32) (s0 : Int32) : Option (Int32) :=
  if s0 = 0 then
    b_X11_letterValue_61 N ft_now va1 va2 (k5) N ((l3 + (0 : Int32))) (l4) (s0) ((1 : Int32))
  else
    if va2 = (1 : Int32) then
      b_X11_letterValue_61 N ft_now va1 va2 (k5) N ((l3 + (1 : Int32))) (l4) (s0) ((1 : Int32))
    else
      b_X11_letterValue_61 N ft_now va1 va2 (k5) N ((l3 + (0 : Int32))) (l4) (s0) ((1 : Int32))
noncomputable def b_X11_letterValue_37 (N : Nat) (ft_now : Nat → Int32) (va1 : Int32) (va2 : Int32) (k5 : Int32 → Int32 → Option (Int32)) (l3 : Int32) (l4 : Int32) : Option (Int32) :=
  b_X11_letterValue_38 N ft_now va1 va2 (k5) (l3) (l4) ((0 : Int32))
noncomputable def b_X11_letterValue_5 (N : Nat) (ft_now : Nat → Int32) (va1 : Int32) (va2 : Int32) : Nat → Int32 → Int32 → Option (Int32)
  | 0, _, _ => none
  | n + 1, l3, l4 =>
    if (t_X11_cells (ft_now)) ≤ l4 then
      some (l3)
    else
      bnd1 (f_X11_isRoomAt (ft_now) (l4)) fun r17 =>
      if r17 = 0 then
        b_X11_letterValue_37 N ft_now va1 va2 (b_X11_letterValue_5 N ft_now va1 va2 n) (l3) (l4)
      else
        bnd1 (f_X11_letterAt (ft_now) (l4)) fun r26 =>
        if r26 = va1 then
          b_X11_letterValue_38 N ft_now va1 va2 (b_X11_letterValue_5 N ft_now va1 va2 n) (l3) (l4) ((1 : Int32))
        else
          b_X11_letterValue_37 N ft_now va1 va2 (b_X11_letterValue_5 N ft_now va1 va2 n) (l3) (l4)
noncomputable def f_X11_letterValue (N : Nat) (ft_now : Nat → Int32) (va1 : Int32) (va2 : Int32) : Option (Int32) :=
  b_X11_letterValue_5 N ft_now va1 va2 N ((0 : Int32)) ((0 : Int32))
noncomputable def f_X11_letter (N : Nat) (ft_now : Nat → Int32) (va1 : Int32) (va2 : Int32) : Option (Int32) :=
  if va1 < 0 then
    some ((-1 : Int32))
  else
    if (t_X11_in (va2) ((0 : Int32)) ((4 : Int32))) = 0 then
      some ((-1 : Int32))
    else
      if va1 < (ft_now ((0 : Int32)).toNatClampNeg) then
        if va2 = 0 then
          if ((1 : Int32) + va1) < 0 ∨ 639 ≤ (((1 : Int32) + va1)).toNatClampNeg then none else
          some ((ft_now (((1 : Int32) + va1)).toNatClampNeg))
        else
          bnd1 (f_X11_letterValue N (ft_now) (va1) (va2)) fun r48 =>
          some (r48)
      else
        some ((-4 : Int32))
noncomputable def f_X11_isRoom (ft_now : Nat → Int32) (va1 : Int32) : Option (Int32) :=
  if (t_X11_in (va1) ((0 : Int32)) (((t_X11_cells (ft_now)) - (1 : Int32)))) = 0 then
    some ((-1 : Int32))
  else
    bnd1 (f_X11_isRoomAt (ft_now) (va1)) fun r20 =>
    if r20 = 0 then
      some ((0 : Int32))
    else
      some ((1 : Int32))
noncomputable def b_X11_joins_2 (N : Nat) (ft_now : Nat → Int32) (va1 : Int32) (va2 : Int32) : Nat → Int32 → (Nat → Int32) → Option ((Nat → Int32))
  | 0, _, _ => none
  | n + 1, l3, cft_label =>
    if (t_X11_cells (ft_now)) ≤ l3 then
      some (cft_label)
    else
      if l3 < 0 ∨ 210 ≤ (l3).toNatClampNeg then none else
      if (cft_label (l3).toNatClampNeg) = va1 then
        if l3 < 0 ∨ 210 ≤ (l3).toNatClampNeg then none else
        b_X11_joins_2 N ft_now va1 va2 n ((l3 + (1 : Int32))) ((upd cft_label (l3).toNatClampNeg va2))
      else
        if l3 < 0 ∨ 210 ≤ (l3).toNatClampNeg then none else
        if l3 < 0 ∨ 210 ≤ (l3).toNatClampNeg then none else
        b_X11_joins_2 N ft_now va1 va2 n ((l3 + (1 : Int32))) ((upd cft_label (l3).toNatClampNeg (cft_label (l3).toNatClampNeg)))
noncomputable def f_X11_joins (N : Nat) (ft_now : Nat → Int32) (ft_label : Nat → Int32) (va1 : Int32) (va2 : Int32) : Option ((Nat → Int32)) :=
  b_X11_joins_2 N ft_now va1 va2 N ((0 : Int32)) (ft_label)
noncomputable def f_X11_joinsTwo (N : Nat) (ft_now : Nat → Int32) (ft_label : Nat → Int32) (va1 : Int32) (va2 : Int32) : Option ((Nat → Int32)) :=
  if va2 ≤ va1 then
    if va1 ≤ va2 then
      some (ft_label)
    else
      bnd1 (f_X11_joins N (ft_now) (ft_label) (va1) (va2)) fun o22_0 =>
      some (o22_0)
  else
    bnd1 (f_X11_joins N (ft_now) (ft_label) (va2) (va1)) fun o8_0 =>
    some (o8_0)
noncomputable def b_X11_labels_35 (N : Nat) (ft_now : Nat → Int32) (k25 : Int32 → (Nat → Int32) → Option ((Nat → Int32))) : Nat → Int32 → Int32 → (Nat → Int32) → Option ((Nat → Int32))
  | 0, _, _, _ => none
  | n + 1, l1, l2, cft_label =>
    if (3 : Int32) ≤ l2 then
      k25 ((l1 + (1 : Int32))) (cft_label)
    else
      bnd1 (f_X11_isRoomAt (ft_now) (l1)) fun r42 =>
      if r42 = 0 then
        b_X11_labels_35 N ft_now k25 n (l1) ((l2 + (1 : Int32))) (cft_label)
      else
        bnd1 (f_X11_isOpen (ft_now) (l1) (l2)) fun r51 =>
        if r51 = 0 then
          b_X11_labels_35 N ft_now k25 n (l1) ((l2 + (1 : Int32))) (cft_label)
        else
          if l1 < 0 ∨ 210 ≤ (l1).toNatClampNeg then none else
          bnd1 (f_X11_beside (ft_now) (l1) (l2)) fun r71 =>
          if r71 < 0 ∨ 210 ≤ (r71).toNatClampNeg then none else
          bnd1 (f_X11_joinsTwo N (ft_now) (cft_label) ((cft_label (l1).toNatClampNeg)) ((cft_label (r71).toNatClampNeg))) fun o75_0 =>
          b_X11_labels_35 N ft_now k25 n (l1) ((l2 + (1 : Int32))) (o75_0)
noncomputable def b_X11_labels_25 (N : Nat) (ft_now : Nat → Int32) : Nat → Int32 → (Nat → Int32) → Option ((Nat → Int32))
  | 0, _, _ => none
  | n + 1, l1, cft_label =>
    if (t_X11_cells (ft_now)) ≤ l1 then
      some (cft_label)
    else
      b_X11_labels_35 N ft_now (b_X11_labels_25 N ft_now n) N (l1) ((1 : Int32)) (cft_label)
noncomputable def b_X11_labels_2 (N : Nat) (ft_now : Nat → Int32) : Nat → Int32 → (Nat → Int32) → Option ((Nat → Int32))
  | 0, _, _ => none
  | n + 1, l1, cft_label =>
    if (t_X11_cells (ft_now)) ≤ l1 then
      b_X11_labels_25 N ft_now N ((0 : Int32)) (cft_label)
    else
      if l1 < 0 ∨ 210 ≤ (l1).toNatClampNeg then none else
      b_X11_labels_2 N ft_now n ((l1 + (1 : Int32))) ((upd cft_label (l1).toNatClampNeg l1))
noncomputable def f_X11_labels (N : Nat) (ft_now : Nat → Int32) (ft_label : Nat → Int32) : Option ((Nat → Int32)) :=
  b_X11_labels_2 N ft_now N ((0 : Int32)) (ft_label)
noncomputable def f_X11_draw (it_drawn : Int32) (va1 : Int32) : Option (Int32 × Int32) :=
  if va1 = 0 then none else
  some ((((((75 : Int32) * it_drawn) + (74 : Int32)) - (((75 : Int32) * it_drawn) + (74 : Int32)) / (65537 : Int32) * (65537 : Int32)) - ((((75 : Int32) * it_drawn) + (74 : Int32)) - (((75 : Int32) * it_drawn) + (74 : Int32)) / (65537 : Int32) * (65537 : Int32)) / va1 * va1), ((((75 : Int32) * it_drawn) + (74 : Int32)) - (((75 : Int32) * it_drawn) + (74 : Int32)) / (65537 : Int32) * (65537 : Int32)))
noncomputable def b_X11_openDoors_5 (N : Nat) (ft_now : Nat → Int32) : Nat → Int32 → Int32 → Option (Int32)
  | 0, _, _ => none
  | n + 1, l1, l2 =>
    if (429 : Int32) ≤ l2 then
      some (l1)
    else
      if l2 < 0 ∨ 639 ≤ (l2).toNatClampNeg then none else
      b_X11_openDoors_5 N ft_now n ((l1 + (ft_now (l2).toNatClampNeg))) ((l2 + (1 : Int32)))
noncomputable def f_X11_openDoors (N : Nat) (ft_now : Nat → Int32) : Option (Int32) :=
  b_X11_openDoors_5 N ft_now N ((0 : Int32)) ((9 : Int32))
noncomputable def b_X11_make_107 (N : Nat) (va1 : Int32) : Nat → Int32 → Int32 → Int32 → Int32 → (Nat → Int32) → (Nat → Int32) → (Nat → Int32) → (Nat → Int32) → Option (Int32 × Int32 × Int32 × Int32 × (Nat → Int32) × (Nat → Int32) × (Nat → Int32) × (Nat → Int32))
  | 0, _, _, _, _, _, _, _, _ => none
  | n + 1, l2, cit_saved, cit_doorMany, cit_drawn, cft_now, cft_past, cft_doors, cft_label =>
    if cit_doorMany ≤ l2 then
      bnd1 (f_X11_openDoors N (cft_now)) fun r198 =>
      some (r198, cit_saved, cit_doorMany, cit_drawn, cft_now, cft_past, cft_doors, cft_label)
    else
      if l2 < 0 ∨ 420 ≤ (l2).toNatClampNeg then none else
      if l2 < 0 ∨ 420 ≤ (l2).toNatClampNeg then none else
      bnd1 (f_X11_beside (cft_now) (((cft_doors (l2).toNatClampNeg) / (2 : Int32))) (((1 : Int32) + ((cft_doors (l2).toNatClampNeg) - (cft_doors (l2).toNatClampNeg) / (2 : Int32) * (2 : Int32))))) fun r140 =>
      if ((cft_doors (l2).toNatClampNeg) / (2 : Int32)) < 0 ∨ 210 ≤ (((cft_doors (l2).toNatClampNeg) / (2 : Int32))).toNatClampNeg then none else
      if r140 < 0 ∨ 210 ≤ (r140).toNatClampNeg then none else
      if (cft_label (((cft_doors (l2).toNatClampNeg) / (2 : Int32))).toNatClampNeg) = (cft_label (r140).toNatClampNeg) then
        b_X11_make_107 N va1 n ((l2 + (1 : Int32))) (cit_saved) (cit_doorMany) (cit_drawn) (cft_now) (cft_past) (cft_doors) (cft_label)
      else
        if (t_X11_doorAt (cft_now) (((cft_doors (l2).toNatClampNeg) / (2 : Int32))) (((1 : Int32) + ((cft_doors (l2).toNatClampNeg) - (cft_doors (l2).toNatClampNeg) / (2 : Int32) * (2 : Int32))))) < 0 ∨ 639 ≤ ((t_X11_doorAt (cft_now) (((cft_doors (l2).toNatClampNeg) / (2 : Int32))) (((1 : Int32) + ((cft_doors (l2).toNatClampNeg) - (cft_doors (l2).toNatClampNeg) / (2 : Int32) * (2 : Int32)))))).toNatClampNeg then none else
        if ((cft_doors (l2).toNatClampNeg) / (2 : Int32)) < 0 ∨ 210 ≤ (((cft_doors (l2).toNatClampNeg) / (2 : Int32))).toNatClampNeg then none else
        if r140 < 0 ∨ 210 ≤ (r140).toNatClampNeg then none else
        bnd1 (f_X11_joinsTwo N ((upd cft_now ((t_X11_doorAt (cft_now) (((cft_doors (l2).toNatClampNeg) / (2 : Int32))) (((1 : Int32) + ((cft_doors (l2).toNatClampNeg) - (cft_doors (l2).toNatClampNeg) / (2 : Int32) * (2 : Int32)))))).toNatClampNeg (1 : Int32))) (cft_label) ((cft_label (((cft_doors (l2).toNatClampNeg) / (2 : Int32))).toNatClampNeg)) ((cft_label (r140).toNatClampNeg))) fun o188_0 =>
        b_X11_make_107 N va1 n ((l2 + (1 : Int32))) (cit_saved) (cit_doorMany) (cit_drawn) ((upd cft_now ((t_X11_doorAt (cft_now) (((cft_doors (l2).toNatClampNeg) / (2 : Int32))) (((1 : Int32) + ((cft_doors (l2).toNatClampNeg) - (cft_doors (l2).toNatClampNeg) / (2 : Int32) * (2 : Int32)))))).toNatClampNeg (1 : Int32))) (cft_past) (cft_doors) (o188_0)
noncomputable def b_X11_make_55 (N : Nat) (va1 : Int32) : Nat → Int32 → Int32 → Int32 → Int32 → (Nat → Int32) → (Nat → Int32) → (Nat → Int32) → (Nat → Int32) → Option (Int32 × Int32 × Int32 × Int32 × (Nat → Int32) × (Nat → Int32) × (Nat → Int32) × (Nat → Int32))
  | 0, _, _, _, _, _, _, _, _ => none
  | n + 1, l2, cit_saved, cit_doorMany, cit_drawn, cft_now, cft_past, cft_doors, cft_label =>
    if l2 ≤ 0 then
      bnd1 (f_X11_labels N (cft_now) (cft_label)) fun o102_0 =>
      b_X11_make_107 N va1 N ((0 : Int32)) (cit_saved) (cit_doorMany) (cit_drawn) (cft_now) (cft_past) (cft_doors) (o102_0)
    else
      bnd2 (f_X11_draw (cit_drawn) ((l2 + (1 : Int32)))) fun r63 o63_0 =>
      if l2 < 0 ∨ 420 ≤ (l2).toNatClampNeg then none else
      if r63 < 0 ∨ 420 ≤ (r63).toNatClampNeg then none else
      if l2 < 0 ∨ 420 ≤ (l2).toNatClampNeg then none else
      if r63 < 0 ∨ 420 ≤ (r63).toNatClampNeg then none else
      b_X11_make_55 N va1 n ((l2 + (-1 : Int32))) (cit_saved) (cit_doorMany) (o63_0) (cft_now) (cft_past) ((upd (upd cft_doors (l2).toNatClampNeg (cft_doors (r63).toNatClampNeg)) (r63).toNatClampNeg (cft_doors (l2).toNatClampNeg))) (cft_label)
noncomputable def b_X11_make_19 (N : Nat) (va1 : Int32) : Nat → Int32 → Int32 → Int32 → Int32 → (Nat → Int32) → (Nat → Int32) → (Nat → Int32) → (Nat → Int32) → Option (Int32 × Int32 × Int32 × Int32 × (Nat → Int32) × (Nat → Int32) × (Nat → Int32) × (Nat → Int32))
  | 0, _, _, _, _, _, _, _, _ => none
  | n + 1, l2, cit_saved, cit_doorMany, cit_drawn, cft_now, cft_past, cft_doors, cft_label =>
    if (429 : Int32) ≤ l2 then
      bnd2 (f_X11_countsDoors N (cit_doorMany) (cft_now) (cft_doors)) fun o45_0 o45_1 =>
      b_X11_make_55 N va1 N ((o45_0 - (1 : Int32))) (cit_saved) (o45_0) (va1) (cft_now) (cft_past) (o45_1) (cft_label)
    else
      if l2 < 0 ∨ 639 ≤ (l2).toNatClampNeg then none else
      b_X11_make_19 N va1 n ((l2 + (1 : Int32))) (cit_saved) (cit_doorMany) (cit_drawn) ((upd cft_now (l2).toNatClampNeg (0 : Int32))) (cft_past) (cft_doors) (cft_label)
noncomputable def f_X11_make (N : Nat) (it_saved : Int32) (it_doorMany : Int32) (it_drawn : Int32) (ft_now : Nat → Int32) (ft_past : Nat → Int32) (ft_doors : Nat → Int32) (ft_label : Nat → Int32) (va1 : Int32) : Option (Int32 × Int32 × Int32 × Int32 × (Nat → Int32) × (Nat → Int32) × (Nat → Int32) × (Nat → Int32)) :=
  if (t_X11_in (va1) ((0 : Int32)) ((65535 : Int32))) = 0 then
    some ((-1 : Int32), it_saved, it_doorMany, it_drawn, ft_now, ft_past, ft_doors, ft_label)
  else
    bnd2 (f_X11_records N (it_saved) (ft_now) (ft_past)) fun o13_0 o13_1 =>
    b_X11_make_19 N va1 N ((9 : Int32)) (o13_0) (it_doorMany) (it_drawn) (ft_now) (o13_1) (ft_doors) (ft_label)
noncomputable def f_X11_door (N : Nat) (it_saved : Int32) (ft_now : Nat → Int32) (ft_past : Nat → Int32) (va1 : Int32) (va2 : Int32) (va3 : Int32) : Option (Int32 × Int32 × (Nat → Int32) × (Nat → Int32)) :=
  bnd1 (f_X11_hasRoom (ft_now) (va1)) fun r2 =>
  if r2 = 0 then
    some ((-1 : Int32), it_saved, ft_now, ft_past)
  else
    if (t_X11_in (va2) ((0 : Int32)) ((3 : Int32))) = 0 then
      some ((-1 : Int32), it_saved, ft_now, ft_past)
    else
      if (t_X11_in (va3) ((0 : Int32)) ((1 : Int32))) = 0 then
        some ((-1 : Int32), it_saved, ft_now, ft_past)
      else
        bnd1 (f_X11_beside (ft_now) (va1) (va2)) fun r31 =>
        if 0 ≤ r31 then
          bnd2 (f_X11_records N (it_saved) (ft_now) (ft_past)) fun o41_0 o41_1 =>
          if (t_X11_doorAt (ft_now) (va1) (va2)) < 0 ∨ 639 ≤ ((t_X11_doorAt (ft_now) (va1) (va2))).toNatClampNeg then none else
          if (t_X11_doorAt (ft_now) (va1) (va2)) < 0 ∨ 639 ≤ ((t_X11_doorAt (ft_now) (va1) (va2))).toNatClampNeg then none else
          some ((ft_now ((t_X11_doorAt (ft_now) (va1) (va2))).toNatClampNeg), o41_0, (upd ft_now ((t_X11_doorAt (ft_now) (va1) (va2))).toNatClampNeg va3), o41_1)
        else
          some ((-4 : Int32), it_saved, ft_now, ft_past)
noncomputable def b_X11_doors_14 (N : Nat) (ft_now : Nat → Int32) (va1 : Int32) : Nat → Int32 → Int32 → Option (Int32)
  | 0, _, _ => none
  | n + 1, l2, l3 =>
    if (4 : Int32) ≤ l3 then
      some (l2)
    else
      bnd1 (f_X11_isOpen (ft_now) (va1) (l3)) fun r23 =>
      if r23 = 0 then
        b_X11_doors_14 N ft_now va1 n ((l2 ||| (0 : Int32))) ((l3 + (1 : Int32)))
      else
        b_X11_doors_14 N ft_now va1 n ((l2 ||| ((1 : Int32) <<< (l3 &&& 31)))) ((l3 + (1 : Int32)))
noncomputable def f_X11_doors (N : Nat) (ft_now : Nat → Int32) (va1 : Int32) : Option (Int32) :=
  bnd1 (f_X11_hasRoom (ft_now) (va1)) fun r2 =>
  if r2 = 0 then
    some ((-1 : Int32))
  else
    b_X11_doors_14 N ft_now va1 N ((0 : Int32)) ((0 : Int32))
noncomputable def b_X11_parts_8 (N : Nat) (ft_now : Nat → Int32) : Nat → Int32 → Int32 → (Nat → Int32) → Option (Int32 × (Nat → Int32))
  | 0, _, _, _ => none
  | n + 1, l1, l2, cft_label =>
    if (t_X11_cells (ft_now)) ≤ l2 then
      some (l1, cft_label)
    else
      bnd1 (f_X11_isRoomAt (ft_now) (l2)) fun r19 =>
      if r19 = 0 then
        b_X11_parts_8 N ft_now n ((l1 + (0 : Int32))) ((l2 + (1 : Int32))) (cft_label)
      else
        if l2 < 0 ∨ 210 ≤ (l2).toNatClampNeg then none else
        if (cft_label (l2).toNatClampNeg) = l2 then
          b_X11_parts_8 N ft_now n ((l1 + (1 : Int32))) ((l2 + (1 : Int32))) (cft_label)
        else
          b_X11_parts_8 N ft_now n ((l1 + (0 : Int32))) ((l2 + (1 : Int32))) (cft_label)
noncomputable def f_X11_parts (N : Nat) (ft_now : Nat → Int32) (ft_label : Nat → Int32) : Option (Int32 × (Nat → Int32)) :=
  bnd1 (f_X11_labels N (ft_now) (ft_label)) fun o1_0 =>
  b_X11_parts_8 N ft_now N ((0 : Int32)) ((0 : Int32)) (o1_0)
noncomputable def f_X11_loops (N : Nat) (ft_now : Nat → Int32) (ft_label : Nat → Int32) : Option (Int32 × (Nat → Int32)) :=
  bnd1 (f_X11_openDoors N (ft_now)) fun r1 =>
  bnd1 (f_X11_rooms N (ft_now)) fun r5 =>
  bnd2 (f_X11_parts N (ft_now) (ft_label)) fun r10 o10_0 =>
  some (((r1 - r5) + r10), o10_0)
noncomputable def f_X11_isSingle (N : Nat) (ft_now : Nat → Int32) (ft_label : Nat → Int32) : Option (Int32 × (Nat → Int32)) :=
  bnd2 (f_X11_parts N (ft_now) (ft_label)) fun r1 o1_0 =>
  if r1 = (1 : Int32) then
    bnd2 (f_X11_loops N (ft_now) (o1_0)) fun r9 o9_0 =>
    if r9 = 0 then
      some ((1 : Int32), o9_0)
    else
      some ((0 : Int32), o9_0)
  else
    some ((0 : Int32), o1_0)
noncomputable def f_X11_isFork (N : Nat) (ft_now : Nat → Int32) (va1 : Int32) : Option (Int32) :=
  bnd1 (f_X11_isRoomAt (ft_now) (va1)) fun r2 =>
  if r2 = 0 then
    some ((0 : Int32))
  else
    bnd1 (f_X11_openOnes N (ft_now) (va1)) fun r10 =>
    if r10 ≤ (2 : Int32) then
      some ((0 : Int32))
    else
      some ((1 : Int32))
noncomputable def b_X11_roomsWith_5 (N : Nat) (ft_now : Nat → Int32) (va1 : Int32) (va2 : Int32) : Nat → Int32 → Int32 → Option (Int32)
  | 0, _, _ => none
  | n + 1, l3, l4 =>
    if (t_X11_cells (ft_now)) ≤ l4 then
      some (l3)
    else
      bnd1 (f_X11_isRoomAt (ft_now) (l4)) fun r18 =>
      if r18 = 0 then
        b_X11_roomsWith_5 N ft_now va1 va2 n ((l3 + (0 : Int32))) ((l4 + (1 : Int32)))
      else
        bnd1 (f_X11_openOnes N (ft_now) (l4)) fun r27 =>
        if (t_X11_in (r27) (va1) (va2)) = 0 then
          b_X11_roomsWith_5 N ft_now va1 va2 n ((l3 + (0 : Int32))) ((l4 + (1 : Int32)))
        else
          b_X11_roomsWith_5 N ft_now va1 va2 n ((l3 + (1 : Int32))) ((l4 + (1 : Int32)))
noncomputable def f_X11_roomsWith (N : Nat) (ft_now : Nat → Int32) (va1 : Int32) (va2 : Int32) : Option (Int32) :=
  b_X11_roomsWith_5 N ft_now va1 va2 N ((0 : Int32)) ((0 : Int32))
noncomputable def b_X11_signs_4 (N : Nat) (ft_now : Nat → Int32) (va1 : Int32) : Nat → Int32 → Int32 → Option (Int32)
  | 0, _, _ => none
  | n + 1, l2, l3 =>
    if (t_X11_cells (ft_now)) ≤ l3 then
      some (l2)
    else
      if ((429 : Int32) + l3) < 0 ∨ 639 ≤ (((429 : Int32) + l3)).toNatClampNeg then none else
      if (ft_now (((429 : Int32) + l3)).toNatClampNeg) ≤ 0 then
        b_X11_signs_4 N ft_now va1 n ((l2 + (0 : Int32))) ((l3 + (1 : Int32)))
      else
        if va1 = 0 then
          b_X11_signs_4 N ft_now va1 n ((l2 + (1 : Int32))) ((l3 + (1 : Int32)))
        else
          bnd1 (f_X11_isFork N (ft_now) (l3)) fun r32 =>
          if r32 = 0 then
            b_X11_signs_4 N ft_now va1 n ((l2 + (0 : Int32))) ((l3 + (1 : Int32)))
          else
            b_X11_signs_4 N ft_now va1 n ((l2 + (1 : Int32))) ((l3 + (1 : Int32)))
noncomputable def f_X11_signs (N : Nat) (ft_now : Nat → Int32) (va1 : Int32) : Option (Int32) :=
  b_X11_signs_4 N ft_now va1 N ((0 : Int32)) ((0 : Int32))
noncomputable def f_X11_count (N : Nat) (it_saved : Int32) (it_length : Int32) (it_doorMany : Int32) (ft_now : Nat → Int32) (ft_doors : Nat → Int32) (ft_label : Nat → Int32) (va1 : Int32) : Option (Int32 × Int32 × (Nat → Int32) × (Nat → Int32)) :=
  if va1 = (0 : Int32) then
    some ((ft_now ((0 : Int32)).toNatClampNeg), it_doorMany, ft_doors, ft_label)
  else
    if va1 = (1 : Int32) then
      some ((t_X11_wide (ft_now)), it_doorMany, ft_doors, ft_label)
    else
      if va1 = (2 : Int32) then
        bnd1 (f_X11_rooms N (ft_now)) fun r93 =>
        some (r93, it_doorMany, ft_doors, ft_label)
      else
        if va1 = (3 : Int32) then
          bnd2 (f_X11_countsDoors N (it_doorMany) (ft_now) (ft_doors)) fun o98_0 o98_1 =>
          some (o98_0, o98_0, o98_1, ft_label)
        else
          if va1 = (4 : Int32) then
            bnd1 (f_X11_openDoors N (ft_now)) fun r107 =>
            some (r107, it_doorMany, ft_doors, ft_label)
          else
            if va1 = (5 : Int32) then
              bnd2 (f_X11_parts N (ft_now) (ft_label)) fun r112 o112_0 =>
              some (r112, it_doorMany, ft_doors, o112_0)
            else
              if va1 = (6 : Int32) then
                bnd2 (f_X11_loops N (ft_now) (ft_label)) fun r117 o117_0 =>
                some (r117, it_doorMany, ft_doors, o117_0)
              else
                if va1 = (7 : Int32) then
                  bnd2 (f_X11_isSingle N (ft_now) (ft_label)) fun r122 o122_0 =>
                  if r122 = 0 then
                    some ((0 : Int32), it_doorMany, ft_doors, o122_0)
                  else
                    some ((1 : Int32), it_doorMany, ft_doors, o122_0)
                else
                  if va1 = (8 : Int32) then
                    bnd1 (f_X11_roomsWith N (ft_now) ((1 : Int32)) ((1 : Int32))) fun r137 =>
                    some (r137, it_doorMany, ft_doors, ft_label)
                  else
                    if va1 = (9 : Int32) then
                      bnd1 (f_X11_roomsWith N (ft_now) ((3 : Int32)) ((4 : Int32))) fun r144 =>
                      some (r144, it_doorMany, ft_doors, ft_label)
                    else
                      if va1 = (10 : Int32) then
                        if (((7 : Int32) + va1) - (10 : Int32)) < 0 ∨ 639 ≤ ((((7 : Int32) + va1) - (10 : Int32))).toNatClampNeg then none else
                        some ((ft_now ((((7 : Int32) + va1) - (10 : Int32))).toNatClampNeg), it_doorMany, ft_doors, ft_label)
                      else
                        if va1 = (11 : Int32) then
                          if (((7 : Int32) + va1) - (10 : Int32)) < 0 ∨ 639 ≤ ((((7 : Int32) + va1) - (10 : Int32))).toNatClampNeg then none else
                          some ((ft_now ((((7 : Int32) + va1) - (10 : Int32))).toNatClampNeg), it_doorMany, ft_doors, ft_label)
                        else
                          if va1 = (12 : Int32) then
                            bnd1 (f_X11_signs N (ft_now) ((0 : Int32))) fun r163 =>
                            some (r163, it_doorMany, ft_doors, ft_label)
                          else
                            if va1 = (13 : Int32) then
                              bnd1 (f_X11_signs N (ft_now) ((1 : Int32))) fun r169 =>
                              some (r169, it_doorMany, ft_doors, ft_label)
                            else
                              if va1 = (14 : Int32) then
                                some (it_saved, it_doorMany, ft_doors, ft_label)
                              else
                                if va1 = (15 : Int32) then
                                  some (it_length, it_doorMany, ft_doors, ft_label)
                                else
                                  some ((-1 : Int32), it_doorMany, ft_doors, ft_label)
noncomputable def b_X11_part_18 (N : Nat) (ft_now : Nat → Int32) (va1 : Int32) : Nat → Int32 → Int32 → (Nat → Int32) → Option (Int32 × (Nat → Int32))
  | 0, _, _, _ => none
  | n + 1, l2, l3, cft_label =>
    if va1 < 0 ∨ 210 ≤ (va1).toNatClampNeg then none else
    if (cft_label (va1).toNatClampNeg) ≤ l3 then
      some (l2, cft_label)
    else
      bnd1 (f_X11_isRoomAt (ft_now) (l3)) fun r31 =>
      if r31 = 0 then
        b_X11_part_18 N ft_now va1 n ((l2 + (0 : Int32))) ((l3 + (1 : Int32))) (cft_label)
      else
        if l3 < 0 ∨ 210 ≤ (l3).toNatClampNeg then none else
        if (cft_label (l3).toNatClampNeg) = l3 then
          b_X11_part_18 N ft_now va1 n ((l2 + (1 : Int32))) ((l3 + (1 : Int32))) (cft_label)
        else
          b_X11_part_18 N ft_now va1 n ((l2 + (0 : Int32))) ((l3 + (1 : Int32))) (cft_label)
noncomputable def f_X11_part (N : Nat) (ft_now : Nat → Int32) (ft_label : Nat → Int32) (va1 : Int32) : Option (Int32 × (Nat → Int32)) :=
  bnd1 (f_X11_hasRoom (ft_now) (va1)) fun r2 =>
  if r2 = 0 then
    some ((-1 : Int32), ft_label)
  else
    bnd1 (f_X11_labels N (ft_now) (ft_label)) fun o11_0 =>
    b_X11_part_18 N ft_now va1 N ((0 : Int32)) ((0 : Int32)) (o11_0)
noncomputable def b_X11_lays_49 (N : Nat) (ft_now : Nat → Int32) (va1 : Int32) (k41 : Int32 → Int32 → (Nat → Int32) → (Nat → Int32) → Option ((Nat → Int32) × (Nat → Int32))) : Nat → Int32 → Int32 → Int32 → (Nat → Int32) → (Nat → Int32) → Option ((Nat → Int32) × (Nat → Int32))
  | 0, _, _, _, _, _ => none
  | n + 1, l2, l3, l4, cft_far, cft_ring =>
    if (4 : Int32) ≤ l4 then
      k41 (l2) ((l3 + (1 : Int32))) (cft_far) (cft_ring)
    else
      if l3 < 0 ∨ 210 ≤ (l3).toNatClampNeg then none else
      bnd1 (f_X11_isOpen (ft_now) ((cft_ring (l3).toNatClampNeg)) (l4)) fun r64 =>
      if r64 = 0 then
        b_X11_lays_49 N ft_now va1 k41 n (l2) (l3) ((l4 + (1 : Int32))) (cft_far) (cft_ring)
      else
        if l3 < 0 ∨ 210 ≤ (l3).toNatClampNeg then none else
        bnd1 (f_X11_beside (ft_now) ((cft_ring (l3).toNatClampNeg)) (l4)) fun r83 =>
        if r83 < 0 ∨ 210 ≤ (r83).toNatClampNeg then none else
        if 0 ≤ (cft_far (r83).toNatClampNeg) then
          b_X11_lays_49 N ft_now va1 k41 n (l2) (l3) ((l4 + (1 : Int32))) (cft_far) (cft_ring)
        else
          if l3 < 0 ∨ 210 ≤ (l3).toNatClampNeg then none else
          bnd1 (f_X11_beside (ft_now) ((cft_ring (l3).toNatClampNeg)) (l4)) fun r103 =>
          if l3 < 0 ∨ 210 ≤ (l3).toNatClampNeg then none else
          if (cft_ring (l3).toNatClampNeg) < 0 ∨ 210 ≤ ((cft_ring (l3).toNatClampNeg)).toNatClampNeg then none else
          if r103 < 0 ∨ 210 ≤ (r103).toNatClampNeg then none else
          if l3 < 0 ∨ 210 ≤ (l3).toNatClampNeg then none else
          bnd1 (f_X11_beside (ft_now) ((cft_ring (l3).toNatClampNeg)) (l4)) fun r134 =>
          if l2 < 0 ∨ 210 ≤ (l2).toNatClampNeg then none else
          b_X11_lays_49 N ft_now va1 k41 n ((l2 + (1 : Int32))) (l3) ((l4 + (1 : Int32))) ((upd cft_far (r103).toNatClampNeg ((cft_far ((cft_ring (l3).toNatClampNeg)).toNatClampNeg) + (1 : Int32)))) ((upd cft_ring (l2).toNatClampNeg r134))
noncomputable def b_X11_lays_41 (N : Nat) (ft_now : Nat → Int32) (va1 : Int32) : Nat → Int32 → Int32 → (Nat → Int32) → (Nat → Int32) → Option ((Nat → Int32) × (Nat → Int32))
  | 0, _, _, _, _ => none
  | n + 1, l2, l3, cft_far, cft_ring =>
    if l2 ≤ l3 then
      some (cft_far, cft_ring)
    else
      b_X11_lays_49 N ft_now va1 (b_X11_lays_41 N ft_now va1 n) N (l2) (l3) ((0 : Int32)) (cft_far) (cft_ring)
noncomputable def b_X11_lays_2 (N : Nat) (ft_now : Nat → Int32) (va1 : Int32) : Nat → Int32 → (Nat → Int32) → (Nat → Int32) → Option ((Nat → Int32) × (Nat → Int32))
  | 0, _, _, _ => none
  | n + 1, l2, cft_far, cft_ring =>
    if (t_X11_cells (ft_now)) ≤ l2 then
      if va1 < 0 ∨ 210 ≤ (va1).toNatClampNeg then none else
      b_X11_lays_41 N ft_now va1 N ((1 : Int32)) ((0 : Int32)) ((upd cft_far (va1).toNatClampNeg (0 : Int32))) ((upd cft_ring ((0 : Int32)).toNatClampNeg va1))
    else
      if l2 < 0 ∨ 210 ≤ (l2).toNatClampNeg then none else
      b_X11_lays_2 N ft_now va1 n ((l2 + (1 : Int32))) ((upd cft_far (l2).toNatClampNeg (-1 : Int32))) (cft_ring)
noncomputable def f_X11_lays (N : Nat) (ft_now : Nat → Int32) (ft_far : Nat → Int32) (ft_ring : Nat → Int32) (va1 : Int32) : Option ((Nat → Int32) × (Nat → Int32)) :=
  b_X11_lays_2 N ft_now va1 N ((0 : Int32)) (ft_far) (ft_ring)
noncomputable def f_X11_puts (N : Nat) (it_saved : Int32) (ft_now : Nat → Int32) (ft_past : Nat → Int32) (va1 : Int32) (va2 : Int32) : Option (Int32 × Int32 × (Nat → Int32) × (Nat → Int32)) :=
  bnd2 (f_X11_records N (it_saved) (ft_now) (ft_past)) fun o1_0 o1_1 =>
  if va1 < 0 ∨ 639 ≤ (va1).toNatClampNeg then none else
  if va1 < 0 ∨ 639 ≤ (va1).toNatClampNeg then none else
  some ((ft_now (va1).toNatClampNeg), o1_0, (upd ft_now (va1).toNatClampNeg va2), o1_1)
noncomputable def f_X11_start (N : Nat) (it_saved : Int32) (ft_now : Nat → Int32) (ft_past : Nat → Int32) (va1 : Int32) : Option (Int32 × Int32 × (Nat → Int32) × (Nat → Int32)) :=
  bnd1 (f_X11_hasRoom (ft_now) (va1)) fun r2 =>
  if r2 = 0 then
    some ((-1 : Int32), it_saved, ft_now, ft_past)
  else
    bnd4 (f_X11_puts N (it_saved) (ft_now) (ft_past) ((7 : Int32)) (va1)) fun r12 o12_0 o12_1 o12_2 =>
    some (r12, o12_0, o12_1, o12_2)
noncomputable def f_X11_goal (N : Nat) (it_saved : Int32) (ft_now : Nat → Int32) (ft_past : Nat → Int32) (va1 : Int32) : Option (Int32 × Int32 × (Nat → Int32) × (Nat → Int32)) :=
  bnd1 (f_X11_hasRoom (ft_now) (va1)) fun r2 =>
  if r2 = 0 then
    some ((-1 : Int32), it_saved, ft_now, ft_past)
  else
    bnd4 (f_X11_puts N (it_saved) (ft_now) (ft_past) ((8 : Int32)) (va1)) fun r12 o12_0 o12_1 o12_2 =>
    some (r12, o12_0, o12_1, o12_2)
noncomputable def f_X11_distance (N : Nat) (ft_now : Nat → Int32) (ft_far : Nat → Int32) (ft_ring : Nat → Int32) (va1 : Int32) (va2 : Int32) : Option (Int32 × (Nat → Int32) × (Nat → Int32)) :=
  bnd1 (f_X11_hasRoom (ft_now) (va1)) fun r2 =>
  if r2 = 0 then
    some ((-1 : Int32), ft_far, ft_ring)
  else
    bnd1 (f_X11_hasRoom (ft_now) (va2)) fun r10 =>
    if r10 = 0 then
      some ((-1 : Int32), ft_far, ft_ring)
    else
      bnd2 (f_X11_lays N (ft_now) (ft_far) (ft_ring) (va2)) fun o20_0 o20_1 =>
      if va1 < 0 ∨ 210 ≤ (va1).toNatClampNeg then none else
      if 0 ≤ (o20_0 (va1).toNatClampNeg) then
        if va1 < 0 ∨ 210 ≤ (va1).toNatClampNeg then none else
        some ((o20_0 (va1).toNatClampNeg), o20_0, o20_1)
      else
        some ((-4 : Int32), o20_0, o20_1)
noncomputable def f_X11_again (N : Nat) (ft_now : Nat → Int32) (ft_label : Nat → Int32) (ft_far : Nat → Int32) (ft_ring : Nat → Int32) (va1 : Int32) (va2 : Int32) : Option (Int32 × (Nat → Int32) × (Nat → Int32) × (Nat → Int32)) :=
  bnd3 (f_X11_distance N (ft_now) (ft_far) (ft_ring) (va1) (va2)) fun r3 o3_0 o3_1 =>
  if r3 = (-1 : Int32) then
    some (r3, ft_label, o3_0, o3_1)
  else
    bnd2 (f_X11_isSingle N (ft_now) (ft_label)) fun r17 o17_0 =>
    if r17 = 0 then
      some ((-2 : Int32), o17_0, o3_0, o3_1)
    else
      some (r3, o17_0, o3_0, o3_1)
noncomputable def b_X11_leads_2 (N : Nat) (ft_now : Nat → Int32) (ft_far : Nat → Int32) (va1 : Int32) : Nat → Int32 → Option (Int32)
  | 0, _ => none
  | n + 1, l2 =>
    if (4 : Int32) ≤ l2 then
      some ((-1 : Int32))
    else
      bnd1 (f_X11_isOpen (ft_now) (va1) (l2)) fun r10 =>
      if r10 = 0 then
        b_X11_leads_2 N ft_now ft_far va1 n ((l2 + (1 : Int32)))
      else
        bnd1 (f_X11_beside (ft_now) (va1) (l2)) fun r23 =>
        if r23 < 0 ∨ 210 ≤ (r23).toNatClampNeg then none else
        if va1 < 0 ∨ 210 ≤ (va1).toNatClampNeg then none else
        if (ft_far (r23).toNatClampNeg) = ((ft_far (va1).toNatClampNeg) - (1 : Int32)) then
          some (l2)
        else
          b_X11_leads_2 N ft_now ft_far va1 n ((l2 + (1 : Int32)))
noncomputable def f_X11_leads (N : Nat) (ft_now : Nat → Int32) (ft_far : Nat → Int32) (va1 : Int32) : Option (Int32) :=
  b_X11_leads_2 N ft_now ft_far va1 N ((0 : Int32))
noncomputable def b_X11_way_46 (N : Nat) (ft_now : Nat → Int32) (va1 : Int32) (va2 : Int32) (va3 : Int32) : Nat → Int32 → Int32 → (Nat → Int32) → (Nat → Int32) → Option (Int32 × (Nat → Int32) × (Nat → Int32))
  | 0, _, _, _, _ => none
  | n + 1, l4, l5, cft_far, cft_ring =>
    if va3 ≤ l5 then
      some (l4, cft_far, cft_ring)
    else
      bnd1 (f_X11_leads N (ft_now) (cft_far) (l4)) fun r58 =>
      bnd1 (f_X11_beside (ft_now) (l4) (r58)) fun r61 =>
      b_X11_way_46 N ft_now va1 va2 va3 n (r61) ((l5 + (1 : Int32))) (cft_far) (cft_ring)
noncomputable def f_X11_way (N : Nat) (ft_now : Nat → Int32) (ft_far : Nat → Int32) (ft_ring : Nat → Int32) (va1 : Int32) (va2 : Int32) (va3 : Int32) : Option (Int32 × (Nat → Int32) × (Nat → Int32)) :=
  bnd1 (f_X11_hasRoom (ft_now) (va1)) fun r2 =>
  if r2 = 0 then
    some ((-1 : Int32), ft_far, ft_ring)
  else
    bnd1 (f_X11_hasRoom (ft_now) (va2)) fun r10 =>
    if r10 = 0 then
      some ((-1 : Int32), ft_far, ft_ring)
    else
      if 0 ≤ va3 then
        bnd2 (f_X11_lays N (ft_now) (ft_far) (ft_ring) (va2)) fun o24_0 o24_1 =>
        if va1 < 0 ∨ 210 ≤ (va1).toNatClampNeg then none else
        if va3 ≤ (o24_0 (va1).toNatClampNeg) then
          b_X11_way_46 N ft_now va1 va2 va3 N (va1) ((0 : Int32)) (o24_0) (o24_1)
        else
          some ((-4 : Int32), o24_0, o24_1)
      else
        some ((-1 : Int32), ft_far, ft_ring)
noncomputable def b_X11_farthestOf_4 (N : Nat) (ft_now : Nat → Int32) (ft_far : Nat → Int32) : Nat → Int32 → Int32 → Option (Int32)
  | 0, _, _ => none
  | n + 1, l1, l2 =>
    if (t_X11_cells (ft_now)) ≤ l2 then
      some (l1)
    else
      if l2 < 0 ∨ 210 ≤ (l2).toNatClampNeg then none else
      if (ft_far (l2).toNatClampNeg) < 0 then
        b_X11_farthestOf_4 N ft_now ft_far n (l1) ((l2 + (1 : Int32)))
      else
        if l1 < 0 then
          b_X11_farthestOf_4 N ft_now ft_far n (l2) ((l2 + (1 : Int32)))
        else
          if l2 < 0 ∨ 210 ≤ (l2).toNatClampNeg then none else
          if l1 < 0 ∨ 210 ≤ (l1).toNatClampNeg then none else
          if (ft_far (l2).toNatClampNeg) ≤ (ft_far (l1).toNatClampNeg) then
            b_X11_farthestOf_4 N ft_now ft_far n (l1) ((l2 + (1 : Int32)))
          else
            b_X11_farthestOf_4 N ft_now ft_far n (l2) ((l2 + (1 : Int32)))
noncomputable def f_X11_farthestOf (N : Nat) (ft_now : Nat → Int32) (ft_far : Nat → Int32) : Option (Int32) :=
  b_X11_farthestOf_4 N ft_now ft_far N ((-1 : Int32)) ((0 : Int32))
noncomputable def f_X11_farthest (N : Nat) (ft_now : Nat → Int32) (ft_far : Nat → Int32) (ft_ring : Nat → Int32) (va1 : Int32) (va2 : Int32) : Option (Int32 × (Nat → Int32) × (Nat → Int32)) :=
  bnd1 (f_X11_hasRoom (ft_now) (va1)) fun r2 =>
  if r2 = 0 then
    some ((-1 : Int32), ft_far, ft_ring)
  else
    if (t_X11_in (va2) ((0 : Int32)) ((1 : Int32))) = 0 then
      some ((-1 : Int32), ft_far, ft_ring)
    else
      bnd2 (f_X11_lays N (ft_now) (ft_far) (ft_ring) (va1)) fun o21_0 o21_1 =>
      bnd1 (f_X11_farthestOf N (ft_now) (o21_0)) fun r25 =>
      if va2 = 0 then
        some (r25, o21_0, o21_1)
      else
        if r25 < 0 ∨ 210 ≤ (r25).toNatClampNeg then none else
        some ((o21_0 (r25).toNatClampNeg), o21_0, o21_1)
noncomputable def b_X11_longest_21 (N : Nat) (ft_now : Nat → Int32) (va1 : Int32) : Nat → Int32 → Int32 → Int32 → Int32 → (Nat → Int32) → (Nat → Int32) → Option (Int32 × (Nat → Int32) × (Nat → Int32))
  | 0, _, _, _, _, _, _ => none
  | n + 1, l2, l3, l4, l5, cft_far, cft_ring =>
    if (t_X11_cells (ft_now)) ≤ l5 then
      if va1 = 0 then
        some (l2, cft_far, cft_ring)
      else
        if va1 = (1 : Int32) then
          some (l3, cft_far, cft_ring)
        else
          some (l4, cft_far, cft_ring)
    else
      bnd1 (f_X11_isRoomAt (ft_now) (l5)) fun r33 =>
      if r33 = 0 then
        b_X11_longest_21 N ft_now va1 n (l2) (l3) (l4) ((l5 + (1 : Int32))) (cft_far) (cft_ring)
      else
        bnd2 (f_X11_lays N (ft_now) (cft_far) (cft_ring) (l5)) fun o42_0 o42_1 =>
        bnd1 (f_X11_farthestOf N (ft_now) (o42_0)) fun r46 =>
        if r46 < 0 ∨ 210 ≤ (r46).toNatClampNeg then none else
        if (o42_0 (r46).toNatClampNeg) ≤ l2 then
          b_X11_longest_21 N ft_now va1 n (l2) (l3) (l4) ((l5 + (1 : Int32))) (o42_0) (o42_1)
        else
          if r46 < 0 ∨ 210 ≤ (r46).toNatClampNeg then none else
          b_X11_longest_21 N ft_now va1 n ((o42_0 (r46).toNatClampNeg)) (l5) (r46) ((l5 + (1 : Int32))) (o42_0) (o42_1)
noncomputable def f_X11_longest (N : Nat) (ft_now : Nat → Int32) (ft_far : Nat → Int32) (ft_ring : Nat → Int32) (va1 : Int32) : Option (Int32 × (Nat → Int32) × (Nat → Int32)) :=
  if (t_X11_in (va1) ((0 : Int32)) ((2 : Int32))) = 0 then
    some ((-1 : Int32), ft_far, ft_ring)
  else
    b_X11_longest_21 N ft_now va1 N ((-1 : Int32)) ((0 : Int32)) ((0 : Int32)) ((0 : Int32)) (ft_far) (ft_ring)
noncomputable def b_X11_grade_99 (N : Nat) (ft_now : Nat → Int32) (k77 : Int32 → Int32 → Int32 → Int32 → Int32 → (Nat → Int32) → (Nat → Int32) → Option (Int32 × (Nat → Int32) × (Nat → Int32))) (l1 : Int32) (l2 : Int32) (l3 : Int32) (l5 : Int32) (s0 : Int32) (s1 : Int32) (cft_far : Nat → Int32) (cft_ring : Nat → Int32) : Option (Int32 × (Nat → Int32) × (Nat → Int32)) :=
  bnd1 (f_X11_leads N (ft_now) (cft_far) (l5)) fun r108 =>
  bnd1 (f_X11_beside (ft_now) (l5) (r108)) fun r111 =>
  k77 (l1) (l2) (l3) ((s0 + s1)) (r111) (cft_far) (cft_ring)
noncomputable def b_X11_grade_77 (N : Nat) (ft_now : Nat → Int32) : Nat → Int32 → Int32 → Int32 → Int32 → Int32 → (Nat → Int32) → (Nat → Int32) → Option (Int32 × (Nat → Int32) × (Nat → Int32))
  | 0, _, _, _, _, _, _, _ => none
  | n + 1, l1, l2, l3, l4, l5, cft_far, cft_ring =>
    if l5 = l2 then
      if l1 < 0 ∨ 210 ≤ (l1).toNatClampNeg then none else
      if l1 < 0 ∨ 210 ≤ (l1).toNatClampNeg then none else
      if ((((cft_far (l1).toNatClampNeg) + ((4 : Int32) * l4)) + (((l3 - (cft_far (l1).toNatClampNeg)) - (1 : Int32)) / (2 : Int32))) / (10 : Int32)) ≤ (9 : Int32) then
        some (((((cft_far (l1).toNatClampNeg) + ((4 : Int32) * l4)) + (((l3 - (cft_far (l1).toNatClampNeg)) - (1 : Int32)) / (2 : Int32))) / (10 : Int32)), cft_far, cft_ring)
      else
        some ((9 : Int32), cft_far, cft_ring)
    else
      bnd1 (f_X11_isFork N (ft_now) (l5)) fun r88 =>
      if r88 = 0 then
        b_X11_grade_99 N ft_now (b_X11_grade_77 N ft_now n) (l1) (l2) (l3) (l5) (l4) ((0 : Int32)) (cft_far) (cft_ring)
      else
        b_X11_grade_99 N ft_now (b_X11_grade_77 N ft_now n) (l1) (l2) (l3) (l5) (l4) ((1 : Int32)) (cft_far) (cft_ring)
noncomputable def b_X11_grade_38 (N : Nat) (ft_now : Nat → Int32) : Nat → Int32 → Int32 → Int32 → Int32 → (Nat → Int32) → (Nat → Int32) → Option (Int32 × (Nat → Int32) × (Nat → Int32))
  | 0, _, _, _, _, _, _ => none
  | n + 1, l1, l2, l3, l4, cft_far, cft_ring =>
    if (t_X11_cells (ft_now)) ≤ l4 then
      b_X11_grade_77 N ft_now N (l1) (l2) (l3) ((0 : Int32)) (l1) (cft_far) (cft_ring)
    else
      if l4 < 0 ∨ 210 ≤ (l4).toNatClampNeg then none else
      if (cft_far (l4).toNatClampNeg) < 0 then
        b_X11_grade_38 N ft_now n (l1) (l2) ((l3 + (0 : Int32))) ((l4 + (1 : Int32))) (cft_far) (cft_ring)
      else
        b_X11_grade_38 N ft_now n (l1) (l2) ((l3 + (1 : Int32))) ((l4 + (1 : Int32))) (cft_far) (cft_ring)
noncomputable def f_X11_grade (N : Nat) (ft_now : Nat → Int32) (ft_far : Nat → Int32) (ft_ring : Nat → Int32) : Option (Int32 × (Nat → Int32) × (Nat → Int32)) :=
  bnd2 (f_X11_lays N (ft_now) (ft_far) (ft_ring) ((ft_now ((8 : Int32)).toNatClampNeg))) fun o18_0 o18_1 =>
  if (ft_now ((7 : Int32)).toNatClampNeg) < 0 ∨ 210 ≤ ((ft_now ((7 : Int32)).toNatClampNeg)).toNatClampNeg then none else
  if 0 ≤ (o18_0 ((ft_now ((7 : Int32)).toNatClampNeg)).toNatClampNeg) then
    b_X11_grade_38 N ft_now N ((ft_now ((7 : Int32)).toNatClampNeg)) ((ft_now ((8 : Int32)).toNatClampNeg)) ((0 : Int32)) ((0 : Int32)) (o18_0) (o18_1)
  else
    some ((-4 : Int32), o18_0, o18_1)
noncomputable def b_X11_sign_63 (N : Nat) (va1 : Int32) (va2 : Int32) (va3 : Int32) (cit_saved : Int32) (cft_now : Nat → Int32) (cft_past : Nat → Int32) : Option (Int32 × Int32 × (Nat → Int32) × (Nat → Int32)) :=
  bnd2 (f_X11_records N (cit_saved) (cft_now) (cft_past)) fun o64_0 o64_1 =>
  if ((429 : Int32) + va1) < 0 ∨ 639 ≤ (((429 : Int32) + va1)).toNatClampNeg then none else
  bnd1 (f_X11_signs N ((upd cft_now (((429 : Int32) + va1)).toNatClampNeg (((1 : Int32) + ((4 : Int32) * va2)) + va3))) ((0 : Int32))) fun r86 =>
  some (r86, o64_0, (upd cft_now (((429 : Int32) + va1)).toNatClampNeg (((1 : Int32) + ((4 : Int32) * va2)) + va3)), o64_1)
noncomputable def b_X11_sign_29 (N : Nat) (va1 : Int32) (va2 : Int32) (va3 : Int32) (s0 : Int32) (s1 : Int32) (s2 : Int32) (cit_saved : Int32) (cft_now : Nat → Int32) (cft_past : Nat → Int32) : Option (Int32 × Int32 × (Nat → Int32) × (Nat → Int32)) :=
  if (t_X11_in (s0) (s1) (s2)) = 0 then
    some ((-1 : Int32), cit_saved, cft_now, cft_past)
  else
    if ((429 : Int32) + va1) < 0 ∨ 639 ≤ (((429 : Int32) + va1)).toNatClampNeg then none else
    if (cft_now (((429 : Int32) + va1)).toNatClampNeg) = 0 then
      bnd1 (f_X11_signs N (cft_now) ((0 : Int32))) fun r52 =>
      if r52 = (20 : Int32) then
        some ((-3 : Int32), cit_saved, cft_now, cft_past)
      else
        b_X11_sign_63 N va1 va2 va3 (cit_saved) (cft_now) (cft_past)
    else
      b_X11_sign_63 N va1 va2 va3 (cit_saved) (cft_now) (cft_past)
noncomputable def f_X11_sign (N : Nat) (it_saved : Int32) (ft_now : Nat → Int32) (ft_past : Nat → Int32) (va1 : Int32) (va2 : Int32) (va3 : Int32) : Option (Int32 × Int32 × (Nat → Int32) × (Nat → Int32)) :=
  bnd1 (f_X11_hasRoom (ft_now) (va1)) fun r2 =>
  if r2 = 0 then
    some ((-1 : Int32), it_saved, ft_now, ft_past)
  else
    if (t_X11_in (va2) ((0 : Int32)) ((2 : Int32))) = 0 then
      some ((-1 : Int32), it_saved, ft_now, ft_past)
    else
      if va2 = (2 : Int32) then
        b_X11_sign_29 N va1 va2 va3 (va3) ((0 : Int32)) ((3 : Int32)) (it_saved) (ft_now) (ft_past)
      else
        b_X11_sign_29 N va1 va2 va3 (va3) ((0 : Int32)) ((0 : Int32)) (it_saved) (ft_now) (ft_past)
noncomputable def f_X11_unsign (N : Nat) (it_saved : Int32) (ft_now : Nat → Int32) (ft_past : Nat → Int32) (va1 : Int32) : Option (Int32 × Int32 × (Nat → Int32) × (Nat → Int32)) :=
  bnd1 (f_X11_hasRoom (ft_now) (va1)) fun r2 =>
  if r2 = 0 then
    some ((-1 : Int32), it_saved, ft_now, ft_past)
  else
    if ((429 : Int32) + va1) < 0 ∨ 639 ≤ (((429 : Int32) + va1)).toNatClampNeg then none else
    if (ft_now (((429 : Int32) + va1)).toNatClampNeg) = 0 then
      some ((-4 : Int32), it_saved, ft_now, ft_past)
    else
      bnd2 (f_X11_records N (it_saved) (ft_now) (ft_past)) fun o27_0 o27_1 =>
      if ((429 : Int32) + va1) < 0 ∨ 639 ≤ (((429 : Int32) + va1)).toNatClampNeg then none else
      if ((429 : Int32) + va1) < 0 ∨ 639 ≤ (((429 : Int32) + va1)).toNatClampNeg then none else
      some ((((ft_now (((429 : Int32) + va1)).toNatClampNeg) - (1 : Int32)) / (4 : Int32)), o27_0, (upd ft_now (((429 : Int32) + va1)).toNatClampNeg (0 : Int32)), o27_1)
noncomputable def b_X11_pointed_89 (N : Nat) (ft_now : Nat → Int32) (ft_far : Nat → Int32) (va1 : Int32) : Nat → Int32 → Option (Int32)
  | 0, _ => none
  | n + 1, l3 =>
    bnd1 (f_X11_isOpen (ft_now) (va1) (l3)) fun r92 =>
    if r92 = 0 then
      b_X11_pointed_89 N ft_now ft_far va1 n (((l3 + (1 : Int32)) - (l3 + (1 : Int32)) / (4 : Int32) * (4 : Int32)))
    else
      some (l3)
noncomputable def f_X11_pointed (N : Nat) (ft_now : Nat → Int32) (ft_far : Nat → Int32) (va1 : Int32) : Option (Int32) :=
  if ((429 : Int32) + va1) < 0 ∨ 639 ≤ (((429 : Int32) + va1)).toNatClampNeg then none else
  if (((ft_now (((429 : Int32) + va1)).toNatClampNeg) - (1 : Int32)) / (4 : Int32)) = (2 : Int32) then
    if ((429 : Int32) + va1) < 0 ∨ 639 ≤ (((429 : Int32) + va1)).toNatClampNeg then none else
    bnd1 (f_X11_isOpen (ft_now) (va1) ((((ft_now (((429 : Int32) + va1)).toNatClampNeg) - (1 : Int32)) - ((ft_now (((429 : Int32) + va1)).toNatClampNeg) - (1 : Int32)) / (4 : Int32) * (4 : Int32)))) fun r38 =>
    if r38 = 0 then
      some ((-1 : Int32))
    else
      some ((((ft_now (((429 : Int32) + va1)).toNatClampNeg) - (1 : Int32)) - ((ft_now (((429 : Int32) + va1)).toNatClampNeg) - (1 : Int32)) / (4 : Int32) * (4 : Int32)))
  else
    if va1 = (ft_now ((8 : Int32)).toNatClampNeg) then
      some ((-1 : Int32))
    else
      if va1 < 0 ∨ 210 ≤ (va1).toNatClampNeg then none else
      if 0 ≤ (ft_far (va1).toNatClampNeg) then
        bnd1 (f_X11_leads N (ft_now) (ft_far) (va1)) fun r74 =>
        if (((ft_now (((429 : Int32) + va1)).toNatClampNeg) - (1 : Int32)) / (4 : Int32)) = (1 : Int32) then
          b_X11_pointed_89 N ft_now ft_far va1 N (((r74 + (1 : Int32)) - (r74 + (1 : Int32)) / (4 : Int32) * (4 : Int32)))
        else
          some (r74)
      else
        some ((-1 : Int32))
noncomputable def f_X11_hasSign (N : Nat) (ft_now : Nat → Int32) (va1 : Int32) : Option (Int32) :=
  if ((429 : Int32) + va1) < 0 ∨ 639 ≤ (((429 : Int32) + va1)).toNatClampNeg then none else
  if (ft_now (((429 : Int32) + va1)).toNatClampNeg) ≤ 0 then
    some ((0 : Int32))
  else
    bnd1 (f_X11_isFork N (ft_now) (va1)) fun r15 =>
    if r15 = 0 then
      some ((0 : Int32))
    else
      some ((1 : Int32))
noncomputable def f_X11_points (N : Nat) (ft_now : Nat → Int32) (ft_far : Nat → Int32) (ft_ring : Nat → Int32) (va1 : Int32) : Option (Int32 × (Nat → Int32) × (Nat → Int32)) :=
  bnd1 (f_X11_hasRoom (ft_now) (va1)) fun r2 =>
  if r2 = 0 then
    some ((-1 : Int32), ft_far, ft_ring)
  else
    bnd1 (f_X11_hasSign N (ft_now) (va1)) fun r12 =>
    if r12 = 0 then
      some ((-2 : Int32), ft_far, ft_ring)
    else
      bnd2 (f_X11_lays N (ft_now) (ft_far) (ft_ring) ((ft_now ((8 : Int32)).toNatClampNeg))) fun o29_0 o29_1 =>
      bnd1 (f_X11_pointed N (ft_now) (o29_0) (va1)) fun r34 =>
      if 0 ≤ r34 then
        some (r34, o29_0, o29_1)
      else
        some ((-4 : Int32), o29_0, o29_1)
noncomputable def b_X11_goes_26 (N : Nat) (it_walker : Int32) (it_from : Int32) (ft_now : Nat → Int32) (ft_far : Nat → Int32) : Nat → Int32 → Int32 → Option (Int32)
  | 0, _, _ => none
  | n + 1, l1, l2 =>
    if (5 : Int32) ≤ l2 then
      some (l1)
    else
      if 0 ≤ l1 then
        some (l1)
      else
        bnd1 (f_X11_isOpen (ft_now) (it_walker) (((it_from + l2) - (it_from + l2) / (4 : Int32) * (4 : Int32)))) fun r48 =>
        if r48 = 0 then
          b_X11_goes_26 N it_walker it_from ft_now ft_far n ((-1 : Int32)) ((l2 + (1 : Int32)))
        else
          b_X11_goes_26 N it_walker it_from ft_now ft_far n (((it_from + l2) - (it_from + l2) / (4 : Int32) * (4 : Int32))) ((l2 + (1 : Int32)))
noncomputable def f_X11_goes (N : Nat) (it_walker : Int32) (it_from : Int32) (ft_now : Nat → Int32) (ft_far : Nat → Int32) : Option (Int32) :=
  bnd1 (f_X11_hasSign N (ft_now) (it_walker)) fun r5 =>
  if r5 = 0 then
    b_X11_goes_26 N it_walker it_from ft_now ft_far N ((-1 : Int32)) ((1 : Int32))
  else
    bnd1 (f_X11_pointed N (ft_now) (ft_far) (it_walker)) fun r16 =>
    b_X11_goes_26 N it_walker it_from ft_now ft_far N (r16) ((1 : Int32))
noncomputable def b_X11_walks_106 (N : Nat) (ft_now : Nat → Int32) (va1 : Int32) (k66 : Int32 → Int32 → Int32 → Int32 → (Nat → Int32) → (Nat → Int32) → (Nat → Int32) → Option (Int32 × Int32 × Int32 × (Nat → Int32) × (Nat → Int32) × (Nat → Int32))) (l3 : Int32) (s0 : Int32) (cit_walker : Int32) (cit_from : Int32) (cit_steps : Int32) (cft_far : Nat → Int32) (cft_ring : Nat → Int32) (cft_was : Nat → Int32) : Option (Int32 × Int32 × Int32 × (Nat → Int32) × (Nat → Int32) × (Nat → Int32)) :=
  if s0 = 0 then
    k66 (s0) (cit_walker) (cit_from) (cit_steps) (cft_far) (cft_ring) (cft_was)
  else
    bnd1 (f_X11_beside (ft_now) (cit_walker) (l3)) fun r118 =>
    if r118 < 0 ∨ 210 ≤ (r118).toNatClampNeg then none else
    k66 (s0) (r118) (((l3 + (2 : Int32)) - (l3 + (2 : Int32)) / (4 : Int32) * (4 : Int32))) ((cit_steps + (1 : Int32))) (cft_far) (cft_ring) ((upd cft_was (r118).toNatClampNeg (1 : Int32)))
noncomputable def b_X11_walks_66 (N : Nat) (ft_now : Nat → Int32) (va1 : Int32) : Nat → Int32 → Int32 → Int32 → Int32 → (Nat → Int32) → (Nat → Int32) → (Nat → Int32) → Option (Int32 × Int32 × Int32 × (Nat → Int32) × (Nat → Int32) × (Nat → Int32))
  | 0, _, _, _, _, _, _, _ => none
  | n + 1, l2, cit_walker, cit_from, cit_steps, cft_far, cft_ring, cft_was =>
    if va1 ≤ cit_steps then
      some (cit_walker, cit_from, cit_steps, cft_far, cft_ring, cft_was)
    else
      if cit_walker = (ft_now ((8 : Int32)).toNatClampNeg) then
        some (cit_walker, cit_from, cit_steps, cft_far, cft_ring, cft_was)
      else
        if l2 = 0 then
          some (cit_walker, cit_from, cit_steps, cft_far, cft_ring, cft_was)
        else
          bnd1 (f_X11_goes N (cit_walker) (cit_from) (ft_now) (cft_far)) fun r93 =>
          if r93 < 0 then
            b_X11_walks_106 N ft_now va1 (b_X11_walks_66 N ft_now va1 n) (r93) ((0 : Int32)) (cit_walker) (cit_from) (cit_steps) (cft_far) (cft_ring) (cft_was)
          else
            b_X11_walks_106 N ft_now va1 (b_X11_walks_66 N ft_now va1 n) (r93) ((1 : Int32)) (cit_walker) (cit_from) (cit_steps) (cft_far) (cft_ring) (cft_was)
noncomputable def b_X11_walks_13 (N : Nat) (ft_now : Nat → Int32) (va1 : Int32) : Nat → Int32 → Int32 → Int32 → Int32 → (Nat → Int32) → (Nat → Int32) → (Nat → Int32) → Option (Int32 × Int32 × Int32 × (Nat → Int32) × (Nat → Int32) × (Nat → Int32))
  | 0, _, _, _, _, _, _, _ => none
  | n + 1, l2, cit_walker, cit_from, cit_steps, cft_far, cft_ring, cft_was =>
    if (210 : Int32) ≤ l2 then
      if (ft_now ((7 : Int32)).toNatClampNeg) < 0 ∨ 210 ≤ ((ft_now ((7 : Int32)).toNatClampNeg)).toNatClampNeg then none else
      b_X11_walks_66 N ft_now va1 N ((1 : Int32)) ((ft_now ((7 : Int32)).toNatClampNeg)) ((2 : Int32)) ((0 : Int32)) (cft_far) (cft_ring) ((upd cft_was ((ft_now ((7 : Int32)).toNatClampNeg)).toNatClampNeg (1 : Int32)))
    else
      if l2 < 0 ∨ 210 ≤ (l2).toNatClampNeg then none else
      b_X11_walks_13 N ft_now va1 n ((l2 + (1 : Int32))) (cit_walker) (cit_from) (cit_steps) (cft_far) (cft_ring) ((upd cft_was (l2).toNatClampNeg (0 : Int32)))
noncomputable def f_X11_walks (N : Nat) (it_walker : Int32) (it_from : Int32) (it_steps : Int32) (ft_now : Nat → Int32) (ft_far : Nat → Int32) (ft_ring : Nat → Int32) (ft_was : Nat → Int32) (va1 : Int32) : Option (Int32 × Int32 × Int32 × (Nat → Int32) × (Nat → Int32) × (Nat → Int32)) :=
  bnd2 (f_X11_lays N (ft_now) (ft_far) (ft_ring) ((ft_now ((8 : Int32)).toNatClampNeg))) fun o8_0 o8_1 =>
  b_X11_walks_13 N ft_now va1 N ((0 : Int32)) (it_walker) (it_from) (it_steps) (o8_0) (o8_1) (ft_was)
noncomputable def b_X11_walk_32 (N : Nat) (ft_now : Nat → Int32) (va1 : Int32) (va2 : Int32) : Nat → Int32 → Int32 → Int32 → Int32 → Int32 → (Nat → Int32) → (Nat → Int32) → (Nat → Int32) → Option (Int32 × Int32 × Int32 × Int32 × (Nat → Int32) × (Nat → Int32) × (Nat → Int32))
  | 0, _, _, _, _, _, _, _, _ => none
  | n + 1, l3, l4, cit_walker, cit_from, cit_steps, cft_far, cft_ring, cft_was =>
    if (210 : Int32) ≤ l4 then
      if va2 = 0 then
        some (cit_walker, cit_walker, cit_from, cit_steps, cft_far, cft_ring, cft_was)
      else
        if va2 = (1 : Int32) then
          some (cit_steps, cit_walker, cit_from, cit_steps, cft_far, cft_ring, cft_was)
        else
          some (l3, cit_walker, cit_from, cit_steps, cft_far, cft_ring, cft_was)
    else
      if l4 < 0 ∨ 210 ≤ (l4).toNatClampNeg then none else
      if (cft_was (l4).toNatClampNeg) = 0 then
        b_X11_walk_32 N ft_now va1 va2 n ((l3 + (0 : Int32))) ((l4 + (1 : Int32))) (cit_walker) (cit_from) (cit_steps) (cft_far) (cft_ring) (cft_was)
      else
        b_X11_walk_32 N ft_now va1 va2 n ((l3 + (1 : Int32))) ((l4 + (1 : Int32))) (cit_walker) (cit_from) (cit_steps) (cft_far) (cft_ring) (cft_was)
noncomputable def f_X11_walk (N : Nat) (it_walker : Int32) (it_from : Int32) (it_steps : Int32) (ft_now : Nat → Int32) (ft_far : Nat → Int32) (ft_ring : Nat → Int32) (ft_was : Nat → Int32) (va1 : Int32) (va2 : Int32) : Option (Int32 × Int32 × Int32 × Int32 × (Nat → Int32) × (Nat → Int32) × (Nat → Int32)) :=
  if (t_X11_in (va1) ((0 : Int32)) ((2000 : Int32))) = 0 then
    some ((-1 : Int32), it_walker, it_from, it_steps, ft_far, ft_ring, ft_was)
  else
    if (t_X11_in (va2) ((0 : Int32)) ((2 : Int32))) = 0 then
      some ((-1 : Int32), it_walker, it_from, it_steps, ft_far, ft_ring, ft_was)
    else
      bnd6 (f_X11_walks N (it_walker) (it_from) (it_steps) (ft_now) (ft_far) (ft_ring) (ft_was) (va1)) fun o24_0 o24_1 o24_2 o24_3 o24_4 o24_5 =>
      b_X11_walk_32 N ft_now va1 va2 N ((0 : Int32)) ((0 : Int32)) (o24_0) (o24_1) (o24_2) (o24_3) (o24_4) (o24_5)
noncomputable def f_X11_walked (N : Nat) (it_walker : Int32) (it_from : Int32) (it_steps : Int32) (ft_now : Nat → Int32) (ft_far : Nat → Int32) (ft_ring : Nat → Int32) (ft_was : Nat → Int32) : Option (Int32 × Int32 × Int32 × Int32 × (Nat → Int32) × (Nat → Int32) × (Nat → Int32)) :=
  bnd6 (f_X11_walks N (it_walker) (it_from) (it_steps) (ft_now) (ft_far) (ft_ring) (ft_was) ((2000 : Int32))) fun o4_0 o4_1 o4_2 o4_3 o4_4 o4_5 =>
  if o4_0 = (ft_now ((8 : Int32)).toNatClampNeg) then
    some (o4_2, o4_0, o4_1, o4_2, o4_3, o4_4, o4_5)
  else
    some ((-4 : Int32), o4_0, o4_1, o4_2, o4_3, o4_4, o4_5)
noncomputable def f_X11_type (it_length : Int32) (ft_text : Nat → Int32) (va1 : Int32) : Option (Int32 × Int32 × (Nat → Int32)) :=
  if (t_X11_in (va1) ((32 : Int32)) ((126 : Int32))) = 0 then
    some ((-1 : Int32), it_length, ft_text)
  else
    if it_length = (200 : Int32) then
      some ((-3 : Int32), it_length, ft_text)
    else
      if it_length < 0 ∨ 200 ≤ (it_length).toNatClampNeg then none else
      some ((it_length + (1 : Int32)), (it_length + (1 : Int32)), (upd ft_text (it_length).toNatClampNeg va1))
noncomputable def f_X11_clearText (it_length : Int32) : Option (Int32 × Int32) :=
  some (it_length, (0 : Int32))
noncomputable def t_X11_clearText_0 (it_length : Int32) : Int32 :=
  it_length
noncomputable def t_X11_clearText_1 (it_length : Int32) : Int32 :=
  (0 : Int32)
theorem tot_X11_clearText (it_length : Int32) : f_X11_clearText it_length = some (t_X11_clearText_0 it_length, t_X11_clearText_1 it_length) := by
  simp only [f_X11_clearText, t_X11_clearText_0, t_X11_clearText_1]
noncomputable def f_X11_directionOf (va1 : Int32) : Option (Int32) :=
  if va1 = (85 : Int32) then
    some ((0 : Int32))
  else
    if va1 = (82 : Int32) then
      some ((1 : Int32))
    else
      if va1 = (68 : Int32) then
        some ((2 : Int32))
      else
        if va1 = (76 : Int32) then
          some ((3 : Int32))
        else
          some ((-1 : Int32))
noncomputable def t_X11_directionOf (va1 : Int32) : Int32 :=
  if va1 = (85 : Int32) then
    (0 : Int32)
  else
    if va1 = (82 : Int32) then
      (1 : Int32)
    else
      if va1 = (68 : Int32) then
        (2 : Int32)
      else
        if va1 = (76 : Int32) then
          (3 : Int32)
        else
          (-1 : Int32)
theorem tot_X11_directionOf (va1 : Int32) : f_X11_directionOf va1 = some (t_X11_directionOf va1) := by
  by_cases hc_3 : va1 = (85 : Int32)
  · simp only [f_X11_directionOf, t_X11_directionOf, if_pos hc_3]
  · by_cases hc_13 : va1 = (82 : Int32)
    · simp only [f_X11_directionOf, t_X11_directionOf, if_neg hc_3, if_pos hc_13]
    · by_cases hc_23 : va1 = (68 : Int32)
      · simp only [f_X11_directionOf, t_X11_directionOf, if_neg hc_3, if_neg hc_13, if_pos hc_23]
      · by_cases hc_33 : va1 = (76 : Int32)
        · simp only [f_X11_directionOf, t_X11_directionOf, if_neg hc_3, if_neg hc_13, if_neg hc_23, if_pos hc_33]
        · simp only [f_X11_directionOf, t_X11_directionOf, if_neg hc_3, if_neg hc_13, if_neg hc_23, if_neg hc_33]
noncomputable def b_X11_moves_90 (N : Nat) (it_length : Int32) (ft_now : Nat → Int32) (ft_text : Nat → Int32) (k13 : Int32 → Int32 → Int32 → Option (Int32 × Int32 × Int32)) (l1 : Int32) (l2 : Int32) (s0 : Int32) (cit_faultAt : Int32) (cit_mover : Int32) : Option (Int32 × Int32 × Int32) :=
  if s0 ≤ 0 then
    bnd1 (f_X11_beside (ft_now) (cit_mover) (l2)) fun r109 =>
    k13 ((l1 + (1 : Int32))) (l1) (r109)
  else
    some (s0, l1, cit_mover)
noncomputable def b_X11_moves_13 (N : Nat) (it_length : Int32) (ft_now : Nat → Int32) (ft_text : Nat → Int32) : Nat → Int32 → Int32 → Int32 → Option (Int32 × Int32 × Int32)
  | 0, _, _, _ => none
  | n + 1, l1, cit_faultAt, cit_mover =>
    if it_length ≤ l1 then
      if cit_mover = (ft_now ((8 : Int32)).toNatClampNeg) then
        some ((0 : Int32), it_length, cit_mover)
      else
        some ((5 : Int32), it_length, cit_mover)
    else
      if l1 < 0 ∨ 200 ≤ (l1).toNatClampNeg then none else
      if 0 ≤ (t_X11_directionOf ((ft_text (l1).toNatClampNeg))) then
        bnd1 (f_X11_beside (ft_now) (cit_mover) ((t_X11_directionOf ((ft_text (l1).toNatClampNeg))))) fun r45 =>
        if 0 ≤ r45 then
          bnd1 (f_X11_isOpen (ft_now) (cit_mover) ((t_X11_directionOf ((ft_text (l1).toNatClampNeg))))) fun r61 =>
          if r61 = 0 then
            b_X11_moves_90 N it_length ft_now ft_text (b_X11_moves_13 N it_length ft_now ft_text n) (l1) ((t_X11_directionOf ((ft_text (l1).toNatClampNeg)))) ((3 : Int32)) (cit_faultAt) (cit_mover)
          else
            if cit_mover = (ft_now ((8 : Int32)).toNatClampNeg) then
              b_X11_moves_90 N it_length ft_now ft_text (b_X11_moves_13 N it_length ft_now ft_text n) (l1) ((t_X11_directionOf ((ft_text (l1).toNatClampNeg)))) ((4 : Int32)) (cit_faultAt) (cit_mover)
            else
              b_X11_moves_90 N it_length ft_now ft_text (b_X11_moves_13 N it_length ft_now ft_text n) (l1) ((t_X11_directionOf ((ft_text (l1).toNatClampNeg)))) ((0 : Int32)) (cit_faultAt) (cit_mover)
        else
          b_X11_moves_90 N it_length ft_now ft_text (b_X11_moves_13 N it_length ft_now ft_text n) (l1) ((t_X11_directionOf ((ft_text (l1).toNatClampNeg)))) ((2 : Int32)) (cit_faultAt) (cit_mover)
      else
        b_X11_moves_90 N it_length ft_now ft_text (b_X11_moves_13 N it_length ft_now ft_text n) (l1) ((t_X11_directionOf ((ft_text (l1).toNatClampNeg)))) ((1 : Int32)) (cit_faultAt) (cit_mover)
noncomputable def f_X11_moves (N : Nat) (it_length : Int32) (it_faultAt : Int32) (it_mover : Int32) (ft_now : Nat → Int32) (ft_text : Nat → Int32) : Option (Int32 × Int32 × Int32) :=
  b_X11_moves_13 N it_length ft_now ft_text N ((0 : Int32)) (it_faultAt) ((ft_now ((7 : Int32)).toNatClampNeg))
noncomputable def f_X11_fault (N : Nat) (it_length : Int32) (it_faultAt : Int32) (it_mover : Int32) (ft_now : Nat → Int32) (ft_text : Nat → Int32) (va1 : Int32) : Option (Int32 × Int32 × Int32) :=
  if (t_X11_in (va1) ((0 : Int32)) ((1 : Int32))) = 0 then
    some ((-1 : Int32), it_faultAt, it_mover)
  else
    bnd3 (f_X11_moves N (it_length) (it_faultAt) (it_mover) (ft_now) (ft_text)) fun r12 o12_0 o12_1 =>
    if r12 = 0 then
      some ((-4 : Int32), o12_0, o12_1)
    else
      if va1 = 0 then
        some (o12_0, o12_0, o12_1)
      else
        some (r12, o12_0, o12_1)
noncomputable def f_X11_moved (N : Nat) (it_length : Int32) (it_faultAt : Int32) (it_mover : Int32) (ft_now : Nat → Int32) (ft_text : Nat → Int32) : Option (Int32 × Int32 × Int32) :=
  bnd3 (f_X11_moves N (it_length) (it_faultAt) (it_mover) (ft_now) (ft_text)) fun r1 o1_0 o1_1 =>
  some (o1_1, o1_0, o1_1)

-- the law's methods as pure functions over the ghost (written by wip/p30/genL.py)
noncomputable def f_L_low (va1 : Int32) (va2 : Int32) : Option (Int32) :=
  if va2 = 0 then none else
  some (((va1 &&& (2147483647 : Int32)) - (va1 &&& (2147483647 : Int32)) / va2 * va2))
noncomputable def f_L_ones (va1 : Int32) : Option (Int32) :=
  some (((((va1 &&& (1 : Int32)) + ((va1 >>> ((1 : Int32) &&& 31)) &&& (1 : Int32))) + ((va1 >>> ((2 : Int32) &&& 31)) &&& (1 : Int32))) + ((va1 >>> ((3 : Int32) &&& 31)) &&& (1 : Int32))))
noncomputable def t_L_ones (va1 : Int32) : Int32 :=
  ((((va1 &&& (1 : Int32)) + ((va1 >>> ((1 : Int32) &&& 31)) &&& (1 : Int32))) + ((va1 >>> ((2 : Int32) &&& 31)) &&& (1 : Int32))) + ((va1 >>> ((3 : Int32) &&& 31)) &&& (1 : Int32)))
theorem tot_L_ones (va1 : Int32) : f_L_ones va1 = some (t_L_ones va1) := by
  simp only [f_L_ones, t_L_ones]
noncomputable def f_L_beside (va1 : Int32) (va2 : Int32) (va3 : Int32) : Option (Int32) :=
  if va3 = 0 then
    some ((va2 - va1))
  else
    if va3 = (1 : Int32) then
      some ((va2 + (1 : Int32)))
    else
      if va3 = (2 : Int32) then
        some ((va2 + va1))
      else
        some ((va2 - (1 : Int32)))
noncomputable def t_L_beside (va1 : Int32) (va2 : Int32) (va3 : Int32) : Int32 :=
  if va3 = 0 then
    (va2 - va1)
  else
    if va3 = (1 : Int32) then
      (va2 + (1 : Int32))
    else
      if va3 = (2 : Int32) then
        (va2 + va1)
      else
        (va2 - (1 : Int32))
theorem tot_L_beside (va1 : Int32) (va2 : Int32) (va3 : Int32) : f_L_beside va1 va2 va3 = some (t_L_beside va1 va2 va3) := by
  by_cases hc_1 : va3 = 0
  · simp only [f_L_beside, t_L_beside, if_pos hc_1]
  · by_cases hc_12 : va3 = (1 : Int32)
    · simp only [f_L_beside, t_L_beside, if_neg hc_1, if_pos hc_12]
    · by_cases hc_23 : va3 = (2 : Int32)
      · simp only [f_L_beside, t_L_beside, if_neg hc_1, if_neg hc_12, if_pos hc_23]
      · simp only [f_L_beside, t_L_beside, if_neg hc_1, if_neg hc_12, if_neg hc_23]
noncomputable def t_L_cell (xs : Nat → Int32) (L : Nat) (k : Int32) : Int32 :=
  bV (if nI L ≤ k then (916318735 : Int32) * (k + (3 : Int32)) else xs k.toNatClampNeg) fun x => x ^^^ ((x).toUInt32 >>> ((15 : Int32).toUInt32 &&& Int32.toUInt32 31)).toInt32
noncomputable def b_L_print_33 (N : Nat) : Nat → Int64 → Int32 → gS → Option (Int64 × gS)
  | 0, _, _, _ => none
  | n + 1, l1, l3, cg =>
    bV (V_count cg (1 : Int32)) fun v38 =>
    if ((6 : Int32) * v38) ≤ l3 then
      bV (V_walk cg (9 : Int32) (0 : Int32)) fun v84 =>
      some ((((31 : Int64) * l1) + (v84).toInt64), cg)
    else
      bV (V_doors cg l3) fun v55 =>
      bV (V_points cg l3) fun v63 =>
      b_L_print_33 N n ((((31 : Int64) * (((31 : Int64) * l1) + (v55).toInt64)) + (v63).toInt64)) ((l3 + (1 : Int32))) (cg)
noncomputable def b_L_print_6 (N : Nat) : Nat → Int64 → Int32 → gS → Option (Int64 × gS)
  | 0, _, _, _ => none
  | n + 1, l1, l3, cg =>
    if (14 : Int32) ≤ l3 then
      b_L_print_33 N N (l1) ((0 : Int32)) (cg)
    else
      bV (V_count cg l3) fun v19 =>
      b_L_print_6 N n ((((31 : Int64) * l1) + (v19).toInt64)) ((l3 + (1 : Int32))) (cg)
noncomputable def f_L_print (N : Nat) (g : gS) : Option (Int64 × gS) :=
  b_L_print_6 N N ((127 : Int64)) ((0 : Int32)) (g)
noncomputable def b_L_refused_382 (N : Nat) (l1 : Int64) (l3 : Int32) (s0 : Int32) (cg : gS) : Option (Int32 × gS) :=
  if s0 = 0 then
    some ((0 : Int32), cg)
  else
    bnd2 (f_L_print N cg) fun v390 g390 =>
    if (lg_cmp v390 l1) = 0 then
      bV (V_count g390 (14 : Int32)) fun v401 =>
      if v401 = l3 then
        some ((1 : Int32), g390)
      else
        some ((0 : Int32), g390)
    else
      some ((0 : Int32), g390)
noncomputable def b_L_refused_381 (N : Nat) (l1 : Int64) (l3 : Int32) (cg : gS) : Option (Int32 × gS) :=
  b_L_refused_382 N (l1) (l3) ((0 : Int32)) (cg)
noncomputable def b_L_refused_206 (N : Nat) (l1 : Int64) (l3 : Int32) (l4 : Int32) (l5 : Int32) (s0 : Int32) (cg : gS) : Option (Int32 × gS) :=
  if s0 = 0 then
    b_L_refused_381 N (l1) (l3) (cg)
  else
    bV (V_again cg l4 l5) fun v218 =>
    if v218 = (-1 : Int32) then
      bV (V_way cg l5 l5 (-1 : Int32)) fun v231 =>
      if v231 = (-1 : Int32) then
        bV (V_way cg l5 l5 (1 : Int32)) fun v244 =>
        if v244 = (-4 : Int32) then
          bV (V_farthest cg l5 (2 : Int32)) fun v256 =>
          if v256 = (-1 : Int32) then
            bV (V_longest cg (-1 : Int32)) fun v265 =>
            if v265 = (-1 : Int32) then
              bV (C_sign cg l5 (3 : Int32) (0 : Int32)) fun v277 =>
              if v277.1 = (-1 : Int32) then
                bV (C_sign (v277.2) l5 (0 : Int32) (1 : Int32)) fun v289 =>
                if v289.1 = (-1 : Int32) then
                  bV (C_sign (v289.2) (-1 : Int32) (0 : Int32) (0 : Int32)) fun v300 =>
                  if v300.1 = (-1 : Int32) then
                    bV (C_unsign (v300.2) (-1 : Int32)) fun v309 =>
                    if v309.1 = (-1 : Int32) then
                      bV (V_points (v309.2) l4) fun v319 =>
                      if v319 = (-1 : Int32) then
                        bV (V_walk (v309.2) (-1 : Int32) (0 : Int32)) fun v329 =>
                        if v329 = (-1 : Int32) then
                          bV (V_walk (v309.2) (2001 : Int32) (1 : Int32)) fun v341 =>
                          if v341 = (-1 : Int32) then
                            bV (V_walk (v309.2) (5 : Int32) (-1 : Int32)) fun v351 =>
                            if v351 = (-1 : Int32) then
                              bV (C_type (v309.2) (31 : Int32)) fun v361 =>
                              if v361.1 = (-1 : Int32) then
                                bV (V_fault (v361.2) (-1 : Int32)) fun v370 =>
                                if v370 = (-1 : Int32) then
                                  b_L_refused_382 N (l1) (l3) ((1 : Int32)) (v361.2)
                                else
                                  b_L_refused_381 N (l1) (l3) (v361.2)
                              else
                                b_L_refused_381 N (l1) (l3) (v361.2)
                            else
                              b_L_refused_381 N (l1) (l3) (v309.2)
                          else
                            b_L_refused_381 N (l1) (l3) (v309.2)
                        else
                          b_L_refused_381 N (l1) (l3) (v309.2)
                      else
                        b_L_refused_381 N (l1) (l3) (v309.2)
                    else
                      b_L_refused_381 N (l1) (l3) (v309.2)
                  else
                    b_L_refused_381 N (l1) (l3) (v300.2)
                else
                  b_L_refused_381 N (l1) (l3) (v289.2)
              else
                b_L_refused_381 N (l1) (l3) (v277.2)
            else
              b_L_refused_381 N (l1) (l3) (cg)
          else
            b_L_refused_381 N (l1) (l3) (cg)
        else
          b_L_refused_381 N (l1) (l3) (cg)
      else
        b_L_refused_381 N (l1) (l3) (cg)
    else
      b_L_refused_381 N (l1) (l3) (cg)
noncomputable def b_L_refused_205 (N : Nat) (l1 : Int64) (l3 : Int32) (l4 : Int32) (l5 : Int32) (cg : gS) : Option (Int32 × gS) :=
  b_L_refused_206 N (l1) (l3) (l4) (l5) ((0 : Int32)) (cg)
noncomputable def f_L_refused (N : Nat) (g : gS) : Option (Int32 × gS) :=
  bnd2 (f_L_print N g) fun v1 g1 =>
  bV (V_count g1 (14 : Int32)) fun v8 =>
  bV (V_count g1 (1 : Int32)) fun v16 =>
  bV (V_count g1 (10 : Int32)) fun v25 =>
  bV (V_letterOf g1 ((6 : Int32) * v16)) fun v33 =>
  if v33 = (-1 : Int32) then
    bV (V_letter g1 (-1 : Int32) (0 : Int32)) fun v43 =>
    if v43 = (-1 : Int32) then
      bV (V_letter g1 (0 : Int32) (-1 : Int32)) fun v53 =>
      if v53 = (-1 : Int32) then
        bV (V_letter g1 (6 : Int32) (0 : Int32)) fun v64 =>
        if v64 = (-4 : Int32) then
          bV (V_isRoom g1 ((6 : Int32) * v16)) fun v75 =>
          if v75 = (-1 : Int32) then
            bV (C_make g1 (-5 : Int32)) fun v85 =>
            if v85.1 = (-1 : Int32) then
              bV (C_door (v85.2) ((6 : Int32) * v16) (0 : Int32) (0 : Int32)) fun v97 =>
              if v97.1 = (-1 : Int32) then
                bV (C_door (v97.2) v25 (-1 : Int32) (0 : Int32)) fun v109 =>
                if v109.1 = (-1 : Int32) then
                  bV (C_door (v109.2) (((6 : Int32) * v16) - (1 : Int32)) (2 : Int32) (1 : Int32)) fun v123 =>
                  if v123.1 = (-4 : Int32) then
                    bV (C_door (v123.2) v25 (0 : Int32) (2 : Int32)) fun v136 =>
                    if v136.1 = (-1 : Int32) then
                      bV (V_doors (v136.2) (-1 : Int32)) fun v145 =>
                      if v145 = (-1 : Int32) then
                        bV (V_count (v136.2) (16 : Int32)) fun v155 =>
                        if v155 = (-1 : Int32) then
                          bV (V_part (v136.2) (-1 : Int32)) fun v164 =>
                          if v164 = (-1 : Int32) then
                            bV (C_start (v136.2) (-1 : Int32)) fun v173 =>
                            if v173.1 = (-1 : Int32) then
                              bV (C_goal (v173.2) ((6 : Int32) * v16)) fun v183 =>
                              if v183.1 = (-1 : Int32) then
                                bV (V_distance (v183.2) v25 (-1 : Int32)) fun v194 =>
                                if v194 = (-1 : Int32) then
                                  b_L_refused_206 N (v1) (v8) (((6 : Int32) * v16)) (v25) ((1 : Int32)) (v183.2)
                                else
                                  b_L_refused_205 N (v1) (v8) (((6 : Int32) * v16)) (v25) (v183.2)
                              else
                                b_L_refused_205 N (v1) (v8) (((6 : Int32) * v16)) (v25) (v183.2)
                            else
                              b_L_refused_205 N (v1) (v8) (((6 : Int32) * v16)) (v25) (v173.2)
                          else
                            b_L_refused_205 N (v1) (v8) (((6 : Int32) * v16)) (v25) (v136.2)
                        else
                          b_L_refused_205 N (v1) (v8) (((6 : Int32) * v16)) (v25) (v136.2)
                      else
                        b_L_refused_205 N (v1) (v8) (((6 : Int32) * v16)) (v25) (v136.2)
                    else
                      b_L_refused_205 N (v1) (v8) (((6 : Int32) * v16)) (v25) (v136.2)
                  else
                    b_L_refused_205 N (v1) (v8) (((6 : Int32) * v16)) (v25) (v123.2)
                else
                  b_L_refused_205 N (v1) (v8) (((6 : Int32) * v16)) (v25) (v109.2)
              else
                b_L_refused_205 N (v1) (v8) (((6 : Int32) * v16)) (v25) (v97.2)
            else
              b_L_refused_205 N (v1) (v8) (((6 : Int32) * v16)) (v25) (v85.2)
          else
            b_L_refused_205 N (v1) (v8) (((6 : Int32) * v16)) (v25) (g1)
        else
          b_L_refused_205 N (v1) (v8) (((6 : Int32) * v16)) (v25) (g1)
      else
        b_L_refused_205 N (v1) (v8) (((6 : Int32) * v16)) (v25) (g1)
    else
      b_L_refused_205 N (v1) (v8) (((6 : Int32) * v16)) (v25) (g1)
  else
    b_L_refused_205 N (v1) (v8) (((6 : Int32) * v16)) (v25) (g1)
noncomputable def b_L_areDoors_317 (N : Nat) : Nat → Int32 → Int32 → Int32 → Int32 → Int32 → Int32 → Int32 → Int32 → Int32 → gS → Option (Int32 × gS)
  | 0, _, _, _, _, _, _, _, _, _, _ => none
  | n + 1, l1, l2, l3, l4, l5, l6, l7, l8, l9, cg =>
    bV (V_count cg (0 : Int32)) fun v321 =>
    if v321 ≤ l9 then
      if l8 = 0 then
        some ((0 : Int32), cg)
      else
        bV (V_count cg (2 : Int32)) fun v403 =>
        if l2 = v403 then
          if (l6 + l1) = l2 then
            bV (V_count cg (4 : Int32)) fun v421 =>
            if l3 = ((2 : Int32) * v421) then
              bV (V_count cg (4 : Int32)) fun v430 =>
              bV (V_count cg (3 : Int32)) fun v435 =>
              if v435 < v430 then
                some ((0 : Int32), cg)
              else
                bV (V_count cg (8 : Int32)) fun v446 =>
                if l4 = v446 then
                  bV (V_count cg (9 : Int32)) fun v457 =>
                  if l5 = v457 then
                    bV (V_count cg (5 : Int32)) fun v467 =>
                    if l7 = v467 then
                      bV (V_count cg (6 : Int32)) fun v476 =>
                      bV (V_count cg (4 : Int32)) fun v481 =>
                      if v476 = ((v481 - l2) + l7) then
                        bV (V_count cg (7 : Int32)) fun v495 =>
                        if l7 = (1 : Int32) then
                          bV (V_count cg (6 : Int32)) fun v507 =>
                          if v507 = 0 then
                            if v495 = (1 : Int32) then
                              some ((1 : Int32), cg)
                            else
                              some ((0 : Int32), cg)
                          else
                            if v495 = (0 : Int32) then
                              some ((1 : Int32), cg)
                            else
                              some ((0 : Int32), cg)
                        else
                          if v495 = (0 : Int32) then
                            some ((1 : Int32), cg)
                          else
                            some ((0 : Int32), cg)
                      else
                        some ((0 : Int32), cg)
                    else
                      some ((0 : Int32), cg)
                  else
                    some ((0 : Int32), cg)
                else
                  some ((0 : Int32), cg)
            else
              some ((0 : Int32), cg)
          else
            some ((0 : Int32), cg)
        else
          some ((0 : Int32), cg)
    else
      bV (V_letter cg l9 (1 : Int32)) fun v333 =>
      if l8 = 0 then
        b_L_areDoors_317 N n (l1) (l2) (l3) (l4) (l5) ((l6 + v333)) (l7) ((0 : Int32)) ((l9 + (1 : Int32))) (cg)
      else
        bV (V_letter cg l9 (3 : Int32)) fun v348 =>
        bV (V_letter cg l9 (2 : Int32)) fun v355 =>
        if v355 < v348 then
          b_L_areDoors_317 N n (l1) (l2) (l3) (l4) (l5) ((l6 + v333)) (l7) ((0 : Int32)) ((l9 + (1 : Int32))) (cg)
        else
          bV (V_letter cg l9 (4 : Int32)) fun v365 =>
          if v365 < 0 then
            b_L_areDoors_317 N n (l1) (l2) (l3) (l4) (l5) ((l6 + v333)) (l7) ((0 : Int32)) ((l9 + (1 : Int32))) (cg)
          else
            bV (V_letter cg l9 (4 : Int32)) fun v375 =>
            if (5 : Int32) < v375 then
              b_L_areDoors_317 N n (l1) (l2) (l3) (l4) (l5) ((l6 + v333)) (l7) ((0 : Int32)) ((l9 + (1 : Int32))) (cg)
            else
              b_L_areDoors_317 N n (l1) (l2) (l3) (l4) (l5) ((l6 + v333)) (l7) ((1 : Int32)) ((l9 + (1 : Int32))) (cg)
noncomputable def b_L_areDoors_215 (N : Nat) (k46 : Int32 → Int32 → Int32 → Int32 → Int32 → Int32 → Int32 → Int32 → Int32 → gS → Option (Int32 × gS)) : Nat → Int32 → Int32 → Int32 → Int32 → Int32 → Int32 → Int32 → Int32 → Int32 → Int32 → Int32 → Int32 → gS → Option (Int32 × gS)
  | 0, _, _, _, _, _, _, _, _, _, _, _, _, _ => none
  | n + 1, l1, l2, l3, l4, l5, l6, l7, l8, l9, l10, l11, l12, cg =>
    if (4 : Int32) ≤ l12 then
      k46 (l1) (l2) (l3) (l4) (l5) (l6) (l7) (l8) ((l9 + (1 : Int32))) (cg)
    else
      if l8 = 0 then
        k46 (l1) (l2) (l3) (l4) (l5) (l6) (l7) (l8) ((l9 + (1 : Int32))) (cg)
      else
        if l10 = 0 then
          k46 (l1) (l2) (l3) (l4) (l5) (l6) (l7) (l8) ((l9 + (1 : Int32))) (cg)
        else
          bV (t_L_beside l1 l9 l12) fun v236 =>
          if ((l11 >>> (l12 &&& 31)) &&& (1 : Int32)) = 0 then
            b_L_areDoors_215 N k46 n (l1) (l2) (l3) (l4) (l5) (l6) (l7) ((1 : Int32)) (l9) (l10) (l11) ((l12 + (1 : Int32))) (cg)
          else
            bV (V_isRoom cg v236) fun v254 =>
            if v254 = (1 : Int32) then
              bV (V_doors cg v236) fun v264 =>
              if ((v264 >>> (((l12 + (2 : Int32)) - (l12 + (2 : Int32)) / (4 : Int32) * (4 : Int32)) &&& 31)) &&& (1 : Int32)) = (1 : Int32) then
                bV (V_part cg v236) fun v283 =>
                bV (V_part cg l9) fun v289 =>
                if v283 = v289 then
                  b_L_areDoors_215 N k46 n (l1) (l2) (l3) (l4) (l5) (l6) (l7) ((1 : Int32)) (l9) (l10) (l11) ((l12 + (1 : Int32))) (cg)
                else
                  b_L_areDoors_215 N k46 n (l1) (l2) (l3) (l4) (l5) (l6) (l7) ((0 : Int32)) (l9) (l10) (l11) ((l12 + (1 : Int32))) (cg)
              else
                b_L_areDoors_215 N k46 n (l1) (l2) (l3) (l4) (l5) (l6) (l7) ((0 : Int32)) (l9) (l10) (l11) ((l12 + (1 : Int32))) (cg)
            else
              b_L_areDoors_215 N k46 n (l1) (l2) (l3) (l4) (l5) (l6) (l7) ((0 : Int32)) (l9) (l10) (l11) ((l12 + (1 : Int32))) (cg)
noncomputable def b_L_areDoors_178 (N : Nat) (k46 : Int32 → Int32 → Int32 → Int32 → Int32 → Int32 → Int32 → Int32 → Int32 → gS → Option (Int32 × gS)) (l1 : Int32) (l2 : Int32) (l3 : Int32) (l4 : Int32) (l5 : Int32) (l6 : Int32) (l9 : Int32) (l10 : Int32) (l11 : Int32) (s0 : Int32) (cg : gS) : Option (Int32 × gS) :=
  if l10 = 0 then
    bV (V_doors cg l9) fun v188 =>
    if v188 = (-1 : Int32) then
      bV (V_part cg l9) fun v198 =>
      if v198 = (-1 : Int32) then
        b_L_areDoors_215 N (k46) N (l1) (l2) (l3) (l4) (l5) (l6) (s0) ((1 : Int32)) (l9) (l10) (l11) ((0 : Int32)) (cg)
      else
        b_L_areDoors_215 N (k46) N (l1) (l2) (l3) (l4) (l5) (l6) (s0) ((0 : Int32)) (l9) (l10) (l11) ((0 : Int32)) (cg)
    else
      b_L_areDoors_215 N (k46) N (l1) (l2) (l3) (l4) (l5) (l6) (s0) ((0 : Int32)) (l9) (l10) (l11) ((0 : Int32)) (cg)
  else
    b_L_areDoors_215 N (k46) N (l1) (l2) (l3) (l4) (l5) (l6) (s0) ((1 : Int32)) (l9) (l10) (l11) ((0 : Int32)) (cg)
noncomputable def b_L_areDoors_176 (N : Nat) (k46 : Int32 → Int32 → Int32 → Int32 → Int32 → Int32 → Int32 → Int32 → Int32 → gS → Option (Int32 × gS)) (l1 : Int32) (l2 : Int32) (l3 : Int32) (l4 : Int32) (l5 : Int32) (l6 : Int32) (l7 : Int32) (l9 : Int32) (l10 : Int32) (l11 : Int32) (cg : gS) : Option (Int32 × gS) :=
  b_L_areDoors_178 N (k46) (l1) (l2) (l3) (l4) (l5) (l6) (l9) (l10) (l11) (l7) (cg)
noncomputable def b_L_areDoors_150 (N : Nat) (k46 : Int32 → Int32 → Int32 → Int32 → Int32 → Int32 → Int32 → Int32 → Int32 → gS → Option (Int32 × gS)) (l1 : Int32) (l2 : Int32) (l3 : Int32) (l4 : Int32) (l6 : Int32) (l7 : Int32) (l9 : Int32) (l10 : Int32) (l11 : Int32) (s0 : Int32) (s1 : Int32) (cg : gS) : Option (Int32 × gS) :=
  if l10 = 0 then
    b_L_areDoors_176 N (k46) (l1) (l2) (l3) (l4) ((s0 + s1)) (l6) (l7) (l9) (l10) (l11) (cg)
  else
    bV (V_part cg l9) fun v161 =>
    if v161 = l7 then
      b_L_areDoors_178 N (k46) (l1) (l2) (l3) (l4) ((s0 + s1)) (l6) (l9) (l10) (l11) ((l7 + (1 : Int32))) (cg)
    else
      b_L_areDoors_176 N (k46) (l1) (l2) (l3) (l4) ((s0 + s1)) (l6) (l7) (l9) (l10) (l11) (cg)
noncomputable def b_L_areDoors_131 (N : Nat) (k46 : Int32 → Int32 → Int32 → Int32 → Int32 → Int32 → Int32 → Int32 → Int32 → gS → Option (Int32 × gS)) (l1 : Int32) (l2 : Int32) (l3 : Int32) (l5 : Int32) (l6 : Int32) (l7 : Int32) (l9 : Int32) (l10 : Int32) (l11 : Int32) (s0 : Int32) (s1 : Int32) (cg : gS) : Option (Int32 × gS) :=
  bV (t_L_ones l11) fun v138 =>
  if v138 ≤ (2 : Int32) then
    b_L_areDoors_150 N (k46) (l1) (l2) (l3) ((s0 + s1)) (l6) (l7) (l9) (l10) (l11) (l5) ((0 : Int32)) (cg)
  else
    b_L_areDoors_150 N (k46) (l1) (l2) (l3) ((s0 + s1)) (l6) (l7) (l9) (l10) (l11) (l5) ((1 : Int32)) (cg)
noncomputable def b_L_areDoors_105 (N : Nat) (k46 : Int32 → Int32 → Int32 → Int32 → Int32 → Int32 → Int32 → Int32 → Int32 → gS → Option (Int32 × gS)) (l1 : Int32) (l3 : Int32) (l4 : Int32) (l5 : Int32) (l6 : Int32) (l7 : Int32) (l9 : Int32) (l10 : Int32) (l11 : Int32) (s0 : Int32) (s1 : Int32) (cg : gS) : Option (Int32 × gS) :=
  bV (t_L_ones l11) fun v110 =>
  bV (t_L_ones l11) fun v119 =>
  if v119 = (1 : Int32) then
    b_L_areDoors_131 N (k46) (l1) ((s0 + s1)) ((l3 + v110)) (l5) (l6) (l7) (l9) (l10) (l11) (l4) ((1 : Int32)) (cg)
  else
    b_L_areDoors_131 N (k46) (l1) ((s0 + s1)) ((l3 + v110)) (l5) (l6) (l7) (l9) (l10) (l11) (l4) ((0 : Int32)) (cg)
noncomputable def b_L_areDoors_92 (N : Nat) (k46 : Int32 → Int32 → Int32 → Int32 → Int32 → Int32 → Int32 → Int32 → Int32 → gS → Option (Int32 × gS)) (l1 : Int32) (l2 : Int32) (l3 : Int32) (l4 : Int32) (l5 : Int32) (l6 : Int32) (l7 : Int32) (l9 : Int32) (l10 : Int32) (s0 : Int32) (cg : gS) : Option (Int32 × gS) :=
  if l10 = 0 then
    b_L_areDoors_105 N (k46) (l1) (l3) (l4) (l5) (l6) (l7) (l9) (l10) (s0) (l2) ((0 : Int32)) (cg)
  else
    b_L_areDoors_105 N (k46) (l1) (l3) (l4) (l5) (l6) (l7) (l9) (l10) (s0) (l2) ((1 : Int32)) (cg)
noncomputable def b_L_areDoors_75 (N : Nat) (k46 : Int32 → Int32 → Int32 → Int32 → Int32 → Int32 → Int32 → Int32 → Int32 → gS → Option (Int32 × gS)) (l1 : Int32) (l2 : Int32) (l3 : Int32) (l4 : Int32) (l5 : Int32) (l6 : Int32) (l7 : Int32) (l9 : Int32) (s0 : Int32) (cg : gS) : Option (Int32 × gS) :=
  if s0 = 0 then
    b_L_areDoors_92 N (k46) (l1) (l2) (l3) (l4) (l5) (l6) (l7) (l9) (s0) ((0 : Int32)) (cg)
  else
    bV (V_doors cg l9) fun v85 =>
    b_L_areDoors_92 N (k46) (l1) (l2) (l3) (l4) (l5) (l6) (l7) (l9) (s0) (v85) (cg)
noncomputable def b_L_areDoors_46 (N : Nat) : Nat → Int32 → Int32 → Int32 → Int32 → Int32 → Int32 → Int32 → Int32 → Int32 → gS → Option (Int32 × gS)
  | 0, _, _, _, _, _, _, _, _, _, _ => none
  | n + 1, l1, l2, l3, l4, l5, l6, l7, l8, l9, cg =>
    if ((6 : Int32) * l1) ≤ l9 then
      b_L_areDoors_317 N N (l1) (l2) (l3) (l4) (l5) (l6) (l7) (l8) ((0 : Int32)) (cg)
    else
      if l8 = 0 then
        b_L_areDoors_317 N N (l1) (l2) (l3) (l4) (l5) (l6) (l7) (l8) ((0 : Int32)) (cg)
      else
        bV (V_isRoom cg l9) fun v63 =>
        if v63 = (1 : Int32) then
          b_L_areDoors_75 N (b_L_areDoors_46 N n) (l1) (l2) (l3) (l4) (l5) (l6) (l7) (l9) ((1 : Int32)) (cg)
        else
          b_L_areDoors_75 N (b_L_areDoors_46 N n) (l1) (l2) (l3) (l4) (l5) (l6) (l7) (l9) ((0 : Int32)) (cg)
noncomputable def f_L_areDoors (N : Nat) (g : gS) : Option (Int32 × gS) :=
  bV (V_count g (1 : Int32)) fun v2 =>
  bV (V_count g (0 : Int32)) fun v27 =>
  if v2 = (((6 : Int32) * v27) - (1 : Int32)) then
    b_L_areDoors_46 N N (v2) ((0 : Int32)) ((0 : Int32)) ((0 : Int32)) ((0 : Int32)) ((0 : Int32)) ((0 : Int32)) ((1 : Int32)) ((0 : Int32)) (g)
  else
    b_L_areDoors_46 N N (v2) ((0 : Int32)) ((0 : Int32)) ((0 : Int32)) ((0 : Int32)) ((0 : Int32)) ((0 : Int32)) ((0 : Int32)) ((0 : Int32)) (g)
noncomputable def b_L_anyRoom_13 (N : Nat) (va2 : Int32) : Nat → Int32 → Int32 → gS → Option (Int32 × gS)
  | 0, _, _, _ => none
  | n + 1, l2, l3, cg =>
    bV (V_isRoom cg l3) fun v15 =>
    if v15 = 0 then
      if l2 = 0 then none else
      b_L_anyRoom_13 N va2 n (l2) (((l3 + (1 : Int32)) - (l3 + (1 : Int32)) / l2 * l2)) (cg)
    else
      some (l3, cg)
noncomputable def f_L_anyRoom (N : Nat) (g : gS) (va2 : Int32) : Option (Int32 × gS) :=
  bV (V_count g (1 : Int32)) fun v4 =>
  if ((6 : Int32) * v4) = 0 then none else
  b_L_anyRoom_13 N va2 N (((6 : Int32) * v4)) ((va2 - va2 / ((6 : Int32) * v4) * ((6 : Int32) * v4))) (g)
noncomputable def b_L_areWays_506 (N : Nat) (va2 : Int32) (va3 : Int32) (l8 : Int32) (l9 : Int32) (s0 : Int32) (s1 : Int32) (cg : gS) : Option (Int32 × gS) :=
  if s0 = s1 then
    if (9 : Int32) < l8 then
      some ((0 : Int32), cg)
    else
      if l9 < 0 then
        some ((1 : Int32), cg)
      else
        if l9 ≤ (99 : Int32) then
          if l8 < (l9 / (10 : Int32)) then
            some ((0 : Int32), cg)
          else
            some ((1 : Int32), cg)
        else
          if l8 < (9 : Int32) then
            some ((0 : Int32), cg)
          else
            some ((1 : Int32), cg)
  else
    some ((0 : Int32), cg)
noncomputable def b_L_areWays_494 (N : Nat) (va2 : Int32) (va3 : Int32) (l8 : Int32) (l9 : Int32) (s0 : Int32) (cg : gS) : Option (Int32 × gS) :=
  if l9 = (-4 : Int32) then
    b_L_areWays_506 N va2 va3 (l8) (l9) (s0) ((1 : Int32)) (cg)
  else
    b_L_areWays_506 N va2 va3 (l8) (l9) (s0) ((0 : Int32)) (cg)
noncomputable def b_L_areWays_451 (N : Nat) (va2 : Int32) (va3 : Int32) (s0 : Int32) (cg : gS) : Option (Int32 × gS) :=
  bV (V_grade cg) fun v454 =>
  bV (V_count cg (10 : Int32)) fun v463 =>
  bV (V_count cg (11 : Int32)) fun v469 =>
  bV (V_distance cg v463 v469) fun v472 =>
  if s0 = 0 then
    some ((0 : Int32), cg)
  else
    if v454 = (-4 : Int32) then
      b_L_areWays_494 N va2 va3 (v454) (v472) ((1 : Int32)) (cg)
    else
      b_L_areWays_494 N va2 va3 (v454) (v472) ((0 : Int32)) (cg)
noncomputable def b_L_areWays_450 (N : Nat) (va2 : Int32) (va3 : Int32) (cg : gS) : Option (Int32 × gS) :=
  b_L_areWays_451 N va2 va3 ((0 : Int32)) (cg)
noncomputable def b_L_areWays_446 (N : Nat) (va2 : Int32) (va3 : Int32) (cg : gS) : Option (Int32 × gS) :=
  b_L_areWays_451 N va2 va3 ((1 : Int32)) (cg)
noncomputable def b_L_areWays_374 (N : Nat) (va2 : Int32) (va3 : Int32) (l4 : Int32) (l6 : Int32) (l7 : Int32) (cg : gS) : Option (Int32 × gS) :=
  bV (V_distance cg va2 l6) fun v378 =>
  if v378 = l7 then
    if l7 < l4 then
      b_L_areWays_450 N va2 va3 (cg)
    else
      bV (V_longest cg (0 : Int32)) fun v395 =>
      if v395 < l7 then
        b_L_areWays_450 N va2 va3 (cg)
      else
        bV (V_longest cg (1 : Int32)) fun v406 =>
        bV (V_longest cg (2 : Int32)) fun v411 =>
        bV (V_distance cg v406 v411) fun v414 =>
        bV (V_longest cg (0 : Int32)) fun v419 =>
        if v414 = v419 then
          bV (V_longest cg (0 : Int32)) fun v427 =>
          if v427 = 0 then
            b_L_areWays_446 N va2 va3 (cg)
          else
            bV (V_longest cg (1 : Int32)) fun v435 =>
            bV (V_longest cg (2 : Int32)) fun v440 =>
            if v440 ≤ v435 then
              b_L_areWays_450 N va2 va3 (cg)
            else
              b_L_areWays_446 N va2 va3 (cg)
        else
          b_L_areWays_450 N va2 va3 (cg)
  else
    b_L_areWays_450 N va2 va3 (cg)
noncomputable def b_L_areWays_336 (N : Nat) (va2 : Int32) (va3 : Int32) (l4 : Int32) (l5 : Int32) (cg : gS) : Option (Int32 × gS) :=
  bV (V_farthest cg va2 (0 : Int32)) fun v339 =>
  bV (V_farthest cg va2 (1 : Int32)) fun v347 =>
  if l5 = 0 then
    b_L_areWays_450 N va2 va3 (cg)
  else
    if l4 < 0 then
      b_L_areWays_374 N va2 va3 (l4) (v339) (v347) (cg)
    else
      bV (V_way cg va2 va3 l4) fun v367 =>
      if v367 = va3 then
        b_L_areWays_374 N va2 va3 (l4) (v339) (v347) (cg)
      else
        b_L_areWays_450 N va2 va3 (cg)
noncomputable def b_L_areWays_270 (N : Nat) (va2 : Int32) (va3 : Int32) (k141 : Int32 → Int32 → Int32 → Int32 → gS → Option (Int32 × gS)) : Nat → Int32 → Int32 → Int32 → Int32 → Int32 → Int32 → Int32 → gS → Option (Int32 × gS)
  | 0, _, _, _, _, _, _, _, _ => none
  | n + 1, l3, l4, l5, l6, l7, l9, l10, cg =>
    if l9 ≤ l10 then
      k141 (l3) (l4) (l5) ((l6 + (1 : Int32))) (cg)
    else
      if l5 = 0 then
        k141 (l3) (l4) (l5) ((l6 + (1 : Int32))) (cg)
      else
        bV (V_doors cg l7) fun v285 =>
        if ((v285 >>> (l10 &&& 31)) &&& (1 : Int32)) = 0 then
          b_L_areWays_270 N va2 va3 k141 n (l3) (l4) ((1 : Int32)) (l6) (l7) (l9) ((l10 + (1 : Int32))) (cg)
        else
          bV (t_L_beside l3 l7 l10) fun v302 =>
          bV (V_distance cg v302 va3) fun v306 =>
          if v306 < (l4 - l6) then
            b_L_areWays_270 N va2 va3 k141 n (l3) (l4) ((0 : Int32)) (l6) (l7) (l9) ((l10 + (1 : Int32))) (cg)
          else
            b_L_areWays_270 N va2 va3 k141 n (l3) (l4) ((1 : Int32)) (l6) (l7) (l9) ((l10 + (1 : Int32))) (cg)
noncomputable def b_L_areWays_215 (N : Nat) (va2 : Int32) (va3 : Int32) (k141 : Int32 → Int32 → Int32 → Int32 → gS → Option (Int32 × gS)) (l3 : Int32) (l4 : Int32) (l6 : Int32) (l7 : Int32) (l8 : Int32) (s0 : Int32) (cg : gS) : Option (Int32 × gS) :=
  bV (V_distance cg l7 va3) fun v221 =>
  if v221 = (l4 - l6) then
    bV (t_L_beside l3 l7 s0) fun v237 =>
    if v237 = l8 then
      bV (V_doors cg l7) fun v248 =>
      if ((v248 >>> (s0 &&& 31)) &&& (1 : Int32)) = (1 : Int32) then
        b_L_areWays_270 N va2 va3 (k141) N (l3) (l4) ((1 : Int32)) (l6) (l7) (s0) ((0 : Int32)) (cg)
      else
        b_L_areWays_270 N va2 va3 (k141) N (l3) (l4) ((0 : Int32)) (l6) (l7) (s0) ((0 : Int32)) (cg)
    else
      b_L_areWays_270 N va2 va3 (k141) N (l3) (l4) ((0 : Int32)) (l6) (l7) (s0) ((0 : Int32)) (cg)
  else
    b_L_areWays_270 N va2 va3 (k141) N (l3) (l4) ((0 : Int32)) (l6) (l7) (s0) ((0 : Int32)) (cg)
noncomputable def b_L_areWays_141 (N : Nat) (va2 : Int32) (va3 : Int32) : Nat → Int32 → Int32 → Int32 → Int32 → gS → Option (Int32 × gS)
  | 0, _, _, _, _, _ => none
  | n + 1, l3, l4, l5, l6, cg =>
    if l4 ≤ l6 then
      b_L_areWays_336 N va2 va3 (l4) (l5) (cg)
    else
      if l5 = 0 then
        b_L_areWays_336 N va2 va3 (l4) (l5) (cg)
      else
        bV (V_way cg va2 va3 l6) fun v158 =>
        bV (V_way cg va2 va3 (l6 + (1 : Int32))) fun v170 =>
        if v170 = (v158 - l3) then
          b_L_areWays_215 N va2 va3 (b_L_areWays_141 N va2 va3 n) (l3) (l4) (l6) (v158) (v170) ((0 : Int32)) (cg)
        else
          if v170 = (v158 + (1 : Int32)) then
            b_L_areWays_215 N va2 va3 (b_L_areWays_141 N va2 va3 n) (l3) (l4) (l6) (v158) (v170) ((1 : Int32)) (cg)
          else
            if v170 = (v158 + l3) then
              b_L_areWays_215 N va2 va3 (b_L_areWays_141 N va2 va3 n) (l3) (l4) (l6) (v158) (v170) ((2 : Int32)) (cg)
            else
              b_L_areWays_215 N va2 va3 (b_L_areWays_141 N va2 va3 n) (l3) (l4) (l6) (v158) (v170) ((3 : Int32)) (cg)
noncomputable def b_L_areWays_128 (N : Nat) (va2 : Int32) (va3 : Int32) (l3 : Int32) (l4 : Int32) (s0 : Int32) (s1 : Int32) (cg : gS) : Option (Int32 × gS) :=
  if s0 = s1 then
    b_L_areWays_141 N va2 va3 N (l3) (l4) ((1 : Int32)) ((0 : Int32)) (cg)
  else
    b_L_areWays_141 N va2 va3 N (l3) (l4) ((0 : Int32)) ((0 : Int32)) (cg)
noncomputable def b_L_areWays_97 (N : Nat) (va2 : Int32) (va3 : Int32) (l3 : Int32) (l4 : Int32) (s1 : Int32) (s2 : Int32) (s3 : Int32) (cg : gS) : Option (Int32 × gS) :=
  bV (V_way cg s1 s2 s3) fun v97 =>
  if v97 = (-4 : Int32) then
    bV (V_again cg va2 va3) fun v108 =>
    bV (V_count cg (7 : Int32)) fun v114 =>
    if v114 = (1 : Int32) then
      b_L_areWays_128 N va2 va3 (l3) (l4) (v108) (l4) (cg)
    else
      b_L_areWays_128 N va2 va3 (l3) (l4) (v108) ((-2 : Int32)) (cg)
  else
    b_L_areWays_141 N va2 va3 N (l3) (l4) ((0 : Int32)) ((0 : Int32)) (cg)
noncomputable def b_L_areWays_78 (N : Nat) (va2 : Int32) (va3 : Int32) (l3 : Int32) (l4 : Int32) (s0 : Int32) (s1 : Int32) (cg : gS) : Option (Int32 × gS) :=
  if s0 = s1 then
    if 0 ≤ l4 then
      b_L_areWays_97 N va2 va3 (l3) (l4) (va2) (va3) ((l4 + (1 : Int32))) (cg)
    else
      b_L_areWays_97 N va2 va3 (l3) (l4) (va2) (va3) ((0 : Int32)) (cg)
  else
    b_L_areWays_141 N va2 va3 N (l3) (l4) ((0 : Int32)) ((0 : Int32)) (cg)
noncomputable def b_L_areWays_68 (N : Nat) (va2 : Int32) (va3 : Int32) (l3 : Int32) (l4 : Int32) (s0 : Int32) (cg : gS) : Option (Int32 × gS) :=
  if va2 = va3 then
    b_L_areWays_78 N va2 va3 (l3) (l4) (s0) ((1 : Int32)) (cg)
  else
    b_L_areWays_78 N va2 va3 (l3) (l4) (s0) ((0 : Int32)) (cg)
noncomputable def b_L_areWays_55 (N : Nat) (va2 : Int32) (va3 : Int32) (l3 : Int32) (l4 : Int32) (s0 : Int32) (s1 : Int32) (cg : gS) : Option (Int32 × gS) :=
  if s0 = s1 then
    if l4 = 0 then
      b_L_areWays_68 N va2 va3 (l3) (l4) ((1 : Int32)) (cg)
    else
      b_L_areWays_68 N va2 va3 (l3) (l4) ((0 : Int32)) (cg)
  else
    b_L_areWays_141 N va2 va3 N (l3) (l4) ((0 : Int32)) ((0 : Int32)) (cg)
noncomputable def b_L_areWays_37 (N : Nat) (va2 : Int32) (va3 : Int32) (l3 : Int32) (l4 : Int32) (s0 : Int32) (cg : gS) : Option (Int32 × gS) :=
  bV (V_part cg va2) fun v39 =>
  bV (V_part cg va3) fun v44 =>
  if v39 = v44 then
    b_L_areWays_55 N va2 va3 (l3) (l4) (s0) ((0 : Int32)) (cg)
  else
    b_L_areWays_55 N va2 va3 (l3) (l4) (s0) ((1 : Int32)) (cg)
noncomputable def f_L_areWays (N : Nat) (g : gS) (va2 : Int32) (va3 : Int32) : Option (Int32 × gS) :=
  bV (V_count g (1 : Int32)) fun v2 =>
  bV (V_distance g va2 va3) fun v9 =>
  bV (V_distance g va3 va2) fun v17 =>
  if v17 = v9 then
    if v9 = (-4 : Int32) then
      b_L_areWays_37 N va2 va3 (v2) (v9) ((1 : Int32)) (g)
    else
      b_L_areWays_37 N va2 va3 (v2) (v9) ((0 : Int32)) (g)
  else
    b_L_areWays_141 N va2 va3 N (v2) (v9) ((0 : Int32)) ((0 : Int32)) (g)
noncomputable def b_L_areSigns_139 (N : Nat) (l2 : Int32) (l3 : Int32) (l4 : Int32) (cg : gS) : Option (Int32 × gS) :=
  if l4 = 0 then
    some ((0 : Int32), cg)
  else
    bV (V_count cg (13 : Int32)) fun v148 =>
    if l3 = v148 then
      bV (V_count cg (12 : Int32)) fun v157 =>
      if v157 = 0 then
        some ((1 : Int32), cg)
      else
        if l2 < 0 then
          some ((0 : Int32), cg)
        else
          some ((1 : Int32), cg)
    else
      some ((0 : Int32), cg)
noncomputable def b_L_areSigns_91 (N : Nat) (k51 : Int32 → Int32 → Int32 → Int32 → Int32 → gS → Option (Int32 × gS)) (l1 : Int32) (l2 : Int32) (l5 : Int32) (l6 : Int32) (s0 : Int32) (s1 : Int32) (cg : gS) : Option (Int32 × gS) :=
  if l6 < 0 then
    k51 (l1) (l2) ((s0 + s1)) ((1 : Int32)) ((l5 + (1 : Int32))) (cg)
  else
    bV (V_doors cg l5) fun v101 =>
    if ((v101 >>> (l6 &&& 31)) &&& (1 : Int32)) = (1 : Int32) then
      bV (V_doors cg l5) fun v116 =>
      bV (t_L_ones v116) fun v119 =>
      if v119 ≤ (2 : Int32) then
        k51 (l1) (l2) ((s0 + s1)) ((0 : Int32)) ((l5 + (1 : Int32))) (cg)
      else
        k51 (l1) (l2) ((s0 + s1)) ((1 : Int32)) ((l5 + (1 : Int32))) (cg)
    else
      k51 (l1) (l2) ((s0 + s1)) ((0 : Int32)) ((l5 + (1 : Int32))) (cg)
noncomputable def b_L_areSigns_86 (N : Nat) (k51 : Int32 → Int32 → Int32 → Int32 → Int32 → gS → Option (Int32 × gS)) (l1 : Int32) (l2 : Int32) (l5 : Int32) (l6 : Int32) (s0 : Int32) (cg : gS) : Option (Int32 × gS) :=
  b_L_areSigns_91 N (k51) (l1) (l2) (l5) (l6) (s0) ((1 : Int32)) (cg)
noncomputable def b_L_areSigns_51 (N : Nat) : Nat → Int32 → Int32 → Int32 → Int32 → Int32 → gS → Option (Int32 × gS)
  | 0, _, _, _, _, _, _ => none
  | n + 1, l1, l2, l3, l4, l5, cg =>
    if ((6 : Int32) * l1) ≤ l5 then
      b_L_areSigns_139 N (l2) (l3) (l4) (cg)
    else
      if l4 = 0 then
        b_L_areSigns_139 N (l2) (l3) (l4) (cg)
      else
        bV (V_points cg l5) fun v68 =>
        if 0 ≤ v68 then
          b_L_areSigns_86 N (b_L_areSigns_51 N n) (l1) (l2) (l5) (v68) (l3) (cg)
        else
          if v68 = (-4 : Int32) then
            b_L_areSigns_86 N (b_L_areSigns_51 N n) (l1) (l2) (l5) (v68) (l3) (cg)
          else
            b_L_areSigns_91 N (b_L_areSigns_51 N n) (l1) (l2) (l5) (v68) (l3) ((0 : Int32)) (cg)
noncomputable def f_L_areSigns (N : Nat) (g : gS) : Option (Int32 × gS) :=
  bV (V_count g (1 : Int32)) fun v2 =>
  bV (V_count g (11 : Int32)) fun v9 =>
  bV (V_count g (13 : Int32)) fun v18 =>
  bV (V_count g (12 : Int32)) fun v24 =>
  if v24 < v18 then
    b_L_areSigns_51 N N (v2) (v9) ((0 : Int32)) ((0 : Int32)) ((0 : Int32)) (g)
  else
    bV (V_count g (12 : Int32)) fun v33 =>
    if (20 : Int32) < v33 then
      b_L_areSigns_51 N N (v2) (v9) ((0 : Int32)) ((0 : Int32)) ((0 : Int32)) (g)
    else
      b_L_areSigns_51 N N (v2) (v9) ((0 : Int32)) ((1 : Int32)) ((0 : Int32)) (g)
noncomputable def b_L_isWalk_315 (N : Nat) (va2 : Int32) (l3 : Int32) (l4 : Int32) (l6 : Int32) (cg : gS) : Option (Int32 × gS) :=
  bV (V_count cg (11 : Int32)) fun v320 =>
  if l4 = v320 then
    if l6 = l3 then
      some ((1 : Int32), cg)
    else
      some ((0 : Int32), cg)
  else
    some ((1 : Int32), cg)
noncomputable def b_L_isWalk_265 (N : Nat) (va2 : Int32) (l3 : Int32) (l4 : Int32) (l6 : Int32) (cg : gS) : Option (Int32 × gS) :=
  if l6 = (-4 : Int32) then
    b_L_isWalk_315 N va2 (l3) (l4) (l6) (cg)
  else
    if l6 < l3 then
      some ((0 : Int32), cg)
    else
      bV (V_walk cg l6 (0 : Int32)) fun v282 =>
      bV (V_count cg (11 : Int32)) fun v288 =>
      if v282 = v288 then
        bV (V_count cg (10 : Int32)) fun v300 =>
        bV (V_count cg (11 : Int32)) fun v306 =>
        bV (V_distance cg v300 v306) fun v309 =>
        if l6 < v309 then
          some ((0 : Int32), cg)
        else
          b_L_isWalk_315 N va2 (l3) (l4) (l6) (cg)
      else
        some ((0 : Int32), cg)
noncomputable def b_L_isWalk_218 (N : Nat) (va2 : Int32) (l3 : Int32) (l4 : Int32) (l5 : Int32) (cg : gS) : Option (Int32 × gS) :=
  bV (V_walked cg) fun v219 =>
  if l5 = 0 then
    some ((0 : Int32), cg)
  else
    bV (V_walk cg va2 (0 : Int32)) fun v232 =>
    if v232 = l4 then
      if l3 = va2 then
        b_L_isWalk_265 N va2 (l3) (l4) (v219) (cg)
      else
        bV (V_count cg (11 : Int32)) fun v250 =>
        if l4 = v250 then
          b_L_isWalk_265 N va2 (l3) (l4) (v219) (cg)
        else
          bV (V_doors cg l4) fun v259 =>
          if v259 = 0 then
            b_L_isWalk_265 N va2 (l3) (l4) (v219) (cg)
          else
            some ((0 : Int32), cg)
    else
      some ((0 : Int32), cg)
noncomputable def b_L_isWalk_201 (N : Nat) (va2 : Int32) (k68 : Int32 → Int32 → Int32 → Int32 → Int32 → gS → Option (Int32 × gS)) (l2 : Int32) (l3 : Int32) (l6 : Int32) (l7 : Int32) (cg : gS) : Option (Int32 × gS) :=
  k68 (l2) (l3) (l7) ((1 : Int32)) ((l6 + (1 : Int32))) (cg)
noncomputable def b_L_isWalk_128 (N : Nat) (va2 : Int32) (k68 : Int32 → Int32 → Int32 → Int32 → Int32 → gS → Option (Int32 × gS)) (l2 : Int32) (l3 : Int32) (l4 : Int32) (l6 : Int32) (l7 : Int32) (s0 : Int32) (cg : gS) : Option (Int32 × gS) :=
  bV (t_L_beside l2 l4 s0) fun v135 =>
  if v135 = l7 then
    bV (V_doors cg l4) fun v146 =>
    if ((v146 >>> (s0 &&& 31)) &&& (1 : Int32)) = (1 : Int32) then
      bV (V_walk cg l6 (1 : Int32)) fun v162 =>
      if v162 = l6 then
        bV (V_count cg (11 : Int32)) fun v175 =>
        if l4 = v175 then
          k68 (l2) (l3) (l7) ((0 : Int32)) ((l6 + (1 : Int32))) (cg)
        else
          bV (V_points cg l4) fun v184 =>
          if v184 < 0 then
            b_L_isWalk_201 N va2 (k68) (l2) (l3) (l6) (l7) (cg)
          else
            bV (V_points cg l4) fun v193 =>
            if v193 = s0 then
              b_L_isWalk_201 N va2 (k68) (l2) (l3) (l6) (l7) (cg)
            else
              k68 (l2) (l3) (l7) ((0 : Int32)) ((l6 + (1 : Int32))) (cg)
      else
        k68 (l2) (l3) (l7) ((0 : Int32)) ((l6 + (1 : Int32))) (cg)
    else
      k68 (l2) (l3) (l7) ((0 : Int32)) ((l6 + (1 : Int32))) (cg)
  else
    k68 (l2) (l3) (l7) ((0 : Int32)) ((l6 + (1 : Int32))) (cg)
noncomputable def b_L_isWalk_68 (N : Nat) (va2 : Int32) : Nat → Int32 → Int32 → Int32 → Int32 → Int32 → gS → Option (Int32 × gS)
  | 0, _, _, _, _, _, _ => none
  | n + 1, l2, l3, l4, l5, l6, cg =>
    if l3 < l6 then
      b_L_isWalk_218 N va2 (l3) (l4) (l5) (cg)
    else
      if l5 = 0 then
        b_L_isWalk_218 N va2 (l3) (l4) (l5) (cg)
      else
        bV (V_walk cg l6 (0 : Int32)) fun v83 =>
        if v83 = (l4 - l2) then
          b_L_isWalk_128 N va2 (b_L_isWalk_68 N va2 n) (l2) (l3) (l4) (l6) (v83) ((0 : Int32)) (cg)
        else
          if v83 = (l4 + (1 : Int32)) then
            b_L_isWalk_128 N va2 (b_L_isWalk_68 N va2 n) (l2) (l3) (l4) (l6) (v83) ((1 : Int32)) (cg)
          else
            if v83 = (l4 + l2) then
              b_L_isWalk_128 N va2 (b_L_isWalk_68 N va2 n) (l2) (l3) (l4) (l6) (v83) ((2 : Int32)) (cg)
            else
              b_L_isWalk_128 N va2 (b_L_isWalk_68 N va2 n) (l2) (l3) (l4) (l6) (v83) ((3 : Int32)) (cg)
noncomputable def f_L_isWalk (N : Nat) (g : gS) (va2 : Int32) : Option (Int32 × gS) :=
  bV (V_count g (1 : Int32)) fun v2 =>
  bV (V_walk g va2 (1 : Int32)) fun v9 =>
  bV (V_count g (10 : Int32)) fun v16 =>
  if va2 < v9 then
    b_L_isWalk_68 N va2 N (v2) (v9) (v16) ((0 : Int32)) ((1 : Int32)) (g)
  else
    bV (V_walk g va2 (2 : Int32)) fun v29 =>
    if (v9 + (1 : Int32)) < v29 then
      b_L_isWalk_68 N va2 N (v2) (v9) (v16) ((0 : Int32)) ((1 : Int32)) (g)
    else
      bV (V_walk g (0 : Int32) (0 : Int32)) fun v41 =>
      if v41 = v16 then
        bV (V_walk g (0 : Int32) (1 : Int32)) fun v52 =>
        if v52 = 0 then
          b_L_isWalk_68 N va2 N (v2) (v9) (v16) ((1 : Int32)) ((1 : Int32)) (g)
        else
          b_L_isWalk_68 N va2 N (v2) (v9) (v16) ((0 : Int32)) ((1 : Int32)) (g)
      else
        b_L_isWalk_68 N va2 N (v2) (v9) (v16) ((0 : Int32)) ((1 : Int32)) (g)
noncomputable def b_L_acts_131 (N : Nat) (va2 : Int32) (va3 : Int32) (cg : gS) : Option (Int32 × gS) :=
  bV (C_word cg) fun v132 =>
  some (v132.1, v132.2)
noncomputable def b_L_acts_85 (N : Nat) (va2 : Int32) (va3 : Int32) : Nat → Int32 → Int64 → Int32 → Int32 → gS → Option (Int32 × gS)
  | 0, _, _, _, _, _ => none
  | n + 1, l4, l5, l7, l8, cg =>
    if l7 ≤ l8 then
      b_L_acts_131 N va2 va3 (cg)
    else
      if l4 < 0 then
        b_L_acts_131 N va2 va3 (cg)
      else
        bV (C_type cg (((l5 >>> ((((8 : Int32) * (((va3 / (3 : Int32)) >>> (((3 : Int32) * l8) &&& 31)) &&& (7 : Int32)))).toInt64 &&& 63)) &&& (255 : Int64))).toInt32) fun v120 =>
        b_L_acts_85 N va2 va3 n (v120.1) (l5) (l7) ((l8 + (1 : Int32))) (v120.2)
noncomputable def b_L_acts_167 (N : Nat) (va2 : Int32) (va3 : Int32) (s1 : Int32) (s2 : Int32) (s3 : Int32) (cg : gS) : Option (Int32 × gS) :=
  bV (C_door cg s1 s2 s3) fun v167 =>
  some (v167.1, v167.2)
noncomputable def b_L_acts_216 (N : Nat) (va2 : Int32) (va3 : Int32) (s1 : Int32) (s2 : Int32) (s3 : Int32) (cg : gS) : Option (Int32 × gS) :=
  bV (C_sign cg s1 s2 s3) fun v216 =>
  some (v216.1, v216.2)
noncomputable def f_L_acts (N : Nat) (g : gS) (va2 : Int32) (va3 : Int32) : Option (Int32 × gS) :=
  bnd2 (f_L_anyRoom N g va3) fun v2 g2 =>
  bnd1 (f_L_low va2 (12 : Int32)) fun v9 =>
  if v9 = (0 : Int32) then
    bV (C_clearText g2) fun v65 =>
    b_L_acts_85 N va2 va3 N (v65.1) ((4702678604050878285 : Int64)) (((1 : Int32) + (va3 - va3 / (3 : Int32) * (3 : Int32)))) ((0 : Int32)) (v65.2)
  else
    if v9 = (1 : Int32) then
      bV (C_make g2 (va3 - va3 / (65536 : Int32) * (65536 : Int32))) fun v141 =>
      some (v141.1, v141.2)
    else
      if v9 = (2 : Int32) then
        bV (C_make g2 (va3 - va3 / (65536 : Int32) * (65536 : Int32))) fun v141 =>
        some (v141.1, v141.2)
      else
        if v9 = (3 : Int32) then
          if ((va3 / (28 : Int32)) - (va3 / (28 : Int32)) / (3 : Int32) * (3 : Int32)) ≤ 0 then
            b_L_acts_167 N va2 va3 (v2) (((va3 / (7 : Int32)) - (va3 / (7 : Int32)) / (4 : Int32) * (4 : Int32))) ((0 : Int32)) (g2)
          else
            b_L_acts_167 N va2 va3 (v2) (((va3 / (7 : Int32)) - (va3 / (7 : Int32)) / (4 : Int32) * (4 : Int32))) ((1 : Int32)) (g2)
        else
          if v9 = (4 : Int32) then
            if ((va3 / (28 : Int32)) - (va3 / (28 : Int32)) / (3 : Int32) * (3 : Int32)) ≤ 0 then
              b_L_acts_167 N va2 va3 (v2) (((va3 / (7 : Int32)) - (va3 / (7 : Int32)) / (4 : Int32) * (4 : Int32))) ((0 : Int32)) (g2)
            else
              b_L_acts_167 N va2 va3 (v2) (((va3 / (7 : Int32)) - (va3 / (7 : Int32)) / (4 : Int32) * (4 : Int32))) ((1 : Int32)) (g2)
          else
            if v9 = (5 : Int32) then
              if ((va3 / (28 : Int32)) - (va3 / (28 : Int32)) / (3 : Int32) * (3 : Int32)) ≤ 0 then
                b_L_acts_167 N va2 va3 (v2) (((va3 / (7 : Int32)) - (va3 / (7 : Int32)) / (4 : Int32) * (4 : Int32))) ((0 : Int32)) (g2)
              else
                b_L_acts_167 N va2 va3 (v2) (((va3 / (7 : Int32)) - (va3 / (7 : Int32)) / (4 : Int32) * (4 : Int32))) ((1 : Int32)) (g2)
            else
              if v9 = (6 : Int32) then
                bV (C_start g2 v2) fun v173 =>
                some (v173.1, v173.2)
              else
                if v9 = (7 : Int32) then
                  bV (C_goal g2 v2) fun v179 =>
                  some (v179.1, v179.2)
                else
                  if v9 = (8 : Int32) then
                    bV (C_unsign g2 v2) fun v185 =>
                    some (v185.1, v185.2)
                  else
                    if ((va3 / (5 : Int32)) - (va3 / (5 : Int32)) / (3 : Int32) * (3 : Int32)) = (2 : Int32) then
                      b_L_acts_216 N va2 va3 (v2) (((va3 / (5 : Int32)) - (va3 / (5 : Int32)) / (3 : Int32) * (3 : Int32))) (((va3 / (15 : Int32)) - (va3 / (15 : Int32)) / (4 : Int32) * (4 : Int32))) (g2)
                    else
                      b_L_acts_216 N va2 va3 (v2) (((va3 / (5 : Int32)) - (va3 / (5 : Int32)) / (3 : Int32) * (3 : Int32))) ((0 : Int32)) (g2)
noncomputable def b_L_law_444 (N : Nat) (xs : Nat → Int32) (L : Nat) (l2 : Int32) (cg : gS) : Option (Int32 × gS) :=
  if l2 = 0 then
    some ((0 : Int32), cg)
  else
    bnd2 (f_L_refused N cg) fun v449 g449 =>
    if v449 = 0 then
      some ((0 : Int32), g449)
    else
      bnd2 (f_L_areDoors N g449) fun v456 g456 =>
      if v456 = 0 then
        some ((0 : Int32), g456)
      else
        some ((1 : Int32), g456)
noncomputable def b_L_law_416 (N : Nat) (xs : Nat → Int32) (L : Nat) (k49 : Int32 → Int32 → gS → Option (Int32 × gS)) (l3 : Int32) (cg : gS) : Option (Int32 × gS) :=
  if (l3 - l3 / (10 : Int32) * (10 : Int32)) = (6 : Int32) then
    bnd2 (f_L_refused N cg) fun v426 g426 =>
    if v426 = 0 then
      k49 ((0 : Int32)) ((l3 + (1 : Int32))) (g426)
    else
      k49 ((1 : Int32)) ((l3 + (1 : Int32))) (g426)
  else
    k49 ((1 : Int32)) ((l3 + (1 : Int32))) (cg)
noncomputable def b_L_law_388 (N : Nat) (xs : Nat → Int32) (L : Nat) (k49 : Int32 → Int32 → gS → Option (Int32 × gS)) (l3 : Int32) (l5 : Int32) (cg : gS) : Option (Int32 × gS) :=
  bnd2 (f_L_areSigns N cg) fun v389 g389 =>
  if v389 = 0 then
    k49 ((0 : Int32)) ((l3 + (1 : Int32))) (g389)
  else
    if (l3 - l3 / (4 : Int32) * (4 : Int32)) = (1 : Int32) then
      bnd2 (f_L_isWalk N g389 ((1 : Int32) + (l5 - l5 / (40 : Int32) * (40 : Int32)))) fun v410 g410 =>
      if v410 = 0 then
        k49 ((0 : Int32)) ((l3 + (1 : Int32))) (g410)
      else
        b_L_law_416 N xs L (k49) (l3) (g410)
    else
      b_L_law_416 N xs L (k49) (l3) (g389)
noncomputable def b_L_law_357 (N : Nat) (xs : Nat → Int32) (L : Nat) (k49 : Int32 → Int32 → gS → Option (Int32 × gS)) (l3 : Int32) (l5 : Int32) (cg : gS) : Option (Int32 × gS) :=
  if (l3 - l3 / (3 : Int32) * (3 : Int32)) = (2 : Int32) then
    bnd2 (f_L_anyRoom N cg (l5 / (3 : Int32))) fun v370 g370 =>
    bnd2 (f_L_anyRoom N g370 (l5 / (11 : Int32))) fun v379 g379 =>
    bnd2 (f_L_areWays N g379 v370 v379) fun v382 g382 =>
    if v382 = 0 then
      k49 ((0 : Int32)) ((l3 + (1 : Int32))) (g382)
    else
      b_L_law_388 N xs L (k49) (l3) (l5) (g382)
  else
    b_L_law_388 N xs L (k49) (l3) (l5) (cg)
noncomputable def b_L_law_339 (N : Nat) (xs : Nat → Int32) (L : Nat) (k49 : Int32 → Int32 → gS → Option (Int32 × gS)) (l2 : Int32) (l3 : Int32) (l5 : Int32) (cg : gS) : Option (Int32 × gS) :=
  if l2 = 0 then
    k49 ((0 : Int32)) ((l3 + (1 : Int32))) (cg)
  else
    if (l3 - l3 / (2 : Int32) * (2 : Int32)) = (1 : Int32) then
      b_L_law_357 N xs L (k49) (l3) (l5) (cg)
    else
      bnd2 (f_L_areDoors N cg) fun v351 g351 =>
      if v351 = 0 then
        k49 ((0 : Int32)) ((l3 + (1 : Int32))) (g351)
      else
        b_L_law_357 N xs L (k49) (l3) (l5) (g351)
noncomputable def b_L_law_338 (N : Nat) (xs : Nat → Int32) (L : Nat) (k49 : Int32 → Int32 → gS → Option (Int32 × gS)) (l3 : Int32) (l5 : Int32) (s0 : Int32) (cg : gS) : Option (Int32 × gS) :=
  b_L_law_339 N xs L (k49) (s0) (l3) (l5) (cg)
noncomputable def b_L_law_337 (N : Nat) (xs : Nat → Int32) (L : Nat) (k49 : Int32 → Int32 → gS → Option (Int32 × gS)) (l3 : Int32) (l5 : Int32) (cg : gS) : Option (Int32 × gS) :=
  b_L_law_338 N xs L (k49) (l3) (l5) ((0 : Int32)) (cg)
noncomputable def b_L_law_320 (N : Nat) (xs : Nat → Int32) (L : Nat) (k49 : Int32 → Int32 → gS → Option (Int32 × gS)) (l3 : Int32) (l5 : Int32) (l6 : Int64) (s0 : Int32) (s1 : Int32) (cg : gS) : Option (Int32 × gS) :=
  if s0 = s1 then
    bnd2 (f_L_print N cg) fun v324 g324 =>
    if (lg_cmp v324 l6) = 0 then
      b_L_law_338 N xs L (k49) (l3) (l5) ((1 : Int32)) (g324)
    else
      b_L_law_337 N xs L (k49) (l3) (l5) (g324)
  else
    b_L_law_337 N xs L (k49) (l3) (l5) (cg)
noncomputable def b_L_law_284 (N : Nat) (xs : Nat → Int32) (L : Nat) (k49 : Int32 → Int32 → gS → Option (Int32 × gS)) (l3 : Int32) (l4 : Int32) (l5 : Int32) (l6 : Int64) (l8 : Int32) (l11 : Int32) (s0 : Int32) (cg : gS) : Option (Int32 × gS) :=
  if s0 = 0 then
    b_L_law_339 N xs L (k49) (s0) (l3) (l5) (cg)
  else
    if l11 < 0 then
      b_L_law_339 N xs L (k49) (s0) (l3) (l5) (cg)
    else
      if ((l4 >>> ((25 : Int32) &&& 31)) &&& (3 : Int32)) = 0 then
        bV (C_undo cg) fun v305 =>
        if l8 = (5 : Int32) then
          b_L_law_320 N xs L (k49) (l3) (l5) (l6) (v305.1) ((4 : Int32)) (v305.2)
        else
          b_L_law_320 N xs L (k49) (l3) (l5) (l6) (v305.1) (l8) (v305.2)
      else
        b_L_law_339 N xs L (k49) (s0) (l3) (l5) (cg)
noncomputable def b_L_law_283 (N : Nat) (xs : Nat → Int32) (L : Nat) (k49 : Int32 → Int32 → gS → Option (Int32 × gS)) (l3 : Int32) (l4 : Int32) (l5 : Int32) (l6 : Int64) (l8 : Int32) (l11 : Int32) (cg : gS) : Option (Int32 × gS) :=
  b_L_law_284 N xs L (k49) (l3) (l4) (l5) (l6) (l8) (l11) ((0 : Int32)) (cg)
noncomputable def b_L_law_279 (N : Nat) (xs : Nat → Int32) (L : Nat) (k49 : Int32 → Int32 → gS → Option (Int32 × gS)) (l3 : Int32) (l4 : Int32) (l5 : Int32) (l6 : Int64) (l8 : Int32) (l11 : Int32) (cg : gS) : Option (Int32 × gS) :=
  b_L_law_284 N xs L (k49) (l3) (l4) (l5) (l6) (l8) (l11) ((1 : Int32)) (cg)
noncomputable def b_L_law_246 (N : Nat) (xs : Nat → Int32) (L : Nat) (k49 : Int32 → Int32 → gS → Option (Int32 × gS)) (l3 : Int32) (l4 : Int32) (l5 : Int32) (l6 : Int64) (l8 : Int32) (l9 : Int32) (l11 : Int32) (cg : gS) : Option (Int32 × gS) :=
  bV (V_count cg (2 : Int32)) fun v250 =>
  if l11 = (v250 - (1 : Int32)) then
    bV (V_count cg (7 : Int32)) fun v261 =>
    if v261 = (1 : Int32) then
      bV (V_count cg (12 : Int32)) fun v271 =>
      if v271 = l9 then
        b_L_law_279 N xs L (k49) (l3) (l4) (l5) (l6) (l8) (l11) (cg)
      else
        b_L_law_283 N xs L (k49) (l3) (l4) (l5) (l6) (l8) (l11) (cg)
    else
      b_L_law_283 N xs L (k49) (l3) (l4) (l5) (l6) (l8) (l11) (cg)
  else
    b_L_law_283 N xs L (k49) (l3) (l4) (l5) (l6) (l8) (l11) (cg)
noncomputable def b_L_law_234 (N : Nat) (xs : Nat → Int32) (L : Nat) (k49 : Int32 → Int32 → gS → Option (Int32 × gS)) (l3 : Int32) (l4 : Int32) (l5 : Int32) (l6 : Int64) (l8 : Int32) (l9 : Int32) (l10 : Int32) (l11 : Int32) (cg : gS) : Option (Int32 × gS) :=
  if l10 = (1 : Int32) then
    b_L_law_246 N xs L (k49) (l3) (l4) (l5) (l6) (l8) (l9) (l11) (cg)
  else
    if l10 = (2 : Int32) then
      b_L_law_246 N xs L (k49) (l3) (l4) (l5) (l6) (l8) (l9) (l11) (cg)
    else
      b_L_law_279 N xs L (k49) (l3) (l4) (l5) (l6) (l8) (l11) (cg)
noncomputable def b_L_law_207 (N : Nat) (xs : Nat → Int32) (L : Nat) (k49 : Int32 → Int32 → gS → Option (Int32 × gS)) (l3 : Int32) (l4 : Int32) (l5 : Int32) (l6 : Int64) (l8 : Int32) (l9 : Int32) (l10 : Int32) (l11 : Int32) (s0 : Int32) (s1 : Int32) (cg : gS) : Option (Int32 × gS) :=
  if s0 = s1 then
    b_L_law_234 N xs L (k49) (l3) (l4) (l5) (l6) (l8) (l9) (l10) (l11) (cg)
  else
    b_L_law_283 N xs L (k49) (l3) (l4) (l5) (l6) (l8) (l11) (cg)
noncomputable def b_L_law_150 (N : Nat) (xs : Nat → Int32) (L : Nat) (k49 : Int32 → Int32 → gS → Option (Int32 × gS)) (l3 : Int32) (l4 : Int32) (l5 : Int32) (l6 : Int64) (l8 : Int32) (l9 : Int32) (s0 : Int32) (cg : gS) : Option (Int32 × gS) :=
  bnd1 (f_L_low (l4 >>> ((4 : Int32) &&& 31)) (99999 : Int32)) fun v161 =>
  bnd2 (f_L_acts N cg (((12 : Int32) * v161) + s0) l5) fun v170 g170 =>
  if v170 < (-4 : Int32) then
    b_L_law_283 N xs L (k49) (l3) (l4) (l5) (l6) (l8) (v170) (g170)
  else
    if v170 < 0 then
      bV (V_count g170 (14 : Int32)) fun v216 =>
      if v216 = l8 then
        bnd2 (f_L_print N g170) fun v225 g225 =>
        if (lg_cmp v225 l6) = 0 then
          b_L_law_234 N xs L (k49) (l3) (l4) (l5) (l6) (l8) (l9) (s0) (v170) (g225)
        else
          b_L_law_283 N xs L (k49) (l3) (l4) (l5) (l6) (l8) (v170) (g225)
      else
        b_L_law_283 N xs L (k49) (l3) (l4) (l5) (l6) (l8) (v170) (g170)
    else
      bV (V_count g170 (14 : Int32)) fun v190 =>
      if l8 = (5 : Int32) then
        b_L_law_207 N xs L (k49) (l3) (l4) (l5) (l6) (l8) (l9) (s0) (v170) (v190) ((5 : Int32)) (g170)
      else
        b_L_law_207 N xs L (k49) (l3) (l4) (l5) (l6) (l8) (l9) (s0) (v170) (v190) ((l8 + (1 : Int32))) (g170)
noncomputable def b_L_law_128 (N : Nat) (xs : Nat → Int32) (L : Nat) (k49 : Int32 → Int32 → gS → Option (Int32 × gS)) (l3 : Int32) (l4 : Int32) (l5 : Int32) (l6 : Int64) (l8 : Int32) (l9 : Int32) (cg : gS) : Option (Int32 × gS) :=
  b_L_law_150 N xs L (k49) (l3) (l4) (l5) (l6) (l8) (l9) ((1 : Int32)) (cg)
noncomputable def b_L_law_49 (N : Nat) (xs : Nat → Int32) (L : Nat) : Nat → Int32 → Int32 → gS → Option (Int32 × gS)
  | 0, _, _, _ => none
  | n + 1, l2, l3, cg =>
    if (34 : Int32) ≤ l3 then
      b_L_law_444 N xs L (l2) (cg)
    else
      if l2 = 0 then
        b_L_law_444 N xs L (l2) (cg)
      else
        if ((2 : Int32) * l3) < 0 then none else
        bV (t_L_cell xs L ((2 : Int32) * l3)) fun v63 =>
        if (((2 : Int32) * l3) + (1 : Int32)) < 0 then none else
        bV (t_L_cell xs L (((2 : Int32) * l3) + (1 : Int32))) fun v74 =>
        bnd1 (f_L_low v74 (1000000 : Int32)) fun v79 =>
        bnd2 (f_L_print N cg) fun v85 g85 =>
        bV (V_count g85 (14 : Int32)) fun v93 =>
        bV (V_count g85 (12 : Int32)) fun v101 =>
        if l3 = 0 then
          b_L_law_150 N xs L (b_L_law_49 N xs L n) (l3) (v63) (v79) (v85) (v93) (v101) ((0 : Int32)) (g85)
        else
          if l3 = (1 : Int32) then
            b_L_law_128 N xs L (b_L_law_49 N xs L n) (l3) (v63) (v79) (v85) (v93) (v101) (g85)
          else
            if (l3 - l3 / (9 : Int32) * (9 : Int32)) = (8 : Int32) then
              b_L_law_128 N xs L (b_L_law_49 N xs L n) (l3) (v63) (v79) (v85) (v93) (v101) (g85)
            else
              if (l3 - l3 / (3 : Int32) * (3 : Int32)) = 0 then
                b_L_law_150 N xs L (b_L_law_49 N xs L n) (l3) (v63) (v79) (v85) (v93) (v101) ((9 : Int32)) (g85)
              else
                bnd1 (f_L_low v63 (12 : Int32)) fun v147 =>
                b_L_law_150 N xs L (b_L_law_49 N xs L n) (l3) (v63) (v79) (v85) (v93) (v101) (v147) (g85)
noncomputable def f_L_law (N : Nat) (xs : Nat → Int32) (L : Nat) (g : gS) : Option (Int32 × gS) :=
  bV (C_undo g) fun v9 =>
  if v9.1 = (-2 : Int32) then
    bnd2 (f_L_refused N (v9.2)) fun v18 g18 =>
    if v18 = 0 then
      b_L_law_49 N xs L N ((0 : Int32)) ((0 : Int32)) (g18)
    else
      bnd2 (f_L_areDoors N g18) fun v25 g25 =>
      if v25 = 0 then
        b_L_law_49 N xs L N ((0 : Int32)) ((0 : Int32)) (g25)
      else
        bnd2 (f_L_areWays N g25 (0 : Int32) (55 : Int32)) fun v35 g35 =>
        if v35 = 0 then
          b_L_law_49 N xs L N ((0 : Int32)) ((0 : Int32)) (g35)
        else
          b_L_law_49 N xs L N ((1 : Int32)) ((0 : Int32)) (g35)
  else
    b_L_law_49 N xs L N ((0 : Int32)) ((0 : Int32)) (v9.2)

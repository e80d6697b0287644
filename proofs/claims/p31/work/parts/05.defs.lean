def f_HS_accept (x1 : Int) (i_latestStatus : Int) (i_hill_changes : Int) : Option (Int × Int × Int) :=
  zn (i_hill_changes + 1) fun v1 =>
  some (x1, 0, v1)
def f_HS_refuse (x1 : Int) (i_latestStatus : Int) (i_refusals : Nat → Int) : Option (Int × Int × (Nat → Int)) :=
  zn (-x1) fun v1 =>
  zg 7 i_refusals v1 fun v2 =>
  zn (v2 + 1) fun v3 =>
  zs 7 i_refusals v1 v3 fun a4 =>
  some (x1, x1, a4)
def f_Columns_grow (i_many : Int) (i_heights : Nat → Int) : Option (Int × Int × (Nat → Int)) :=
  if zi_w i_many < zi_w 12 then
    zs 12 i_heights i_many 0 fun a1 =>
    zn (i_many + 1) fun v2 =>
    some (1, v2, a1)
  else
    some (0, i_many, i_heights)
def f_HS_column (i_latestStatus : Int) (i_hill_changes : Int) (i_refusals : Nat → Int) (i_hill_columns_many : Int) (i_hill_goals : Nat → Int) (i_hill_columns_heights : Nat → Int) : Option (Int × Int × Int × (Nat → Int) × Int × (Nat → Int) × (Nat → Int)) :=
  zd3 (f_Columns_grow i_hill_columns_many i_hill_columns_heights) fun v1 v2 a3 =>
  if zi_w v1 ≠ 0 then
    zn (v2 - 1) fun v4 =>
    zs 12 i_hill_goals v4 (-1) fun a5 =>
    zd3 (f_HS_accept v4 i_latestStatus i_hill_changes) fun v6 v7 v8 =>
    some (v6, v7, v8, i_refusals, v2, a5, a3)
  else
    zd3 (f_HS_refuse (-5) i_latestStatus i_refusals) fun v9 v10 a11 =>
    some (v9, v10, i_hill_changes, a11, v2, i_hill_goals, a3)
def f_Columns_has (x1 : Int) (i_many : Int) : Option (Int) :=
  if zi_w x1 < 0 then
    some 0
  else
    if zi_w i_many ≤ zi_w x1 then
      some 0
    else
      some 1
def f_Columns_put (x1 : Int) (x2 : Int) (i_many : Int) (i_heights : Nat → Int) (i_weights : Nat → Int) : Option (Int × (Nat → Int) × (Nat → Int)) :=
  zd1 (f_Columns_has x1 i_many) fun v1 =>
  if zi_w v1 = 0 then
    some (0, i_heights, i_weights)
  else
    zg 12 i_heights x1 fun v2 =>
    if zi_w v2 < zi_w 10 then
      zn (x1 * 10) fun v3 =>
      zg 12 i_heights x1 fun v4 =>
      zn (v3 + v4) fun v5 =>
      zs 120 i_weights v5 x2 fun a6 =>
      zg 12 i_heights x1 fun v7 =>
      zn (v7 + 1) fun v8 =>
      zs 12 i_heights x1 v8 fun a9 =>
      some (1, a9, a6)
    else
      some (0, i_heights, i_weights)
def f_Columns_high (x1 : Int) (i_many : Int) (i_heights : Nat → Int) : Option (Int) :=
  zd1 (f_Columns_has x1 i_many) fun v1 =>
  if zi_w v1 = 0 then
    some 0
  else
    zg 12 i_heights x1 fun v2 =>
    some v2
def f_HS_stone_11 (i_hill_columns_many : Int) (i_latestStatus : Int) (i_hill_changes : Int) (i_refusals : Nat → Int) (i_hill_columns_heights : Nat → Int) (i_hill_columns_weights : Nat → Int) : Option (Int × Int × Int × (Nat → Int) × (Nat → Int) × (Nat → Int)) :=
  zd3 (f_HS_refuse (-1) i_latestStatus i_refusals) fun v1 v2 a3 =>
  some (v1, v2, i_hill_changes, a3, i_hill_columns_heights, i_hill_columns_weights)
def f_HS_stone (x1 : Int) (x2 : Int) (i_hill_columns_many : Int) (i_latestStatus : Int) (i_hill_changes : Int) (i_refusals : Nat → Int) (i_hill_columns_heights : Nat → Int) (i_hill_columns_weights : Nat → Int) : Option (Int × Int × Int × (Nat → Int) × (Nat → Int) × (Nat → Int)) :=
  if zi_w x2 < zi_w 1 then
    f_HS_stone_11 i_hill_columns_many i_latestStatus i_hill_changes i_refusals i_hill_columns_heights i_hill_columns_weights
  else
    if zi_w x2 ≤ zi_w 30 then
      zd1 (f_Columns_has x1 i_hill_columns_many) fun v1 =>
      if zi_w v1 ≠ 0 then
        zd3 (f_Columns_put x1 x2 i_hill_columns_many i_hill_columns_heights i_hill_columns_weights) fun v2 a3 a4 =>
        if zi_w v2 ≠ 0 then
          zd1 (f_Columns_high x1 i_hill_columns_many a3) fun v5 =>
          zd3 (f_HS_accept v5 i_latestStatus i_hill_changes) fun v6 v7 v8 =>
          some (v6, v7, v8, i_refusals, a3, a4)
        else
          zd3 (f_HS_refuse (-5) i_latestStatus i_refusals) fun v9 v10 a11 =>
          some (v9, v10, i_hill_changes, a11, a3, a4)
      else
        zd3 (f_HS_refuse (-2) i_latestStatus i_refusals) fun v12 v13 a14 =>
        some (v12, v13, i_hill_changes, a14, i_hill_columns_heights, i_hill_columns_weights)
    else
      f_HS_stone_11 i_hill_columns_many i_latestStatus i_hill_changes i_refusals i_hill_columns_heights i_hill_columns_weights
def f_Columns_top (x1 : Int) (i_many : Int) (i_heights : Nat → Int) (i_weights : Nat → Int) : Option (Int) :=
  zd1 (f_Columns_high x1 i_many i_heights) fun v1 =>
  if zi_w v1 ≤ 0 then
    some 0
  else
    zn (x1 * 10) fun v2 =>
    zn (v2 + v1) fun v3 =>
    zn (v3 - 1) fun v4 =>
    zg 120 i_weights v4 fun v5 =>
    some v5
def f_Columns_take (x1 : Int) (i_many : Int) (i_weights : Nat → Int) (i_heights : Nat → Int) : Option (Int × (Nat → Int)) :=
  zd1 (f_Columns_top x1 i_many i_heights i_weights) fun v1 =>
  zd1 (f_Columns_high x1 i_many i_heights) fun v2 =>
  if zi_w v2 ≤ 0 then
    some (v1, i_heights)
  else
    zg 12 i_heights x1 fun v3 =>
    zn (v3 - 1) fun v4 =>
    zs 12 i_heights x1 v4 fun a5 =>
    some (v1, a5)
def f_HS_lift (x1 : Int) (i_hill_columns_many : Int) (i_hill_columns_weights : Nat → Int) (i_latestStatus : Int) (i_hill_changes : Int) (i_refusals : Nat → Int) (i_hill_columns_heights : Nat → Int) : Option (Int × Int × Int × (Nat → Int) × (Nat → Int)) :=
  zd1 (f_Columns_has x1 i_hill_columns_many) fun v1 =>
  if zi_w v1 ≠ 0 then
    zd1 (f_Columns_high x1 i_hill_columns_many i_hill_columns_heights) fun v2 =>
    if zi_w v2 ≠ 0 then
      zd2 (f_Columns_take x1 i_hill_columns_many i_hill_columns_weights i_hill_columns_heights) fun v3 a4 =>
      zd3 (f_HS_accept v3 i_latestStatus i_hill_changes) fun v5 v6 v7 =>
      some (v5, v6, v7, i_refusals, a4)
    else
      zd3 (f_HS_refuse (-3) i_latestStatus i_refusals) fun v8 v9 a10 =>
      some (v8, v9, i_hill_changes, a10, i_hill_columns_heights)
  else
    zd3 (f_HS_refuse (-2) i_latestStatus i_refusals) fun v11 v12 a13 =>
    some (v11, v12, i_hill_changes, a13, i_hill_columns_heights)
def f_Columns_heft (x1 : Int) (x2 : Int) (i_many : Int) (i_heights : Nat → Int) (i_weights : Nat → Int) : Option (Int) :=
  if zi_w x2 < 0 then
    some 0
  else
    zd1 (f_Columns_high x1 i_many i_heights) fun v1 =>
    if zi_w v1 ≤ zi_w x2 then
      some 0
    else
      zn (x1 * 10) fun v2 =>
      zn (v2 + x2) fun v3 =>
      zg 120 i_weights v3 fun v4 =>
      some v4
def f_HS_of (x1 : Int) (x2 : Int) (i_hill_columns_many : Int) (i_hill_columns_heights : Nat → Int) (i_hill_columns_weights : Nat → Int) : Option (Int) :=
  zd1 (f_Columns_has x1 i_hill_columns_many) fun v1 =>
  if zi_w v1 ≠ 0 then
    if zi_w x2 ≠ zi_w (-1) then
      if zi_w x2 < 0 then
        some (-1)
      else
        zd1 (f_Columns_high x1 i_hill_columns_many i_hill_columns_heights) fun v2 =>
        if zi_w x2 < zi_w v2 then
          zd1 (f_Columns_heft x1 x2 i_hill_columns_many i_hill_columns_heights i_hill_columns_weights) fun v3 =>
          some v3
        else
          some (-1)
    else
      zd1 (f_Columns_high x1 i_hill_columns_many i_hill_columns_heights) fun v4 =>
      some v4
  else
    some (-1)
def f_Columns_load_4_b (i_many : Int) (i_heights : Nat → Int) (i_weights : Nat → Int) (k4 : Int → Int → Int → Option (Int)) (x1 : Int) (x2 : Int) (x3 : Int) : Option (Int) :=
  zd1 (f_Columns_high x1 i_many i_heights) fun v1 =>
  if zi_w v1 ≤ zi_w x3 then
    some x2
  else
    zd1 (f_Columns_heft x1 x3 i_many i_heights i_weights) fun v2 =>
    zn (x2 + v2) fun v3 =>
    zn (x3 + 1) fun v4 =>
    k4 x1 v3 v4
def f_Columns_load_4 (i_many : Int) (i_heights : Nat → Int) (i_weights : Nat → Int) : Nat → Int → Int → Int → Option (Int)
  | 0 => fun _ _ _ => none
  | n + 1 => fun y0 y1 y2 => f_Columns_load_4_b i_many i_heights i_weights (f_Columns_load_4 i_many i_heights i_weights n) y0 y1 y2
def f_Columns_load (x1 : Int) (i_many : Int) (i_heights : Nat → Int) (i_weights : Nat → Int) : Option (Int) :=
  f_Columns_load_4 i_many i_heights i_weights zfu x1 0 0
def f_HS_weight (x1 : Int) (i_hill_columns_many : Int) (i_hill_columns_heights : Nat → Int) (i_hill_columns_weights : Nat → Int) : Option (Int) :=
  zd1 (f_Columns_has x1 i_hill_columns_many) fun v1 =>
  if zi_w v1 = 0 then
    some (-1)
  else
    zd1 (f_Columns_load x1 i_hill_columns_many i_hill_columns_heights i_hill_columns_weights) fun v2 =>
    some v2
def f_Hill_enroll (x1 : Int) (i_children : Int) (i_strengths : Nat → Int) (i_expelled : Nat → Int) (i_trips : Nat → Int) : Option (Int × Int × (Nat → Int) × (Nat → Int) × (Nat → Int)) :=
  if zi_w i_children < zi_w 6 then
    zs 6 i_strengths i_children x1 fun a1 =>
    zs 6 i_expelled i_children 0 fun a2 =>
    zs 6 i_trips i_children 0 fun a3 =>
    zn (i_children + 1) fun v4 =>
    some (i_children, v4, a1, a2, a3)
  else
    some ((-1), i_children, i_strengths, i_expelled, i_trips)
def f_HS_child_11  (i_latestStatus : Int) (i_hill_children : Int) (i_hill_changes : Int) (i_refusals : Nat → Int) (i_hill_strengths : Nat → Int) (i_hill_expelled : Nat → Int) (i_hill_trips : Nat → Int) : Option (Int × Int × Int × Int × (Nat → Int) × (Nat → Int) × (Nat → Int) × (Nat → Int)) :=
  zd3 (f_HS_refuse (-1) i_latestStatus i_refusals) fun v1 v2 a3 =>
  some (v1, v2, i_hill_children, i_hill_changes, a3, i_hill_strengths, i_hill_expelled, i_hill_trips)
def f_HS_child (x1 : Int) (i_latestStatus : Int) (i_hill_children : Int) (i_hill_changes : Int) (i_refusals : Nat → Int) (i_hill_strengths : Nat → Int) (i_hill_expelled : Nat → Int) (i_hill_trips : Nat → Int) : Option (Int × Int × Int × Int × (Nat → Int) × (Nat → Int) × (Nat → Int) × (Nat → Int)) :=
  if zi_w x1 < zi_w 1 then
    f_HS_child_11 i_latestStatus i_hill_children i_hill_changes i_refusals i_hill_strengths i_hill_expelled i_hill_trips
  else
    if zi_w x1 ≤ zi_w 60 then
      if zi_w i_hill_children < zi_w 6 then
        zd5 (f_Hill_enroll x1 i_hill_children i_hill_strengths i_hill_expelled i_hill_trips) fun v1 v2 a3 a4 a5 =>
        zd3 (f_HS_accept v1 i_latestStatus i_hill_changes) fun v6 v7 v8 =>
        some (v6, v7, v2, v8, i_refusals, a3, a4, a5)
      else
        zd3 (f_HS_refuse (-5) i_latestStatus i_refusals) fun v9 v10 a11 =>
        some (v9, v10, i_hill_children, i_hill_changes, a11, i_hill_strengths, i_hill_expelled, i_hill_trips)
    else
      f_HS_child_11 i_latestStatus i_hill_children i_hill_changes i_refusals i_hill_strengths i_hill_expelled i_hill_trips
def f_Hill_hasChild (x1 : Int) (i_children : Int) : Option (Int) :=
  if zi_w x1 < 0 then
    some 0
  else
    if zi_w i_children ≤ zi_w x1 then
      some 0
    else
      some 1
def f_HS_expel_9 (i_hill_children : Int) (i_latestStatus : Int) (i_hill_changes : Int) (i_refusals : Nat → Int) (i_hill_expelled : Nat → Int) : Option (Int × Int × Int × (Nat → Int) × (Nat → Int)) :=
  zd3 (f_HS_refuse (-1) i_latestStatus i_refusals) fun v1 v2 a3 =>
  some (v1, v2, i_hill_changes, a3, i_hill_expelled)
def f_HS_expel (x1 : Int) (x2 : Int) (i_hill_children : Int) (i_latestStatus : Int) (i_hill_changes : Int) (i_refusals : Nat → Int) (i_hill_expelled : Nat → Int) : Option (Int × Int × Int × (Nat → Int) × (Nat → Int)) :=
  if zi_w x2 < 0 then
    f_HS_expel_9 i_hill_children i_latestStatus i_hill_changes i_refusals i_hill_expelled
  else
    if zi_w x2 ≤ zi_w 1 then
      zd1 (f_Hill_hasChild x1 i_hill_children) fun v1 =>
      if zi_w v1 ≠ 0 then
        zg 6 i_hill_expelled x1 fun v2 =>
        zs 6 i_hill_expelled x1 x2 fun a3 =>
        zd3 (f_HS_accept v2 i_latestStatus i_hill_changes) fun v4 v5 v6 =>
        some (v4, v5, v6, i_refusals, a3)
      else
        zd3 (f_HS_refuse (-2) i_latestStatus i_refusals) fun v7 v8 a9 =>
        some (v7, v8, i_hill_changes, a9, i_hill_expelled)
    else
      f_HS_expel_9 i_hill_children i_latestStatus i_hill_changes i_refusals i_hill_expelled
def f_HS_fact (x1 : Int) (x2 : Int) (i_hill_children : Int) (i_hill_strengths : Nat → Int) (i_hill_expelled : Nat → Int) (i_hill_trips : Nat → Int) : Option (Int) :=
  zd1 (f_Hill_hasChild x1 i_hill_children) fun v1 =>
  if zi_w v1 ≠ 0 then
    if zi_w x2 = 0 then
      zg 6 i_hill_strengths x1 fun v2 =>
      some v2
    else if zi_w x2 = 1 then
      zg 6 i_hill_expelled x1 fun v3 =>
      some v3
    else if zi_w x2 = 2 then
      zg 6 i_hill_trips x1 fun v4 =>
      some v4
    else
      some (-1)
  else
    some (-1)
def f_HS_parish (x1 : Int) (i_hill_columns_many : Int) (i_latestStatus : Int) (i_hill_parishes : Int) (i_hill_changes : Int) (i_refusals : Nat → Int) (i_hill_places : Nat → Int) : Option (Int × Int × Int × Int × (Nat → Int) × (Nat → Int)) :=
  zd1 (f_Columns_has x1 i_hill_columns_many) fun v1 =>
  if zi_w v1 ≠ 0 then
    if zi_w i_hill_parishes < zi_w 6 then
      zs 6 i_hill_places i_hill_parishes x1 fun a2 =>
      zn (i_hill_parishes + 1) fun v3 =>
      zd3 (f_HS_accept i_hill_parishes i_latestStatus i_hill_changes) fun v4 v5 v6 =>
      some (v4, v5, v3, v6, i_refusals, a2)
    else
      zd3 (f_HS_refuse (-5) i_latestStatus i_refusals) fun v7 v8 a9 =>
      some (v7, v8, i_hill_parishes, i_hill_changes, a9, i_hill_places)
  else
    zd3 (f_HS_refuse (-2) i_latestStatus i_refusals) fun v10 v11 a12 =>
    some (v10, v11, i_hill_parishes, i_hill_changes, a12, i_hill_places)
def f_HS_terms_30  (i_latestStatus : Int) (i_hill_changes : Int) (i_refusals : Nat → Int) (i_hill_terms : Nat → Int) : Option (Int × Int × Int × (Nat → Int) × (Nat → Int)) :=
  zd3 (f_HS_refuse (-1) i_latestStatus i_refusals) fun v1 v2 a3 =>
  some (v1, v2, i_hill_changes, a3, i_hill_terms)
def f_HS_terms (x1 : Int) (x2 : Int) (i_latestStatus : Int) (i_hill_changes : Int) (i_refusals : Nat → Int) (i_hill_terms : Nat → Int) : Option (Int × Int × Int × (Nat → Int) × (Nat → Int)) :=
  if zi_w x1 < 0 then
    f_HS_terms_30 i_latestStatus i_hill_changes i_refusals i_hill_terms
  else
    if zi_w 4 ≤ zi_w x1 then
      f_HS_terms_30 i_latestStatus i_hill_changes i_refusals i_hill_terms
    else
      zg 4 (zk 0) x1 fun v1 =>
      if zi_w x2 < zi_w v1 then
        f_HS_terms_30 i_latestStatus i_hill_changes i_refusals i_hill_terms
      else
        zg 4 (zk 1) x1 fun v2 =>
        if zi_w x2 ≤ zi_w v2 then
          zg 4 i_hill_terms x1 fun v3 =>
          zs 4 i_hill_terms x1 x2 fun a4 =>
          zd3 (f_HS_accept v3 i_latestStatus i_hill_changes) fun v5 v6 v7 =>
          some (v5, v6, v7, i_refusals, a4)
        else
          f_HS_terms_30 i_latestStatus i_hill_changes i_refusals i_hill_terms
def f_HS_feedFour_3_b  (k3 : Int → Int → Int → (Nat → Int) → Option (Int × (Nat → Int))) (x1 : Int) (x2 : Int) (i_taped : Int) (i_tape : Nat → Int) : Option (Int × (Nat → Int)) :=
  if zi_w x2 < 0 then
    some (i_taped, i_tape)
  else
    if zi_w 400 ≤ zi_w i_taped then
      some (i_taped, i_tape)
    else
      zn (zi_ushr x1 x2) fun v1 =>
      zn (zi_and v1 255) fun v2 =>
      zs 400 i_tape i_taped v2 fun a3 =>
      zn (i_taped + 1) fun v4 =>
      zn (x2 + (-8)) fun v5 =>
      k3 x1 v5 v4 a3
def f_HS_feedFour_3  : Nat → Int → Int → Int → (Nat → Int) → Option (Int × (Nat → Int))
  | 0 => fun _ _ _ _ => none
  | n + 1 => fun y0 y1 y2 y3 => f_HS_feedFour_3_b  (f_HS_feedFour_3  n) y0 y1 y2 y3
def f_HS_feedFour (x1 : Int) (i_taped : Int) (i_tape : Nat → Int) : Option (Int × (Nat → Int)) :=
  f_HS_feedFour_3 zfu x1 24 i_taped i_tape
def f_HS_feed (x1 : Int) (x2 : Int) (x3 : Int) (x4 : Int) (x5 : Int) (i_taped : Int) (i_tape : Nat → Int) : Option (Int × Int × (Nat → Int)) :=
  zn (i_taped + 20) fun v1 =>
  if zi_w v1 ≤ zi_w 400 then
    zd2 (f_HS_feedFour x1 i_taped i_tape) fun v2 a3 =>
    zd2 (f_HS_feedFour x2 v2 a3) fun v4 a5 =>
    zd2 (f_HS_feedFour x3 v4 a5) fun v6 a7 =>
    zd2 (f_HS_feedFour x4 v6 a7) fun v8 a9 =>
    zd2 (f_HS_feedFour x5 v8 a9) fun v10 a11 =>
    some (v10, v10, a11)
  else
    some ((-1), i_taped, i_tape)
def f_HS_end (x1 : Int) (i_taped : Int) : Option (Int × Int) :=
  if zi_w x1 < 0 then
    some ((-1), i_taped)
  else
    if zi_w x1 ≤ zi_w i_taped then
      some (x1, x1)
    else
      some ((-1), i_taped)
def f_HS_row_33 (i_tape : Nat → Int) (i_hill_columns_many : Int) (i_taped : Int) (i_latestGravel : Int) (i_latestStatus : Int) (i_hill_changes : Int) (i_refusals : Nat → Int) (i_hill_columns_heights : Nat → Int) (i_hill_columns_weights : Nat → Int) : Option (Int × Int × Int × Int × Int × (Nat → Int) × (Nat → Int) × (Nat → Int)) :=
  zd3 (f_HS_refuse (-6) i_latestStatus i_refusals) fun v1 v2 a3 =>
  some (v1, i_taped, i_latestGravel, v2, i_hill_changes, a3, i_hill_columns_heights, i_hill_columns_weights)
def f_HS_row_94 (i_tape : Nat → Int) (i_hill_columns_many : Int) (k44 : Int → Int → Int → Int → Int → Int → Int → (Nat → Int) → (Nat → Int) → (Nat → Int) → Option (Int × Int × Int × Int × Int × (Nat → Int) × (Nat → Int) × (Nat → Int))) (x1 : Int) (x2 : Int) (x3 : Int) (i_taped : Int) (i_latestGravel : Int) (i_latestStatus : Int) (i_hill_changes : Int) (i_refusals : Nat → Int) (i_hill_columns_heights : Nat → Int) (i_hill_columns_weights : Nat → Int) : Option (Int × Int × Int × Int × Int × (Nat → Int) × (Nat → Int) × (Nat → Int)) :=
  zn (x3 + 1) fun v1 =>
  k44 x1 x2 v1 i_taped i_latestGravel i_latestStatus i_hill_changes i_refusals i_hill_columns_heights i_hill_columns_weights
def f_HS_row_44_b (i_tape : Nat → Int) (i_hill_columns_many : Int) (k44 : Int → Int → Int → Int → Int → Int → Int → (Nat → Int) → (Nat → Int) → (Nat → Int) → Option (Int × Int × Int × Int × Int × (Nat → Int) × (Nat → Int) × (Nat → Int))) (x1 : Int) (x2 : Int) (x3 : Int) (i_taped : Int) (i_latestGravel : Int) (i_latestStatus : Int) (i_hill_changes : Int) (i_refusals : Nat → Int) (i_hill_columns_heights : Nat → Int) (i_hill_columns_weights : Nat → Int) : Option (Int × Int × Int × Int × Int × (Nat → Int) × (Nat → Int) × (Nat → Int)) :=
  if zi_w x1 ≤ zi_w x3 then
    zn (x1 - 1) fun v1 =>
    zn (v1 - x2) fun v2 =>
    zd3 (f_HS_accept x2 i_latestStatus i_hill_changes) fun v3 v4 v5 =>
    some (v3, i_taped, v2, v4, v5, i_refusals, i_hill_columns_heights, i_hill_columns_weights)
  else
    zg 400 i_tape x3 fun v6 =>
    if zi_w v6 < zi_w 1 then
      f_HS_row_94 i_tape i_hill_columns_many k44 x1 x2 x3 i_taped i_latestGravel i_latestStatus i_hill_changes i_refusals i_hill_columns_heights i_hill_columns_weights
    else
      if zi_w 30 < zi_w v6 then
        f_HS_row_94 i_tape i_hill_columns_many k44 x1 x2 x3 i_taped i_latestGravel i_latestStatus i_hill_changes i_refusals i_hill_columns_heights i_hill_columns_weights
      else
        zg 400 i_tape 0 fun v7 =>
        zd3 (f_Columns_put v7 v6 i_hill_columns_many i_hill_columns_heights i_hill_columns_weights) fun v8 a9 a10 =>
        if zi_w v8 = 0 then
          f_HS_row_94 i_tape i_hill_columns_many k44 x1 x2 x3 i_taped i_latestGravel i_latestStatus i_hill_changes i_refusals a9 a10
        else
          zn (x2 + 1) fun v11 =>
          f_HS_row_94 i_tape i_hill_columns_many k44 x1 v11 x3 i_taped i_latestGravel i_latestStatus i_hill_changes i_refusals a9 a10
def f_HS_row_44 (i_tape : Nat → Int) (i_hill_columns_many : Int) : Nat → Int → Int → Int → Int → Int → Int → Int → (Nat → Int) → (Nat → Int) → (Nat → Int) → Option (Int × Int × Int × Int × Int × (Nat → Int) × (Nat → Int) × (Nat → Int))
  | 0 => fun _ _ _ _ _ _ _ _ _ _ => none
  | n + 1 => fun y0 y1 y2 y3 y4 y5 y6 y7 y8 y9 => f_HS_row_44_b i_tape i_hill_columns_many (f_HS_row_44 i_tape i_hill_columns_many n) y0 y1 y2 y3 y4 y5 y6 y7 y8 y9
def f_HS_row (i_tape : Nat → Int) (i_hill_columns_many : Int) (i_taped : Int) (i_latestGravel : Int) (i_latestStatus : Int) (i_hill_changes : Int) (i_refusals : Nat → Int) (i_hill_columns_heights : Nat → Int) (i_hill_columns_weights : Nat → Int) : Option (Int × Int × Int × Int × Int × (Nat → Int) × (Nat → Int) × (Nat → Int)) :=
  if zi_w i_taped = 0 then
    f_HS_row_33 i_tape i_hill_columns_many 0 i_latestGravel i_latestStatus i_hill_changes i_refusals i_hill_columns_heights i_hill_columns_weights
  else
    zg 400 i_tape 0 fun v1 =>
    zd1 (f_Columns_has v1 i_hill_columns_many) fun v2 =>
    if zi_w v2 ≠ 0 then
      f_HS_row_44 i_tape i_hill_columns_many zfu i_taped 0 1 0 i_latestGravel i_latestStatus i_hill_changes i_refusals i_hill_columns_heights i_hill_columns_weights
    else
      f_HS_row_33 i_tape i_hill_columns_many 0 i_latestGravel i_latestStatus i_hill_changes i_refusals i_hill_columns_heights i_hill_columns_weights
def f_HS_gravel (i_latestGravel : Int) : Option (Int) :=
  some i_latestGravel
def f_Hill_enact (i_a1_ordered : Int) (i_a1_orders : Nat → Int) (i_laws : Int) (i_orders : Nat → Int) (i_ordered : Nat → Int) : Option (Int × Int × (Nat → Int) × (Nat → Int)) :=
  if zi_w i_laws < zi_w 6 then
    zn (i_laws * 424) fun v1 =>
    zcp 424 i_a1_orders 0 2544 i_orders v1 i_a1_ordered fun a2 =>
    zs 6 i_ordered i_laws i_a1_ordered fun a3 =>
    zn (i_laws + 1) fun v4 =>
    some (i_laws, v4, a2, a3)
  else
    some ((-1), i_laws, i_orders, i_ordered)
def f_LawReader_order (x1 : Int) (x2 : Int) (i_ordered : Int) (i_orders : Nat → Int) : Option (Int × Int × (Nat → Int)) :=
  if zi_w i_ordered < zi_w 424 then
    zn (zi_shl x2 4) fun v1 =>
    zn (zi_or v1 x1) fun v2 =>
    zs 424 i_orders i_ordered v2 fun a3 =>
    zn (i_ordered + 1) fun v4 =>
    zn (v4 - 1) fun v5 =>
    some (v5, v4, a3)
  else
    some ((-1), i_ordered, i_orders)
def f_LawReader_pass (x1 : Int) (i_tokens : Nat → Int) (i_at : Int) : Option (Int × Int) :=
  zg 401 i_tokens i_at fun v1 =>
  if zi_w v1 ≠ zi_w x1 then
    some (0, i_at)
  else
    if zi_w i_at < zi_w 400 then
      zn (i_at + 1) fun v2 =>
      some (1, v2)
    else
      some (0, i_at)
def f_LawReader_comparisonOf (x0 : Int) : Option (Int) :=
  if zi_w x0 = 60 then
    some 7
  else if zi_w x0 = 61 then
    some 9
  else if zi_w x0 = 62 then
    some 8
  else
    some (-1)
def f_LawReader_readSum_119 (r_LawReader_readSum : Int → (Nat → Int) → (Nat → Int) → Int → Int → Int → (Nat → Int) → Option (Int × Int × Int × Int × (Nat → Int))) (r_LawReader_readPart : Int → (Nat → Int) → (Nat → Int) → Int → Int → Int → (Nat → Int) → Option (Int × Int × Int × Int × (Nat → Int))) (i_tokens : Nat → Int) (i_values : Nat → Int) (k7 : Int → Int → Int → Int → Int → Int → Int → (Nat → Int) → Option (Int × Int × Int × Int × (Nat → Int))) (x1 : Int) (x2 : Int) (x3 : Int) (x4 : Int) (i_ordered : Int) (i_at : Int) (i_parts : Int) (i_orders : Nat → Int) : Option (Int × Int × Int × Int × (Nat → Int)) :=
  zn (x4 + 1) fun v1 =>
  k7 x1 x2 x3 v1 i_ordered i_at i_parts i_orders
def f_LawReader_readSum_111 (r_LawReader_readSum : Int → (Nat → Int) → (Nat → Int) → Int → Int → Int → (Nat → Int) → Option (Int × Int × Int × Int × (Nat → Int))) (r_LawReader_readPart : Int → (Nat → Int) → (Nat → Int) → Int → Int → Int → (Nat → Int) → Option (Int × Int × Int × Int × (Nat → Int))) (i_tokens : Nat → Int) (i_values : Nat → Int) (k7 : Int → Int → Int → Int → Int → Int → Int → (Nat → Int) → Option (Int × Int × Int × Int × (Nat → Int))) (x1 : Int) (x2 : Int) (x4 : Int) (s0 : Int) (i_ordered : Int) (i_at : Int) (i_parts : Int) (i_orders : Nat → Int) : Option (Int × Int × Int × Int × (Nat → Int)) :=
  if zi_w s0 ≠ zi_w (-1) then
    f_LawReader_readSum_119 r_LawReader_readSum r_LawReader_readPart i_tokens i_values k7 x1 x2 s0 x4 i_ordered i_at i_parts i_orders
  else
    some (1, i_ordered, i_at, i_parts, i_orders)
def f_LawReader_readSum_84 (r_LawReader_readSum : Int → (Nat → Int) → (Nat → Int) → Int → Int → Int → (Nat → Int) → Option (Int × Int × Int × Int × (Nat → Int))) (r_LawReader_readPart : Int → (Nat → Int) → (Nat → Int) → Int → Int → Int → (Nat → Int) → Option (Int × Int × Int × Int × (Nat → Int))) (i_tokens : Nat → Int) (i_values : Nat → Int) (k7 : Int → Int → Int → Int → Int → Int → Int → (Nat → Int) → Option (Int × Int × Int × Int × (Nat → Int))) (x1 : Int) (x2 : Int) (x4 : Int) (i_ordered : Int) (i_at : Int) (i_parts : Int) (i_orders : Nat → Int) : Option (Int × Int × Int × Int × (Nat → Int)) :=
  zd2 (f_LawReader_pass 43 i_tokens i_at) fun v1 v2 =>
  if zi_w v1 = 0 then
    zd2 (f_LawReader_pass 45 i_tokens v2) fun v3 v4 =>
    if zi_w v3 = 0 then
      f_LawReader_readSum_111 r_LawReader_readSum r_LawReader_readPart i_tokens i_values k7 x1 x2 x4 (-1) i_ordered v4 i_parts i_orders
    else
      f_LawReader_readSum_111 r_LawReader_readSum r_LawReader_readPart i_tokens i_values k7 x1 x2 x4 4 i_ordered v4 i_parts i_orders
  else
    f_LawReader_readSum_111 r_LawReader_readSum r_LawReader_readPart i_tokens i_values k7 x1 x2 x4 3 i_ordered v2 i_parts i_orders
def f_LawReader_readSum_63 (r_LawReader_readSum : Int → (Nat → Int) → (Nat → Int) → Int → Int → Int → (Nat → Int) → Option (Int × Int × Int × Int × (Nat → Int))) (r_LawReader_readPart : Int → (Nat → Int) → (Nat → Int) → Int → Int → Int → (Nat → Int) → Option (Int × Int × Int × Int × (Nat → Int))) (i_tokens : Nat → Int) (i_values : Nat → Int) (k7 : Int → Int → Int → Int → Int → Int → Int → (Nat → Int) → Option (Int × Int × Int × Int × (Nat → Int))) (x1 : Int) (x3 : Int) (x4 : Int) (s0 : Int) (i_ordered : Int) (i_at : Int) (i_parts : Int) (i_orders : Nat → Int) : Option (Int × Int × Int × Int × (Nat → Int)) :=
  if zi_w s0 = zi_w (-1) then
    if zi_w x3 = zi_w (-1) then
      f_LawReader_readSum_84 r_LawReader_readSum r_LawReader_readPart i_tokens i_values k7 x1 s0 x4 i_ordered i_at i_parts i_orders
    else
      zd3 (f_LawReader_order x3 0 i_ordered i_orders) fun v1 v2 a3 =>
      f_LawReader_readSum_84 r_LawReader_readSum r_LawReader_readPart i_tokens i_values k7 x1 s0 x4 v2 i_at i_parts a3
  else
    f_LawReader_readSum_119 r_LawReader_readSum r_LawReader_readPart i_tokens i_values k7 x1 s0 x3 x4 i_ordered i_at i_parts i_orders
def f_LawReader_readSum_35 (r_LawReader_readSum : Int → (Nat → Int) → (Nat → Int) → Int → Int → Int → (Nat → Int) → Option (Int × Int × Int × Int × (Nat → Int))) (r_LawReader_readPart : Int → (Nat → Int) → (Nat → Int) → Int → Int → Int → (Nat → Int) → Option (Int × Int × Int × Int × (Nat → Int))) (i_tokens : Nat → Int) (i_values : Nat → Int) (k7 : Int → Int → Int → Int → Int → Int → Int → (Nat → Int) → Option (Int × Int × Int × Int × (Nat → Int))) (x1 : Int) (x3 : Int) (x4 : Int) (i_ordered : Int) (i_at : Int) (i_parts : Int) (i_orders : Nat → Int) : Option (Int × Int × Int × Int × (Nat → Int)) :=
  zd2 (f_LawReader_pass 42 i_tokens i_at) fun v1 v2 =>
  if zi_w v1 = 0 then
    zd2 (f_LawReader_pass 47 i_tokens v2) fun v3 v4 =>
    if zi_w v3 = 0 then
      f_LawReader_readSum_63 r_LawReader_readSum r_LawReader_readPart i_tokens i_values k7 x1 x3 x4 (-1) i_ordered v4 i_parts i_orders
    else
      f_LawReader_readSum_63 r_LawReader_readSum r_LawReader_readPart i_tokens i_values k7 x1 x3 x4 6 i_ordered v4 i_parts i_orders
  else
    f_LawReader_readSum_63 r_LawReader_readSum r_LawReader_readPart i_tokens i_values k7 x1 x3 x4 5 i_ordered v2 i_parts i_orders
def f_LawReader_readSum_7_b (r_LawReader_readSum : Int → (Nat → Int) → (Nat → Int) → Int → Int → Int → (Nat → Int) → Option (Int × Int × Int × Int × (Nat → Int))) (r_LawReader_readPart : Int → (Nat → Int) → (Nat → Int) → Int → Int → Int → (Nat → Int) → Option (Int × Int × Int × Int × (Nat → Int))) (i_tokens : Nat → Int) (i_values : Nat → Int) (k7 : Int → Int → Int → Int → Int → Int → Int → (Nat → Int) → Option (Int × Int × Int × Int × (Nat → Int))) (x1 : Int) (x2 : Int) (x3 : Int) (x4 : Int) (i_ordered : Int) (i_at : Int) (i_parts : Int) (i_orders : Nat → Int) : Option (Int × Int × Int × Int × (Nat → Int)) :=
  if zi_w 400 ≤ zi_w x4 then
    some (0, i_ordered, i_at, i_parts, i_orders)
  else
    zd5 (r_LawReader_readPart x1 i_tokens i_values i_ordered i_at i_parts i_orders) fun v1 v2 v3 v4 a5 =>
    if zi_w v1 = 0 then
      some (0, v2, v3, v4, a5)
    else
      if zi_w x2 = zi_w (-1) then
        f_LawReader_readSum_35 r_LawReader_readSum r_LawReader_readPart i_tokens i_values k7 x1 x3 x4 v2 v3 v4 a5
      else
        zd3 (f_LawReader_order x2 0 v2 a5) fun v6 v7 a8 =>
        f_LawReader_readSum_35 r_LawReader_readSum r_LawReader_readPart i_tokens i_values k7 x1 x3 x4 v7 v3 v4 a8
def f_LawReader_readSum_7 (r_LawReader_readSum : Int → (Nat → Int) → (Nat → Int) → Int → Int → Int → (Nat → Int) → Option (Int × Int × Int × Int × (Nat → Int))) (r_LawReader_readPart : Int → (Nat → Int) → (Nat → Int) → Int → Int → Int → (Nat → Int) → Option (Int × Int × Int × Int × (Nat → Int))) (i_tokens : Nat → Int) (i_values : Nat → Int) : Nat → Int → Int → Int → Int → Int → Int → Int → (Nat → Int) → Option (Int × Int × Int × Int × (Nat → Int))
  | 0 => fun _ _ _ _ _ _ _ _ => none
  | n + 1 => fun y0 y1 y2 y3 y4 y5 y6 y7 => f_LawReader_readSum_7_b r_LawReader_readSum r_LawReader_readPart i_tokens i_values (f_LawReader_readSum_7 r_LawReader_readSum r_LawReader_readPart i_tokens i_values n) y0 y1 y2 y3 y4 y5 y6 y7
def fb_LawReader_readSum (r_LawReader_readSum : Int → (Nat → Int) → (Nat → Int) → Int → Int → Int → (Nat → Int) → Option (Int × Int × Int × Int × (Nat → Int))) (r_LawReader_readPart : Int → (Nat → Int) → (Nat → Int) → Int → Int → Int → (Nat → Int) → Option (Int × Int × Int × Int × (Nat → Int))) (x1 : Int) (i_tokens : Nat → Int) (i_values : Nat → Int) (i_ordered : Int) (i_at : Int) (i_parts : Int) (i_orders : Nat → Int) : Option (Int × Int × Int × Int × (Nat → Int)) :=
  f_LawReader_readSum_7 r_LawReader_readSum r_LawReader_readPart i_tokens i_values zfu x1 (-1) (-1) 0 i_ordered i_at i_parts i_orders
def f_LawReader_readPart_125 (r_LawReader_readSum : Int → (Nat → Int) → (Nat → Int) → Int → Int → Int → (Nat → Int) → Option (Int × Int × Int × Int × (Nat → Int))) (r_LawReader_readPart : Int → (Nat → Int) → (Nat → Int) → Int → Int → Int → (Nat → Int) → Option (Int × Int × Int × Int × (Nat → Int))) (i_tokens : Nat → Int) (i_values : Nat → Int) (s1 : Int) (i_ordered : Int) (i_at : Int) (i_parts : Int) (i_orders : Nat → Int) : Option (Int × Int × Int × Int × (Nat → Int)) :=
  zg 401 i_values i_at fun v1 =>
  zd3 (f_LawReader_order s1 v1 i_ordered i_orders) fun v2 v3 a4 =>
  zg 401 i_tokens i_at fun v5 =>
  zd2 (f_LawReader_pass v5 i_tokens i_at) fun v6 v7 =>
  if ¬ (zi_w v6 = 0 ∨ zi_w v6 = 1) then none else
  some (v6, v3, v7, i_parts, a4)
def f_LawReader_readPart_94 (r_LawReader_readSum : Int → (Nat → Int) → (Nat → Int) → Int → Int → Int → (Nat → Int) → Option (Int × Int × Int × Int × (Nat → Int))) (r_LawReader_readPart : Int → (Nat → Int) → (Nat → Int) → Int → Int → Int → (Nat → Int) → Option (Int × Int × Int × Int × (Nat → Int))) (i_tokens : Nat → Int) (i_values : Nat → Int) (x2 : Int) (i_ordered : Int) (i_at : Int) (i_parts : Int) (i_orders : Nat → Int) : Option (Int × Int × Int × Int × (Nat → Int)) :=
  if zi_w i_parts < zi_w 50 then
    zn (i_parts + 1) fun v1 =>
    if zi_w x2 = 0 then
      f_LawReader_readPart_125 r_LawReader_readSum r_LawReader_readPart i_tokens i_values 2 i_ordered i_at v1 i_orders
    else
      f_LawReader_readPart_125 r_LawReader_readSum r_LawReader_readPart i_tokens i_values 1 i_ordered i_at v1 i_orders
  else
    some (0, i_ordered, i_at, i_parts, i_orders)
def f_LawReader_readPart_74 (r_LawReader_readSum : Int → (Nat → Int) → (Nat → Int) → Int → Int → Int → (Nat → Int) → Option (Int × Int × Int × Int × (Nat → Int))) (r_LawReader_readPart : Int → (Nat → Int) → (Nat → Int) → Int → Int → Int → (Nat → Int) → Option (Int × Int × Int × Int × (Nat → Int))) (i_tokens : Nat → Int) (i_values : Nat → Int) (s0 : Int) (i_ordered : Int) (i_at : Int) (i_parts : Int) (i_orders : Nat → Int) : Option (Int × Int × Int × Int × (Nat → Int)) :=
  if zi_w s0 ≠ 0 then
    f_LawReader_readPart_94 r_LawReader_readSum r_LawReader_readPart i_tokens i_values s0 i_ordered i_at i_parts i_orders
  else
    zg 401 i_tokens i_at fun v1 =>
    if zi_w v1 ≠ zi_w 259 then
      some (0, i_ordered, i_at, i_parts, i_orders)
    else
      f_LawReader_readPart_94 r_LawReader_readSum r_LawReader_readPart i_tokens i_values s0 i_ordered i_at i_parts i_orders
def fb_LawReader_readPart (r_LawReader_readSum : Int → (Nat → Int) → (Nat → Int) → Int → Int → Int → (Nat → Int) → Option (Int × Int × Int × Int × (Nat → Int))) (r_LawReader_readPart : Int → (Nat → Int) → (Nat → Int) → Int → Int → Int → (Nat → Int) → Option (Int × Int × Int × Int × (Nat → Int))) (x1 : Int) (i_tokens : Nat → Int) (i_values : Nat → Int) (i_ordered : Int) (i_at : Int) (i_parts : Int) (i_orders : Nat → Int) : Option (Int × Int × Int × Int × (Nat → Int)) :=
  zg 401 i_tokens i_at fun v1 =>
  if zi_w v1 ≠ zi_w 91 then
    zg 401 i_tokens i_at fun v2 =>
    if zi_w v2 ≠ zi_w 258 then
      f_LawReader_readPart_74 r_LawReader_readSum r_LawReader_readPart i_tokens i_values 0 i_ordered i_at i_parts i_orders
    else
      f_LawReader_readPart_74 r_LawReader_readSum r_LawReader_readPart i_tokens i_values 1 i_ordered i_at i_parts i_orders
  else
    if zi_w 8 ≤ zi_w x1 then
      some (0, i_ordered, i_at, i_parts, i_orders)
    else
      zd2 (f_LawReader_pass 91 i_tokens i_at) fun v3 v4 =>
      if zi_w v3 = 0 then
        some (0, i_ordered, v4, i_parts, i_orders)
      else
        zn (x1 + 1) fun v5 =>
        zd5 (r_LawReader_readSum v5 i_tokens i_values i_ordered v4 i_parts i_orders) fun v6 v7 v8 v9 a10 =>
        if zi_w v6 = 0 then
          some (0, v7, v8, v9, a10)
        else
          zd2 (f_LawReader_pass 93 i_tokens v8) fun v11 v12 =>
          if zi_w v11 = 0 then
            some (0, v7, v12, v9, a10)
          else
            some (1, v7, v12, v9, a10)
def g_LawReader_readSum : Nat → (Int → (Nat → Int) → (Nat → Int) → Int → Int → Int → (Nat → Int) → Option (Int × Int × Int × Int × (Nat → Int))) × (Int → (Nat → Int) → (Nat → Int) → Int → Int → Int → (Nat → Int) → Option (Int × Int × Int × Int × (Nat → Int)))
  | 0 => (fun _ _ _ _ _ _ _ => none, fun _ _ _ _ _ _ _ => none)
  | n + 1 => (fb_LawReader_readSum (g_LawReader_readSum n).1 (g_LawReader_readSum n).2, fb_LawReader_readPart (g_LawReader_readSum n).1 (g_LawReader_readSum n).2)
def f_LawReader_readSum (x1 : Int) (i_tokens : Nat → Int) (i_values : Nat → Int) (i_ordered : Int) (i_at : Int) (i_parts : Int) (i_orders : Nat → Int) : Option (Int × Int × Int × Int × (Nat → Int)) := (g_LawReader_readSum zdp).1 x1 i_tokens i_values i_ordered i_at i_parts i_orders
def f_LawReader_readPart (x1 : Int) (i_tokens : Nat → Int) (i_values : Nat → Int) (i_ordered : Int) (i_at : Int) (i_parts : Int) (i_orders : Nat → Int) : Option (Int × Int × Int × Int × (Nat → Int)) := (g_LawReader_readSum zdp).2 x1 i_tokens i_values i_ordered i_at i_parts i_orders
def f_LawReader_aimHere (x1 : Int) (i_ordered : Int) (i_orders : Nat → Int) : Option ((Nat → Int)) :=
  if zi_w x1 < 0 then
    some i_orders
  else
    if zi_w i_ordered ≤ zi_w x1 then
      some i_orders
    else
      zn (zi_shl i_ordered 4) fun v1 =>
      zg 424 i_orders x1 fun v2 =>
      zn (zi_and v2 15) fun v3 =>
      zn (zi_or v1 v3) fun v4 =>
      zs 424 i_orders x1 v4 fun a5 =>
      some a5
def f_LawReader_readTest_76 (r_LawReader_readTest : Int → (Nat → Int) → (Nat → Int) → Int → Int → Int → (Nat → Int) → Option (Int × Int × Int × Int × (Nat → Int))) (r_LawReader_readPlain : Int → (Nat → Int) → (Nat → Int) → Int → Int → Int → (Nat → Int) → Option (Int × Int × Int × Int × (Nat → Int))) (i_tokens : Nat → Int) (i_values : Nat → Int) (k7 : Int → Int → Int → Int → Int → Int → Int → (Nat → Int) → Option (Int × Int × Int × Int × (Nat → Int))) (x1 : Int) (x2 : Int) (x3 : Int) (x4 : Int) (i_ordered : Int) (i_at : Int) (i_parts : Int) (i_orders : Nat → Int) : Option (Int × Int × Int × Int × (Nat → Int)) :=
  zn (x4 + 1) fun v1 =>
  k7 x1 x2 x3 v1 i_ordered i_at i_parts i_orders
def f_LawReader_readTest_7_b (r_LawReader_readTest : Int → (Nat → Int) → (Nat → Int) → Int → Int → Int → (Nat → Int) → Option (Int × Int × Int × Int × (Nat → Int))) (r_LawReader_readPlain : Int → (Nat → Int) → (Nat → Int) → Int → Int → Int → (Nat → Int) → Option (Int × Int × Int × Int × (Nat → Int))) (i_tokens : Nat → Int) (i_values : Nat → Int) (k7 : Int → Int → Int → Int → Int → Int → Int → (Nat → Int) → Option (Int × Int × Int × Int × (Nat → Int))) (x1 : Int) (x2 : Int) (x3 : Int) (x4 : Int) (i_ordered : Int) (i_at : Int) (i_parts : Int) (i_orders : Nat → Int) : Option (Int × Int × Int × Int × (Nat → Int)) :=
  if zi_w 400 ≤ zi_w x4 then
    some (0, i_ordered, i_at, i_parts, i_orders)
  else
    zd5 (r_LawReader_readPlain x1 i_tokens i_values i_ordered i_at i_parts i_orders) fun v1 v2 v3 v4 a5 =>
    if zi_w v1 = 0 then
      some (0, v2, v3, v4, a5)
    else
      zd1 (f_LawReader_aimHere x2 v2 a5) fun a6 =>
      zd2 (f_LawReader_pass 264 i_tokens v3) fun v7 v8 =>
      if zi_w v7 = 0 then
        zd1 (f_LawReader_aimHere x3 v2 a6) fun a9 =>
        zd2 (f_LawReader_pass 263 i_tokens v8) fun v10 v11 =>
        if zi_w v10 ≠ 0 then
          zd3 (f_LawReader_order 12 0 v2 a9) fun v12 v13 a14 =>
          f_LawReader_readTest_76 r_LawReader_readTest r_LawReader_readPlain i_tokens i_values k7 x1 (-1) v12 x4 v13 v11 v4 a14
        else
          some (1, v2, v11, v4, a9)
      else
        zd3 (f_LawReader_order 11 0 v2 a6) fun v15 v16 a17 =>
        f_LawReader_readTest_76 r_LawReader_readTest r_LawReader_readPlain i_tokens i_values k7 x1 v15 x3 x4 v16 v8 v4 a17
def f_LawReader_readTest_7 (r_LawReader_readTest : Int → (Nat → Int) → (Nat → Int) → Int → Int → Int → (Nat → Int) → Option (Int × Int × Int × Int × (Nat → Int))) (r_LawReader_readPlain : Int → (Nat → Int) → (Nat → Int) → Int → Int → Int → (Nat → Int) → Option (Int × Int × Int × Int × (Nat → Int))) (i_tokens : Nat → Int) (i_values : Nat → Int) : Nat → Int → Int → Int → Int → Int → Int → Int → (Nat → Int) → Option (Int × Int × Int × Int × (Nat → Int))
  | 0 => fun _ _ _ _ _ _ _ _ => none
  | n + 1 => fun y0 y1 y2 y3 y4 y5 y6 y7 => f_LawReader_readTest_7_b r_LawReader_readTest r_LawReader_readPlain i_tokens i_values (f_LawReader_readTest_7 r_LawReader_readTest r_LawReader_readPlain i_tokens i_values n) y0 y1 y2 y3 y4 y5 y6 y7
def fb_LawReader_readTest (r_LawReader_readTest : Int → (Nat → Int) → (Nat → Int) → Int → Int → Int → (Nat → Int) → Option (Int × Int × Int × Int × (Nat → Int))) (r_LawReader_readPlain : Int → (Nat → Int) → (Nat → Int) → Int → Int → Int → (Nat → Int) → Option (Int × Int × Int × Int × (Nat → Int))) (x1 : Int) (i_tokens : Nat → Int) (i_values : Nat → Int) (i_ordered : Int) (i_at : Int) (i_parts : Int) (i_orders : Nat → Int) : Option (Int × Int × Int × Int × (Nat → Int)) :=
  f_LawReader_readTest_7 r_LawReader_readTest r_LawReader_readPlain i_tokens i_values zfu x1 (-1) (-1) 0 i_ordered i_at i_parts i_orders
def f_LawReader_readPlain_148 (r_LawReader_readTest : Int → (Nat → Int) → (Nat → Int) → Int → Int → Int → (Nat → Int) → Option (Int × Int × Int × Int × (Nat → Int))) (r_LawReader_readPlain : Int → (Nat → Int) → (Nat → Int) → Int → Int → Int → (Nat → Int) → Option (Int × Int × Int × Int × (Nat → Int))) (i_tokens : Nat → Int) (i_values : Nat → Int) (x2 : Int) (i_ordered : Int) (i_at : Int) (i_parts : Int) (i_orders : Nat → Int) : Option (Int × Int × Int × Int × (Nat → Int)) :=
  if zi_w x2 = 0 then
    some (1, i_ordered, i_at, i_parts, i_orders)
  else
    zd3 (f_LawReader_order 10 0 i_ordered i_orders) fun v1 v2 a3 =>
    some (1, v2, i_at, i_parts, a3)
def f_LawReader_readPlain_37 (r_LawReader_readTest : Int → (Nat → Int) → (Nat → Int) → Int → Int → Int → (Nat → Int) → Option (Int × Int × Int × Int × (Nat → Int))) (r_LawReader_readPlain : Int → (Nat → Int) → (Nat → Int) → Int → Int → Int → (Nat → Int) → Option (Int × Int × Int × Int × (Nat → Int))) (i_tokens : Nat → Int) (i_values : Nat → Int) (x1 : Int) (x2 : Int) (i_ordered : Int) (i_at : Int) (i_parts : Int) (i_orders : Nat → Int) : Option (Int × Int × Int × Int × (Nat → Int)) :=
  zg 401 i_tokens i_at fun v1 =>
  if zi_w v1 ≠ zi_w 40 then
    zd5 (f_LawReader_readSum x1 i_tokens i_values i_ordered i_at i_parts i_orders) fun v2 v3 v4 v5 a6 =>
    if zi_w v2 ≠ 0 then
      zg 401 i_tokens v4 fun v7 =>
      zd1 (f_LawReader_comparisonOf v7) fun v8 =>
      if zi_w v8 = zi_w (-1) then
        some (0, v3, v4, v5, a6)
      else
        zg 401 i_tokens v4 fun v9 =>
        zd2 (f_LawReader_pass v9 i_tokens v4) fun v10 v11 =>
        if zi_w v10 = 0 then
          some (0, v3, v11, v5, a6)
        else
          zd5 (f_LawReader_readSum x1 i_tokens i_values v3 v11 v5 a6) fun v12 v13 v14 v15 a16 =>
          if zi_w v12 ≠ 0 then
            zd3 (f_LawReader_order v8 0 v13 a16) fun v17 v18 a19 =>
            f_LawReader_readPlain_148 r_LawReader_readTest r_LawReader_readPlain i_tokens i_values x2 v18 v14 v15 a19
          else
            some (0, v13, v14, v15, a16)
    else
      some (0, v3, v4, v5, a6)
  else
    if zi_w 8 ≤ zi_w x1 then
      some (0, i_ordered, i_at, i_parts, i_orders)
    else
      zd2 (f_LawReader_pass 40 i_tokens i_at) fun v20 v21 =>
      if zi_w v20 = 0 then
        some (0, i_ordered, v21, i_parts, i_orders)
      else
        zn (x1 + 1) fun v22 =>
        zd5 (r_LawReader_readTest v22 i_tokens i_values i_ordered v21 i_parts i_orders) fun v23 v24 v25 v26 a27 =>
        if zi_w v23 = 0 then
          some (0, v24, v25, v26, a27)
        else
          zd2 (f_LawReader_pass 41 i_tokens v25) fun v28 v29 =>
          if zi_w v28 ≠ 0 then
            f_LawReader_readPlain_148 r_LawReader_readTest r_LawReader_readPlain i_tokens i_values x2 v24 v29 v26 a27
          else
            some (0, v24, v29, v26, a27)
def f_LawReader_readPlain_30 (r_LawReader_readTest : Int → (Nat → Int) → (Nat → Int) → Int → Int → Int → (Nat → Int) → Option (Int × Int × Int × Int × (Nat → Int))) (r_LawReader_readPlain : Int → (Nat → Int) → (Nat → Int) → Int → Int → Int → (Nat → Int) → Option (Int × Int × Int × Int × (Nat → Int))) (i_tokens : Nat → Int) (i_values : Nat → Int) (k4 : Int → Int → Int → Int → Int → Int → (Nat → Int) → Option (Int × Int × Int × Int × (Nat → Int))) (x1 : Int) (x3 : Int) (s0 : Int) (i_ordered : Int) (i_at : Int) (i_parts : Int) (i_orders : Nat → Int) : Option (Int × Int × Int × Int × (Nat → Int)) :=
  zn (x3 + 1) fun v1 =>
  k4 x1 s0 v1 i_ordered i_at i_parts i_orders
def f_LawReader_readPlain_4_b (r_LawReader_readTest : Int → (Nat → Int) → (Nat → Int) → Int → Int → Int → (Nat → Int) → Option (Int × Int × Int × Int × (Nat → Int))) (r_LawReader_readPlain : Int → (Nat → Int) → (Nat → Int) → Int → Int → Int → (Nat → Int) → Option (Int × Int × Int × Int × (Nat → Int))) (i_tokens : Nat → Int) (i_values : Nat → Int) (k4 : Int → Int → Int → Int → Int → Int → (Nat → Int) → Option (Int × Int × Int × Int × (Nat → Int))) (x1 : Int) (x2 : Int) (x3 : Int) (i_ordered : Int) (i_at : Int) (i_parts : Int) (i_orders : Nat → Int) : Option (Int × Int × Int × Int × (Nat → Int)) :=
  if zi_w 400 ≤ zi_w x3 then
    f_LawReader_readPlain_37 r_LawReader_readTest r_LawReader_readPlain i_tokens i_values x1 x2 i_ordered i_at i_parts i_orders
  else
    zd2 (f_LawReader_pass 265 i_tokens i_at) fun v1 v2 =>
    if zi_w v1 = 0 then
      f_LawReader_readPlain_37 r_LawReader_readTest r_LawReader_readPlain i_tokens i_values x1 x2 i_ordered v2 i_parts i_orders
    else
      if zi_w x2 ≠ 0 then
        f_LawReader_readPlain_30 r_LawReader_readTest r_LawReader_readPlain i_tokens i_values k4 x1 x3 0 i_ordered v2 i_parts i_orders
      else
        f_LawReader_readPlain_30 r_LawReader_readTest r_LawReader_readPlain i_tokens i_values k4 x1 x3 1 i_ordered v2 i_parts i_orders
def f_LawReader_readPlain_4 (r_LawReader_readTest : Int → (Nat → Int) → (Nat → Int) → Int → Int → Int → (Nat → Int) → Option (Int × Int × Int × Int × (Nat → Int))) (r_LawReader_readPlain : Int → (Nat → Int) → (Nat → Int) → Int → Int → Int → (Nat → Int) → Option (Int × Int × Int × Int × (Nat → Int))) (i_tokens : Nat → Int) (i_values : Nat → Int) : Nat → Int → Int → Int → Int → Int → Int → (Nat → Int) → Option (Int × Int × Int × Int × (Nat → Int))
  | 0 => fun _ _ _ _ _ _ _ => none
  | n + 1 => fun y0 y1 y2 y3 y4 y5 y6 => f_LawReader_readPlain_4_b r_LawReader_readTest r_LawReader_readPlain i_tokens i_values (f_LawReader_readPlain_4 r_LawReader_readTest r_LawReader_readPlain i_tokens i_values n) y0 y1 y2 y3 y4 y5 y6
def fb_LawReader_readPlain (r_LawReader_readTest : Int → (Nat → Int) → (Nat → Int) → Int → Int → Int → (Nat → Int) → Option (Int × Int × Int × Int × (Nat → Int))) (r_LawReader_readPlain : Int → (Nat → Int) → (Nat → Int) → Int → Int → Int → (Nat → Int) → Option (Int × Int × Int × Int × (Nat → Int))) (x1 : Int) (i_tokens : Nat → Int) (i_values : Nat → Int) (i_ordered : Int) (i_at : Int) (i_parts : Int) (i_orders : Nat → Int) : Option (Int × Int × Int × Int × (Nat → Int)) :=
  f_LawReader_readPlain_4 r_LawReader_readTest r_LawReader_readPlain i_tokens i_values zfu x1 0 0 i_ordered i_at i_parts i_orders
def g_LawReader_readTest : Nat → (Int → (Nat → Int) → (Nat → Int) → Int → Int → Int → (Nat → Int) → Option (Int × Int × Int × Int × (Nat → Int))) × (Int → (Nat → Int) → (Nat → Int) → Int → Int → Int → (Nat → Int) → Option (Int × Int × Int × Int × (Nat → Int)))
  | 0 => (fun _ _ _ _ _ _ _ => none, fun _ _ _ _ _ _ _ => none)
  | n + 1 => (fb_LawReader_readTest (g_LawReader_readTest n).1 (g_LawReader_readTest n).2, fb_LawReader_readPlain (g_LawReader_readTest n).1 (g_LawReader_readTest n).2)
def f_LawReader_readTest (x1 : Int) (i_tokens : Nat → Int) (i_values : Nat → Int) (i_ordered : Int) (i_at : Int) (i_parts : Int) (i_orders : Nat → Int) : Option (Int × Int × Int × Int × (Nat → Int)) := (g_LawReader_readTest zdp).1 x1 i_tokens i_values i_ordered i_at i_parts i_orders
def f_LawReader_readPlain (x1 : Int) (i_tokens : Nat → Int) (i_values : Nat → Int) (i_ordered : Int) (i_at : Int) (i_parts : Int) (i_orders : Nat → Int) : Option (Int × Int × Int × Int × (Nat → Int)) := (g_LawReader_readTest zdp).2 x1 i_tokens i_values i_ordered i_at i_parts i_orders
def f_LawReader_readClause_84 (i_tokens : Nat → Int) (i_values : Nat → Int) (x1 : Int) (s1 : Int) (i_ordered : Int) (i_at : Int) (i_parts : Int) (i_orders : Nat → Int) : Option (Int × Int × Int × Int × (Nat → Int)) :=
  zd3 (f_LawReader_order s1 0 i_ordered i_orders) fun v1 v2 a3 =>
  zd1 (f_LawReader_aimHere x1 v2 a3) fun a4 =>
  some (1, v2, i_at, i_parts, a4)
def f_LawReader_readClause_72 (i_tokens : Nat → Int) (i_values : Nat → Int) (x1 : Int) (x2 : Int) (i_ordered : Int) (i_at : Int) (i_parts : Int) (i_orders : Nat → Int) : Option (Int × Int × Int × Int × (Nat → Int)) :=
  if zi_w x2 = 0 then
    f_LawReader_readClause_84 i_tokens i_values x1 14 i_ordered i_at i_parts i_orders
  else
    f_LawReader_readClause_84 i_tokens i_values x1 13 i_ordered i_at i_parts i_orders
def f_LawReader_readClause_42 (i_tokens : Nat → Int) (i_values : Nat → Int) (x1 : Int) (x2 : Int) (i_ordered : Int) (i_at : Int) (i_parts : Int) (i_orders : Nat → Int) : Option (Int × Int × Int × Int × (Nat → Int)) :=
  zd2 (f_LawReader_pass 262 i_tokens i_at) fun v1 v2 =>
  if zi_w v1 ≠ 0 then
    zd5 (f_LawReader_readTest 0 i_tokens i_values i_ordered v2 i_parts i_orders) fun v3 v4 v5 v6 a7 =>
    if zi_w v3 ≠ 0 then
      f_LawReader_readClause_72 i_tokens i_values x1 x2 v4 v5 v6 a7
    else
      some (0, v4, v5, v6, a7)
  else
    zd3 (f_LawReader_order 1 1 i_ordered i_orders) fun v8 v9 a10 =>
    f_LawReader_readClause_72 i_tokens i_values x1 x2 v9 v2 i_parts a10
def f_LawReader_readClause (i_tokens : Nat → Int) (i_values : Nat → Int) (i_ordered : Int) (i_at : Int) (i_parts : Int) (i_orders : Nat → Int) : Option (Int × Int × Int × Int × (Nat → Int)) :=
  zd3 (f_LawReader_order 0 0 i_ordered i_orders) fun v1 v2 a3 =>
  zd2 (f_LawReader_pass 260 i_tokens i_at) fun v4 v5 =>
  if zi_w v4 = 0 then
    zd2 (f_LawReader_pass 261 i_tokens v5) fun v6 v7 =>
    if zi_w v6 ≠ 0 then
      f_LawReader_readClause_42 i_tokens i_values v1 v4 v2 v7 i_parts a3
    else
      some (0, v2, v7, i_parts, a3)
  else
    zd5 (f_LawReader_readSum 0 i_tokens i_values v2 v5 i_parts a3) fun v8 v9 v10 v11 a12 =>
    if zi_w v8 ≠ 0 then
      f_LawReader_readClause_42 i_tokens i_values v1 v4 v9 v10 v11 a12
    else
      some (0, v9, v10, v11, a12)
def f_LawReader_isLetter (x0 : Int) : Option (Int) :=
  if zi_w x0 < zi_w 97 then
    some 0
  else
    if zi_w 122 < zi_w x0 then
      some 0
    else
      some 1
def f_String_coder (w0 : Nat) : Option (Int) :=
  if zi_w 1 = 0 then
    some 1
  else
    some 0
def f_String_length (w0 : Nat) : Option (Int) :=
  zn (zsl w0) fun v1 =>
  zd1 (f_String_coder w0) fun v2 =>
  zn (zi_shr v1 v2) fun v3 =>
  some v3
def f_Preconditions_checkIndex_nN_9  (x0 : Int) (x1 : Int) : Option (Int) :=
  none
def f_Preconditions_checkIndex_nN (x0 : Int) (x1 : Int) : Option (Int) :=
  if zi_w x0 < 0 then
    f_Preconditions_checkIndex_nN_9 x0 x1
  else
    if zi_w x0 < zi_w x1 then
      some x0
    else
      f_Preconditions_checkIndex_nN_9 x0 x1
def f_Preconditions_checkIndex_nt_9  (x0 : Int) (x1 : Int) : Option (Int) :=
  none
def f_Preconditions_checkIndex_nt (x0 : Int) (x1 : Int) : Option (Int) :=
  if zi_w x0 < 0 then
    f_Preconditions_checkIndex_nt_9 x0 x1
  else
    if zi_w x0 < zi_w x1 then
      some x0
    else
      f_Preconditions_checkIndex_nt_9 x0 x1
def f_String_checkIndex (x0 : Int) (x1 : Int) : Option (Unit) :=
  zd1 (f_Preconditions_checkIndex_nN x0 x1) fun v1 =>
  some ()
def f_StringLatin1_charAt (x1 : Int) (w0 : Nat) : Option (Int) :=
  zn (zsl w0) fun v1 =>
  zd1 (f_String_checkIndex x1 v1) fun _ =>
  zg (zlen.getD w0 0) (zch w0) x1 fun v2 =>
  zn (zi_and v2 255) fun v3 =>
  zn (zi_chr v3) fun v4 =>
  if ¬ (0 ≤ zi_w v4 ∧ zi_w v4 < 128) then none else
  some v4
def f_String_isLatin1 (w0 : Nat) : Option (Int) :=
  if zi_w 1 = 0 then
    some 0
  else
    if zi_w 0 ≠ 0 then
      some 0
    else
      some 1
def f_String_charAt (x1 : Int) (w0 : Nat) : Option (Int) :=
  zd1 (f_String_isLatin1 w0) fun v1 =>
  if zi_w v1 = 0 then
    none
  else
    zd1 (f_StringLatin1_charAt x1 w0) fun v2 =>
    if ¬ (0 ≤ zi_w v2 ∧ zi_w v2 < 128) then none else
    some v2
def f_LawReader_isWord_15_b (w0 : Nat) (i_a1 : Nat → Int) (k15 : Int → Int → Option (Int)) (x2 : Int) (x4 : Int) : Option (Int) :=
  zd1 (f_String_length w0) fun v1 =>
  if zi_w v1 ≤ zi_w x4 then
    some 1
  else
    zn (x2 + x4) fun v2 =>
    zg 400 i_a1 v2 fun v3 =>
    zd1 (f_String_charAt x4 w0) fun v4 =>
    if zi_w v3 = zi_w v4 then
      zn (x4 + 1) fun v5 =>
      k15 x2 v5
    else
      some 0
def f_LawReader_isWord_15 (w0 : Nat) (i_a1 : Nat → Int) : Nat → Int → Int → Option (Int)
  | 0 => fun _ _ => none
  | n + 1 => fun y0 y1 => f_LawReader_isWord_15_b w0 i_a1 (f_LawReader_isWord_15 w0 i_a1 n) y0 y1
def f_LawReader_isWord (x2 : Int) (x3 : Int) (w0 : Nat) (i_a1 : Nat → Int) : Option (Int) :=
  zn (x3 - x2) fun v1 =>
  zd1 (f_String_length w0) fun v2 =>
  if zi_w v1 = zi_w v2 then
    f_LawReader_isWord_15 w0 i_a1 zfu x2 0
  else
    some 0
def f_LawReader_ruleWordOf (x1 : Int) (x2 : Int) (i_a0 : Nat → Int) : Option (Int) :=
  zd1 (f_LawReader_isWord x1 x2 8 i_a0) fun v1 =>
  if zi_w v1 = 0 then
    zd1 (f_LawReader_isWord x1 x2 9 i_a0) fun v2 =>
    if zi_w v2 = 0 then
      zd1 (f_LawReader_isWord x1 x2 10 i_a0) fun v3 =>
      if zi_w v3 = 0 then
        zd1 (f_LawReader_isWord x1 x2 11 i_a0) fun v4 =>
        if zi_w v4 = 0 then
          zd1 (f_LawReader_isWord x1 x2 12 i_a0) fun v5 =>
          if zi_w v5 = 0 then
            zd1 (f_LawReader_isWord x1 x2 13 i_a0) fun v6 =>
            if zi_w v6 = 0 then
              some 256
            else
              some 265
          else
            some 264
        else
          some 263
      else
        some 262
    else
      some 261
  else
    some 260
def f_LawReader_wordOf (x1 : Int) (x2 : Int) (i_a0 : Nat → Int) : Option (Int) :=
  zd1 (f_LawReader_isWord x1 x2 0 i_a0) fun v1 =>
  if zi_w v1 = 0 then
    zd1 (f_LawReader_isWord x1 x2 1 i_a0) fun v2 =>
    if zi_w v2 = 0 then
      zd1 (f_LawReader_isWord x1 x2 2 i_a0) fun v3 =>
      if zi_w v3 = 0 then
        zd1 (f_LawReader_isWord x1 x2 3 i_a0) fun v4 =>
        if zi_w v4 = 0 then
          zd1 (f_LawReader_isWord x1 x2 4 i_a0) fun v5 =>
          if zi_w v5 = 0 then
            zd1 (f_LawReader_isWord x1 x2 5 i_a0) fun v6 =>
            if zi_w v6 = 0 then
              zd1 (f_LawReader_isWord x1 x2 6 i_a0) fun v7 =>
              if zi_w v7 = 0 then
                zd1 (f_LawReader_isWord x1 x2 7 i_a0) fun v8 =>
                if zi_w v8 = 0 then
                  some (-1)
                else
                  some 7
              else
                some 6
            else
              some 5
          else
            some 4
        else
          some 3
      else
        some 2
    else
      some 1
  else
    some 0
def f_LawReader_numberOf_5_b (i_a0 : Nat → Int) (k5 : Int → Int → Int → Option (Int)) (x2 : Int) (x3 : Int) (x4 : Int) : Option (Int) :=
  if zi_w x2 ≤ zi_w x4 then
    some x3
  else
    zn (x3 * 10) fun v1 =>
    zg 400 i_a0 x4 fun v2 =>
    zn (v1 + v2) fun v3 =>
    zn (v3 - 48) fun v4 =>
    if zi_w v4 ≤ zi_w 1000 then
      zn (x4 + 1) fun v5 =>
      k5 x2 v4 v5
    else
      some (-1)
def f_LawReader_numberOf_5 (i_a0 : Nat → Int) : Nat → Int → Int → Int → Option (Int)
  | 0 => fun _ _ _ => none
  | n + 1 => fun y0 y1 y2 => f_LawReader_numberOf_5_b i_a0 (f_LawReader_numberOf_5 i_a0 n) y0 y1 y2
def f_LawReader_numberOf (x1 : Int) (x2 : Int) (i_a0 : Nat → Int) : Option (Int) :=
  f_LawReader_numberOf_5 i_a0 zfu x2 0 x1
def f_LawReader_isDigit (x0 : Int) : Option (Int) :=
  if zi_w x0 < zi_w 48 then
    some 0
  else
    if zi_w 57 < zi_w x0 then
      some 0
    else
      some 1
def f_LawReader_note (x2 : Int) (x3 : Int) (x4 : Int) (i_a1 : Nat → Int) (i_tokens : Nat → Int) (i_values : Nat → Int) : Option ((Nat → Int) × (Nat → Int)) :=
  zs 401 i_values x4 (-1) fun a1 =>
  zg 400 i_a1 x2 fun v2 =>
  zd1 (f_LawReader_isDigit v2) fun v3 =>
  if zi_w v3 = 0 then
    zg 400 i_a1 x2 fun v4 =>
    zd1 (f_LawReader_isLetter v4) fun v5 =>
    if zi_w v5 = 0 then
      zg 400 i_a1 x2 fun v6 =>
      zn (zi_and v6 255) fun v7 =>
      zs 401 i_tokens x4 v7 fun a8 =>
      some (a8, a1)
    else
      zd1 (f_LawReader_wordOf x2 x3 i_a1) fun v9 =>
      zs 401 a1 x4 v9 fun a10 =>
      zg 401 a10 x4 fun v11 =>
      if zi_w v11 ≠ zi_w (-1) then
        zs 401 i_tokens x4 259 fun a12 =>
        some (a12, a10)
      else
        zd1 (f_LawReader_ruleWordOf x2 x3 i_a1) fun v13 =>
        zs 401 i_tokens x4 v13 fun a14 =>
        some (a14, a10)
  else
    zd1 (f_LawReader_numberOf x2 x3 i_a1) fun v15 =>
    zs 401 a1 x4 v15 fun a16 =>
    zg 401 a16 x4 fun v17 =>
    if zi_w v17 ≠ zi_w (-1) then
      zs 401 i_tokens x4 258 fun a18 =>
      some (a18, a16)
    else
      zs 401 i_tokens x4 256 fun a19 =>
      some (a19, a16)
def f_LawReader_split_118 (i_a1 : Nat → Int) (k8 : Int → Int → Int → Int → (Nat → Int) → (Nat → Int) → (Nat → Int) → Option ((Nat → Int) × (Nat → Int) × (Nat → Int))) (x2 : Int) (x3 : Int) (x4 : Int) (x5 : Int) (i_tokens : Nat → Int) (i_places : Nat → Int) (i_values : Nat → Int) : Option ((Nat → Int) × (Nat → Int) × (Nat → Int)) :=
  zn (x5 + 1) fun v1 =>
  k8 x2 x3 x4 v1 i_tokens i_places i_values
def f_LawReader_split_97 (i_a1 : Nat → Int) (k8 : Int → Int → Int → Int → (Nat → Int) → (Nat → Int) → (Nat → Int) → Option ((Nat → Int) × (Nat → Int) × (Nat → Int))) (x2 : Int) (x3 : Int) (x4 : Int) (x5 : Int) (i_tokens : Nat → Int) (i_places : Nat → Int) (i_values : Nat → Int) : Option ((Nat → Int) × (Nat → Int) × (Nat → Int)) :=
  zs 401 i_places x3 x5 fun a1 =>
  zd2 (f_LawReader_note x5 x4 x3 i_a1 i_tokens i_values) fun a2 a3 =>
  zn (x3 + 1) fun v4 =>
  f_LawReader_split_118 i_a1 k8 x2 v4 x4 x5 a2 a1 a3
def f_LawReader_split_91 (i_a1 : Nat → Int) (k8 : Int → Int → Int → Int → (Nat → Int) → (Nat → Int) → (Nat → Int) → Option ((Nat → Int) × (Nat → Int) × (Nat → Int))) (k39 : Int → Int → Int → Int → (Nat → Int) → (Nat → Int) → (Nat → Int) → Option ((Nat → Int) × (Nat → Int) × (Nat → Int))) (x2 : Int) (x3 : Int) (x4 : Int) (x5 : Int) (i_tokens : Nat → Int) (i_places : Nat → Int) (i_values : Nat → Int) : Option ((Nat → Int) × (Nat → Int) × (Nat → Int)) :=
  zn (x4 + 1) fun v1 =>
  k39 x2 x3 v1 x5 i_tokens i_places i_values
def f_LawReader_split_65 (i_a1 : Nat → Int) (k8 : Int → Int → Int → Int → (Nat → Int) → (Nat → Int) → (Nat → Int) → Option ((Nat → Int) × (Nat → Int) × (Nat → Int))) (k39 : Int → Int → Int → Int → (Nat → Int) → (Nat → Int) → (Nat → Int) → Option ((Nat → Int) × (Nat → Int) × (Nat → Int))) (x2 : Int) (x3 : Int) (x4 : Int) (x5 : Int) (i_tokens : Nat → Int) (i_places : Nat → Int) (i_values : Nat → Int) : Option ((Nat → Int) × (Nat → Int) × (Nat → Int)) :=
  if zi_w x2 ≤ zi_w x4 then
    f_LawReader_split_97 i_a1 k8 x2 x3 x4 x5 i_tokens i_places i_values
  else
    zg 400 i_a1 x5 fun v1 =>
    zd1 (f_LawReader_isDigit v1) fun v2 =>
    if zi_w v2 = 0 then
      f_LawReader_split_97 i_a1 k8 x2 x3 x4 x5 i_tokens i_places i_values
    else
      zg 400 i_a1 x4 fun v3 =>
      zd1 (f_LawReader_isDigit v3) fun v4 =>
      if zi_w v4 = 0 then
        f_LawReader_split_97 i_a1 k8 x2 x3 x4 x5 i_tokens i_places i_values
      else
        f_LawReader_split_91 i_a1 k8 k39 x2 x3 x4 x5 i_tokens i_places i_values
def f_LawReader_split_39_b (i_a1 : Nat → Int) (k8 : Int → Int → Int → Int → (Nat → Int) → (Nat → Int) → (Nat → Int) → Option ((Nat → Int) × (Nat → Int) × (Nat → Int))) (k39 : Int → Int → Int → Int → (Nat → Int) → (Nat → Int) → (Nat → Int) → Option ((Nat → Int) × (Nat → Int) × (Nat → Int))) (x2 : Int) (x3 : Int) (x4 : Int) (x5 : Int) (i_tokens : Nat → Int) (i_places : Nat → Int) (i_values : Nat → Int) : Option ((Nat → Int) × (Nat → Int) × (Nat → Int)) :=
  if zi_w x2 ≤ zi_w x4 then
    f_LawReader_split_65 i_a1 k8 k39 x2 x3 x4 x5 i_tokens i_places i_values
  else
    zg 400 i_a1 x5 fun v1 =>
    zd1 (f_LawReader_isLetter v1) fun v2 =>
    if zi_w v2 = 0 then
      f_LawReader_split_65 i_a1 k8 k39 x2 x3 x4 x5 i_tokens i_places i_values
    else
      zg 400 i_a1 x4 fun v3 =>
      zd1 (f_LawReader_isLetter v3) fun v4 =>
      if zi_w v4 ≠ 0 then
        f_LawReader_split_91 i_a1 k8 k39 x2 x3 x4 x5 i_tokens i_places i_values
      else
        f_LawReader_split_65 i_a1 k8 k39 x2 x3 x4 x5 i_tokens i_places i_values
def f_LawReader_split_39 (i_a1 : Nat → Int) (k8 : Int → Int → Int → Int → (Nat → Int) → (Nat → Int) → (Nat → Int) → Option ((Nat → Int) × (Nat → Int) × (Nat → Int))) : Nat → Int → Int → Int → Int → (Nat → Int) → (Nat → Int) → (Nat → Int) → Option ((Nat → Int) × (Nat → Int) × (Nat → Int))
  | 0 => fun _ _ _ _ _ _ _ => none
  | n + 1 => fun y0 y1 y2 y3 y4 y5 y6 => f_LawReader_split_39_b i_a1 k8 (f_LawReader_split_39 i_a1 k8 n) y0 y1 y2 y3 y4 y5 y6
def f_LawReader_split_8_b (i_a1 : Nat → Int) (k8 : Int → Int → Int → Int → (Nat → Int) → (Nat → Int) → (Nat → Int) → Option ((Nat → Int) × (Nat → Int) × (Nat → Int))) (x2 : Int) (x3 : Int) (x4 : Int) (x5 : Int) (i_tokens : Nat → Int) (i_places : Nat → Int) (i_values : Nat → Int) : Option ((Nat → Int) × (Nat → Int) × (Nat → Int)) :=
  if zi_w x2 ≤ zi_w x5 then
    zs 401 i_places x3 x2 fun a1 =>
    zs 401 i_tokens x3 257 fun a2 =>
    some (a2, a1, i_values)
  else
    if zi_w x5 < zi_w x4 then
      f_LawReader_split_118 i_a1 k8 x2 x3 x4 x5 i_tokens i_places i_values
    else
      zg 400 i_a1 x5 fun v3 =>
      if zi_w v3 ≠ zi_w 32 then
        zn (x5 + 1) fun v4 =>
        f_LawReader_split_39 i_a1 k8 zfu x2 x3 v4 x5 i_tokens i_places i_values
      else
        f_LawReader_split_118 i_a1 k8 x2 x3 x4 x5 i_tokens i_places i_values
def f_LawReader_split_8 (i_a1 : Nat → Int) : Nat → Int → Int → Int → Int → (Nat → Int) → (Nat → Int) → (Nat → Int) → Option ((Nat → Int) × (Nat → Int) × (Nat → Int))
  | 0 => fun _ _ _ _ _ _ _ => none
  | n + 1 => fun y0 y1 y2 y3 y4 y5 y6 => f_LawReader_split_8_b i_a1 (f_LawReader_split_8 i_a1 n) y0 y1 y2 y3 y4 y5 y6
def f_LawReader_split (x2 : Int) (i_a1 : Nat → Int) (i_tokens : Nat → Int) (i_places : Nat → Int) (i_values : Nat → Int) : Option ((Nat → Int) × (Nat → Int) × (Nat → Int)) :=
  f_LawReader_split_8 i_a1 zfu x2 0 0 0 i_tokens i_places i_values
def f_LawReader_read_38_b (i_a1 : Nat → Int) (k38 : Int → Int → Int → Int → (Nat → Int) → (Nat → Int) → (Nat → Int) → (Nat → Int) → Option (Int × Int × Int × Int × (Nat → Int) × (Nat → Int) × (Nat → Int) × (Nat → Int))) (x3 : Int) (i_ordered : Int) (i_at : Int) (i_parts : Int) (i_orders : Nat → Int) (i_tokens : Nat → Int) (i_places : Nat → Int) (i_values : Nat → Int) : Option (Int × Int × Int × Int × (Nat → Int) × (Nat → Int) × (Nat → Int) × (Nat → Int)) :=
  if zi_w 12 ≤ zi_w x3 then
    zg 401 i_places i_at fun v1 =>
    some (v1, i_ordered, i_at, i_parts, i_orders, i_tokens, i_places, i_values)
  else
    zd5 (f_LawReader_readClause i_tokens i_values i_ordered i_at i_parts i_orders) fun v2 v3 v4 v5 a6 =>
    if zi_w v2 = 0 then
      zg 401 i_places v4 fun v7 =>
      some (v7, v3, v4, v5, a6, i_tokens, i_places, i_values)
    else
      zg 401 i_tokens v4 fun v8 =>
      if zi_w v8 ≠ zi_w 257 then
        zd2 (f_LawReader_pass 59 i_tokens v4) fun v9 v10 =>
        if zi_w v9 ≠ 0 then
          zn (x3 + 1) fun v11 =>
          k38 v11 v3 v10 v5 a6 i_tokens i_places i_values
        else
          zg 401 i_places v10 fun v12 =>
          some (v12, v3, v10, v5, a6, i_tokens, i_places, i_values)
      else
        some ((-1), v3, v4, v5, a6, i_tokens, i_places, i_values)
def f_LawReader_read_38 (i_a1 : Nat → Int) : Nat → Int → Int → Int → Int → (Nat → Int) → (Nat → Int) → (Nat → Int) → (Nat → Int) → Option (Int × Int × Int × Int × (Nat → Int) × (Nat → Int) × (Nat → Int) × (Nat → Int))
  | 0 => fun _ _ _ _ _ _ _ _ => none
  | n + 1 => fun y0 y1 y2 y3 y4 y5 y6 y7 => f_LawReader_read_38_b i_a1 (f_LawReader_read_38 i_a1 n) y0 y1 y2 y3 y4 y5 y6 y7
def f_LawReader_read (x2 : Int) (i_a1 : Nat → Int) (i_ordered : Int) (i_at : Int) (i_parts : Int) (i_orders : Nat → Int) (i_tokens : Nat → Int) (i_places : Nat → Int) (i_values : Nat → Int) : Option (Int × Int × Int × Int × (Nat → Int) × (Nat → Int) × (Nat → Int) × (Nat → Int)) :=
  zn (zi_min 400 400) fun v1 =>
  zn (zi_min x2 v1) fun v2 =>
  zn (zi_max 0 v2) fun v3 =>
  zd3 (f_LawReader_split v3 i_a1 i_tokens i_places i_values) fun a4 a5 a6 =>
  f_LawReader_read_38 i_a1 zfu 0 0 0 0 i_orders a4 a5 a6
def f_HS_law (i_tape : Nat → Int) (i_taped : Int) (i_latestFault : Int) (i_latestStatus : Int) (i_hill_laws : Int) (i_hill_changes : Int) (i_refusals : Nat → Int) (i_reader_ordered : Int) (i_reader_at : Int) (i_reader_parts : Int) (i_hill_orders : Nat → Int) (i_hill_ordered : Nat → Int) (i_reader_orders : Nat → Int) (i_reader_tokens : Nat → Int) (i_reader_places : Nat → Int) (i_reader_values : Nat → Int) : Option (Int × Int × Int × Int × Int × Int × (Nat → Int) × Int × Int × Int × (Nat → Int) × (Nat → Int) × (Nat → Int) × (Nat → Int) × (Nat → Int) × (Nat → Int)) :=
  if zi_w i_hill_laws < zi_w 6 then
    zd8 (f_LawReader_read i_taped i_tape i_reader_ordered i_reader_at i_reader_parts i_reader_orders i_reader_tokens i_reader_places i_reader_values) fun v1 v2 v3 v4 a5 a6 a7 a8 =>
    if zi_w v1 = zi_w (-1) then
      zd4 (f_Hill_enact v2 a5 i_hill_laws i_hill_orders i_hill_ordered) fun v9 v10 a11 a12 =>
      zd3 (f_HS_accept v9 i_latestStatus i_hill_changes) fun v13 v14 v15 =>
      some (v13, 0, v1, v14, v10, v15, i_refusals, v2, v3, v4, a11, a12, a5, a6, a7, a8)
    else
      zd3 (f_HS_refuse (-6) i_latestStatus i_refusals) fun v16 v17 a18 =>
      some (v16, 0, v1, v17, i_hill_laws, i_hill_changes, a18, v2, v3, v4, i_hill_orders, i_hill_ordered, a5, a6, a7, a8)
  else
    zd3 (f_HS_refuse (-5) i_latestStatus i_refusals) fun v19 v20 a21 =>
    some (v19, 0, i_latestFault, v20, i_hill_laws, i_hill_changes, a21, i_reader_ordered, i_reader_at, i_reader_parts, i_hill_orders, i_hill_ordered, i_reader_orders, i_reader_tokens, i_reader_places, i_reader_values)
def f_HS_fault (i_latestFault : Int) : Option (Int) :=
  some i_latestFault
def f_HS_force_27 (i_hill_laws : Int) (x1 : Int) (i_latestStatus : Int) (i_hill_inForce : Int) (i_hill_changes : Int) (i_refusals : Nat → Int) : Option (Int × Int × Int × Int × (Nat → Int)) :=
  zd3 (f_HS_accept i_hill_inForce i_latestStatus i_hill_changes) fun v1 v2 v3 =>
  some (v1, v2, x1, v3, i_refusals)
def f_HS_force_20 (i_hill_laws : Int) (i_latestStatus : Int) (i_hill_inForce : Int) (i_hill_changes : Int) (i_refusals : Nat → Int) : Option (Int × Int × Int × Int × (Nat → Int)) :=
  zd3 (f_HS_refuse (-2) i_latestStatus i_refusals) fun v1 v2 a3 =>
  some (v1, v2, i_hill_inForce, i_hill_changes, a3)
def f_HS_force (x1 : Int) (i_hill_laws : Int) (i_latestStatus : Int) (i_hill_inForce : Int) (i_hill_changes : Int) (i_refusals : Nat → Int) : Option (Int × Int × Int × Int × (Nat → Int)) :=
  if zi_w x1 = zi_w (-1) then
    f_HS_force_27 i_hill_laws x1 i_latestStatus i_hill_inForce i_hill_changes i_refusals
  else
    if zi_w x1 < 0 then
      f_HS_force_20 i_hill_laws i_latestStatus i_hill_inForce i_hill_changes i_refusals
    else
      if zi_w x1 < zi_w i_hill_laws then
        f_HS_force_27 i_hill_laws x1 i_latestStatus i_hill_inForce i_hill_changes i_refusals
      else
        f_HS_force_20 i_hill_laws i_latestStatus i_hill_inForce i_hill_changes i_refusals
def f_Hill_isAble (x1 : Int) (x2 : Int) (i_children : Int) (i_strengths : Nat → Int) (i_expelled : Nat → Int) : Option (Int) :=
  zd1 (f_Hill_hasChild x1 i_children) fun v1 =>
  if zi_w v1 = 0 then
    some 0
  else
    zg 6 i_expelled x1 fun v2 =>
    if zi_w v2 ≠ 0 then
      some 0
    else
      zg 6 i_strengths x1 fun v3 =>
      if zi_w v3 < zi_w x2 then
        some 0
      else
        some 1
def f_Judge_pop (i_pile : Nat → Int) (i_piled : Int) : Option (Int × Int) :=
  if 0 < zi_w i_piled then
    zn (i_piled - 1) fun v1 =>
    zg 32 i_pile v1 fun v2 =>
    some (v2, v1)
  else
    some (0, i_piled)
def f_Judge_worked_118  (x5 : Int) : Option (Int) :=
  if zl_w 1000000000 < zl_w x5 then
    some (-2000000000)
  else
    if zl_w (-1000000000) ≤ zl_w x5 then
      some x5
    else
      some (-2000000000)
def f_Judge_worked (x0 : Int) (x1 : Int) (x3 : Int) : Option (Int) :=
  if zi_w x0 = 3 then
    zn (x1 + x3) fun v1 =>
    f_Judge_worked_118 v1
  else if zi_w x0 = 4 then
    zn (x1 - x3) fun v2 =>
    f_Judge_worked_118 v2
  else if zi_w x0 = 5 then
    zn (x1 * x3) fun v3 =>
    f_Judge_worked_118 v3
  else if zi_w x0 = 6 then
    if zl_w x3 ≠ zl_w 0 then
      if zl_w x3 = 0 then none else zn (zl_div x1 x3) fun v4 =>
      f_Judge_worked_118 v4
    else
      some (-2000000000)
  else if zi_w x0 = 7 then
    if zl_w x3 ≤ zl_w x1 then
      some 0
    else
      some 1
  else if zi_w x0 = 8 then
    if zl_w x1 ≤ zl_w x3 then
      some 0
    else
      some 1
  else if zi_w x0 = 9 then
    if zl_w x1 ≠ zl_w x3 then
      some 0
    else
      some 1
  else
    if zl_w x3 ≠ zl_w 0 then
      if zl_w x3 = 0 then none else zn (zl_div x1 x3) fun v5 =>
      f_Judge_worked_118 v5
    else
      some (-2000000000)
def f_Judge_push (x1 : Int) (i_piled : Int) (i_pile : Nat → Int) : Option (Int × (Nat → Int)) :=
  if zi_w 32 ≤ zi_w i_piled then
    some (i_piled, i_pile)
  else
    zs 32 i_pile i_piled x1 fun a1 =>
    zn (i_piled + 1) fun v2 =>
    some (v2, a1)
def f_Judge_hear_338 (i_words : Nat → Int) (i_hill_orders : Nat → Int) (k8 : Int → Int → Int → Int → Int → Int → Int → Int → (Nat → Int) → Option (Int × Int × Int × (Nat → Int))) (x1 : Int) (x2 : Int) (x3 : Int) (x4 : Int) (x5 : Int) (i_piled : Int) (i_tiring : Int) (i_barred : Int) (i_pile : Nat → Int) : Option (Int × Int × Int × (Nat → Int)) :=
  zn (x5 + 1) fun v1 =>
  k8 x1 x2 x3 x4 v1 i_piled i_tiring i_barred i_pile
def f_Judge_hear_177 (i_words : Nat → Int) (i_hill_orders : Nat → Int) (k8 : Int → Int → Int → Int → Int → Int → Int → Int → (Nat → Int) → Option (Int × Int × Int × (Nat → Int))) (x1 : Int) (x2 : Int) (x3 : Int) (x4 : Int) (x5 : Int) (s1 : Int) (i_piled : Int) (i_tiring : Int) (i_barred : Int) (i_pile : Nat → Int) : Option (Int × Int × Int × (Nat → Int)) :=
  zd2 (f_Judge_push s1 i_piled i_pile) fun v1 a2 =>
  f_Judge_hear_338 i_words i_hill_orders k8 x1 x2 x3 x4 x5 v1 i_tiring i_barred a2
def f_Judge_hear_176 (i_words : Nat → Int) (i_hill_orders : Nat → Int) (k8 : Int → Int → Int → Int → Int → Int → Int → Int → (Nat → Int) → Option (Int × Int × Int × (Nat → Int))) (x1 : Int) (x2 : Int) (x3 : Int) (x4 : Int) (x5 : Int) (i_piled : Int) (i_tiring : Int) (i_barred : Int) (i_pile : Nat → Int) : Option (Int × Int × Int × (Nat → Int)) :=
  f_Judge_hear_177 i_words i_hill_orders k8 x1 x2 x3 x4 x5 0 i_piled i_tiring i_barred i_pile
def f_Judge_hear_216 (i_words : Nat → Int) (i_hill_orders : Nat → Int) (k8 : Int → Int → Int → Int → Int → Int → Int → Int → (Nat → Int) → Option (Int × Int × Int × (Nat → Int))) (x1 : Int) (x2 : Int) (x3 : Int) (x4 : Int) (x5 : Int) (x7 : Int) (x8 : Int) (s0 : Int) (s1 : Int) (i_piled : Int) (i_tiring : Int) (i_barred : Int) (i_pile : Nat → Int) : Option (Int × Int × Int × (Nat → Int)) :=
  if zi_w s0 ≠ zi_w s1 then
    f_Judge_hear_338 i_words i_hill_orders k8 x1 x2 x3 x4 x5 i_piled i_tiring i_barred i_pile
  else
    zd2 (f_Judge_push x8 i_piled i_pile) fun v1 a2 =>
    f_Judge_hear_338 i_words i_hill_orders k8 x1 x2 x7 x4 x5 v1 i_tiring i_barred a2
def f_Judge_hear_264 (i_words : Nat → Int) (i_hill_orders : Nat → Int) (k8 : Int → Int → Int → Int → Int → Int → Int → Int → (Nat → Int) → Option (Int × Int × Int × (Nat → Int))) (x1 : Int) (x2 : Int) (x3 : Int) (x4 : Int) (x5 : Int) (s1 : Int) (i_piled : Int) (i_tiring : Int) (i_barred : Int) (i_pile : Nat → Int) : Option (Int × Int × Int × (Nat → Int)) :=
  f_Judge_hear_338 i_words i_hill_orders k8 x1 x2 x3 x4 x5 i_piled s1 i_barred i_pile
def f_Judge_hear_291 (i_words : Nat → Int) (i_hill_orders : Nat → Int) (k8 : Int → Int → Int → Int → Int → Int → Int → Int → (Nat → Int) → Option (Int × Int × Int × (Nat → Int))) (x1 : Int) (x2 : Int) (x3 : Int) (x4 : Int) (x5 : Int) (s1 : Int) (i_piled : Int) (i_tiring : Int) (i_barred : Int) (i_pile : Nat → Int) : Option (Int × Int × Int × (Nat → Int)) :=
  if ¬ (zi_w s1 = 0 ∨ zi_w s1 = 1) then none else
  f_Judge_hear_338 i_words i_hill_orders k8 x1 x2 x3 x4 x5 i_piled i_tiring s1 i_pile
def f_Judge_hear_286 (i_words : Nat → Int) (i_hill_orders : Nat → Int) (k8 : Int → Int → Int → Int → Int → Int → Int → Int → (Nat → Int) → Option (Int × Int × Int × (Nat → Int))) (x1 : Int) (x2 : Int) (x3 : Int) (x4 : Int) (x5 : Int) (i_piled : Int) (i_tiring : Int) (i_barred : Int) (i_pile : Nat → Int) : Option (Int × Int × Int × (Nat → Int)) :=
  f_Judge_hear_291 i_words i_hill_orders k8 x1 x2 x3 x4 x5 1 i_piled i_tiring i_barred i_pile
def f_Judge_hear_337 (i_words : Nat → Int) (i_hill_orders : Nat → Int) (k8 : Int → Int → Int → Int → Int → Int → Int → Int → (Nat → Int) → Option (Int × Int × Int × (Nat → Int))) (x1 : Int) (x2 : Int) (x4 : Int) (x5 : Int) (s0 : Int) (i_piled : Int) (i_tiring : Int) (i_barred : Int) (i_pile : Nat → Int) : Option (Int × Int × Int × (Nat → Int)) :=
  f_Judge_hear_338 i_words i_hill_orders k8 x1 x2 s0 x4 x5 i_piled i_tiring i_barred i_pile
def f_Judge_hear_8_b (i_words : Nat → Int) (i_hill_orders : Nat → Int) (k8 : Int → Int → Int → Int → Int → Int → Int → Int → (Nat → Int) → Option (Int × Int × Int × (Nat → Int))) (x1 : Int) (x2 : Int) (x3 : Int) (x4 : Int) (x5 : Int) (i_piled : Int) (i_tiring : Int) (i_barred : Int) (i_pile : Nat → Int) : Option (Int × Int × Int × (Nat → Int)) :=
  if zi_w x2 ≤ zi_w x5 then
    some (i_piled, i_tiring, i_barred, i_pile)
  else
    if zi_w x3 ≤ zi_w x5 then
      zn (x1 + x5) fun v1 =>
      zg 2544 i_hill_orders v1 fun v2 =>
      zn (zi_and v2 15) fun v3 =>
      zn (x1 + x5) fun v4 =>
      zg 2544 i_hill_orders v4 fun v5 =>
      zn (zi_shr v5 4) fun v6 =>
      if zi_w v3 = 0 then
        f_Judge_hear_338 i_words i_hill_orders k8 x1 x2 x3 v6 x5 0 i_tiring i_barred i_pile
      else if zi_w v3 = 1 then
        zd2 (f_Judge_push v6 i_piled i_pile) fun v7 a8 =>
        f_Judge_hear_338 i_words i_hill_orders k8 x1 x2 x3 x4 x5 v7 i_tiring i_barred a8
      else if zi_w v3 = 2 then
        if zi_w v6 < 0 then
          f_Judge_hear_176 i_words i_hill_orders k8 x1 x2 x3 x4 x5 i_piled i_tiring i_barred i_pile
        else
          if zi_w 8 ≤ zi_w v6 then
            f_Judge_hear_176 i_words i_hill_orders k8 x1 x2 x3 x4 x5 i_piled i_tiring i_barred i_pile
          else
            zg 8 i_words v6 fun v9 =>
            f_Judge_hear_177 i_words i_hill_orders k8 x1 x2 x3 x4 x5 v9 i_piled i_tiring i_barred i_pile
      else if zi_w v3 = 3 then
        zd2 (f_Judge_pop i_pile i_piled) fun v10 v11 =>
        zd2 (f_Judge_pop i_pile v11) fun v12 v13 =>
        zn (zi_w v12) fun v14 =>
        zn (zi_w v10) fun v15 =>
        zd1 (f_Judge_worked v3 v14 v15) fun v16 =>
        zd2 (f_Judge_push v16 v13 i_pile) fun v17 a18 =>
        if zi_w v16 ≠ zi_w (-2000000000) then
          f_Judge_hear_337 i_words i_hill_orders k8 x1 x2 x4 x5 x3 v17 i_tiring i_barred a18
        else
          f_Judge_hear_337 i_words i_hill_orders k8 x1 x2 x4 x5 x4 v17 i_tiring i_barred a18
      else if zi_w v3 = 4 then
        zd2 (f_Judge_pop i_pile i_piled) fun v19 v20 =>
        zd2 (f_Judge_pop i_pile v20) fun v21 v22 =>
        zn (zi_w v21) fun v23 =>
        zn (zi_w v19) fun v24 =>
        zd1 (f_Judge_worked v3 v23 v24) fun v25 =>
        zd2 (f_Judge_push v25 v22 i_pile) fun v26 a27 =>
        if zi_w v25 ≠ zi_w (-2000000000) then
          f_Judge_hear_337 i_words i_hill_orders k8 x1 x2 x4 x5 x3 v26 i_tiring i_barred a27
        else
          f_Judge_hear_337 i_words i_hill_orders k8 x1 x2 x4 x5 x4 v26 i_tiring i_barred a27
      else if zi_w v3 = 5 then
        zd2 (f_Judge_pop i_pile i_piled) fun v28 v29 =>
        zd2 (f_Judge_pop i_pile v29) fun v30 v31 =>
        zn (zi_w v30) fun v32 =>
        zn (zi_w v28) fun v33 =>
        zd1 (f_Judge_worked v3 v32 v33) fun v34 =>
        zd2 (f_Judge_push v34 v31 i_pile) fun v35 a36 =>
        if zi_w v34 ≠ zi_w (-2000000000) then
          f_Judge_hear_337 i_words i_hill_orders k8 x1 x2 x4 x5 x3 v35 i_tiring i_barred a36
        else
          f_Judge_hear_337 i_words i_hill_orders k8 x1 x2 x4 x5 x4 v35 i_tiring i_barred a36
      else if zi_w v3 = 6 then
        zd2 (f_Judge_pop i_pile i_piled) fun v37 v38 =>
        zd2 (f_Judge_pop i_pile v38) fun v39 v40 =>
        zn (zi_w v39) fun v41 =>
        zn (zi_w v37) fun v42 =>
        zd1 (f_Judge_worked v3 v41 v42) fun v43 =>
        zd2 (f_Judge_push v43 v40 i_pile) fun v44 a45 =>
        if zi_w v43 ≠ zi_w (-2000000000) then
          f_Judge_hear_337 i_words i_hill_orders k8 x1 x2 x4 x5 x3 v44 i_tiring i_barred a45
        else
          f_Judge_hear_337 i_words i_hill_orders k8 x1 x2 x4 x5 x4 v44 i_tiring i_barred a45
      else if zi_w v3 = 7 then
        zd2 (f_Judge_pop i_pile i_piled) fun v46 v47 =>
        zd2 (f_Judge_pop i_pile v47) fun v48 v49 =>
        zn (zi_w v48) fun v50 =>
        zn (zi_w v46) fun v51 =>
        zd1 (f_Judge_worked v3 v50 v51) fun v52 =>
        zd2 (f_Judge_push v52 v49 i_pile) fun v53 a54 =>
        if zi_w v52 ≠ zi_w (-2000000000) then
          f_Judge_hear_337 i_words i_hill_orders k8 x1 x2 x4 x5 x3 v53 i_tiring i_barred a54
        else
          f_Judge_hear_337 i_words i_hill_orders k8 x1 x2 x4 x5 x4 v53 i_tiring i_barred a54
      else if zi_w v3 = 8 then
        zd2 (f_Judge_pop i_pile i_piled) fun v55 v56 =>
        zd2 (f_Judge_pop i_pile v56) fun v57 v58 =>
        zn (zi_w v57) fun v59 =>
        zn (zi_w v55) fun v60 =>
        zd1 (f_Judge_worked v3 v59 v60) fun v61 =>
        zd2 (f_Judge_push v61 v58 i_pile) fun v62 a63 =>
        if zi_w v61 ≠ zi_w (-2000000000) then
          f_Judge_hear_337 i_words i_hill_orders k8 x1 x2 x4 x5 x3 v62 i_tiring i_barred a63
        else
          f_Judge_hear_337 i_words i_hill_orders k8 x1 x2 x4 x5 x4 v62 i_tiring i_barred a63
      else if zi_w v3 = 9 then
        zd2 (f_Judge_pop i_pile i_piled) fun v64 v65 =>
        zd2 (f_Judge_pop i_pile v65) fun v66 v67 =>
        zn (zi_w v66) fun v68 =>
        zn (zi_w v64) fun v69 =>
        zd1 (f_Judge_worked v3 v68 v69) fun v70 =>
        zd2 (f_Judge_push v70 v67 i_pile) fun v71 a72 =>
        if zi_w v70 ≠ zi_w (-2000000000) then
          f_Judge_hear_337 i_words i_hill_orders k8 x1 x2 x4 x5 x3 v71 i_tiring i_barred a72
        else
          f_Judge_hear_337 i_words i_hill_orders k8 x1 x2 x4 x5 x4 v71 i_tiring i_barred a72
      else if zi_w v3 = 10 then
        zd2 (f_Judge_pop i_pile i_piled) fun v73 v74 =>
        zn (1 - v73) fun v75 =>
        zd2 (f_Judge_push v75 v74 i_pile) fun v76 a77 =>
        f_Judge_hear_338 i_words i_hill_orders k8 x1 x2 x3 x4 x5 v76 i_tiring i_barred a77
      else if zi_w v3 = 11 then
        zd2 (f_Judge_pop i_pile i_piled) fun v78 v79 =>
        if zi_w v3 ≠ zi_w 12 then
          f_Judge_hear_216 i_words i_hill_orders k8 x1 x2 x3 x4 x5 v6 v78 v78 0 v79 i_tiring i_barred i_pile
        else
          f_Judge_hear_216 i_words i_hill_orders k8 x1 x2 x3 x4 x5 v6 v78 v78 1 v79 i_tiring i_barred i_pile
      else if zi_w v3 = 12 then
        zd2 (f_Judge_pop i_pile i_piled) fun v80 v81 =>
        if zi_w v3 ≠ zi_w 12 then
          f_Judge_hear_216 i_words i_hill_orders k8 x1 x2 x3 x4 x5 v6 v80 v80 0 v81 i_tiring i_barred i_pile
        else
          f_Judge_hear_216 i_words i_hill_orders k8 x1 x2 x3 x4 x5 v6 v80 v80 1 v81 i_tiring i_barred i_pile
      else if zi_w v3 = 13 then
        zd2 (f_Judge_pop i_pile i_piled) fun v82 v83 =>
        if zi_w v82 ≠ zi_w 1 then
          f_Judge_hear_264 i_words i_hill_orders k8 x1 x2 x3 x4 x5 i_tiring v83 i_tiring i_barred i_pile
        else
          zd2 (f_Judge_pop i_pile v83) fun v84 v85 =>
          zn (zi_min 99 v84) fun v86 =>
          zn (zi_max 0 v86) fun v87 =>
          f_Judge_hear_264 i_words i_hill_orders k8 x1 x2 x3 x4 x5 v87 v85 i_tiring i_barred i_pile
      else if zi_w v3 = 14 then
        zd2 (f_Judge_pop i_pile i_piled) fun v88 v89 =>
        if zi_w v88 = zi_w 1 then
          f_Judge_hear_286 i_words i_hill_orders k8 x1 x2 x3 x4 x5 v89 i_tiring i_barred i_pile
        else
          if zi_w i_barred = 0 then
            f_Judge_hear_291 i_words i_hill_orders k8 x1 x2 x3 x4 x5 0 v89 i_tiring i_barred i_pile
          else
            f_Judge_hear_286 i_words i_hill_orders k8 x1 x2 x3 x4 x5 v89 i_tiring i_barred i_pile
      else
        zd2 (f_Judge_pop i_pile i_piled) fun v90 v91 =>
        zd2 (f_Judge_pop i_pile v91) fun v92 v93 =>
        zn (zi_w v92) fun v94 =>
        zn (zi_w v90) fun v95 =>
        zd1 (f_Judge_worked v3 v94 v95) fun v96 =>
        zd2 (f_Judge_push v96 v93 i_pile) fun v97 a98 =>
        if zi_w v96 ≠ zi_w (-2000000000) then
          f_Judge_hear_337 i_words i_hill_orders k8 x1 x2 x4 x5 x3 v97 i_tiring i_barred a98
        else
          f_Judge_hear_337 i_words i_hill_orders k8 x1 x2 x4 x5 x4 v97 i_tiring i_barred a98
    else
      f_Judge_hear_338 i_words i_hill_orders k8 x1 x2 x3 x4 x5 i_piled i_tiring i_barred i_pile
def f_Judge_hear_8 (i_words : Nat → Int) (i_hill_orders : Nat → Int) : Nat → Int → Int → Int → Int → Int → Int → Int → Int → (Nat → Int) → Option (Int × Int × Int × (Nat → Int))
  | 0 => fun _ _ _ _ _ _ _ _ _ => none
  | n + 1 => fun y0 y1 y2 y3 y4 y5 y6 y7 y8 => f_Judge_hear_8_b i_words i_hill_orders (f_Judge_hear_8 i_words i_hill_orders n) y0 y1 y2 y3 y4 y5 y6 y7 y8
def f_Judge_hear (x1 : Int) (x2 : Int) (i_words : Nat → Int) (i_hill_orders : Nat → Int) (i_piled : Int) (i_tiring : Int) (i_barred : Int) (i_pile : Nat → Int) : Option (Int × Int × Int × (Nat → Int)) :=
  f_Judge_hear_8 i_words i_hill_orders zfu x1 x2 0 0 0 i_piled i_tiring i_barred i_pile
def f_Judge_effort_182 (i_hill_children : Int) (i_hill_laws : Int) (i_hill_inForce : Int) (i_hill_strengths : Nat → Int) (i_hill_expelled : Nat → Int) (i_hill_terms : Nat → Int) (i_hill_orders : Nat → Int) (i_hill_ordered : Nat → Int) (i_piled : Int) (i_tiring : Int) (i_barred : Int) (i_words : Nat → Int) (i_pile : Nat → Int) : Option (Int × Int × Int × Int × (Nat → Int) × (Nat → Int)) :=
  if zi_w i_barred = 0 then
    some (i_tiring, i_piled, i_tiring, i_barred, i_words, i_pile)
  else
    some ((-1), i_piled, i_tiring, i_barred, i_words, i_pile)
def f_Judge_effort (x1 : Int) (x2 : Int) (x3 : Int) (x4 : Int) (x5 : Int) (x6 : Int) (i_hill_children : Int) (i_hill_laws : Int) (i_hill_inForce : Int) (i_hill_strengths : Nat → Int) (i_hill_expelled : Nat → Int) (i_hill_terms : Nat → Int) (i_hill_orders : Nat → Int) (i_hill_ordered : Nat → Int) (i_piled : Int) (i_tiring : Int) (i_barred : Int) (i_words : Nat → Int) (i_pile : Nat → Int) : Option (Int × Int × Int × Int × (Nat → Int) × (Nat → Int)) :=
  if zi_w x5 < zi_w 1 then
    some ((-1), i_piled, i_tiring, i_barred, i_words, i_pile)
  else
    if zi_w 10 ≤ zi_w x6 then
      some ((-1), i_piled, i_tiring, i_barred, i_words, i_pile)
    else
      if zi_w x2 = zi_w x3 then
        some ((-1), i_piled, i_tiring, i_barred, i_words, i_pile)
      else
        zd1 (f_Hill_isAble x1 x4 i_hill_children i_hill_strengths i_hill_expelled) fun v1 =>
        if zi_w v1 ≠ 0 then
          zn (x2 - x3) fun v2 =>
          zn (zi_abs v2) fun v3 =>
          if zi_w i_hill_inForce < 0 then
            f_Judge_effort_182 i_hill_children i_hill_laws i_hill_inForce i_hill_strengths i_hill_expelled i_hill_terms i_hill_orders i_hill_ordered i_piled v3 0 i_words i_pile
          else
            if zi_w i_hill_laws ≤ zi_w i_hill_inForce then
              f_Judge_effort_182 i_hill_children i_hill_laws i_hill_inForce i_hill_strengths i_hill_expelled i_hill_terms i_hill_orders i_hill_ordered i_piled v3 0 i_words i_pile
            else
              zs 8 i_words 0 x1 fun a4 =>
              zg 6 i_hill_strengths x1 fun v5 =>
              zs 8 a4 1 v5 fun a6 =>
              zs 8 a6 2 x4 fun a7 =>
              zs 8 a7 3 x2 fun a8 =>
              zs 8 a8 4 x3 fun a9 =>
              zs 8 a9 5 x5 fun a10 =>
              zs 8 a10 6 x6 fun a11 =>
              zg 4 i_hill_terms 0 fun v12 =>
              zs 8 a11 7 v12 fun a13 =>
              zn (i_hill_inForce * 424) fun v14 =>
              zg 6 i_hill_ordered i_hill_inForce fun v15 =>
              zd4 (f_Judge_hear v14 v15 a13 i_hill_orders i_piled v3 0 i_pile) fun v16 v17 v18 a19 =>
              f_Judge_effort_182 i_hill_children i_hill_laws i_hill_inForce i_hill_strengths i_hill_expelled i_hill_terms i_hill_orders i_hill_ordered v16 v17 v18 a13 a19
        else
          some ((-1), i_piled, i_tiring, i_barred, i_words, i_pile)
def f_Judge_effortOn (x2 : Int) (x3 : Int) (x4 : Int) (i_a1_many : Int) (i_hill_children : Int) (i_hill_laws : Int) (i_hill_inForce : Int) (i_a1_heights : Nat → Int) (i_a1_weights : Nat → Int) (i_hill_strengths : Nat → Int) (i_hill_expelled : Nat → Int) (i_hill_terms : Nat → Int) (i_hill_orders : Nat → Int) (i_hill_ordered : Nat → Int) (i_piled : Int) (i_tiring : Int) (i_barred : Int) (i_words : Nat → Int) (i_pile : Nat → Int) : Option (Int × Int × Int × Int × (Nat → Int) × (Nat → Int)) :=
  zd1 (f_Columns_top x3 i_a1_many i_a1_heights i_a1_weights) fun v1 =>
  zd1 (f_Columns_high x3 i_a1_many i_a1_heights) fun v2 =>
  zd1 (f_Columns_high x4 i_a1_many i_a1_heights) fun v3 =>
  zd6 (f_Judge_effort x2 x3 x4 v1 v2 v3 i_hill_children i_hill_laws i_hill_inForce i_hill_strengths i_hill_expelled i_hill_terms i_hill_orders i_hill_ordered i_piled i_tiring i_barred i_words i_pile) fun v4 v5 v6 v7 a8 a9 =>
  some (v4, v5, v6, v7, a8, a9)
def f_HS_knows (x1 : Int) (x2 : Int) (x3 : Int) (i_hill_children : Int) (i_hill_columns_many : Int) : Option (Int) :=
  zd1 (f_Hill_hasChild x1 i_hill_children) fun v1 =>
  if zi_w v1 = 0 then
    some 0
  else
    zd1 (f_Columns_has x2 i_hill_columns_many) fun v2 =>
    if zi_w v2 = 0 then
      some 0
    else
      zd1 (f_Columns_has x3 i_hill_columns_many) fun v3 =>
      if zi_w v3 = 0 then
        some 0
      else
        some 1
def f_HS_can (x1 : Int) (x2 : Int) (x3 : Int) (i_hill_children : Int) (i_hill_laws : Int) (i_hill_inForce : Int) (i_hill_columns_many : Int) (i_hill_strengths : Nat → Int) (i_hill_expelled : Nat → Int) (i_hill_terms : Nat → Int) (i_hill_orders : Nat → Int) (i_hill_ordered : Nat → Int) (i_hill_columns_heights : Nat → Int) (i_hill_columns_weights : Nat → Int) (i_judge_piled : Int) (i_judge_tiring : Int) (i_judge_barred : Int) (i_judge_words : Nat → Int) (i_judge_pile : Nat → Int) : Option (Int × Int × Int × Int × (Nat → Int) × (Nat → Int)) :=
  zd1 (f_HS_knows x1 x2 x3 i_hill_children i_hill_columns_many) fun v1 =>
  if zi_w v1 ≠ 0 then
    zd6 (f_Judge_effortOn x1 x2 x3 i_hill_columns_many i_hill_children i_hill_laws i_hill_inForce i_hill_columns_heights i_hill_columns_weights i_hill_strengths i_hill_expelled i_hill_terms i_hill_orders i_hill_ordered i_judge_piled i_judge_tiring i_judge_barred i_judge_words i_judge_pile) fun v2 v3 v4 v5 a6 a7 =>
    if zi_w v2 ≠ zi_w (-1) then
      some (1, v3, v4, v5, a6, a7)
    else
      some (0, v3, v4, v5, a6, a7)
  else
    some ((-1), i_judge_piled, i_judge_tiring, i_judge_barred, i_judge_words, i_judge_pile)
def f_HS_tires (x1 : Int) (x2 : Int) (x3 : Int) (i_hill_children : Int) (i_hill_laws : Int) (i_hill_inForce : Int) (i_hill_columns_many : Int) (i_hill_strengths : Nat → Int) (i_hill_expelled : Nat → Int) (i_hill_terms : Nat → Int) (i_hill_orders : Nat → Int) (i_hill_ordered : Nat → Int) (i_hill_columns_heights : Nat → Int) (i_hill_columns_weights : Nat → Int) (i_judge_piled : Int) (i_judge_tiring : Int) (i_judge_barred : Int) (i_judge_words : Nat → Int) (i_judge_pile : Nat → Int) : Option (Int × Int × Int × Int × (Nat → Int) × (Nat → Int)) :=
  zd1 (f_HS_knows x1 x2 x3 i_hill_children i_hill_columns_many) fun v1 =>
  if zi_w v1 = 0 then
    some ((-1), i_judge_piled, i_judge_tiring, i_judge_barred, i_judge_words, i_judge_pile)
  else
    zd6 (f_Judge_effortOn x1 x2 x3 i_hill_columns_many i_hill_children i_hill_laws i_hill_inForce i_hill_columns_heights i_hill_columns_weights i_hill_strengths i_hill_expelled i_hill_terms i_hill_orders i_hill_ordered i_judge_piled i_judge_tiring i_judge_barred i_judge_words i_judge_pile) fun v2 v3 v4 v5 a6 a7 =>
    some (v2, v3, v4, v5, a6, a7)
def f_Columns_move (x1 : Int) (x2 : Int) (i_many : Int) (i_heights : Nat → Int) (i_weights : Nat → Int) : Option ((Nat → Int) × (Nat → Int)) :=
  zd1 (f_Columns_high x1 i_many i_heights) fun v1 =>
  if zi_w v1 ≤ 0 then
    some (i_heights, i_weights)
  else
    zd1 (f_Columns_top x1 i_many i_heights i_weights) fun v2 =>
    zd3 (f_Columns_put x2 v2 i_many i_heights i_weights) fun v3 a4 a5 =>
    if zi_w v3 = 0 then
      some (a4, a5)
    else
      zg 12 a4 x1 fun v6 =>
      zn (v6 - 1) fun v7 =>
      zs 12 a4 x1 v7 fun a8 =>
      some (a8, a5)
def f_HS_carry (x1 : Int) (x2 : Int) (x3 : Int) (i_hill_children : Int) (i_hill_laws : Int) (i_hill_inForce : Int) (i_hill_columns_many : Int) (i_hill_strengths : Nat → Int) (i_hill_expelled : Nat → Int) (i_hill_terms : Nat → Int) (i_hill_orders : Nat → Int) (i_hill_ordered : Nat → Int) (i_latestStatus : Int) (i_hill_changes : Int) (i_refusals : Nat → Int) (i_judge_piled : Int) (i_judge_tiring : Int) (i_judge_barred : Int) (i_judge_words : Nat → Int) (i_judge_pile : Nat → Int) (i_hill_columns_heights : Nat → Int) (i_hill_columns_weights : Nat → Int) : Option (Int × Int × Int × (Nat → Int) × Int × Int × Int × (Nat → Int) × (Nat → Int) × (Nat → Int) × (Nat → Int)) :=
  zd1 (f_HS_knows x1 x2 x3 i_hill_children i_hill_columns_many) fun v1 =>
  if zi_w v1 ≠ 0 then
    zd6 (f_Judge_effortOn x1 x2 x3 i_hill_columns_many i_hill_children i_hill_laws i_hill_inForce i_hill_columns_heights i_hill_columns_weights i_hill_strengths i_hill_expelled i_hill_terms i_hill_orders i_hill_ordered i_judge_piled i_judge_tiring i_judge_barred i_judge_words i_judge_pile) fun v2 v3 v4 v5 a6 a7 =>
    if zi_w v2 ≠ zi_w (-1) then
      zd1 (f_Columns_top x2 i_hill_columns_many i_hill_columns_heights i_hill_columns_weights) fun v8 =>
      zd2 (f_Columns_move x2 x3 i_hill_columns_many i_hill_columns_heights i_hill_columns_weights) fun a9 a10 =>
      zd3 (f_HS_accept v8 i_latestStatus i_hill_changes) fun v11 v12 v13 =>
      some (v11, v12, v13, i_refusals, v3, v4, v5, a6, a7, a9, a10)
    else
      zd3 (f_HS_refuse (-3) i_latestStatus i_refusals) fun v14 v15 a16 =>
      some (v14, v15, i_hill_changes, a16, v3, v4, v5, a6, a7, i_hill_columns_heights, i_hill_columns_weights)
  else
    zd3 (f_HS_refuse (-2) i_latestStatus i_refusals) fun v17 v18 a19 =>
    some (v17, v18, i_hill_changes, a19, i_judge_piled, i_judge_tiring, i_judge_barred, i_judge_words, i_judge_pile, i_hill_columns_heights, i_hill_columns_weights)
def f_HS_exchange_25 (i_hill_children : Int) (i_hill_laws : Int) (i_hill_inForce : Int) (i_hill_columns_many : Int) (i_hill_strengths : Nat → Int) (i_hill_expelled : Nat → Int) (i_hill_terms : Nat → Int) (i_hill_orders : Nat → Int) (i_hill_ordered : Nat → Int) (i_latestStatus : Int) (i_hill_changes : Int) (i_refusals : Nat → Int) (i_judge_piled : Int) (i_judge_tiring : Int) (i_judge_barred : Int) (i_judge_words : Nat → Int) (i_judge_pile : Nat → Int) (i_hill_columns_heights : Nat → Int) (i_hill_columns_weights : Nat → Int) : Option (Int × Int × Int × (Nat → Int) × Int × Int × Int × (Nat → Int) × (Nat → Int) × (Nat → Int) × (Nat → Int)) :=
  zd3 (f_HS_refuse (-2) i_latestStatus i_refusals) fun v1 v2 a3 =>
  some (v1, v2, i_hill_changes, a3, i_judge_piled, i_judge_tiring, i_judge_barred, i_judge_words, i_judge_pile, i_hill_columns_heights, i_hill_columns_weights)
def f_HS_exchange_141 (i_hill_children : Int) (i_hill_laws : Int) (i_hill_inForce : Int) (i_hill_columns_many : Int) (i_hill_strengths : Nat → Int) (i_hill_expelled : Nat → Int) (i_hill_terms : Nat → Int) (i_hill_orders : Nat → Int) (i_hill_ordered : Nat → Int) (x2 : Int) (x3 : Int) (i_latestStatus : Int) (i_hill_changes : Int) (i_refusals : Nat → Int) (i_judge_piled : Int) (i_judge_tiring : Int) (i_judge_barred : Int) (i_judge_words : Nat → Int) (i_judge_pile : Nat → Int) (i_hill_columns_heights : Nat → Int) (i_hill_columns_weights : Nat → Int) : Option (Int × Int × Int × (Nat → Int) × Int × Int × Int × (Nat → Int) × (Nat → Int) × (Nat → Int) × (Nat → Int)) :=
  zd2 (f_Columns_move x3 x2 i_hill_columns_many i_hill_columns_heights i_hill_columns_weights) fun a1 a2 =>
  zd3 (f_HS_refuse (-3) i_latestStatus i_refusals) fun v3 v4 a5 =>
  some (v3, v4, i_hill_changes, a5, i_judge_piled, i_judge_tiring, i_judge_barred, i_judge_words, i_judge_pile, a1, a2)
def f_HS_exchange (x1 : Int) (x2 : Int) (x3 : Int) (x4 : Int) (i_hill_children : Int) (i_hill_laws : Int) (i_hill_inForce : Int) (i_hill_columns_many : Int) (i_hill_strengths : Nat → Int) (i_hill_expelled : Nat → Int) (i_hill_terms : Nat → Int) (i_hill_orders : Nat → Int) (i_hill_ordered : Nat → Int) (i_latestStatus : Int) (i_hill_changes : Int) (i_refusals : Nat → Int) (i_judge_piled : Int) (i_judge_tiring : Int) (i_judge_barred : Int) (i_judge_words : Nat → Int) (i_judge_pile : Nat → Int) (i_hill_columns_heights : Nat → Int) (i_hill_columns_weights : Nat → Int) : Option (Int × Int × Int × (Nat → Int) × Int × Int × Int × (Nat → Int) × (Nat → Int) × (Nat → Int) × (Nat → Int)) :=
  zd1 (f_HS_knows x1 x2 x3 i_hill_children i_hill_columns_many) fun v1 =>
  if zi_w v1 = 0 then
    f_HS_exchange_25 i_hill_children i_hill_laws i_hill_inForce i_hill_columns_many i_hill_strengths i_hill_expelled i_hill_terms i_hill_orders i_hill_ordered i_latestStatus i_hill_changes i_refusals i_judge_piled i_judge_tiring i_judge_barred i_judge_words i_judge_pile i_hill_columns_heights i_hill_columns_weights
  else
    zd1 (f_Columns_has x4 i_hill_columns_many) fun v2 =>
    if zi_w v2 ≠ 0 then
      zd6 (f_Judge_effortOn x1 x2 x3 i_hill_columns_many i_hill_children i_hill_laws i_hill_inForce i_hill_columns_heights i_hill_columns_weights i_hill_strengths i_hill_expelled i_hill_terms i_hill_orders i_hill_ordered i_judge_piled i_judge_tiring i_judge_barred i_judge_words i_judge_pile) fun v3 v4 v5 v6 a7 a8 =>
      if zi_w v3 ≠ zi_w (-1) then
        zd1 (f_Columns_top x2 i_hill_columns_many i_hill_columns_heights i_hill_columns_weights) fun v9 =>
        zd2 (f_Columns_move x2 x3 i_hill_columns_many i_hill_columns_heights i_hill_columns_weights) fun a10 a11 =>
        zd1 (f_Columns_top x4 i_hill_columns_many a10 a11) fun v12 =>
        zn (v9 - v12) fun v13 =>
        zn (zi_abs v13) fun v14 =>
        zd6 (f_Judge_effortOn x1 x4 x2 i_hill_columns_many i_hill_children i_hill_laws i_hill_inForce a10 a11 i_hill_strengths i_hill_expelled i_hill_terms i_hill_orders i_hill_ordered v4 v5 v6 a7 a8) fun v15 v16 v17 v18 a19 a20 =>
        if zi_w v15 = zi_w (-1) then
          f_HS_exchange_141 i_hill_children i_hill_laws i_hill_inForce i_hill_columns_many i_hill_strengths i_hill_expelled i_hill_terms i_hill_orders i_hill_ordered x2 x3 i_latestStatus i_hill_changes i_refusals v16 v17 v18 a19 a20 a10 a11
        else
          zg 4 i_hill_terms 3 fun v21 =>
          if zi_w v21 ≤ zi_w v14 then
            zd2 (f_Columns_move x4 x2 i_hill_columns_many a10 a11) fun a22 a23 =>
            zd3 (f_HS_accept v14 i_latestStatus i_hill_changes) fun v24 v25 v26 =>
            some (v24, v25, v26, i_refusals, v16, v17, v18, a19, a20, a22, a23)
          else
            f_HS_exchange_141 i_hill_children i_hill_laws i_hill_inForce i_hill_columns_many i_hill_strengths i_hill_expelled i_hill_terms i_hill_orders i_hill_ordered x2 x3 i_latestStatus i_hill_changes i_refusals v16 v17 v18 a19 a20 a10 a11
      else
        zd3 (f_HS_refuse (-3) i_latestStatus i_refusals) fun v27 v28 a29 =>
        some (v27, v28, i_hill_changes, a29, v4, v5, v6, a7, a8, i_hill_columns_heights, i_hill_columns_weights)
    else
      f_HS_exchange_25 i_hill_children i_hill_laws i_hill_inForce i_hill_columns_many i_hill_strengths i_hill_expelled i_hill_terms i_hill_orders i_hill_ordered i_latestStatus i_hill_changes i_refusals i_judge_piled i_judge_tiring i_judge_barred i_judge_words i_judge_pile i_hill_columns_heights i_hill_columns_weights
def f_Columns_isSteep (x1 : Int) (x2 : Int) (x3 : Int) (i_many : Int) (i_heights : Nat → Int) : Option (Int) :=
  zd1 (f_Columns_has x1 i_many) fun v1 =>
  if zi_w v1 = 0 then
    some 0
  else
    zd1 (f_Columns_has x2 i_many) fun v2 =>
    if zi_w v2 = 0 then
      some 0
    else
      zg 12 i_heights x1 fun v3 =>
      zg 12 i_heights x2 fun v4 =>
      zn (v3 - v4) fun v5 =>
      if zi_w v5 ≤ zi_w x3 then
        some 0
      else
        some 1
def f_Columns_lowestSteep_2_b (i_many : Int) (i_heights : Nat → Int) (k2 : Int → Int → Option (Int)) (x1 : Int) (x2 : Int) : Option (Int) :=
  if zi_w i_many ≤ zi_w x2 then
    some (-1)
  else
    zn (x2 - 1) fun v1 =>
    zd1 (f_Columns_isSteep x2 v1 x1 i_many i_heights) fun v2 =>
    if zi_w v2 ≠ 0 then
      some x2
    else
      zn (x2 + 1) fun v3 =>
      zd1 (f_Columns_isSteep x2 v3 x1 i_many i_heights) fun v4 =>
      if zi_w v4 = 0 then
        zn (x2 + 1) fun v5 =>
        k2 x1 v5
      else
        some x2
def f_Columns_lowestSteep_2 (i_many : Int) (i_heights : Nat → Int) : Nat → Int → Int → Option (Int)
  | 0 => fun _ _ => none
  | n + 1 => fun y0 y1 => f_Columns_lowestSteep_2_b i_many i_heights (f_Columns_lowestSteep_2 i_many i_heights n) y0 y1
def f_Columns_lowestSteep (x1 : Int) (i_many : Int) (i_heights : Nat → Int) : Option (Int) :=
  f_Columns_lowestSteep_2 i_many i_heights zfu x1 0
def f_HS_steep (i_hill_columns_many : Int) (i_hill_terms : Nat → Int) (i_hill_columns_heights : Nat → Int) : Option (Int) :=
  zg 4 i_hill_terms 2 fun v1 =>
  zd1 (f_Columns_lowestSteep v1 i_hill_columns_many i_hill_columns_heights) fun v2 =>
  some v2
def f_Columns_settle_45 (i_many : Int) (k2 : Int → Int → (Nat → Int) → (Nat → Int) → Option (Int × (Nat → Int) × (Nat → Int))) (x1 : Int) (x2 : Int) (s1 : Int) (s2 : Int) (i_heights : Nat → Int) (i_weights : Nat → Int) : Option (Int × (Nat → Int) × (Nat → Int)) :=
  zd2 (f_Columns_move s1 s2 i_many i_heights i_weights) fun a1 a2 =>
  zn (x2 + 1) fun v3 =>
  k2 x1 v3 a1 a2
def f_Columns_settle_2_b (i_many : Int) (k2 : Int → Int → (Nat → Int) → (Nat → Int) → Option (Int × (Nat → Int) × (Nat → Int))) (x1 : Int) (x2 : Int) (i_heights : Nat → Int) (i_weights : Nat → Int) : Option (Int × (Nat → Int) × (Nat → Int)) :=
  if zi_w 600 ≤ zi_w x2 then
    some (600, i_heights, i_weights)
  else
    zd1 (f_Columns_lowestSteep x1 i_many i_heights) fun v1 =>
    if zi_w v1 ≠ zi_w (-1) then
      zn (v1 - 1) fun v2 =>
      zd1 (f_Columns_isSteep v1 v2 x1 i_many i_heights) fun v3 =>
      if zi_w v3 = 0 then
        zn (v1 + 1) fun v4 =>
        f_Columns_settle_45 i_many k2 x1 x2 v1 v4 i_heights i_weights
      else
        zn (v1 - 1) fun v5 =>
        f_Columns_settle_45 i_many k2 x1 x2 v1 v5 i_heights i_weights
    else
      some (x2, i_heights, i_weights)
def f_Columns_settle_2 (i_many : Int) : Nat → Int → Int → (Nat → Int) → (Nat → Int) → Option (Int × (Nat → Int) × (Nat → Int))
  | 0 => fun _ _ _ _ => none
  | n + 1 => fun y0 y1 y2 y3 => f_Columns_settle_2_b i_many (f_Columns_settle_2 i_many n) y0 y1 y2 y3
def f_Columns_settle (x1 : Int) (i_many : Int) (i_heights : Nat → Int) (i_weights : Nat → Int) : Option (Int × (Nat → Int) × (Nat → Int)) :=
  f_Columns_settle_2 i_many zfu x1 0 i_heights i_weights
def f_HS_slide (i_hill_columns_many : Int) (i_hill_terms : Nat → Int) (i_hill_changes : Int) (i_hill_columns_heights : Nat → Int) (i_hill_columns_weights : Nat → Int) : Option (Int × Int × (Nat → Int) × (Nat → Int)) :=
  zn (i_hill_changes + 1) fun v1 =>
  zg 4 i_hill_terms 2 fun v2 =>
  zd3 (f_Columns_settle v2 i_hill_columns_many i_hill_columns_heights i_hill_columns_weights) fun v3 a4 a5 =>
  some (v3, v1, a4, a5)
def f_Hill_hasParish (x1 : Int) (i_parishes : Int) : Option (Int) :=
  if zi_w x1 < 0 then
    some 0
  else
    if zi_w i_parishes ≤ zi_w x1 then
      some 0
    else
      some 1
def f_Columns_shadeAt_5_b (i_many : Int) (i_heights : Nat → Int) (k5 : Int → Int → Int → Int → Option (Int)) (x1 : Int) (x2 : Int) (x3 : Int) (x4 : Int) : Option (Int) :=
  if zi_w i_many ≤ zi_w x4 then
    some x3
  else
    zg 12 i_heights x4 fun v1 =>
    zn (x4 - x1) fun v2 =>
    zn (zi_abs v2) fun v3 =>
    zn (x2 * v3) fun v4 =>
    zn (v1 - v4) fun v5 =>
    zn (zi_max x3 v5) fun v6 =>
    zn (x4 + 1) fun v7 =>
    k5 x1 x2 v6 v7
def f_Columns_shadeAt_5 (i_many : Int) (i_heights : Nat → Int) : Nat → Int → Int → Int → Int → Option (Int)
  | 0 => fun _ _ _ _ => none
  | n + 1 => fun y0 y1 y2 y3 => f_Columns_shadeAt_5_b i_many i_heights (f_Columns_shadeAt_5 i_many i_heights n) y0 y1 y2 y3
def f_Columns_shadeAt (x1 : Int) (x2 : Int) (i_many : Int) (i_heights : Nat → Int) : Option (Int) :=
  f_Columns_shadeAt_5 i_many i_heights zfu x1 x2 0 0
def f_Hill_shadeOf (x2 : Int) (i_parishes : Int) (i_a1_many : Int) (i_places : Nat → Int) (i_terms : Nat → Int) (i_a1_heights : Nat → Int) : Option (Int) :=
  zd1 (f_Hill_hasParish x2 i_parishes) fun v1 =>
  if zi_w v1 = 0 then
    some 0
  else
    zg 6 i_places x2 fun v2 =>
    zg 4 i_terms 1 fun v3 =>
    zd1 (f_Columns_shadeAt v2 v3 i_a1_many i_a1_heights) fun v4 =>
    some v4
def f_Hill_shades_4_b (i_parishes : Int) (i_a1_many : Int) (i_places : Nat → Int) (i_terms : Nat → Int) (i_a1_heights : Nat → Int) (k4 : Int → Int → Option (Int)) (x2 : Int) (x3 : Int) : Option (Int) :=
  if zi_w i_parishes ≤ zi_w x3 then
    some x2
  else
    zd1 (f_Hill_shadeOf x3 i_parishes i_a1_many i_places i_terms i_a1_heights) fun v1 =>
    zn (x2 + v1) fun v2 =>
    zn (x3 + 1) fun v3 =>
    k4 v2 v3
def f_Hill_shades_4 (i_parishes : Int) (i_a1_many : Int) (i_places : Nat → Int) (i_terms : Nat → Int) (i_a1_heights : Nat → Int) : Nat → Int → Int → Option (Int)
  | 0 => fun _ _ => none
  | n + 1 => fun y0 y1 => f_Hill_shades_4_b i_parishes i_a1_many i_places i_terms i_a1_heights (f_Hill_shades_4 i_parishes i_a1_many i_places i_terms i_a1_heights n) y0 y1
def f_Hill_shades (i_parishes : Int) (i_a1_many : Int) (i_places : Nat → Int) (i_terms : Nat → Int) (i_a1_heights : Nat → Int) : Option (Int) :=
  f_Hill_shades_4 i_parishes i_a1_many i_places i_terms i_a1_heights zfu 0 0
def f_HS_shade (x1 : Int) (i_hill_parishes : Int) (i_hill_columns_many : Int) (i_hill_places : Nat → Int) (i_hill_terms : Nat → Int) (i_hill_columns_heights : Nat → Int) : Option (Int) :=
  if zi_w x1 ≠ zi_w (-1) then
    zd1 (f_Hill_hasParish x1 i_hill_parishes) fun v1 =>
    if zi_w v1 = 0 then
      some (-1)
    else
      zd1 (f_Hill_shadeOf x1 i_hill_parishes i_hill_columns_many i_hill_places i_hill_terms i_hill_columns_heights) fun v2 =>
      some v2
  else
    zd1 (f_Hill_shades i_hill_parishes i_hill_columns_many i_hill_places i_hill_terms i_hill_columns_heights) fun v3 =>
    some v3
def f_HS_gains (x1 : Int) (x2 : Int) (x3 : Int) (x4 : Int) (i_hill_children : Int) (i_hill_parishes : Int) (i_hill_laws : Int) (i_hill_inForce : Int) (i_hill_columns_many : Int) (i_hill_strengths : Nat → Int) (i_hill_expelled : Nat → Int) (i_hill_places : Nat → Int) (i_hill_terms : Nat → Int) (i_hill_orders : Nat → Int) (i_hill_ordered : Nat → Int) (i_judge_piled : Int) (i_judge_tiring : Int) (i_judge_barred : Int) (i_judge_words : Nat → Int) (i_judge_pile : Nat → Int) (i_hill_columns_heights : Nat → Int) (i_hill_columns_weights : Nat → Int) : Option (Int × Int × Int × Int × (Nat → Int) × (Nat → Int) × (Nat → Int) × (Nat → Int)) :=
  zd1 (f_Hill_hasParish x1 i_hill_parishes) fun v1 =>
  if zi_w v1 = 0 then
    some ((-1000), i_judge_piled, i_judge_tiring, i_judge_barred, i_judge_words, i_judge_pile, i_hill_columns_heights, i_hill_columns_weights)
  else
    zd1 (f_HS_knows x2 x3 x4 i_hill_children i_hill_columns_many) fun v2 =>
    if zi_w v2 = 0 then
      some ((-1000), i_judge_piled, i_judge_tiring, i_judge_barred, i_judge_words, i_judge_pile, i_hill_columns_heights, i_hill_columns_weights)
    else
      zd6 (f_Judge_effortOn x2 x3 x4 i_hill_columns_many i_hill_children i_hill_laws i_hill_inForce i_hill_columns_heights i_hill_columns_weights i_hill_strengths i_hill_expelled i_hill_terms i_hill_orders i_hill_ordered i_judge_piled i_judge_tiring i_judge_barred i_judge_words i_judge_pile) fun v3 v4 v5 v6 a7 a8 =>
      if zi_w v3 ≠ zi_w (-1) then
        zd1 (f_Hill_shadeOf x1 i_hill_parishes i_hill_columns_many i_hill_places i_hill_terms i_hill_columns_heights) fun v9 =>
        zd2 (f_Columns_move x3 x4 i_hill_columns_many i_hill_columns_heights i_hill_columns_weights) fun a10 a11 =>
        zd1 (f_Hill_shadeOf x1 i_hill_parishes i_hill_columns_many i_hill_places i_hill_terms a10) fun v12 =>
        zd2 (f_Columns_move x4 x3 i_hill_columns_many a10 a11) fun a13 a14 =>
        zn (v9 - v12) fun v15 =>
        some (v15, v4, v5, v6, a7, a8, a13, a14)
      else
        some ((-1000), v4, v5, v6, a7, a8, i_hill_columns_heights, i_hill_columns_weights)
def f_HS_goal_11 (i_hill_columns_many : Int) (i_latestStatus : Int) (i_hill_changes : Int) (i_refusals : Nat → Int) (i_hill_goals : Nat → Int) : Option (Int × Int × Int × (Nat → Int) × (Nat → Int)) :=
  zd3 (f_HS_refuse (-1) i_latestStatus i_refusals) fun v1 v2 a3 =>
  some ((-1000), v2, i_hill_changes, a3, i_hill_goals)
def f_HS_goal (x1 : Int) (x2 : Int) (i_hill_columns_many : Int) (i_latestStatus : Int) (i_hill_changes : Int) (i_refusals : Nat → Int) (i_hill_goals : Nat → Int) : Option (Int × Int × Int × (Nat → Int) × (Nat → Int)) :=
  if zi_w x2 < zi_w (-1) then
    f_HS_goal_11 i_hill_columns_many i_latestStatus i_hill_changes i_refusals i_hill_goals
  else
    if zi_w x2 ≤ zi_w 10 then
      zd1 (f_Columns_has x1 i_hill_columns_many) fun v1 =>
      if zi_w v1 ≠ 0 then
        zg 12 i_hill_goals x1 fun v2 =>
        zs 12 i_hill_goals x1 x2 fun a3 =>
        zd3 (f_HS_accept v2 i_latestStatus i_hill_changes) fun v4 v5 v6 =>
        some (v4, v5, v6, i_refusals, a3)
      else
        zd3 (f_HS_refuse (-2) i_latestStatus i_refusals) fun v7 v8 a9 =>
        some ((-1000), v8, i_hill_changes, a9, i_hill_goals)
    else
      f_HS_goal_11 i_hill_columns_many i_latestStatus i_hill_changes i_refusals i_hill_goals
def f_Planner_write_56_b (i_costs : Nat → Int) (i_before : Nat → Int) (i_by : Nat → Int) (k56 : Int → Int → Int → Int → (Nat → Int) → Option (Int × Int × (Nat → Int))) (x3 : Int) (x4 : Int) (i_a1_length : Int) (i_a1_tiring : Int) (i_a1_row : Nat → Int) : Option (Int × Int × (Nat → Int)) :=
  if zi_w x4 < 0 then
    some (i_a1_length, i_a1_tiring, i_a1_row)
  else
    if zi_w 6720 ≤ zi_w x4 then
      some (i_a1_length, i_a1_tiring, i_a1_row)
    else
      if zi_w x3 < 0 then
        some (i_a1_length, i_a1_tiring, i_a1_row)
      else
        zg 6720 i_by x3 fun v1 =>
        zs 6720 i_a1_row x4 v1 fun a2 =>
        zg 6720 i_before x3 fun v3 =>
        zn (x4 + (-1)) fun v4 =>
        k56 v3 v4 i_a1_length i_a1_tiring a2
def f_Planner_write_56 (i_costs : Nat → Int) (i_before : Nat → Int) (i_by : Nat → Int) : Nat → Int → Int → Int → Int → (Nat → Int) → Option (Int × Int × (Nat → Int))
  | 0 => fun _ _ _ _ _ => none
  | n + 1 => fun y0 y1 y2 y3 y4 => f_Planner_write_56_b i_costs i_before i_by (f_Planner_write_56 i_costs i_before i_by n) y0 y1 y2 y3 y4
def f_Planner_write (x2 : Int) (i_costs : Nat → Int) (i_before : Nat → Int) (i_by : Nat → Int) (i_a1_length : Int) (i_a1_tiring : Int) (i_a1_row : Nat → Int) : Option (Int × Int × (Nat → Int)) :=
  if zi_w x2 ≠ zi_w (-1) then
    zg 6720 i_costs x2 fun v1 =>
    if zl_w 8192 = 0 then none else zn (zl_rem v1 8192) fun v2 =>
    zg 6720 i_costs x2 fun v3 =>
    if zl_w 8192 = 0 then none else zn (zl_div v3 8192) fun v4 =>
    zn (v2 - 1) fun v5 =>
    f_Planner_write_56 i_costs i_before i_by zfu x2 v5 v2 v4 i_a1_row
  else
    some ((-1), (-1), i_a1_row)
def f_Columns_stones_4_b (i_many : Int) (i_heights : Nat → Int) (k4 : Int → Int → Option (Int)) (x1 : Int) (x2 : Int) : Option (Int) :=
  if zi_w i_many ≤ zi_w x2 then
    some x1
  else
    zg 12 i_heights x2 fun v1 =>
    zn (x1 + v1) fun v2 =>
    zn (x2 + 1) fun v3 =>
    k4 v2 v3
def f_Columns_stones_4 (i_many : Int) (i_heights : Nat → Int) : Nat → Int → Int → Option (Int)
  | 0 => fun _ _ => none
  | n + 1 => fun y0 y1 => f_Columns_stones_4_b i_many i_heights (f_Columns_stones_4 i_many i_heights n) y0 y1
def f_Columns_stones (i_many : Int) (i_heights : Nat → Int) : Option (Int) :=
  f_Columns_stones_4 i_many i_heights zfu 0 0
def f_Planner_goalsFit_58 (i_hill_columns_many : Int) (i_hill_goals : Nat → Int) (i_hill_columns_heights : Nat → Int) (k6 : Int → Int → Int → Option (Int)) (x1 : Int) (x3 : Int) (s0 : Int) : Option (Int) :=
  zn (x3 + 1) fun v1 =>
  k6 x1 s0 v1
def f_Planner_goalsFit_57 (i_hill_columns_many : Int) (i_hill_goals : Nat → Int) (i_hill_columns_heights : Nat → Int) (k6 : Int → Int → Int → Option (Int)) (x1 : Int) (x3 : Int) : Option (Int) :=
  f_Planner_goalsFit_58 i_hill_columns_many i_hill_goals i_hill_columns_heights k6 x1 x3 0
def f_Planner_goalsFit_6_b (i_hill_columns_many : Int) (i_hill_goals : Nat → Int) (i_hill_columns_heights : Nat → Int) (k6 : Int → Int → Int → Option (Int)) (x1 : Int) (x2 : Int) (x3 : Int) : Option (Int) :=
  if zi_w i_hill_columns_many ≤ zi_w x3 then
    zd1 (f_Columns_stones i_hill_columns_many i_hill_columns_heights) fun v1 =>
    if zi_w x1 = zi_w v1 then
      some 1
    else
      if zi_w v1 ≤ zi_w x1 then
        some 0
      else
        if zi_w x2 ≠ 0 then
          some 0
        else
          some 1
  else
    zg 12 i_hill_goals x3 fun v2 =>
    zn (zi_max 0 v2) fun v3 =>
    zn (x1 + v3) fun v4 =>
    if zi_w x2 = 0 then
      f_Planner_goalsFit_57 i_hill_columns_many i_hill_goals i_hill_columns_heights k6 v4 x3
    else
      zg 12 i_hill_goals x3 fun v5 =>
      if zi_w v5 = zi_w (-1) then
        f_Planner_goalsFit_57 i_hill_columns_many i_hill_goals i_hill_columns_heights k6 v4 x3
      else
        f_Planner_goalsFit_58 i_hill_columns_many i_hill_goals i_hill_columns_heights k6 v4 x3 1
def f_Planner_goalsFit_6 (i_hill_columns_many : Int) (i_hill_goals : Nat → Int) (i_hill_columns_heights : Nat → Int) : Nat → Int → Int → Int → Option (Int)
  | 0 => fun _ _ _ => none
  | n + 1 => fun y0 y1 y2 => f_Planner_goalsFit_6_b i_hill_columns_many i_hill_goals i_hill_columns_heights (f_Planner_goalsFit_6 i_hill_columns_many i_hill_goals i_hill_columns_heights n) y0 y1 y2
def f_Planner_goalsFit (i_hill_columns_many : Int) (i_hill_goals : Nat → Int) (i_hill_columns_heights : Nat → Int) : Option (Int) :=
  f_Planner_goalsFit_6 i_hill_columns_many i_hill_goals i_hill_columns_heights zfu 0 1 0
def f_Planner_goalsAreSo_54 (i_heights : Nat → Int) (i_hill_columns_many : Int) (i_hill_goals : Nat → Int) (k2 : Int → Option (Int)) (x1 : Int) : Option (Int) :=
  zn (x1 + 1) fun v1 =>
  k2 v1
def f_Planner_goalsAreSo_2_b (i_heights : Nat → Int) (i_hill_columns_many : Int) (i_hill_goals : Nat → Int) (k2 : Int → Option (Int)) (x1 : Int) : Option (Int) :=
  if zi_w i_hill_columns_many ≤ zi_w x1 then
    some 1
  else
    if zi_w 4 ≤ zi_w x1 then
      some 1
    else
      zg 12 i_hill_goals x1 fun v1 =>
      if zi_w v1 = zi_w (-1) then
        f_Planner_goalsAreSo_54 i_heights i_hill_columns_many i_hill_goals k2 x1
      else
        zg 12 i_hill_goals x1 fun v2 =>
        zg 4 i_heights x1 fun v3 =>
        if zi_w v2 = zi_w v3 then
          f_Planner_goalsAreSo_54 i_heights i_hill_columns_many i_hill_goals k2 x1
        else
          some 0
def f_Planner_goalsAreSo_2 (i_heights : Nat → Int) (i_hill_columns_many : Int) (i_hill_goals : Nat → Int) : Nat → Int → Option (Int)
  | 0 => fun _ => none
  | n + 1 => fun y0 => f_Planner_goalsAreSo_2_b i_heights i_hill_columns_many i_hill_goals (f_Planner_goalsAreSo_2 i_heights i_hill_columns_many i_hill_goals n) y0
def f_Planner_goalsAreSo (i_heights : Nat → Int) (i_hill_columns_many : Int) (i_hill_goals : Nat → Int) : Option (Int) :=
  f_Planner_goalsAreSo_2 i_heights i_hill_columns_many i_hill_goals zfu 0
def f_Planner_swap (x1 : Int) (x2 : Int) (i_queue : Nat → Int) (i_queuedAt : Nat → Int) : Option ((Nat → Int) × (Nat → Int)) :=
  zg 6720 i_queue x1 fun v1 =>
  zg 6720 i_queue x2 fun v2 =>
  zs 6720 i_queue x1 v2 fun a3 =>
  zs 6720 a3 x2 v1 fun a4 =>
  zg 6720 a4 x1 fun v5 =>
  zs 6720 i_queuedAt v5 x1 fun a6 =>
  zg 6720 a4 x2 fun v7 =>
  zs 6720 a6 v7 x2 fun a8 =>
  some (a4, a8)
def f_Planner_leave_87 (i_costs : Nat → Int) (k30 : Int → Int → Int → Int → (Nat → Int) → (Nat → Int) → Option (Int × Int × (Nat → Int) × (Nat → Int))) (x1 : Int) (x2 : Int) (x3 : Int) (x4 : Int) (i_queued : Int) (i_queue : Nat → Int) (i_queuedAt : Nat → Int) : Option (Int × Int × (Nat → Int) × (Nat → Int)) :=
  if zi_w i_queued ≤ zi_w x4 then
    some (x1, i_queued, i_queue, i_queuedAt)
  else
    zg 6720 i_queue x2 fun v1 =>
    zg 6720 i_costs v1 fun v2 =>
    zg 6720 i_queue x4 fun v3 =>
    zg 6720 i_costs v3 fun v4 =>
    if zl_w v4 < zl_w v2 then
      zd2 (f_Planner_swap x2 x4 i_queue i_queuedAt) fun a5 a6 =>
      zn (x3 + 1) fun v7 =>
      k30 x1 x4 v7 i_queued a5 a6
    else
      some (x1, i_queued, i_queue, i_queuedAt)
def f_Planner_leave_30_b (i_costs : Nat → Int) (k30 : Int → Int → Int → Int → (Nat → Int) → (Nat → Int) → Option (Int × Int × (Nat → Int) × (Nat → Int))) (x1 : Int) (x2 : Int) (x3 : Int) (i_queued : Int) (i_queue : Nat → Int) (i_queuedAt : Nat → Int) : Option (Int × Int × (Nat → Int) × (Nat → Int)) :=
  if zi_w 14 ≤ zi_w x3 then
    some (x1, i_queued, i_queue, i_queuedAt)
  else
    zn (2 * x2) fun v1 =>
    zn (v1 + 1) fun v2 =>
    zn (v2 + 1) fun v3 =>
    if zi_w i_queued ≤ zi_w v3 then
      f_Planner_leave_87 i_costs k30 x1 x2 x3 v2 i_queued i_queue i_queuedAt
    else
      zn (v2 + 1) fun v4 =>
      zg 6720 i_queue v4 fun v5 =>
      zg 6720 i_costs v5 fun v6 =>
      zg 6720 i_queue v2 fun v7 =>
      zg 6720 i_costs v7 fun v8 =>
      if zl_w v8 ≤ zl_w v6 then
        f_Planner_leave_87 i_costs k30 x1 x2 x3 v2 i_queued i_queue i_queuedAt
      else
        zn (v2 + 1) fun v9 =>
        f_Planner_leave_87 i_costs k30 x1 x2 x3 v9 i_queued i_queue i_queuedAt
def f_Planner_leave_30 (i_costs : Nat → Int) : Nat → Int → Int → Int → Int → (Nat → Int) → (Nat → Int) → Option (Int × Int × (Nat → Int) × (Nat → Int))
  | 0 => fun _ _ _ _ _ _ => none
  | n + 1 => fun y0 y1 y2 y3 y4 y5 => f_Planner_leave_30_b i_costs (f_Planner_leave_30 i_costs n) y0 y1 y2 y3 y4 y5
def f_Planner_leave (i_costs : Nat → Int) (i_queued : Int) (i_queue : Nat → Int) (i_queuedAt : Nat → Int) : Option (Int × Int × (Nat → Int) × (Nat → Int)) :=
  zg 6720 i_queue 0 fun v1 =>
  zn (i_queued - 1) fun v2 =>
  zd2 (f_Planner_swap 0 v2 i_queue i_queuedAt) fun a3 a4 =>
  f_Planner_leave_30 i_costs zfu v1 0 0 v2 a3 a4
def f_Planner_isEarlier_97 (i_before : Nat → Int) (i_by : Nat → Int) (k31 : Int → Int → Int → Int → Option (Int)) (x4 : Int) (x5 : Int) (x6 : Int) (x7 : Int) : Option (Int) :=
  zg 6720 i_before x5 fun v1 =>
  zg 6720 i_before x6 fun v2 =>
  zn (x7 + 1) fun v3 =>
  k31 x4 v1 v2 v3
def f_Planner_isEarlier_95 (i_before : Nat → Int) (i_by : Nat → Int) (k31 : Int → Int → Int → Int → Option (Int)) (x5 : Int) (x6 : Int) (x7 : Int) (s0 : Int) : Option (Int) :=
  f_Planner_isEarlier_97 i_before i_by k31 s0 x5 x6 x7
def f_Planner_isEarlier_31_b (i_before : Nat → Int) (i_by : Nat → Int) (k31 : Int → Int → Int → Int → Option (Int)) (x4 : Int) (x5 : Int) (x6 : Int) (x7 : Int) : Option (Int) :=
  if zi_w 6720 ≤ zi_w x7 then
    if ¬ (zi_w x4 = 0 ∨ zi_w x4 = 1) then none else
    some x4
  else
    if zi_w x5 = zi_w x6 then
      if ¬ (zi_w x4 = 0 ∨ zi_w x4 = 1) then none else
      some x4
    else
      if zi_w x5 < 0 then
        if ¬ (zi_w x4 = 0 ∨ zi_w x4 = 1) then none else
        some x4
      else
        if zi_w x6 < 0 then
          if ¬ (zi_w x4 = 0 ∨ zi_w x4 = 1) then none else
          some x4
        else
          zg 6720 i_by x5 fun v1 =>
          zg 6720 i_by x6 fun v2 =>
          if zi_w v1 = zi_w v2 then
            f_Planner_isEarlier_97 i_before i_by k31 x4 x5 x6 x7
          else
            zg 6720 i_by x5 fun v3 =>
            zg 6720 i_by x6 fun v4 =>
            if zi_w v4 ≤ zi_w v3 then
              f_Planner_isEarlier_95 i_before i_by k31 x5 x6 x7 0
            else
              f_Planner_isEarlier_95 i_before i_by k31 x5 x6 x7 1
def f_Planner_isEarlier_31 (i_before : Nat → Int) (i_by : Nat → Int) : Nat → Int → Int → Int → Int → Option (Int)
  | 0 => fun _ _ _ _ => none
  | n + 1 => fun y0 y1 y2 y3 => f_Planner_isEarlier_31_b i_before i_by (f_Planner_isEarlier_31 i_before i_by n) y0 y1 y2 y3
def f_Planner_isEarlier_15 (i_before : Nat → Int) (i_by : Nat → Int) (x1 : Int) (x3 : Int) (s0 : Int) : Option (Int) :=
  zg 6720 i_before x3 fun v1 =>
  f_Planner_isEarlier_31 i_before i_by zfu s0 x1 v1 0
def f_Planner_isEarlier (x1 : Int) (x2 : Int) (x3 : Int) (i_before : Nat → Int) (i_by : Nat → Int) : Option (Int) :=
  zg 6720 i_by x3 fun v1 =>
  if zi_w v1 ≤ zi_w x2 then
    f_Planner_isEarlier_15 i_before i_by x1 x3 0
  else
    f_Planner_isEarlier_15 i_before i_by x1 x3 1
def f_Arrays_fill_n16384_5_b  (k5 : Int → Int → Int → (Nat → Int) → Option ((Nat → Int))) (x1 : Int) (x2 : Int) (x3 : Int) (i_a0 : Nat → Int) : Option ((Nat → Int)) :=
  if zi_w x3 ≤ zi_w x2 then
    some i_a0
  else
    zs 16384 i_a0 x2 x1 fun a1 =>
    zn (x2 + 1) fun v2 =>
    k5 x1 v2 x3 a1
def f_Arrays_fill_n16384_5  : Nat → Int → Int → Int → (Nat → Int) → Option ((Nat → Int))
  | 0 => fun _ _ _ _ => none
  | n + 1 => fun y0 y1 y2 y3 => f_Arrays_fill_n16384_5_b  (f_Arrays_fill_n16384_5  n) y0 y1 y2 y3
def f_Arrays_fill_n16384 (x1 : Int) (i_a0 : Nat → Int) : Option ((Nat → Int)) :=
  f_Arrays_fill_n16384_5 zfu x1 0 16384 i_a0
def f_Planner_kindOf_2_b  (k2 : Int → Int → Int → (Nat → Int) → Option (Int × Int × (Nat → Int))) (x1 : Int) (x2 : Int) (i_kinds : Int) (i_weights : Nat → Int) : Option (Int × Int × (Nat → Int)) :=
  if zi_w i_kinds < zi_w x2 then
    if zi_w i_kinds < zi_w 5 then
      zn (i_kinds + 1) fun v1 =>
      zs 6 i_weights v1 x1 fun a2 =>
      some (v1, v1, a2)
    else
      some (i_kinds, i_kinds, i_weights)
  else
    zg 6 i_weights x2 fun v3 =>
    if zi_w v3 ≠ zi_w x1 then
      zn (x2 + 1) fun v4 =>
      k2 x1 v4 i_kinds i_weights
    else
      some (x2, i_kinds, i_weights)
def f_Planner_kindOf_2  : Nat → Int → Int → Int → (Nat → Int) → Option (Int × Int × (Nat → Int))
  | 0 => fun _ _ _ _ => none
  | n + 1 => fun y0 y1 y2 y3 => f_Planner_kindOf_2_b  (f_Planner_kindOf_2  n) y0 y1 y2 y3
def f_Planner_kindOf (x1 : Int) (i_kinds : Int) (i_weights : Nat → Int) : Option (Int × Int × (Nat → Int)) :=
  f_Planner_kindOf_2 zfu x1 1 i_kinds i_weights
def f_Planner_firstState_48_b (i_hill_columns_many : Int) (i_hill_columns_heights : Nat → Int) (i_hill_columns_weights : Nat → Int) (k9 : Int → Int → Int → (Nat → Int) → Option (Int × Int × (Nat → Int))) (k48 : Int → Int → Int → Int → Int → (Nat → Int) → Option (Int × Int × (Nat → Int))) (x1 : Int) (x3 : Int) (x4 : Int) (x5 : Int) (i_kinds : Int) (i_weights : Nat → Int) : Option (Int × Int × (Nat → Int)) :=
  if zi_w x4 ≤ zi_w x5 then
    zn (x3 + 1) fun v1 =>
    k9 x1 v1 i_kinds i_weights
  else
    zd1 (f_Columns_heft x3 x5 i_hill_columns_many i_hill_columns_heights i_hill_columns_weights) fun v2 =>
    zd3 (f_Planner_kindOf v2 i_kinds i_weights) fun v3 v4 a5 =>
    zn (zi_w v3) fun v6 =>
    zn (15 * x3) fun v7 =>
    zn (3 * x5) fun v8 =>
    zn (v7 + v8) fun v9 =>
    zn (zl_shl v6 v9) fun v10 =>
    zn (zl_or x1 v10) fun v11 =>
    zn (x5 + 1) fun v12 =>
    k48 v11 x3 x4 v12 v4 a5
def f_Planner_firstState_48 (i_hill_columns_many : Int) (i_hill_columns_heights : Nat → Int) (i_hill_columns_weights : Nat → Int) (k9 : Int → Int → Int → (Nat → Int) → Option (Int × Int × (Nat → Int))) : Nat → Int → Int → Int → Int → Int → (Nat → Int) → Option (Int × Int × (Nat → Int))
  | 0 => fun _ _ _ _ _ _ => none
  | n + 1 => fun y0 y1 y2 y3 y4 y5 => f_Planner_firstState_48_b i_hill_columns_many i_hill_columns_heights i_hill_columns_weights k9 (f_Planner_firstState_48 i_hill_columns_many i_hill_columns_heights i_hill_columns_weights k9 n) y0 y1 y2 y3 y4 y5
def f_Planner_firstState_9_b (i_hill_columns_many : Int) (i_hill_columns_heights : Nat → Int) (i_hill_columns_weights : Nat → Int) (k9 : Int → Int → Int → (Nat → Int) → Option (Int × Int × (Nat → Int))) (x1 : Int) (x3 : Int) (i_kinds : Int) (i_weights : Nat → Int) : Option (Int × Int × (Nat → Int)) :=
  if zi_w i_hill_columns_many ≤ zi_w x3 then
    some (x1, i_kinds, i_weights)
  else
    if zi_w 4 ≤ zi_w x3 then
      some (x1, i_kinds, i_weights)
    else
      zd1 (f_Columns_high x3 i_hill_columns_many i_hill_columns_heights) fun v1 =>
      zn (zi_min 5 v1) fun v2 =>
      f_Planner_firstState_48 i_hill_columns_many i_hill_columns_heights i_hill_columns_weights k9 zfu x1 x3 v2 0 i_kinds i_weights
def f_Planner_firstState_9 (i_hill_columns_many : Int) (i_hill_columns_heights : Nat → Int) (i_hill_columns_weights : Nat → Int) : Nat → Int → Int → Int → (Nat → Int) → Option (Int × Int × (Nat → Int))
  | 0 => fun _ _ _ _ => none
  | n + 1 => fun y0 y1 y2 y3 => f_Planner_firstState_9_b i_hill_columns_many i_hill_columns_heights i_hill_columns_weights (f_Planner_firstState_9 i_hill_columns_many i_hill_columns_heights i_hill_columns_weights n) y0 y1 y2 y3
def f_Planner_firstState (i_hill_columns_many : Int) (i_hill_columns_heights : Nat → Int) (i_hill_columns_weights : Nat → Int) (i_kinds : Int) (i_weights : Nat → Int) : Option (Int × Int × (Nat → Int)) :=
  f_Planner_firstState_9 i_hill_columns_many i_hill_columns_heights i_hill_columns_weights zfu 0 0 0 i_weights
def f_Planner_look_81 (k2 : Int → Int → (Nat → Int) → (Nat → Int) → Option ((Nat → Int) × (Nat → Int))) (x1 : Int) (x3 : Int) (i_heights : Nat → Int) (i_tops : Nat → Int) : Option ((Nat → Int) × (Nat → Int)) :=
  zn (x3 + 1) fun v1 =>
  k2 x1 v1 i_heights i_tops
def f_Planner_look_37_b (k2 : Int → Int → (Nat → Int) → (Nat → Int) → Option ((Nat → Int) × (Nat → Int))) (k37 : Int → Int → Int → Int → (Nat → Int) → (Nat → Int) → Option ((Nat → Int) × (Nat → Int))) (x1 : Int) (x3 : Int) (x4 : Int) (x5 : Int) (i_heights : Nat → Int) (i_tops : Nat → Int) : Option ((Nat → Int) × (Nat → Int)) :=
  if zi_w 5 ≤ zi_w x5 then
    f_Planner_look_81 k2 x1 x3 i_heights i_tops
  else
    if zi_w x4 = 0 then
      f_Planner_look_81 k2 x1 x3 i_heights i_tops
    else
      zg 4 i_heights x3 fun v1 =>
      zn (v1 + 1) fun v2 =>
      zs 4 i_heights x3 v2 fun a3 =>
      zn (zi_and x4 7) fun v4 =>
      zs 4 i_tops x3 v4 fun a5 =>
      zn (zi_shr x4 3) fun v6 =>
      zn (x5 + 1) fun v7 =>
      k37 x1 x3 v6 v7 a3 a5
def f_Planner_look_37 (k2 : Int → Int → (Nat → Int) → (Nat → Int) → Option ((Nat → Int) × (Nat → Int))) : Nat → Int → Int → Int → Int → (Nat → Int) → (Nat → Int) → Option ((Nat → Int) × (Nat → Int))
  | 0 => fun _ _ _ _ _ _ => none
  | n + 1 => fun y0 y1 y2 y3 y4 y5 => f_Planner_look_37_b k2 (f_Planner_look_37 k2 n) y0 y1 y2 y3 y4 y5
def f_Planner_look_2_b  (k2 : Int → Int → (Nat → Int) → (Nat → Int) → Option ((Nat → Int) × (Nat → Int))) (x1 : Int) (x3 : Int) (i_heights : Nat → Int) (i_tops : Nat → Int) : Option ((Nat → Int) × (Nat → Int)) :=
  if zi_w 4 ≤ zi_w x3 then
    some (i_heights, i_tops)
  else
    zn (15 * x3) fun v1 =>
    zn (zl_ushr x1 v1) fun v2 =>
    zn (zi_and v2 32767) fun v3 =>
    zs 4 i_heights x3 0 fun a4 =>
    zs 4 i_tops x3 0 fun a5 =>
    f_Planner_look_37 k2 zfu x1 x3 v3 0 a4 a5
def f_Planner_look_2  : Nat → Int → Int → (Nat → Int) → (Nat → Int) → Option ((Nat → Int) × (Nat → Int))
  | 0 => fun _ _ _ _ => none
  | n + 1 => fun y0 y1 y2 y3 => f_Planner_look_2_b  (f_Planner_look_2  n) y0 y1 y2 y3
def f_Planner_look (x1 : Int) (i_heights : Nat → Int) (i_tops : Nat → Int) : Option ((Nat → Int) × (Nat → Int)) :=
  f_Planner_look_2 zfu x1 0 i_heights i_tops
def f_Planner_isSafe_74 (i_hill_terms : Nat → Int) (k26 : Int → Int → Int → Int → Int → (Nat → Int) → Option (Int × (Nat → Int))) (x1 : Int) (x2 : Int) (x3 : Int) (x5 : Int) (s0 : Int) (i_heights : Nat → Int) : Option (Int × (Nat → Int)) :=
  zn (x5 + 1) fun v1 =>
  k26 x1 x2 x3 s0 v1 i_heights
def f_Planner_isSafe_73 (i_hill_terms : Nat → Int) (k26 : Int → Int → Int → Int → Int → (Nat → Int) → Option (Int × (Nat → Int))) (x1 : Int) (x2 : Int) (x3 : Int) (x5 : Int) (i_heights : Nat → Int) : Option (Int × (Nat → Int)) :=
  f_Planner_isSafe_74 i_hill_terms k26 x1 x2 x3 x5 0 i_heights
def f_Planner_isSafe_26_b (i_hill_terms : Nat → Int) (k26 : Int → Int → Int → Int → Int → (Nat → Int) → Option (Int × (Nat → Int))) (x1 : Int) (x2 : Int) (x3 : Int) (x4 : Int) (x5 : Int) (i_heights : Nat → Int) : Option (Int × (Nat → Int)) :=
  if zi_w x3 ≤ zi_w x5 then
    zg 4 i_heights x1 fun v1 =>
    zn (v1 + 1) fun v2 =>
    zs 4 i_heights x1 v2 fun a3 =>
    zg 4 a3 x2 fun v4 =>
    zn (v4 - 1) fun v5 =>
    zs 4 a3 x2 v5 fun a6 =>
    if ¬ (zi_w x4 = 0 ∨ zi_w x4 = 1) then none else
    some (x4, a6)
  else
    if zi_w x4 = 0 then
      f_Planner_isSafe_73 i_hill_terms k26 x1 x2 x3 x5 i_heights
    else
      zg 4 i_heights x5 fun v7 =>
      zn (x5 - 1) fun v8 =>
      zg 4 i_heights v8 fun v9 =>
      zn (v7 - v9) fun v10 =>
      zn (zi_abs v10) fun v11 =>
      zg 4 i_hill_terms 2 fun v12 =>
      if zi_w v12 < zi_w v11 then
        f_Planner_isSafe_73 i_hill_terms k26 x1 x2 x3 x5 i_heights
      else
        f_Planner_isSafe_74 i_hill_terms k26 x1 x2 x3 x5 1 i_heights
def f_Planner_isSafe_26 (i_hill_terms : Nat → Int) : Nat → Int → Int → Int → Int → Int → (Nat → Int) → Option (Int × (Nat → Int))
  | 0 => fun _ _ _ _ _ _ => none
  | n + 1 => fun y0 y1 y2 y3 y4 y5 => f_Planner_isSafe_26_b i_hill_terms (f_Planner_isSafe_26 i_hill_terms n) y0 y1 y2 y3 y4 y5
def f_Planner_isSafe (x1 : Int) (x2 : Int) (x3 : Int) (i_hill_terms : Nat → Int) (i_heights : Nat → Int) : Option (Int × (Nat → Int)) :=
  zg 4 i_heights x1 fun v1 =>
  zn (v1 - 1) fun v2 =>
  zs 4 i_heights x1 v2 fun a3 =>
  zg 4 a3 x2 fun v4 =>
  zn (v4 + 1) fun v5 =>
  zs 4 a3 x2 v5 fun a6 =>
  f_Planner_isSafe_26 i_hill_terms zfu x1 x2 x3 1 1 a6
def f_Carriers_lowest (x0 : Int) : Option (Int) :=
  zn (zi_and x0 7) fun v1 =>
  some v1
def f_Carriers_note_238 (i_hill_children : Int) (i_hill_laws : Int) (i_hill_inForce : Int) (i_hill_changes : Int) (i_hill_strengths : Nat → Int) (i_hill_expelled : Nat → Int) (i_hill_terms : Nat → Int) (i_hill_orders : Nat → Int) (i_hill_ordered : Nat → Int) (k166 : Int → Int → Int → Int → Int → Int → Int → Int → Int → Int → Int → Int → Int → Int → (Nat → Int) → (Nat → Int) → (Nat → Int) → Option (Int × Int × Int × Int × (Nat → Int) × (Nat → Int) × (Nat → Int))) (x1 : Int) (x2 : Int) (x3 : Int) (x4 : Int) (x5 : Int) (x7 : Int) (x8 : Int) (x9 : Int) (x10 : Int) (x11 : Int) (x12 : Int) (i_judge_piled : Int) (i_judge_tiring : Int) (i_judge_barred : Int) (i_notes : Nat → Int) (i_judge_words : Nat → Int) (i_judge_pile : Nat → Int) : Option (Int × Int × Int × Int × (Nat → Int) × (Nat → Int) × (Nat → Int)) :=
  zn (x12 + 1) fun v1 =>
  k166 x1 x2 x3 x4 x5 x7 x8 x9 x10 x11 v1 i_judge_piled i_judge_tiring i_judge_barred i_notes i_judge_words i_judge_pile
def f_Carriers_note_230 (i_hill_children : Int) (i_hill_laws : Int) (i_hill_inForce : Int) (i_hill_changes : Int) (i_hill_strengths : Nat → Int) (i_hill_expelled : Nat → Int) (i_hill_terms : Nat → Int) (i_hill_orders : Nat → Int) (i_hill_ordered : Nat → Int) (k166 : Int → Int → Int → Int → Int → Int → Int → Int → Int → Int → Int → Int → Int → Int → (Nat → Int) → (Nat → Int) → (Nat → Int) → Option (Int × Int × Int × Int × (Nat → Int) × (Nat → Int) × (Nat → Int))) (x1 : Int) (x2 : Int) (x3 : Int) (x4 : Int) (x5 : Int) (x7 : Int) (x8 : Int) (x9 : Int) (x12 : Int) (x13 : Int) (i_judge_piled : Int) (i_judge_tiring : Int) (i_judge_barred : Int) (i_notes : Nat → Int) (i_judge_words : Nat → Int) (i_judge_pile : Nat → Int) : Option (Int × Int × Int × Int × (Nat → Int) × (Nat → Int) × (Nat → Int)) :=
  f_Carriers_note_238 i_hill_children i_hill_laws i_hill_inForce i_hill_changes i_hill_strengths i_hill_expelled i_hill_terms i_hill_orders i_hill_ordered k166 x1 x2 x3 x4 x5 x7 x8 x9 x12 x13 x12 i_judge_piled i_judge_tiring i_judge_barred i_notes i_judge_words i_judge_pile
def f_Carriers_note_216 (i_hill_children : Int) (i_hill_laws : Int) (i_hill_inForce : Int) (i_hill_changes : Int) (i_hill_strengths : Nat → Int) (i_hill_expelled : Nat → Int) (i_hill_terms : Nat → Int) (i_hill_orders : Nat → Int) (i_hill_ordered : Nat → Int) (k166 : Int → Int → Int → Int → Int → Int → Int → Int → Int → Int → Int → Int → Int → Int → (Nat → Int) → (Nat → Int) → (Nat → Int) → Option (Int × Int × Int × Int × (Nat → Int) × (Nat → Int) × (Nat → Int))) (x1 : Int) (x2 : Int) (x3 : Int) (x4 : Int) (x5 : Int) (x7 : Int) (x8 : Int) (x9 : Int) (x10 : Int) (x11 : Int) (x12 : Int) (x13 : Int) (i_judge_piled : Int) (i_judge_tiring : Int) (i_judge_barred : Int) (i_notes : Nat → Int) (i_judge_words : Nat → Int) (i_judge_pile : Nat → Int) : Option (Int × Int × Int × Int × (Nat → Int) × (Nat → Int) × (Nat → Int)) :=
  if zi_w x10 = zi_w 7 then
    f_Carriers_note_230 i_hill_children i_hill_laws i_hill_inForce i_hill_changes i_hill_strengths i_hill_expelled i_hill_terms i_hill_orders i_hill_ordered k166 x1 x2 x3 x4 x5 x7 x8 x9 x12 x13 i_judge_piled i_judge_tiring i_judge_barred i_notes i_judge_words i_judge_pile
  else
    if zi_w x11 ≤ zi_w x13 then
      f_Carriers_note_238 i_hill_children i_hill_laws i_hill_inForce i_hill_changes i_hill_strengths i_hill_expelled i_hill_terms i_hill_orders i_hill_ordered k166 x1 x2 x3 x4 x5 x7 x8 x9 x10 x11 x12 i_judge_piled i_judge_tiring i_judge_barred i_notes i_judge_words i_judge_pile
    else
      f_Carriers_note_230 i_hill_children i_hill_laws i_hill_inForce i_hill_changes i_hill_strengths i_hill_expelled i_hill_terms i_hill_orders i_hill_ordered k166 x1 x2 x3 x4 x5 x7 x8 x9 x12 x13 i_judge_piled i_judge_tiring i_judge_barred i_notes i_judge_words i_judge_pile
def f_Carriers_note_166_b (i_hill_children : Int) (i_hill_laws : Int) (i_hill_inForce : Int) (i_hill_changes : Int) (i_hill_strengths : Nat → Int) (i_hill_expelled : Nat → Int) (i_hill_terms : Nat → Int) (i_hill_orders : Nat → Int) (i_hill_ordered : Nat → Int) (k166 : Int → Int → Int → Int → Int → Int → Int → Int → Int → Int → Int → Int → Int → Int → (Nat → Int) → (Nat → Int) → (Nat → Int) → Option (Int × Int × Int × Int × (Nat → Int) × (Nat → Int) × (Nat → Int))) (x1 : Int) (x2 : Int) (x3 : Int) (x4 : Int) (x5 : Int) (x7 : Int) (x8 : Int) (x9 : Int) (x10 : Int) (x11 : Int) (x12 : Int) (i_judge_piled : Int) (i_judge_tiring : Int) (i_judge_barred : Int) (i_notes : Nat → Int) (i_judge_words : Nat → Int) (i_judge_pile : Nat → Int) : Option (Int × Int × Int × Int × (Nat → Int) × (Nat → Int) × (Nat → Int)) :=
  if zi_w i_hill_children ≤ zi_w x12 then
    zn (zi_shl x11 3) fun v1 =>
    zn (zi_or v1 x10) fun v2 =>
    zn (zi_shl v2 3) fun v3 =>
    zn (zi_or v3 x9) fun v4 =>
    zn (zi_shl x8 13) fun v5 =>
    zn (zi_or v5 v4) fun v6 =>
    zs 48000 i_notes x7 v6 fun a7 =>
    if zi_w x9 ≠ zi_w 7 then
      some (v4, i_judge_piled, i_judge_tiring, i_judge_barred, a7, i_judge_words, i_judge_pile)
    else
      some ((-1), i_judge_piled, i_judge_tiring, i_judge_barred, a7, i_judge_words, i_judge_pile)
  else
    zd6 (f_Judge_effort x12 x1 x2 x3 x4 x5 i_hill_children i_hill_laws i_hill_inForce i_hill_strengths i_hill_expelled i_hill_terms i_hill_orders i_hill_ordered i_judge_piled i_judge_tiring i_judge_barred i_judge_words i_judge_pile) fun v8 v9 v10 v11 a12 a13 =>
    if zi_w v8 ≠ zi_w (-1) then
      if zi_w x9 ≠ zi_w 7 then
        f_Carriers_note_216 i_hill_children i_hill_laws i_hill_inForce i_hill_changes i_hill_strengths i_hill_expelled i_hill_terms i_hill_orders i_hill_ordered k166 x1 x2 x3 x4 x5 x7 x8 x9 x10 x11 x12 v8 v9 v10 v11 i_notes a12 a13
      else
        f_Carriers_note_216 i_hill_children i_hill_laws i_hill_inForce i_hill_changes i_hill_strengths i_hill_expelled i_hill_terms i_hill_orders i_hill_ordered k166 x1 x2 x3 x4 x5 x7 x8 x12 x10 x11 x12 v8 v9 v10 v11 i_notes a12 a13
    else
      f_Carriers_note_238 i_hill_children i_hill_laws i_hill_inForce i_hill_changes i_hill_strengths i_hill_expelled i_hill_terms i_hill_orders i_hill_ordered k166 x1 x2 x3 x4 x5 x7 x8 x9 x10 x11 x12 v9 v10 v11 i_notes a12 a13
def f_Carriers_note_166 (i_hill_children : Int) (i_hill_laws : Int) (i_hill_inForce : Int) (i_hill_changes : Int) (i_hill_strengths : Nat → Int) (i_hill_expelled : Nat → Int) (i_hill_terms : Nat → Int) (i_hill_orders : Nat → Int) (i_hill_ordered : Nat → Int) : Nat → Int → Int → Int → Int → Int → Int → Int → Int → Int → Int → Int → Int → Int → Int → (Nat → Int) → (Nat → Int) → (Nat → Int) → Option (Int × Int × Int × Int × (Nat → Int) × (Nat → Int) × (Nat → Int))
  | 0 => fun _ _ _ _ _ _ _ _ _ _ _ _ _ _ _ _ _ => none
  | n + 1 => fun y0 y1 y2 y3 y4 y5 y6 y7 y8 y9 y10 y11 y12 y13 y14 y15 y16 => f_Carriers_note_166_b i_hill_children i_hill_laws i_hill_inForce i_hill_changes i_hill_strengths i_hill_expelled i_hill_terms i_hill_orders i_hill_ordered (f_Carriers_note_166 i_hill_children i_hill_laws i_hill_inForce i_hill_changes i_hill_strengths i_hill_expelled i_hill_terms i_hill_orders i_hill_ordered n) y0 y1 y2 y3 y4 y5 y6 y7 y8 y9 y10 y11 y12 y13 y14 y15 y16
def f_Carriers_note (x1 : Int) (x2 : Int) (x3 : Int) (x4 : Int) (x5 : Int) (i_hill_children : Int) (i_hill_laws : Int) (i_hill_inForce : Int) (i_hill_changes : Int) (i_hill_strengths : Nat → Int) (i_hill_expelled : Nat → Int) (i_hill_terms : Nat → Int) (i_hill_orders : Nat → Int) (i_hill_ordered : Nat → Int) (i_judge_piled : Int) (i_judge_tiring : Int) (i_judge_barred : Int) (i_notes : Nat → Int) (i_judge_words : Nat → Int) (i_judge_pile : Nat → Int) : Option (Int × Int × Int × Int × (Nat → Int) × (Nat → Int) × (Nat → Int)) :=
  if zi_w x1 < 0 then
    some ((-1), i_judge_piled, i_judge_tiring, i_judge_barred, i_notes, i_judge_words, i_judge_pile)
  else
    if zi_w 4 ≤ zi_w x1 then
      some ((-1), i_judge_piled, i_judge_tiring, i_judge_barred, i_notes, i_judge_words, i_judge_pile)
    else
      if zi_w x2 < 0 then
        some ((-1), i_judge_piled, i_judge_tiring, i_judge_barred, i_notes, i_judge_words, i_judge_pile)
      else
        if zi_w 4 ≤ zi_w x2 then
          some ((-1), i_judge_piled, i_judge_tiring, i_judge_barred, i_notes, i_judge_words, i_judge_pile)
        else
          if zi_w x1 = zi_w x2 then
            some ((-1), i_judge_piled, i_judge_tiring, i_judge_barred, i_notes, i_judge_words, i_judge_pile)
          else
            if zi_w x3 < zi_w 1 then
              some ((-1), i_judge_piled, i_judge_tiring, i_judge_barred, i_notes, i_judge_words, i_judge_pile)
            else
              if zi_w 30 < zi_w x3 then
                some ((-1), i_judge_piled, i_judge_tiring, i_judge_barred, i_notes, i_judge_words, i_judge_pile)
              else
                if zi_w x4 < zi_w 1 then
                  some ((-1), i_judge_piled, i_judge_tiring, i_judge_barred, i_notes, i_judge_words, i_judge_pile)
                else
                  if zi_w 10 < zi_w x4 then
                    some ((-1), i_judge_piled, i_judge_tiring, i_judge_barred, i_notes, i_judge_words, i_judge_pile)
                  else
                    if zi_w x5 < 0 then
                      some ((-1), i_judge_piled, i_judge_tiring, i_judge_barred, i_notes, i_judge_words, i_judge_pile)
                    else
                      if zi_w x5 < zi_w 10 then
                        zn (x1 * 4) fun v1 =>
                        zn (v1 + x2) fun v2 =>
                        zn (v2 * 30) fun v3 =>
                        zn (v3 + x3) fun v4 =>
                        zn (v4 - 1) fun v5 =>
                        zn (v5 * 10) fun v6 =>
                        zn (v6 + x4) fun v7 =>
                        zn (v7 - 1) fun v8 =>
                        zn (v8 * 10) fun v9 =>
                        zn (v9 + x5) fun v10 =>
                        if zi_w 524287 = 0 then none else zn (zi_rem i_hill_changes 524287) fun v11 =>
                        zn (v11 + 1) fun v12 =>
                        zg 48000 i_notes v10 fun v13 =>
                        zn (zi_ushr v13 13) fun v14 =>
                        if zi_w v14 ≠ zi_w v12 then
                          f_Carriers_note_166 i_hill_children i_hill_laws i_hill_inForce i_hill_changes i_hill_strengths i_hill_expelled i_hill_terms i_hill_orders i_hill_ordered zfu x1 x2 x3 x4 x5 v10 v12 7 7 0 0 i_judge_piled i_judge_tiring i_judge_barred i_notes i_judge_words i_judge_pile
                        else
                          zg 48000 i_notes v10 fun v15 =>
                          zn (zi_and v15 8191) fun v16 =>
                          zd1 (f_Carriers_lowest v16) fun v17 =>
                          if zi_w v17 ≠ zi_w 7 then
                            some (v16, i_judge_piled, i_judge_tiring, i_judge_barred, i_notes, i_judge_words, i_judge_pile)
                          else
                            some ((-1), i_judge_piled, i_judge_tiring, i_judge_barred, i_notes, i_judge_words, i_judge_pile)
                      else
                        some ((-1), i_judge_piled, i_judge_tiring, i_judge_barred, i_notes, i_judge_words, i_judge_pile)
def f_Carriers_leastTired (x0 : Int) : Option (Int) :=
  zn (zi_shr x0 3) fun v1 =>
  zn (zi_and v1 7) fun v2 =>
  some v2
def f_Carriers_tiring (x0 : Int) : Option (Int) :=
  zn (zi_shr x0 6) fun v1 =>
  some v1
def f_Planner_carried (x1 : Int) (x3 : Int) (x4 : Int) (i_heights : Nat → Int) (i_tops : Nat → Int) : Option (Int) :=
  zg 4 i_tops x3 fun v1 =>
  zn (zi_w v1) fun v2 =>
  zn (15 * x3) fun v3 =>
  zg 4 i_heights x3 fun v4 =>
  zn (v4 - 1) fun v5 =>
  zn (3 * v5) fun v6 =>
  zn (v3 + v6) fun v7 =>
  zn (zl_shl v2 v7) fun v8 =>
  zn (zl_xor x1 v8) fun v9 =>
  zn (15 * x4) fun v10 =>
  zg 4 i_heights x4 fun v11 =>
  zn (3 * v11) fun v12 =>
  zn (v10 + v12) fun v13 =>
  zn (zl_shl v2 v13) fun v14 =>
  zn (zl_or v9 v14) fun v15 =>
  some v15
def f_Planner_rise_4_b (i_queued : Int) (i_costs : Nat → Int) (k4 : Int → Int → (Nat → Int) → (Nat → Int) → Option ((Nat → Int) × (Nat → Int))) (x2 : Int) (x3 : Int) (i_queue : Nat → Int) (i_queuedAt : Nat → Int) : Option ((Nat → Int) × (Nat → Int)) :=
  if zi_w 14 ≤ zi_w x3 then
    some (i_queue, i_queuedAt)
  else
    if zi_w x2 ≤ 0 then
      some (i_queue, i_queuedAt)
    else
      if zi_w i_queued ≤ zi_w x2 then
        some (i_queue, i_queuedAt)
      else
        zn (x2 - 1) fun v1 =>
        if zi_w 2 = 0 then none else zn (zi_div v1 2) fun v2 =>
        zg 6720 i_queue v2 fun v3 =>
        zg 6720 i_costs v3 fun v4 =>
        zg 6720 i_queue x2 fun v5 =>
        zg 6720 i_costs v5 fun v6 =>
        if zl_w v6 < zl_w v4 then
          zd2 (f_Planner_swap x2 v2 i_queue i_queuedAt) fun a7 a8 =>
          zn (x3 + 1) fun v9 =>
          k4 v2 v9 a7 a8
        else
          some (i_queue, i_queuedAt)
def f_Planner_rise_4 (i_queued : Int) (i_costs : Nat → Int) : Nat → Int → Int → (Nat → Int) → (Nat → Int) → Option ((Nat → Int) × (Nat → Int))
  | 0 => fun _ _ _ _ => none
  | n + 1 => fun y0 y1 y2 y3 => f_Planner_rise_4_b i_queued i_costs (f_Planner_rise_4 i_queued i_costs n) y0 y1 y2 y3
def f_Planner_rise (x1 : Int) (i_queued : Int) (i_costs : Nat → Int) (i_queue : Nat → Int) (i_queuedAt : Nat → Int) : Option ((Nat → Int) × (Nat → Int)) :=
  f_Planner_rise_4 i_queued i_costs zfu x1 0 i_queue i_queuedAt
def f_Planner_slotOf_13_b (i_slots : Nat → Int) (i_states : Nat → Int) (k13 : Int → Int → Int → Option (Int)) (x1 : Int) (x3 : Int) (x4 : Int) : Option (Int) :=
  if zi_w 16384 ≤ zi_w x4 then
    some (-1)
  else
    zg 16384 i_slots x3 fun v1 =>
    if zi_w v1 = 0 then
      some x3
    else
      zg 16384 i_slots x3 fun v2 =>
      zn (v2 - 1) fun v3 =>
      zg 6720 i_states v3 fun v4 =>
      if zl_w v4 ≠ zl_w x1 then
        zn (x3 + 1) fun v5 =>
        zn (zi_and v5 16383) fun v6 =>
        zn (x4 + 1) fun v7 =>
        k13 x1 v6 v7
      else
        some x3
def f_Planner_slotOf_13 (i_slots : Nat → Int) (i_states : Nat → Int) : Nat → Int → Int → Int → Option (Int)
  | 0 => fun _ _ _ => none
  | n + 1 => fun y0 y1 y2 => f_Planner_slotOf_13_b i_slots i_states (f_Planner_slotOf_13 i_slots i_states n) y0 y1 y2
def f_Planner_slotOf (x1 : Int) (i_slots : Nat → Int) (i_states : Nat → Int) : Option (Int) :=
  zn (x1 * (-7046029254386353131)) fun v1 =>
  zn (zl_ushr v1 50) fun v2 =>
  f_Planner_slotOf_13 i_slots i_states zfu x1 v2 0
def f_Planner_come_150  (x3 : Int) (x4 : Int) (x5 : Int) (x8 : Int) (i_found : Int) (i_queued : Int) (i_slots : Nat → Int) (i_states : Nat → Int) (i_costs : Nat → Int) (i_before : Nat → Int) (i_by : Nat → Int) (i_queue : Nat → Int) (i_queuedAt : Nat → Int) : Option (Int × Int × (Nat → Int) × (Nat → Int) × (Nat → Int) × (Nat → Int) × (Nat → Int) × (Nat → Int) × (Nat → Int)) :=
  zs 6720 i_costs x8 x5 fun a1 =>
  zs 6720 i_before x8 x3 fun a2 =>
  zs 6720 i_by x8 x4 fun a3 =>
  zg 6720 i_queuedAt x8 fun v4 =>
  zd2 (f_Planner_rise v4 i_queued a1 i_queue i_queuedAt) fun a5 a6 =>
  some (i_found, i_queued, i_slots, i_states, a1, a2, a3, a5, a6)
def f_Planner_come (x1 : Int) (x3 : Int) (x4 : Int) (x5 : Int) (i_found : Int) (i_queued : Int) (i_slots : Nat → Int) (i_states : Nat → Int) (i_costs : Nat → Int) (i_before : Nat → Int) (i_by : Nat → Int) (i_queue : Nat → Int) (i_queuedAt : Nat → Int) : Option (Int × Int × (Nat → Int) × (Nat → Int) × (Nat → Int) × (Nat → Int) × (Nat → Int) × (Nat → Int) × (Nat → Int)) :=
  zd1 (f_Planner_slotOf x1 i_slots i_states) fun v1 =>
  if zi_w v1 ≠ zi_w (-1) then
    zg 16384 i_slots v1 fun v2 =>
    zn (v2 - 1) fun v3 =>
    if 0 ≤ zi_w v3 then
      zg 6720 i_costs v3 fun v4 =>
      if zl_w v4 < zl_w x5 then
        some (i_found, i_queued, i_slots, i_states, i_costs, i_before, i_by, i_queue, i_queuedAt)
      else
        zg 6720 i_costs v3 fun v5 =>
        if zl_w x5 ≠ zl_w v5 then
          f_Planner_come_150 x3 x4 x5 v3 i_found i_queued i_slots i_states i_costs i_before i_by i_queue i_queuedAt
        else
          zd1 (f_Planner_isEarlier x3 x4 v3 i_before i_by) fun v6 =>
          if zi_w v6 ≠ 0 then
            f_Planner_come_150 x3 x4 x5 v3 i_found i_queued i_slots i_states i_costs i_before i_by i_queue i_queuedAt
          else
            some (i_found, i_queued, i_slots, i_states, i_costs, i_before, i_by, i_queue, i_queuedAt)
    else
      if zi_w i_found < zi_w 6720 then
        zn (i_found + 1) fun v7 =>
        zs 16384 i_slots v1 v7 fun a8 =>
        zs 6720 i_states i_found x1 fun a9 =>
        zs 6720 i_queue i_queued i_found fun a10 =>
        zs 6720 i_queuedAt i_found i_queued fun a11 =>
        zn (i_queued + 1) fun v12 =>
        f_Planner_come_150 x3 x4 x5 i_found v7 v12 a8 a9 i_costs i_before i_by a10 a11
      else
        some (i_found, i_queued, i_slots, i_states, i_costs, i_before, i_by, i_queue, i_queuedAt)
  else
    some (i_found, i_queued, i_slots, i_states, i_costs, i_before, i_by, i_queue, i_queuedAt)
def f_Planner_goOn_230 (i_hill_children : Int) (i_hill_laws : Int) (i_hill_inForce : Int) (i_hill_changes : Int) (i_weights : Nat → Int) (i_tops : Nat → Int) (i_hill_columns_many : Int) (i_hill_strengths : Nat → Int) (i_hill_expelled : Nat → Int) (i_hill_terms : Nat → Int) (i_hill_orders : Nat → Int) (i_hill_ordered : Nat → Int) (k18 : Int → Int → Int → Int → Int → Int → (Nat → Int) → (Nat → Int) → (Nat → Int) → (Nat → Int) → (Nat → Int) → (Nat → Int) → (Nat → Int) → (Nat → Int) → Int → Int → Int → (Nat → Int) → (Nat → Int) → (Nat → Int) → Option (Int × Int × (Nat → Int) × (Nat → Int) × (Nat → Int) × (Nat → Int) × (Nat → Int) × (Nat → Int) × (Nat → Int) × (Nat → Int) × Int × Int × Int × (Nat → Int) × (Nat → Int) × (Nat → Int))) (x1 : Int) (x2 : Int) (x3 : Int) (x4 : Int) (i_found : Int) (i_queued : Int) (i_slots : Nat → Int) (i_states : Nat → Int) (i_costs : Nat → Int) (i_before : Nat → Int) (i_by : Nat → Int) (i_queue : Nat → Int) (i_queuedAt : Nat → Int) (i_heights : Nat → Int) (i_carriers_judge_piled : Int) (i_carriers_judge_tiring : Int) (i_carriers_judge_barred : Int) (i_carriers_notes : Nat → Int) (i_carriers_judge_words : Nat → Int) (i_carriers_judge_pile : Nat → Int) : Option (Int × Int × (Nat → Int) × (Nat → Int) × (Nat → Int) × (Nat → Int) × (Nat → Int) × (Nat → Int) × (Nat → Int) × (Nat → Int) × Int × Int × Int × (Nat → Int) × (Nat → Int) × (Nat → Int)) :=
  zn (x4 + 1) fun v1 =>
  k18 x1 x2 x3 v1 i_found i_queued i_slots i_states i_costs i_before i_by i_queue i_queuedAt i_heights i_carriers_judge_piled i_carriers_judge_tiring i_carriers_judge_barred i_carriers_notes i_carriers_judge_words i_carriers_judge_pile
def f_Planner_goOn_224 (i_hill_children : Int) (i_hill_laws : Int) (i_hill_inForce : Int) (i_hill_changes : Int) (i_weights : Nat → Int) (i_tops : Nat → Int) (i_hill_columns_many : Int) (i_hill_strengths : Nat → Int) (i_hill_expelled : Nat → Int) (i_hill_terms : Nat → Int) (i_hill_orders : Nat → Int) (i_hill_ordered : Nat → Int) (k18 : Int → Int → Int → Int → Int → Int → (Nat → Int) → (Nat → Int) → (Nat → Int) → (Nat → Int) → (Nat → Int) → (Nat → Int) → (Nat → Int) → (Nat → Int) → Int → Int → Int → (Nat → Int) → (Nat → Int) → (Nat → Int) → Option (Int × Int × (Nat → Int) × (Nat → Int) × (Nat → Int) × (Nat → Int) × (Nat → Int) × (Nat → Int) × (Nat → Int) × (Nat → Int) × Int × Int × Int × (Nat → Int) × (Nat → Int) × (Nat → Int))) (k55 : Int → Int → Int → Int → Int → Int → Int → Int → (Nat → Int) → (Nat → Int) → (Nat → Int) → (Nat → Int) → (Nat → Int) → (Nat → Int) → (Nat → Int) → (Nat → Int) → Int → Int → Int → (Nat → Int) → (Nat → Int) → (Nat → Int) → Option (Int × Int × (Nat → Int) × (Nat → Int) × (Nat → Int) × (Nat → Int) × (Nat → Int) × (Nat → Int) × (Nat → Int) × (Nat → Int) × Int × Int × Int × (Nat → Int) × (Nat → Int) × (Nat → Int))) (x1 : Int) (x2 : Int) (x3 : Int) (x4 : Int) (x6 : Int) (x7 : Int) (i_found : Int) (i_queued : Int) (i_slots : Nat → Int) (i_states : Nat → Int) (i_costs : Nat → Int) (i_before : Nat → Int) (i_by : Nat → Int) (i_queue : Nat → Int) (i_queuedAt : Nat → Int) (i_heights : Nat → Int) (i_carriers_judge_piled : Int) (i_carriers_judge_tiring : Int) (i_carriers_judge_barred : Int) (i_carriers_notes : Nat → Int) (i_carriers_judge_words : Nat → Int) (i_carriers_judge_pile : Nat → Int) : Option (Int × Int × (Nat → Int) × (Nat → Int) × (Nat → Int) × (Nat → Int) × (Nat → Int) × (Nat → Int) × (Nat → Int) × (Nat → Int) × Int × Int × Int × (Nat → Int) × (Nat → Int) × (Nat → Int)) :=
  zn (x7 + 1) fun v1 =>
  k55 x1 x2 x3 x4 x6 v1 i_found i_queued i_slots i_states i_costs i_before i_by i_queue i_queuedAt i_heights i_carriers_judge_piled i_carriers_judge_tiring i_carriers_judge_barred i_carriers_notes i_carriers_judge_words i_carriers_judge_pile
def f_Planner_goOn_176 (i_hill_children : Int) (i_hill_laws : Int) (i_hill_inForce : Int) (i_hill_changes : Int) (i_weights : Nat → Int) (i_tops : Nat → Int) (i_hill_columns_many : Int) (i_hill_strengths : Nat → Int) (i_hill_expelled : Nat → Int) (i_hill_terms : Nat → Int) (i_hill_orders : Nat → Int) (i_hill_ordered : Nat → Int) (k18 : Int → Int → Int → Int → Int → Int → (Nat → Int) → (Nat → Int) → (Nat → Int) → (Nat → Int) → (Nat → Int) → (Nat → Int) → (Nat → Int) → (Nat → Int) → Int → Int → Int → (Nat → Int) → (Nat → Int) → (Nat → Int) → Option (Int × Int × (Nat → Int) × (Nat → Int) × (Nat → Int) × (Nat → Int) × (Nat → Int) × (Nat → Int) × (Nat → Int) × (Nat → Int) × Int × Int × Int × (Nat → Int) × (Nat → Int) × (Nat → Int))) (k55 : Int → Int → Int → Int → Int → Int → Int → Int → (Nat → Int) → (Nat → Int) → (Nat → Int) → (Nat → Int) → (Nat → Int) → (Nat → Int) → (Nat → Int) → (Nat → Int) → Int → Int → Int → (Nat → Int) → (Nat → Int) → (Nat → Int) → Option (Int × Int × (Nat → Int) × (Nat → Int) × (Nat → Int) × (Nat → Int) × (Nat → Int) × (Nat → Int) × (Nat → Int) × (Nat → Int) × Int × Int × Int × (Nat → Int) × (Nat → Int) × (Nat → Int))) (x1 : Int) (x2 : Int) (x3 : Int) (x4 : Int) (x6 : Int) (x7 : Int) (x10 : Int) (s0 : Int) (i_found : Int) (i_queued : Int) (i_slots : Nat → Int) (i_states : Nat → Int) (i_costs : Nat → Int) (i_before : Nat → Int) (i_by : Nat → Int) (i_queue : Nat → Int) (i_queuedAt : Nat → Int) (i_heights : Nat → Int) (i_carriers_judge_piled : Int) (i_carriers_judge_tiring : Int) (i_carriers_judge_barred : Int) (i_carriers_notes : Nat → Int) (i_carriers_judge_words : Nat → Int) (i_carriers_judge_pile : Nat → Int) : Option (Int × Int × (Nat → Int) × (Nat → Int) × (Nat → Int) × (Nat → Int) × (Nat → Int) × (Nat → Int) × (Nat → Int) × (Nat → Int) × Int × Int × Int × (Nat → Int) × (Nat → Int) × (Nat → Int)) :=
  zn (x4 * 32) fun v1 =>
  zn (x7 * 8) fun v2 =>
  zn (v1 + v2) fun v3 =>
  zn (v3 + x10) fun v4 =>
  zg 6720 i_states x1 fun v5 =>
  zd1 (f_Planner_carried v5 x4 x7 i_heights i_tops) fun v6 =>
  zg 6720 i_costs x1 fun v7 =>
  zn (v7 + s0) fun v8 =>
  zd9 (f_Planner_come v6 x1 v4 v8 i_found i_queued i_slots i_states i_costs i_before i_by i_queue i_queuedAt) fun v9 v10 a11 a12 a13 a14 a15 a16 a17 =>
  f_Planner_goOn_224 i_hill_children i_hill_laws i_hill_inForce i_hill_changes i_weights i_tops i_hill_columns_many i_hill_strengths i_hill_expelled i_hill_terms i_hill_orders i_hill_ordered k18 k55 x1 x2 x3 x4 x6 x7 v9 v10 a11 a12 a13 a14 a15 a16 a17 i_heights i_carriers_judge_piled i_carriers_judge_tiring i_carriers_judge_barred i_carriers_notes i_carriers_judge_words i_carriers_judge_pile
def f_Planner_goOn_153 (i_hill_children : Int) (i_hill_laws : Int) (i_hill_inForce : Int) (i_hill_changes : Int) (i_weights : Nat → Int) (i_tops : Nat → Int) (i_hill_columns_many : Int) (i_hill_strengths : Nat → Int) (i_hill_expelled : Nat → Int) (i_hill_terms : Nat → Int) (i_hill_orders : Nat → Int) (i_hill_ordered : Nat → Int) (k18 : Int → Int → Int → Int → Int → Int → (Nat → Int) → (Nat → Int) → (Nat → Int) → (Nat → Int) → (Nat → Int) → (Nat → Int) → (Nat → Int) → (Nat → Int) → Int → Int → Int → (Nat → Int) → (Nat → Int) → (Nat → Int) → Option (Int × Int × (Nat → Int) × (Nat → Int) × (Nat → Int) × (Nat → Int) × (Nat → Int) × (Nat → Int) × (Nat → Int) × (Nat → Int) × Int × Int × Int × (Nat → Int) × (Nat → Int) × (Nat → Int))) (k55 : Int → Int → Int → Int → Int → Int → Int → Int → (Nat → Int) → (Nat → Int) → (Nat → Int) → (Nat → Int) → (Nat → Int) → (Nat → Int) → (Nat → Int) → (Nat → Int) → Int → Int → Int → (Nat → Int) → (Nat → Int) → (Nat → Int) → Option (Int × Int × (Nat → Int) × (Nat → Int) × (Nat → Int) × (Nat → Int) × (Nat → Int) × (Nat → Int) × (Nat → Int) × (Nat → Int) × Int × Int × Int × (Nat → Int) × (Nat → Int) × (Nat → Int))) (x1 : Int) (x2 : Int) (x3 : Int) (x4 : Int) (x6 : Int) (x7 : Int) (x8 : Int) (x9 : Int) (s0 : Int) (i_found : Int) (i_queued : Int) (i_slots : Nat → Int) (i_states : Nat → Int) (i_costs : Nat → Int) (i_before : Nat → Int) (i_by : Nat → Int) (i_queue : Nat → Int) (i_queuedAt : Nat → Int) (i_heights : Nat → Int) (i_carriers_judge_piled : Int) (i_carriers_judge_tiring : Int) (i_carriers_judge_barred : Int) (i_carriers_notes : Nat → Int) (i_carriers_judge_words : Nat → Int) (i_carriers_judge_pile : Nat → Int) : Option (Int × Int × (Nat → Int) × (Nat → Int) × (Nat → Int) × (Nat → Int) × (Nat → Int) × (Nat → Int) × (Nat → Int) × (Nat → Int) × Int × Int × Int × (Nat → Int) × (Nat → Int) × (Nat → Int)) :=
  if zi_w x9 = 0 then
    f_Planner_goOn_176 i_hill_children i_hill_laws i_hill_inForce i_hill_changes i_weights i_tops i_hill_columns_many i_hill_strengths i_hill_expelled i_hill_terms i_hill_orders i_hill_ordered k18 k55 x1 x2 x3 x4 x6 x7 s0 1 i_found i_queued i_slots i_states i_costs i_before i_by i_queue i_queuedAt i_heights i_carriers_judge_piled i_carriers_judge_tiring i_carriers_judge_barred i_carriers_notes i_carriers_judge_words i_carriers_judge_pile
  else
    zd1 (f_Carriers_tiring x8) fun v1 =>
    zn (zi_w v1) fun v2 =>
    zn (8192 * v2) fun v3 =>
    zn (1 + v3) fun v4 =>
    f_Planner_goOn_176 i_hill_children i_hill_laws i_hill_inForce i_hill_changes i_weights i_tops i_hill_columns_many i_hill_strengths i_hill_expelled i_hill_terms i_hill_orders i_hill_ordered k18 k55 x1 x2 x3 x4 x6 x7 s0 v4 i_found i_queued i_slots i_states i_costs i_before i_by i_queue i_queuedAt i_heights i_carriers_judge_piled i_carriers_judge_tiring i_carriers_judge_barred i_carriers_notes i_carriers_judge_words i_carriers_judge_pile
def f_Planner_goOn_133 (i_hill_children : Int) (i_hill_laws : Int) (i_hill_inForce : Int) (i_hill_changes : Int) (i_weights : Nat → Int) (i_tops : Nat → Int) (i_hill_columns_many : Int) (i_hill_strengths : Nat → Int) (i_hill_expelled : Nat → Int) (i_hill_terms : Nat → Int) (i_hill_orders : Nat → Int) (i_hill_ordered : Nat → Int) (k18 : Int → Int → Int → Int → Int → Int → (Nat → Int) → (Nat → Int) → (Nat → Int) → (Nat → Int) → (Nat → Int) → (Nat → Int) → (Nat → Int) → (Nat → Int) → Int → Int → Int → (Nat → Int) → (Nat → Int) → (Nat → Int) → Option (Int × Int × (Nat → Int) × (Nat → Int) × (Nat → Int) × (Nat → Int) × (Nat → Int) × (Nat → Int) × (Nat → Int) × (Nat → Int) × Int × Int × Int × (Nat → Int) × (Nat → Int) × (Nat → Int))) (k55 : Int → Int → Int → Int → Int → Int → Int → Int → (Nat → Int) → (Nat → Int) → (Nat → Int) → (Nat → Int) → (Nat → Int) → (Nat → Int) → (Nat → Int) → (Nat → Int) → Int → Int → Int → (Nat → Int) → (Nat → Int) → (Nat → Int) → Option (Int × Int × (Nat → Int) × (Nat → Int) × (Nat → Int) × (Nat → Int) × (Nat → Int) × (Nat → Int) × (Nat → Int) × (Nat → Int) × Int × Int × Int × (Nat → Int) × (Nat → Int) × (Nat → Int))) (x1 : Int) (x2 : Int) (x3 : Int) (x4 : Int) (x6 : Int) (x7 : Int) (x8 : Int) (s0 : Int) (i_found : Int) (i_queued : Int) (i_slots : Nat → Int) (i_states : Nat → Int) (i_costs : Nat → Int) (i_before : Nat → Int) (i_by : Nat → Int) (i_queue : Nat → Int) (i_queuedAt : Nat → Int) (i_heights : Nat → Int) (i_carriers_judge_piled : Int) (i_carriers_judge_tiring : Int) (i_carriers_judge_barred : Int) (i_carriers_notes : Nat → Int) (i_carriers_judge_words : Nat → Int) (i_carriers_judge_pile : Nat → Int) : Option (Int × Int × (Nat → Int) × (Nat → Int) × (Nat → Int) × (Nat → Int) × (Nat → Int) × (Nat → Int) × (Nat → Int) × (Nat → Int) × Int × Int × Int × (Nat → Int) × (Nat → Int) × (Nat → Int)) :=
  if zi_w s0 = 0 then
    zd1 (f_Carriers_lowest x8) fun v1 =>
    f_Planner_goOn_153 i_hill_children i_hill_laws i_hill_inForce i_hill_changes i_weights i_tops i_hill_columns_many i_hill_strengths i_hill_expelled i_hill_terms i_hill_orders i_hill_ordered k18 k55 x1 x2 x3 x4 x6 x7 x8 s0 v1 i_found i_queued i_slots i_states i_costs i_before i_by i_queue i_queuedAt i_heights i_carriers_judge_piled i_carriers_judge_tiring i_carriers_judge_barred i_carriers_notes i_carriers_judge_words i_carriers_judge_pile
  else
    zd1 (f_Carriers_leastTired x8) fun v2 =>
    f_Planner_goOn_153 i_hill_children i_hill_laws i_hill_inForce i_hill_changes i_weights i_tops i_hill_columns_many i_hill_strengths i_hill_expelled i_hill_terms i_hill_orders i_hill_ordered k18 k55 x1 x2 x3 x4 x6 x7 x8 s0 v2 i_found i_queued i_slots i_states i_costs i_before i_by i_queue i_queuedAt i_heights i_carriers_judge_piled i_carriers_judge_tiring i_carriers_judge_barred i_carriers_notes i_carriers_judge_words i_carriers_judge_pile
def f_Planner_goOn_123 (i_hill_children : Int) (i_hill_laws : Int) (i_hill_inForce : Int) (i_hill_changes : Int) (i_weights : Nat → Int) (i_tops : Nat → Int) (i_hill_columns_many : Int) (i_hill_strengths : Nat → Int) (i_hill_expelled : Nat → Int) (i_hill_terms : Nat → Int) (i_hill_orders : Nat → Int) (i_hill_ordered : Nat → Int) (k18 : Int → Int → Int → Int → Int → Int → (Nat → Int) → (Nat → Int) → (Nat → Int) → (Nat → Int) → (Nat → Int) → (Nat → Int) → (Nat → Int) → (Nat → Int) → Int → Int → Int → (Nat → Int) → (Nat → Int) → (Nat → Int) → Option (Int × Int × (Nat → Int) × (Nat → Int) × (Nat → Int) × (Nat → Int) × (Nat → Int) × (Nat → Int) × (Nat → Int) × (Nat → Int) × Int × Int × Int × (Nat → Int) × (Nat → Int) × (Nat → Int))) (k55 : Int → Int → Int → Int → Int → Int → Int → Int → (Nat → Int) → (Nat → Int) → (Nat → Int) → (Nat → Int) → (Nat → Int) → (Nat → Int) → (Nat → Int) → (Nat → Int) → Int → Int → Int → (Nat → Int) → (Nat → Int) → (Nat → Int) → Option (Int × Int × (Nat → Int) × (Nat → Int) × (Nat → Int) × (Nat → Int) × (Nat → Int) × (Nat → Int) × (Nat → Int) × (Nat → Int) × Int × Int × Int × (Nat → Int) × (Nat → Int) × (Nat → Int))) (x1 : Int) (x2 : Int) (x3 : Int) (x4 : Int) (x6 : Int) (x7 : Int) (x8 : Int) (i_found : Int) (i_queued : Int) (i_slots : Nat → Int) (i_states : Nat → Int) (i_costs : Nat → Int) (i_before : Nat → Int) (i_by : Nat → Int) (i_queue : Nat → Int) (i_queuedAt : Nat → Int) (i_heights : Nat → Int) (i_carriers_judge_piled : Int) (i_carriers_judge_tiring : Int) (i_carriers_judge_barred : Int) (i_carriers_notes : Nat → Int) (i_carriers_judge_words : Nat → Int) (i_carriers_judge_pile : Nat → Int) : Option (Int × Int × (Nat → Int) × (Nat → Int) × (Nat → Int) × (Nat → Int) × (Nat → Int) × (Nat → Int) × (Nat → Int) × (Nat → Int) × Int × Int × Int × (Nat → Int) × (Nat → Int) × (Nat → Int)) :=
  if zi_w x2 ≠ zi_w 2 then
    f_Planner_goOn_133 i_hill_children i_hill_laws i_hill_inForce i_hill_changes i_weights i_tops i_hill_columns_many i_hill_strengths i_hill_expelled i_hill_terms i_hill_orders i_hill_ordered k18 k55 x1 x2 x3 x4 x6 x7 x8 0 i_found i_queued i_slots i_states i_costs i_before i_by i_queue i_queuedAt i_heights i_carriers_judge_piled i_carriers_judge_tiring i_carriers_judge_barred i_carriers_notes i_carriers_judge_words i_carriers_judge_pile
  else
    f_Planner_goOn_133 i_hill_children i_hill_laws i_hill_inForce i_hill_changes i_weights i_tops i_hill_columns_many i_hill_strengths i_hill_expelled i_hill_terms i_hill_orders i_hill_ordered k18 k55 x1 x2 x3 x4 x6 x7 x8 1 i_found i_queued i_slots i_states i_costs i_before i_by i_queue i_queuedAt i_heights i_carriers_judge_piled i_carriers_judge_tiring i_carriers_judge_barred i_carriers_notes i_carriers_judge_words i_carriers_judge_pile
def f_Planner_goOn_55_b (i_hill_children : Int) (i_hill_laws : Int) (i_hill_inForce : Int) (i_hill_changes : Int) (i_weights : Nat → Int) (i_tops : Nat → Int) (i_hill_columns_many : Int) (i_hill_strengths : Nat → Int) (i_hill_expelled : Nat → Int) (i_hill_terms : Nat → Int) (i_hill_orders : Nat → Int) (i_hill_ordered : Nat → Int) (k18 : Int → Int → Int → Int → Int → Int → (Nat → Int) → (Nat → Int) → (Nat → Int) → (Nat → Int) → (Nat → Int) → (Nat → Int) → (Nat → Int) → (Nat → Int) → Int → Int → Int → (Nat → Int) → (Nat → Int) → (Nat → Int) → Option (Int × Int × (Nat → Int) × (Nat → Int) × (Nat → Int) × (Nat → Int) × (Nat → Int) × (Nat → Int) × (Nat → Int) × (Nat → Int) × Int × Int × Int × (Nat → Int) × (Nat → Int) × (Nat → Int))) (k55 : Int → Int → Int → Int → Int → Int → Int → Int → (Nat → Int) → (Nat → Int) → (Nat → Int) → (Nat → Int) → (Nat → Int) → (Nat → Int) → (Nat → Int) → (Nat → Int) → Int → Int → Int → (Nat → Int) → (Nat → Int) → (Nat → Int) → Option (Int × Int × (Nat → Int) × (Nat → Int) × (Nat → Int) × (Nat → Int) × (Nat → Int) × (Nat → Int) × (Nat → Int) × (Nat → Int) × Int × Int × Int × (Nat → Int) × (Nat → Int) × (Nat → Int))) (x1 : Int) (x2 : Int) (x3 : Int) (x4 : Int) (x6 : Int) (x7 : Int) (i_found : Int) (i_queued : Int) (i_slots : Nat → Int) (i_states : Nat → Int) (i_costs : Nat → Int) (i_before : Nat → Int) (i_by : Nat → Int) (i_queue : Nat → Int) (i_queuedAt : Nat → Int) (i_heights : Nat → Int) (i_carriers_judge_piled : Int) (i_carriers_judge_tiring : Int) (i_carriers_judge_barred : Int) (i_carriers_notes : Nat → Int) (i_carriers_judge_words : Nat → Int) (i_carriers_judge_pile : Nat → Int) : Option (Int × Int × (Nat → Int) × (Nat → Int) × (Nat → Int) × (Nat → Int) × (Nat → Int) × (Nat → Int) × (Nat → Int) × (Nat → Int) × Int × Int × Int × (Nat → Int) × (Nat → Int) × (Nat → Int)) :=
  if zi_w x3 ≤ zi_w x7 then
    f_Planner_goOn_230 i_hill_children i_hill_laws i_hill_inForce i_hill_changes i_weights i_tops i_hill_columns_many i_hill_strengths i_hill_expelled i_hill_terms i_hill_orders i_hill_ordered k18 x1 x2 x3 x4 i_found i_queued i_slots i_states i_costs i_before i_by i_queue i_queuedAt i_heights i_carriers_judge_piled i_carriers_judge_tiring i_carriers_judge_barred i_carriers_notes i_carriers_judge_words i_carriers_judge_pile
  else
    zg 4 i_heights x4 fun v1 =>
    if zi_w v1 ≤ 0 then
      f_Planner_goOn_230 i_hill_children i_hill_laws i_hill_inForce i_hill_changes i_weights i_tops i_hill_columns_many i_hill_strengths i_hill_expelled i_hill_terms i_hill_orders i_hill_ordered k18 x1 x2 x3 x4 i_found i_queued i_slots i_states i_costs i_before i_by i_queue i_queuedAt i_heights i_carriers_judge_piled i_carriers_judge_tiring i_carriers_judge_barred i_carriers_notes i_carriers_judge_words i_carriers_judge_pile
    else
      zg 4 i_heights x4 fun v2 =>
      zg 4 i_heights x7 fun v3 =>
      zd7 (f_Carriers_note x4 x7 x6 v2 v3 i_hill_children i_hill_laws i_hill_inForce i_hill_changes i_hill_strengths i_hill_expelled i_hill_terms i_hill_orders i_hill_ordered i_carriers_judge_piled i_carriers_judge_tiring i_carriers_judge_barred i_carriers_notes i_carriers_judge_words i_carriers_judge_pile) fun v4 v5 v6 v7 a8 a9 a10 =>
      if zi_w v4 = zi_w (-1) then
        f_Planner_goOn_224 i_hill_children i_hill_laws i_hill_inForce i_hill_changes i_weights i_tops i_hill_columns_many i_hill_strengths i_hill_expelled i_hill_terms i_hill_orders i_hill_ordered k18 k55 x1 x2 x3 x4 x6 x7 i_found i_queued i_slots i_states i_costs i_before i_by i_queue i_queuedAt i_heights v5 v6 v7 a8 a9 a10
      else
        if zi_w x2 ≠ zi_w 1 then
          f_Planner_goOn_123 i_hill_children i_hill_laws i_hill_inForce i_hill_changes i_weights i_tops i_hill_columns_many i_hill_strengths i_hill_expelled i_hill_terms i_hill_orders i_hill_ordered k18 k55 x1 x2 x3 x4 x6 x7 v4 i_found i_queued i_slots i_states i_costs i_before i_by i_queue i_queuedAt i_heights v5 v6 v7 a8 a9 a10
        else
          zd2 (f_Planner_isSafe x4 x7 x3 i_hill_terms i_heights) fun v11 a12 =>
          if zi_w v11 = 0 then
            f_Planner_goOn_224 i_hill_children i_hill_laws i_hill_inForce i_hill_changes i_weights i_tops i_hill_columns_many i_hill_strengths i_hill_expelled i_hill_terms i_hill_orders i_hill_ordered k18 k55 x1 x2 x3 x4 x6 x7 i_found i_queued i_slots i_states i_costs i_before i_by i_queue i_queuedAt a12 v5 v6 v7 a8 a9 a10
          else
            f_Planner_goOn_123 i_hill_children i_hill_laws i_hill_inForce i_hill_changes i_weights i_tops i_hill_columns_many i_hill_strengths i_hill_expelled i_hill_terms i_hill_orders i_hill_ordered k18 k55 x1 x2 x3 x4 x6 x7 v4 i_found i_queued i_slots i_states i_costs i_before i_by i_queue i_queuedAt a12 v5 v6 v7 a8 a9 a10
def f_Planner_goOn_55 (i_hill_children : Int) (i_hill_laws : Int) (i_hill_inForce : Int) (i_hill_changes : Int) (i_weights : Nat → Int) (i_tops : Nat → Int) (i_hill_columns_many : Int) (i_hill_strengths : Nat → Int) (i_hill_expelled : Nat → Int) (i_hill_terms : Nat → Int) (i_hill_orders : Nat → Int) (i_hill_ordered : Nat → Int) (k18 : Int → Int → Int → Int → Int → Int → (Nat → Int) → (Nat → Int) → (Nat → Int) → (Nat → Int) → (Nat → Int) → (Nat → Int) → (Nat → Int) → (Nat → Int) → Int → Int → Int → (Nat → Int) → (Nat → Int) → (Nat → Int) → Option (Int × Int × (Nat → Int) × (Nat → Int) × (Nat → Int) × (Nat → Int) × (Nat → Int) × (Nat → Int) × (Nat → Int) × (Nat → Int) × Int × Int × Int × (Nat → Int) × (Nat → Int) × (Nat → Int))) : Nat → Int → Int → Int → Int → Int → Int → Int → Int → (Nat → Int) → (Nat → Int) → (Nat → Int) → (Nat → Int) → (Nat → Int) → (Nat → Int) → (Nat → Int) → (Nat → Int) → Int → Int → Int → (Nat → Int) → (Nat → Int) → (Nat → Int) → Option (Int × Int × (Nat → Int) × (Nat → Int) × (Nat → Int) × (Nat → Int) × (Nat → Int) × (Nat → Int) × (Nat → Int) × (Nat → Int) × Int × Int × Int × (Nat → Int) × (Nat → Int) × (Nat → Int))
  | 0 => fun _ _ _ _ _ _ _ _ _ _ _ _ _ _ _ _ _ _ _ _ _ _ => none
  | n + 1 => fun y0 y1 y2 y3 y4 y5 y6 y7 y8 y9 y10 y11 y12 y13 y14 y15 y16 y17 y18 y19 y20 y21 => f_Planner_goOn_55_b i_hill_children i_hill_laws i_hill_inForce i_hill_changes i_weights i_tops i_hill_columns_many i_hill_strengths i_hill_expelled i_hill_terms i_hill_orders i_hill_ordered k18 (f_Planner_goOn_55 i_hill_children i_hill_laws i_hill_inForce i_hill_changes i_weights i_tops i_hill_columns_many i_hill_strengths i_hill_expelled i_hill_terms i_hill_orders i_hill_ordered k18 n) y0 y1 y2 y3 y4 y5 y6 y7 y8 y9 y10 y11 y12 y13 y14 y15 y16 y17 y18 y19 y20 y21
def f_Planner_goOn_50 (i_hill_children : Int) (i_hill_laws : Int) (i_hill_inForce : Int) (i_hill_changes : Int) (i_weights : Nat → Int) (i_tops : Nat → Int) (i_hill_columns_many : Int) (i_hill_strengths : Nat → Int) (i_hill_expelled : Nat → Int) (i_hill_terms : Nat → Int) (i_hill_orders : Nat → Int) (i_hill_ordered : Nat → Int) (k18 : Int → Int → Int → Int → Int → Int → (Nat → Int) → (Nat → Int) → (Nat → Int) → (Nat → Int) → (Nat → Int) → (Nat → Int) → (Nat → Int) → (Nat → Int) → Int → Int → Int → (Nat → Int) → (Nat → Int) → (Nat → Int) → Option (Int × Int × (Nat → Int) × (Nat → Int) × (Nat → Int) × (Nat → Int) × (Nat → Int) × (Nat → Int) × (Nat → Int) × (Nat → Int) × Int × Int × Int × (Nat → Int) × (Nat → Int) × (Nat → Int))) (x1 : Int) (x2 : Int) (x3 : Int) (x4 : Int) (s0 : Int) (i_found : Int) (i_queued : Int) (i_slots : Nat → Int) (i_states : Nat → Int) (i_costs : Nat → Int) (i_before : Nat → Int) (i_by : Nat → Int) (i_queue : Nat → Int) (i_queuedAt : Nat → Int) (i_heights : Nat → Int) (i_carriers_judge_piled : Int) (i_carriers_judge_tiring : Int) (i_carriers_judge_barred : Int) (i_carriers_notes : Nat → Int) (i_carriers_judge_words : Nat → Int) (i_carriers_judge_pile : Nat → Int) : Option (Int × Int × (Nat → Int) × (Nat → Int) × (Nat → Int) × (Nat → Int) × (Nat → Int) × (Nat → Int) × (Nat → Int) × (Nat → Int) × Int × Int × Int × (Nat → Int) × (Nat → Int) × (Nat → Int)) :=
  f_Planner_goOn_55 i_hill_children i_hill_laws i_hill_inForce i_hill_changes i_weights i_tops i_hill_columns_many i_hill_strengths i_hill_expelled i_hill_terms i_hill_orders i_hill_ordered k18 zfu x1 x2 x3 x4 s0 0 i_found i_queued i_slots i_states i_costs i_before i_by i_queue i_queuedAt i_heights i_carriers_judge_piled i_carriers_judge_tiring i_carriers_judge_barred i_carriers_notes i_carriers_judge_words i_carriers_judge_pile
def f_Planner_goOn_18_b (i_hill_children : Int) (i_hill_laws : Int) (i_hill_inForce : Int) (i_hill_changes : Int) (i_weights : Nat → Int) (i_tops : Nat → Int) (i_hill_columns_many : Int) (i_hill_strengths : Nat → Int) (i_hill_expelled : Nat → Int) (i_hill_terms : Nat → Int) (i_hill_orders : Nat → Int) (i_hill_ordered : Nat → Int) (k18 : Int → Int → Int → Int → Int → Int → (Nat → Int) → (Nat → Int) → (Nat → Int) → (Nat → Int) → (Nat → Int) → (Nat → Int) → (Nat → Int) → (Nat → Int) → Int → Int → Int → (Nat → Int) → (Nat → Int) → (Nat → Int) → Option (Int × Int × (Nat → Int) × (Nat → Int) × (Nat → Int) × (Nat → Int) × (Nat → Int) × (Nat → Int) × (Nat → Int) × (Nat → Int) × Int × Int × Int × (Nat → Int) × (Nat → Int) × (Nat → Int))) (x1 : Int) (x2 : Int) (x3 : Int) (x4 : Int) (i_found : Int) (i_queued : Int) (i_slots : Nat → Int) (i_states : Nat → Int) (i_costs : Nat → Int) (i_before : Nat → Int) (i_by : Nat → Int) (i_queue : Nat → Int) (i_queuedAt : Nat → Int) (i_heights : Nat → Int) (i_carriers_judge_piled : Int) (i_carriers_judge_tiring : Int) (i_carriers_judge_barred : Int) (i_carriers_notes : Nat → Int) (i_carriers_judge_words : Nat → Int) (i_carriers_judge_pile : Nat → Int) : Option (Int × Int × (Nat → Int) × (Nat → Int) × (Nat → Int) × (Nat → Int) × (Nat → Int) × (Nat → Int) × (Nat → Int) × (Nat → Int) × Int × Int × Int × (Nat → Int) × (Nat → Int) × (Nat → Int)) :=
  if zi_w x3 ≤ zi_w x4 then
    some (i_found, i_queued, i_slots, i_states, i_costs, i_before, i_by, i_queue, i_queuedAt, i_heights, i_carriers_judge_piled, i_carriers_judge_tiring, i_carriers_judge_barred, i_carriers_notes, i_carriers_judge_words, i_carriers_judge_pile)
  else
    zg 4 i_tops x4 fun v1 =>
    if zi_w 5 < zi_w v1 then
      f_Planner_goOn_50 i_hill_children i_hill_laws i_hill_inForce i_hill_changes i_weights i_tops i_hill_columns_many i_hill_strengths i_hill_expelled i_hill_terms i_hill_orders i_hill_ordered k18 x1 x2 x3 x4 0 i_found i_queued i_slots i_states i_costs i_before i_by i_queue i_queuedAt i_heights i_carriers_judge_piled i_carriers_judge_tiring i_carriers_judge_barred i_carriers_notes i_carriers_judge_words i_carriers_judge_pile
    else
      zg 6 i_weights v1 fun v2 =>
      f_Planner_goOn_50 i_hill_children i_hill_laws i_hill_inForce i_hill_changes i_weights i_tops i_hill_columns_many i_hill_strengths i_hill_expelled i_hill_terms i_hill_orders i_hill_ordered k18 x1 x2 x3 x4 v2 i_found i_queued i_slots i_states i_costs i_before i_by i_queue i_queuedAt i_heights i_carriers_judge_piled i_carriers_judge_tiring i_carriers_judge_barred i_carriers_notes i_carriers_judge_words i_carriers_judge_pile
def f_Planner_goOn_18 (i_hill_children : Int) (i_hill_laws : Int) (i_hill_inForce : Int) (i_hill_changes : Int) (i_weights : Nat → Int) (i_tops : Nat → Int) (i_hill_columns_many : Int) (i_hill_strengths : Nat → Int) (i_hill_expelled : Nat → Int) (i_hill_terms : Nat → Int) (i_hill_orders : Nat → Int) (i_hill_ordered : Nat → Int) : Nat → Int → Int → Int → Int → Int → Int → (Nat → Int) → (Nat → Int) → (Nat → Int) → (Nat → Int) → (Nat → Int) → (Nat → Int) → (Nat → Int) → (Nat → Int) → Int → Int → Int → (Nat → Int) → (Nat → Int) → (Nat → Int) → Option (Int × Int × (Nat → Int) × (Nat → Int) × (Nat → Int) × (Nat → Int) × (Nat → Int) × (Nat → Int) × (Nat → Int) × (Nat → Int) × Int × Int × Int × (Nat → Int) × (Nat → Int) × (Nat → Int))
  | 0 => fun _ _ _ _ _ _ _ _ _ _ _ _ _ _ _ _ _ _ _ _ => none
  | n + 1 => fun y0 y1 y2 y3 y4 y5 y6 y7 y8 y9 y10 y11 y12 y13 y14 y15 y16 y17 y18 y19 => f_Planner_goOn_18_b i_hill_children i_hill_laws i_hill_inForce i_hill_changes i_weights i_tops i_hill_columns_many i_hill_strengths i_hill_expelled i_hill_terms i_hill_orders i_hill_ordered (f_Planner_goOn_18 i_hill_children i_hill_laws i_hill_inForce i_hill_changes i_weights i_tops i_hill_columns_many i_hill_strengths i_hill_expelled i_hill_terms i_hill_orders i_hill_ordered n) y0 y1 y2 y3 y4 y5 y6 y7 y8 y9 y10 y11 y12 y13 y14 y15 y16 y17 y18 y19
def f_Planner_goOn (x1 : Int) (x2 : Int) (i_hill_children : Int) (i_hill_laws : Int) (i_hill_inForce : Int) (i_hill_changes : Int) (i_weights : Nat → Int) (i_tops : Nat → Int) (i_hill_columns_many : Int) (i_hill_strengths : Nat → Int) (i_hill_expelled : Nat → Int) (i_hill_terms : Nat → Int) (i_hill_orders : Nat → Int) (i_hill_ordered : Nat → Int) (i_found : Int) (i_queued : Int) (i_slots : Nat → Int) (i_states : Nat → Int) (i_costs : Nat → Int) (i_before : Nat → Int) (i_by : Nat → Int) (i_queue : Nat → Int) (i_queuedAt : Nat → Int) (i_heights : Nat → Int) (i_carriers_judge_piled : Int) (i_carriers_judge_tiring : Int) (i_carriers_judge_barred : Int) (i_carriers_notes : Nat → Int) (i_carriers_judge_words : Nat → Int) (i_carriers_judge_pile : Nat → Int) : Option (Int × Int × (Nat → Int) × (Nat → Int) × (Nat → Int) × (Nat → Int) × (Nat → Int) × (Nat → Int) × (Nat → Int) × (Nat → Int) × Int × Int × Int × (Nat → Int) × (Nat → Int) × (Nat → Int)) :=
  zn (zi_min 4 i_hill_columns_many) fun v1 =>
  f_Planner_goOn_18 i_hill_children i_hill_laws i_hill_inForce i_hill_changes i_weights i_tops i_hill_columns_many i_hill_strengths i_hill_expelled i_hill_terms i_hill_orders i_hill_ordered zfu x1 x2 v1 0 i_found i_queued i_slots i_states i_costs i_before i_by i_queue i_queuedAt i_heights i_carriers_judge_piled i_carriers_judge_tiring i_carriers_judge_barred i_carriers_notes i_carriers_judge_words i_carriers_judge_pile
def f_Planner_search_140 (i_hill_children : Int) (i_hill_laws : Int) (i_hill_inForce : Int) (i_hill_changes : Int) (i_hill_columns_many : Int) (i_hill_strengths : Nat → Int) (i_hill_expelled : Nat → Int) (i_hill_terms : Nat → Int) (i_hill_goals : Nat → Int) (i_hill_orders : Nat → Int) (i_hill_ordered : Nat → Int) (i_hill_columns_heights : Nat → Int) (i_hill_columns_weights : Nat → Int) (k33 : Int → Int → Int → Int → Int → Int → (Nat → Int) → (Nat → Int) → (Nat → Int) → (Nat → Int) → (Nat → Int) → (Nat → Int) → (Nat → Int) → (Nat → Int) → (Nat → Int) → (Nat → Int) → Int → Int → Int → (Nat → Int) → (Nat → Int) → (Nat → Int) → Option (Int × Int × Int × Int × (Nat → Int) × (Nat → Int) × (Nat → Int) × (Nat → Int) × (Nat → Int) × (Nat → Int) × (Nat → Int) × (Nat → Int) × (Nat → Int) × (Nat → Int) × Int × Int × Int × (Nat → Int) × (Nat → Int) × (Nat → Int))) (x1 : Int) (x2 : Int) (x3 : Int) (i_kinds : Int) (i_found : Int) (i_queued : Int) (i_slots : Nat → Int) (i_states : Nat → Int) (i_costs : Nat → Int) (i_before : Nat → Int) (i_by : Nat → Int) (i_queue : Nat → Int) (i_queuedAt : Nat → Int) (i_weights : Nat → Int) (i_heights : Nat → Int) (i_tops : Nat → Int) (i_carriers_judge_piled : Int) (i_carriers_judge_tiring : Int) (i_carriers_judge_barred : Int) (i_carriers_notes : Nat → Int) (i_carriers_judge_words : Nat → Int) (i_carriers_judge_pile : Nat → Int) : Option (Int × Int × Int × Int × (Nat → Int) × (Nat → Int) × (Nat → Int) × (Nat → Int) × (Nat → Int) × (Nat → Int) × (Nat → Int) × (Nat → Int) × (Nat → Int) × (Nat → Int) × Int × Int × Int × (Nat → Int) × (Nat → Int) × (Nat → Int)) :=
  zn (x3 + 1) fun v1 =>
  k33 x1 x2 v1 i_kinds i_found i_queued i_slots i_states i_costs i_before i_by i_queue i_queuedAt i_weights i_heights i_tops i_carriers_judge_piled i_carriers_judge_tiring i_carriers_judge_barred i_carriers_notes i_carriers_judge_words i_carriers_judge_pile
def f_Planner_search_122 (i_hill_children : Int) (i_hill_laws : Int) (i_hill_inForce : Int) (i_hill_changes : Int) (i_hill_columns_many : Int) (i_hill_strengths : Nat → Int) (i_hill_expelled : Nat → Int) (i_hill_terms : Nat → Int) (i_hill_goals : Nat → Int) (i_hill_orders : Nat → Int) (i_hill_ordered : Nat → Int) (i_hill_columns_heights : Nat → Int) (i_hill_columns_weights : Nat → Int) (k33 : Int → Int → Int → Int → Int → Int → (Nat → Int) → (Nat → Int) → (Nat → Int) → (Nat → Int) → (Nat → Int) → (Nat → Int) → (Nat → Int) → (Nat → Int) → (Nat → Int) → (Nat → Int) → Int → Int → Int → (Nat → Int) → (Nat → Int) → (Nat → Int) → Option (Int × Int × Int × Int × (Nat → Int) × (Nat → Int) × (Nat → Int) × (Nat → Int) × (Nat → Int) × (Nat → Int) × (Nat → Int) × (Nat → Int) × (Nat → Int) × (Nat → Int) × Int × Int × Int × (Nat → Int) × (Nat → Int) × (Nat → Int))) (x1 : Int) (x3 : Int) (x4 : Int) (i_kinds : Int) (i_found : Int) (i_queued : Int) (i_slots : Nat → Int) (i_states : Nat → Int) (i_costs : Nat → Int) (i_before : Nat → Int) (i_by : Nat → Int) (i_queue : Nat → Int) (i_queuedAt : Nat → Int) (i_weights : Nat → Int) (i_heights : Nat → Int) (i_tops : Nat → Int) (i_carriers_judge_piled : Int) (i_carriers_judge_tiring : Int) (i_carriers_judge_barred : Int) (i_carriers_notes : Nat → Int) (i_carriers_judge_words : Nat → Int) (i_carriers_judge_pile : Nat → Int) : Option (Int × Int × Int × Int × (Nat → Int) × (Nat → Int) × (Nat → Int) × (Nat → Int) × (Nat → Int) × (Nat → Int) × (Nat → Int) × (Nat → Int) × (Nat → Int) × (Nat → Int) × Int × Int × Int × (Nat → Int) × (Nat → Int) × (Nat → Int)) :=
  f_Planner_search_140 i_hill_children i_hill_laws i_hill_inForce i_hill_changes i_hill_columns_many i_hill_strengths i_hill_expelled i_hill_terms i_hill_goals i_hill_orders i_hill_ordered i_hill_columns_heights i_hill_columns_weights k33 x1 x4 x3 i_kinds i_found i_queued i_slots i_states i_costs i_before i_by i_queue i_queuedAt i_weights i_heights i_tops i_carriers_judge_piled i_carriers_judge_tiring i_carriers_judge_barred i_carriers_notes i_carriers_judge_words i_carriers_judge_pile
def f_Planner_search_77 (i_hill_children : Int) (i_hill_laws : Int) (i_hill_inForce : Int) (i_hill_changes : Int) (i_hill_columns_many : Int) (i_hill_strengths : Nat → Int) (i_hill_expelled : Nat → Int) (i_hill_terms : Nat → Int) (i_hill_goals : Nat → Int) (i_hill_orders : Nat → Int) (i_hill_ordered : Nat → Int) (i_hill_columns_heights : Nat → Int) (i_hill_columns_weights : Nat → Int) (k33 : Int → Int → Int → Int → Int → Int → (Nat → Int) → (Nat → Int) → (Nat → Int) → (Nat → Int) → (Nat → Int) → (Nat → Int) → (Nat → Int) → (Nat → Int) → (Nat → Int) → (Nat → Int) → Int → Int → Int → (Nat → Int) → (Nat → Int) → (Nat → Int) → Option (Int × Int × Int × Int × (Nat → Int) × (Nat → Int) × (Nat → Int) × (Nat → Int) × (Nat → Int) × (Nat → Int) × (Nat → Int) × (Nat → Int) × (Nat → Int) × (Nat → Int) × Int × Int × Int × (Nat → Int) × (Nat → Int) × (Nat → Int))) (x1 : Int) (x2 : Int) (x3 : Int) (x4 : Int) (i_kinds : Int) (i_found : Int) (i_queued : Int) (i_slots : Nat → Int) (i_states : Nat → Int) (i_costs : Nat → Int) (i_before : Nat → Int) (i_by : Nat → Int) (i_queue : Nat → Int) (i_queuedAt : Nat → Int) (i_weights : Nat → Int) (i_heights : Nat → Int) (i_tops : Nat → Int) (i_carriers_judge_piled : Int) (i_carriers_judge_tiring : Int) (i_carriers_judge_barred : Int) (i_carriers_notes : Nat → Int) (i_carriers_judge_words : Nat → Int) (i_carriers_judge_pile : Nat → Int) : Option (Int × Int × Int × Int × (Nat → Int) × (Nat → Int) × (Nat → Int) × (Nat → Int) × (Nat → Int) × (Nat → Int) × (Nat → Int) × (Nat → Int) × (Nat → Int) × (Nat → Int) × Int × Int × Int × (Nat → Int) × (Nat → Int) × (Nat → Int)) :=
  zg 6720 i_states x4 fun v1 =>
  zd2 (f_Planner_look v1 i_heights i_tops) fun a2 a3 =>
  zd1 (f_Planner_goalsAreSo a2 i_hill_columns_many i_hill_goals) fun v4 =>
  if zi_w v4 = 0 then
    if zi_w x2 ≠ zi_w (-1) then
      f_Planner_search_140 i_hill_children i_hill_laws i_hill_inForce i_hill_changes i_hill_columns_many i_hill_strengths i_hill_expelled i_hill_terms i_hill_goals i_hill_orders i_hill_ordered i_hill_columns_heights i_hill_columns_weights k33 x1 x2 x3 i_kinds i_found i_queued i_slots i_states i_costs i_before i_by i_queue i_queuedAt i_weights a2 a3 i_carriers_judge_piled i_carriers_judge_tiring i_carriers_judge_barred i_carriers_notes i_carriers_judge_words i_carriers_judge_pile
    else
      zd16 (f_Planner_goOn x4 x1 i_hill_children i_hill_laws i_hill_inForce i_hill_changes i_weights a3 i_hill_columns_many i_hill_strengths i_hill_expelled i_hill_terms i_hill_orders i_hill_ordered i_found i_queued i_slots i_states i_costs i_before i_by i_queue i_queuedAt a2 i_carriers_judge_piled i_carriers_judge_tiring i_carriers_judge_barred i_carriers_notes i_carriers_judge_words i_carriers_judge_pile) fun v5 v6 a7 a8 a9 a10 a11 a12 a13 a14 v15 v16 v17 a18 a19 a20 =>
      f_Planner_search_140 i_hill_children i_hill_laws i_hill_inForce i_hill_changes i_hill_columns_many i_hill_strengths i_hill_expelled i_hill_terms i_hill_goals i_hill_orders i_hill_ordered i_hill_columns_heights i_hill_columns_weights k33 x1 x2 x3 i_kinds v5 v6 a7 a8 a9 a10 a11 a12 a13 i_weights a14 a3 v15 v16 v17 a18 a19 a20
  else
    if zi_w x2 = zi_w (-1) then
      f_Planner_search_122 i_hill_children i_hill_laws i_hill_inForce i_hill_changes i_hill_columns_many i_hill_strengths i_hill_expelled i_hill_terms i_hill_goals i_hill_orders i_hill_ordered i_hill_columns_heights i_hill_columns_weights k33 x1 x3 x4 i_kinds i_found i_queued i_slots i_states i_costs i_before i_by i_queue i_queuedAt i_weights a2 a3 i_carriers_judge_piled i_carriers_judge_tiring i_carriers_judge_barred i_carriers_notes i_carriers_judge_words i_carriers_judge_pile
    else
      zg 6720 i_before x4 fun v21 =>
      zg 6720 i_by x4 fun v22 =>
      zd1 (f_Planner_isEarlier v21 v22 x2 i_before i_by) fun v23 =>
      if zi_w v23 = 0 then
        f_Planner_search_140 i_hill_children i_hill_laws i_hill_inForce i_hill_changes i_hill_columns_many i_hill_strengths i_hill_expelled i_hill_terms i_hill_goals i_hill_orders i_hill_ordered i_hill_columns_heights i_hill_columns_weights k33 x1 x2 x3 i_kinds i_found i_queued i_slots i_states i_costs i_before i_by i_queue i_queuedAt i_weights a2 a3 i_carriers_judge_piled i_carriers_judge_tiring i_carriers_judge_barred i_carriers_notes i_carriers_judge_words i_carriers_judge_pile
      else
        f_Planner_search_122 i_hill_children i_hill_laws i_hill_inForce i_hill_changes i_hill_columns_many i_hill_strengths i_hill_expelled i_hill_terms i_hill_goals i_hill_orders i_hill_ordered i_hill_columns_heights i_hill_columns_weights k33 x1 x3 x4 i_kinds i_found i_queued i_slots i_states i_costs i_before i_by i_queue i_queuedAt i_weights a2 a3 i_carriers_judge_piled i_carriers_judge_tiring i_carriers_judge_barred i_carriers_notes i_carriers_judge_words i_carriers_judge_pile
def f_Planner_search_33_b (i_hill_children : Int) (i_hill_laws : Int) (i_hill_inForce : Int) (i_hill_changes : Int) (i_hill_columns_many : Int) (i_hill_strengths : Nat → Int) (i_hill_expelled : Nat → Int) (i_hill_terms : Nat → Int) (i_hill_goals : Nat → Int) (i_hill_orders : Nat → Int) (i_hill_ordered : Nat → Int) (i_hill_columns_heights : Nat → Int) (i_hill_columns_weights : Nat → Int) (k33 : Int → Int → Int → Int → Int → Int → (Nat → Int) → (Nat → Int) → (Nat → Int) → (Nat → Int) → (Nat → Int) → (Nat → Int) → (Nat → Int) → (Nat → Int) → (Nat → Int) → (Nat → Int) → Int → Int → Int → (Nat → Int) → (Nat → Int) → (Nat → Int) → Option (Int × Int × Int × Int × (Nat → Int) × (Nat → Int) × (Nat → Int) × (Nat → Int) × (Nat → Int) × (Nat → Int) × (Nat → Int) × (Nat → Int) × (Nat → Int) × (Nat → Int) × Int × Int × Int × (Nat → Int) × (Nat → Int) × (Nat → Int))) (x1 : Int) (x2 : Int) (x3 : Int) (i_kinds : Int) (i_found : Int) (i_queued : Int) (i_slots : Nat → Int) (i_states : Nat → Int) (i_costs : Nat → Int) (i_before : Nat → Int) (i_by : Nat → Int) (i_queue : Nat → Int) (i_queuedAt : Nat → Int) (i_weights : Nat → Int) (i_heights : Nat → Int) (i_tops : Nat → Int) (i_carriers_judge_piled : Int) (i_carriers_judge_tiring : Int) (i_carriers_judge_barred : Int) (i_carriers_notes : Nat → Int) (i_carriers_judge_words : Nat → Int) (i_carriers_judge_pile : Nat → Int) : Option (Int × Int × Int × Int × (Nat → Int) × (Nat → Int) × (Nat → Int) × (Nat → Int) × (Nat → Int) × (Nat → Int) × (Nat → Int) × (Nat → Int) × (Nat → Int) × (Nat → Int) × Int × Int × Int × (Nat → Int) × (Nat → Int) × (Nat → Int)) :=
  if zi_w 6720 ≤ zi_w x3 then
    some (x2, i_kinds, i_found, i_queued, i_slots, i_states, i_costs, i_before, i_by, i_queue, i_queuedAt, i_weights, i_heights, i_tops, i_carriers_judge_piled, i_carriers_judge_tiring, i_carriers_judge_barred, i_carriers_notes, i_carriers_judge_words, i_carriers_judge_pile)
  else
    if zi_w i_queued ≤ 0 then
      some (x2, i_kinds, i_found, i_queued, i_slots, i_states, i_costs, i_before, i_by, i_queue, i_queuedAt, i_weights, i_heights, i_tops, i_carriers_judge_piled, i_carriers_judge_tiring, i_carriers_judge_barred, i_carriers_notes, i_carriers_judge_words, i_carriers_judge_pile)
    else
      zd4 (f_Planner_leave i_costs i_queued i_queue i_queuedAt) fun v1 v2 a3 a4 =>
      if zi_w x2 = zi_w (-1) then
        f_Planner_search_77 i_hill_children i_hill_laws i_hill_inForce i_hill_changes i_hill_columns_many i_hill_strengths i_hill_expelled i_hill_terms i_hill_goals i_hill_orders i_hill_ordered i_hill_columns_heights i_hill_columns_weights k33 x1 x2 x3 v1 i_kinds i_found v2 i_slots i_states i_costs i_before i_by a3 a4 i_weights i_heights i_tops i_carriers_judge_piled i_carriers_judge_tiring i_carriers_judge_barred i_carriers_notes i_carriers_judge_words i_carriers_judge_pile
      else
        zg 6720 i_costs v1 fun v5 =>
        zg 6720 i_costs x2 fun v6 =>
        if zl_w v5 ≤ zl_w v6 then
          f_Planner_search_77 i_hill_children i_hill_laws i_hill_inForce i_hill_changes i_hill_columns_many i_hill_strengths i_hill_expelled i_hill_terms i_hill_goals i_hill_orders i_hill_ordered i_hill_columns_heights i_hill_columns_weights k33 x1 x2 x3 v1 i_kinds i_found v2 i_slots i_states i_costs i_before i_by a3 a4 i_weights i_heights i_tops i_carriers_judge_piled i_carriers_judge_tiring i_carriers_judge_barred i_carriers_notes i_carriers_judge_words i_carriers_judge_pile
        else
          some (x2, i_kinds, i_found, v2, i_slots, i_states, i_costs, i_before, i_by, a3, a4, i_weights, i_heights, i_tops, i_carriers_judge_piled, i_carriers_judge_tiring, i_carriers_judge_barred, i_carriers_notes, i_carriers_judge_words, i_carriers_judge_pile)
def f_Planner_search_33 (i_hill_children : Int) (i_hill_laws : Int) (i_hill_inForce : Int) (i_hill_changes : Int) (i_hill_columns_many : Int) (i_hill_strengths : Nat → Int) (i_hill_expelled : Nat → Int) (i_hill_terms : Nat → Int) (i_hill_goals : Nat → Int) (i_hill_orders : Nat → Int) (i_hill_ordered : Nat → Int) (i_hill_columns_heights : Nat → Int) (i_hill_columns_weights : Nat → Int) : Nat → Int → Int → Int → Int → Int → Int → (Nat → Int) → (Nat → Int) → (Nat → Int) → (Nat → Int) → (Nat → Int) → (Nat → Int) → (Nat → Int) → (Nat → Int) → (Nat → Int) → (Nat → Int) → Int → Int → Int → (Nat → Int) → (Nat → Int) → (Nat → Int) → Option (Int × Int × Int × Int × (Nat → Int) × (Nat → Int) × (Nat → Int) × (Nat → Int) × (Nat → Int) × (Nat → Int) × (Nat → Int) × (Nat → Int) × (Nat → Int) × (Nat → Int) × Int × Int × Int × (Nat → Int) × (Nat → Int) × (Nat → Int))
  | 0 => fun _ _ _ _ _ _ _ _ _ _ _ _ _ _ _ _ _ _ _ _ _ _ => none
  | n + 1 => fun y0 y1 y2 y3 y4 y5 y6 y7 y8 y9 y10 y11 y12 y13 y14 y15 y16 y17 y18 y19 y20 y21 => f_Planner_search_33_b i_hill_children i_hill_laws i_hill_inForce i_hill_changes i_hill_columns_many i_hill_strengths i_hill_expelled i_hill_terms i_hill_goals i_hill_orders i_hill_ordered i_hill_columns_heights i_hill_columns_weights (f_Planner_search_33 i_hill_children i_hill_laws i_hill_inForce i_hill_changes i_hill_columns_many i_hill_strengths i_hill_expelled i_hill_terms i_hill_goals i_hill_orders i_hill_ordered i_hill_columns_heights i_hill_columns_weights n) y0 y1 y2 y3 y4 y5 y6 y7 y8 y9 y10 y11 y12 y13 y14 y15 y16 y17 y18 y19 y20 y21
def f_Planner_search (x1 : Int) (i_hill_children : Int) (i_hill_laws : Int) (i_hill_inForce : Int) (i_hill_changes : Int) (i_hill_columns_many : Int) (i_hill_strengths : Nat → Int) (i_hill_expelled : Nat → Int) (i_hill_terms : Nat → Int) (i_hill_goals : Nat → Int) (i_hill_orders : Nat → Int) (i_hill_ordered : Nat → Int) (i_hill_columns_heights : Nat → Int) (i_hill_columns_weights : Nat → Int) (i_kinds : Int) (i_found : Int) (i_queued : Int) (i_slots : Nat → Int) (i_states : Nat → Int) (i_costs : Nat → Int) (i_before : Nat → Int) (i_by : Nat → Int) (i_queue : Nat → Int) (i_queuedAt : Nat → Int) (i_weights : Nat → Int) (i_heights : Nat → Int) (i_tops : Nat → Int) (i_carriers_judge_piled : Int) (i_carriers_judge_tiring : Int) (i_carriers_judge_barred : Int) (i_carriers_notes : Nat → Int) (i_carriers_judge_words : Nat → Int) (i_carriers_judge_pile : Nat → Int) : Option (Int × Int × Int × Int × (Nat → Int) × (Nat → Int) × (Nat → Int) × (Nat → Int) × (Nat → Int) × (Nat → Int) × (Nat → Int) × (Nat → Int) × (Nat → Int) × (Nat → Int) × Int × Int × Int × (Nat → Int) × (Nat → Int) × (Nat → Int)) :=
  zd1 (f_Arrays_fill_n16384 0 i_slots) fun a1 =>
  zd3 (f_Planner_firstState i_hill_columns_many i_hill_columns_heights i_hill_columns_weights i_kinds i_weights) fun v2 v3 a4 =>
  zd9 (f_Planner_come v2 (-1) 0 0 0 0 a1 i_states i_costs i_before i_by i_queue i_queuedAt) fun v5 v6 a7 a8 a9 a10 a11 a12 a13 =>
  f_Planner_search_33 i_hill_children i_hill_laws i_hill_inForce i_hill_changes i_hill_columns_many i_hill_strengths i_hill_expelled i_hill_terms i_hill_goals i_hill_orders i_hill_ordered i_hill_columns_heights i_hill_columns_weights zfu x1 (-1) 0 v3 v5 v6 a7 a8 a9 a10 a11 a12 a13 a4 i_heights i_tops i_carriers_judge_piled i_carriers_judge_tiring i_carriers_judge_barred i_carriers_notes i_carriers_judge_words i_carriers_judge_pile
def f_Planner_isSmall (i_hill_columns_many : Int) (i_hill_columns_heights : Nat → Int) : Option (Int) :=
  if zi_w 4 < zi_w i_hill_columns_many then
    some 0
  else
    zd1 (f_Columns_stones i_hill_columns_many i_hill_columns_heights) fun v1 =>
    if zi_w 5 < zi_w v1 then
      some 0
    else
      some 1
def f_Planner_planned_74c (i_hill_children : Int) (i_hill_laws : Int) (i_hill_inForce : Int) (i_hill_changes : Int) (i_hill_columns_many : Int) (i_hill_strengths : Nat → Int) (i_hill_expelled : Nat → Int) (i_hill_terms : Nat → Int) (i_hill_goals : Nat → Int) (i_hill_orders : Nat → Int) (i_hill_ordered : Nat → Int) (i_hill_columns_heights : Nat → Int) (i_hill_columns_weights : Nat → Int) (s2 : Int) (i_kinds : Int) (i_found : Int) (i_queued : Int) (i_slots : Nat → Int) (i_states : Nat → Int) (i_costs : Nat → Int) (i_before : Nat → Int) (i_by : Nat → Int) (i_queue : Nat → Int) (i_queuedAt : Nat → Int) (i_weights : Nat → Int) (i_heights : Nat → Int) (i_tops : Nat → Int) (i_carriers_judge_piled : Int) (i_carriers_judge_tiring : Int) (i_carriers_judge_barred : Int) (i_carriers_notes : Nat → Int) (i_plans_0_version : Int) (i_plans_0_length : Int) (i_plans_0_tiring : Int) (i_plans_1_version : Int) (i_plans_1_length : Int) (i_plans_1_tiring : Int) (i_plans_2_version : Int) (i_plans_2_length : Int) (i_plans_2_tiring : Int) (i_carriers_judge_words : Nat → Int) (i_carriers_judge_pile : Nat → Int) (i_plans_0_row : Nat → Int) (i_plans_1_row : Nat → Int) (i_plans_2_row : Nat → Int) : Option (Int × Int × Int × Int × (Nat → Int) × (Nat → Int) × (Nat → Int) × (Nat → Int) × (Nat → Int) × (Nat → Int) × (Nat → Int) × (Nat → Int) × (Nat → Int) × (Nat → Int) × Int × Int × Int × (Nat → Int) × Int × Int × Int × Int × Int × Int × Int × Int × Int × (Nat → Int) × (Nat → Int) × (Nat → Int) × (Nat → Int) × (Nat → Int)) :=
  zd3 (f_Planner_write s2 i_costs i_before i_by i_plans_0_length i_plans_0_tiring i_plans_0_row) fun v1 v2 a3 =>
  some (0, i_kinds, i_found, i_queued, i_slots, i_states, i_costs, i_before, i_by, i_queue, i_queuedAt, i_weights, i_heights, i_tops, i_carriers_judge_piled, i_carriers_judge_tiring, i_carriers_judge_barred, i_carriers_notes, i_plans_0_version, v1, v2, i_plans_1_version, i_plans_1_length, i_plans_1_tiring, i_plans_2_version, i_plans_2_length, i_plans_2_tiring, i_carriers_judge_words, i_carriers_judge_pile, a3, i_plans_1_row, i_plans_2_row)
def f_Planner_planned_73c (i_hill_children : Int) (i_hill_laws : Int) (i_hill_inForce : Int) (i_hill_changes : Int) (i_hill_columns_many : Int) (i_hill_strengths : Nat → Int) (i_hill_expelled : Nat → Int) (i_hill_terms : Nat → Int) (i_hill_goals : Nat → Int) (i_hill_orders : Nat → Int) (i_hill_ordered : Nat → Int) (i_hill_columns_heights : Nat → Int) (i_hill_columns_weights : Nat → Int) (i_kinds : Int) (i_found : Int) (i_queued : Int) (i_slots : Nat → Int) (i_states : Nat → Int) (i_costs : Nat → Int) (i_before : Nat → Int) (i_by : Nat → Int) (i_queue : Nat → Int) (i_queuedAt : Nat → Int) (i_weights : Nat → Int) (i_heights : Nat → Int) (i_tops : Nat → Int) (i_carriers_judge_piled : Int) (i_carriers_judge_tiring : Int) (i_carriers_judge_barred : Int) (i_carriers_notes : Nat → Int) (i_plans_0_version : Int) (i_plans_0_length : Int) (i_plans_0_tiring : Int) (i_plans_1_version : Int) (i_plans_1_length : Int) (i_plans_1_tiring : Int) (i_plans_2_version : Int) (i_plans_2_length : Int) (i_plans_2_tiring : Int) (i_carriers_judge_words : Nat → Int) (i_carriers_judge_pile : Nat → Int) (i_plans_0_row : Nat → Int) (i_plans_1_row : Nat → Int) (i_plans_2_row : Nat → Int) : Option (Int × Int × Int × Int × (Nat → Int) × (Nat → Int) × (Nat → Int) × (Nat → Int) × (Nat → Int) × (Nat → Int) × (Nat → Int) × (Nat → Int) × (Nat → Int) × (Nat → Int) × Int × Int × Int × (Nat → Int) × Int × Int × Int × Int × Int × Int × Int × Int × Int × (Nat → Int) × (Nat → Int) × (Nat → Int) × (Nat → Int) × (Nat → Int)) :=
  f_Planner_planned_74c i_hill_children i_hill_laws i_hill_inForce i_hill_changes i_hill_columns_many i_hill_strengths i_hill_expelled i_hill_terms i_hill_goals i_hill_orders i_hill_ordered i_hill_columns_heights i_hill_columns_weights (-1) i_kinds i_found i_queued i_slots i_states i_costs i_before i_by i_queue i_queuedAt i_weights i_heights i_tops i_carriers_judge_piled i_carriers_judge_tiring i_carriers_judge_barred i_carriers_notes i_plans_0_version i_plans_0_length i_plans_0_tiring i_plans_1_version i_plans_1_length i_plans_1_tiring i_plans_2_version i_plans_2_length i_plans_2_tiring i_carriers_judge_words i_carriers_judge_pile i_plans_0_row i_plans_1_row i_plans_2_row
def f_Planner_planned_74b (i_hill_children : Int) (i_hill_laws : Int) (i_hill_inForce : Int) (i_hill_changes : Int) (i_hill_columns_many : Int) (i_hill_strengths : Nat → Int) (i_hill_expelled : Nat → Int) (i_hill_terms : Nat → Int) (i_hill_goals : Nat → Int) (i_hill_orders : Nat → Int) (i_hill_ordered : Nat → Int) (i_hill_columns_heights : Nat → Int) (i_hill_columns_weights : Nat → Int) (s2 : Int) (i_kinds : Int) (i_found : Int) (i_queued : Int) (i_slots : Nat → Int) (i_states : Nat → Int) (i_costs : Nat → Int) (i_before : Nat → Int) (i_by : Nat → Int) (i_queue : Nat → Int) (i_queuedAt : Nat → Int) (i_weights : Nat → Int) (i_heights : Nat → Int) (i_tops : Nat → Int) (i_carriers_judge_piled : Int) (i_carriers_judge_tiring : Int) (i_carriers_judge_barred : Int) (i_carriers_notes : Nat → Int) (i_plans_0_version : Int) (i_plans_0_length : Int) (i_plans_0_tiring : Int) (i_plans_1_version : Int) (i_plans_1_length : Int) (i_plans_1_tiring : Int) (i_plans_2_version : Int) (i_plans_2_length : Int) (i_plans_2_tiring : Int) (i_carriers_judge_words : Nat → Int) (i_carriers_judge_pile : Nat → Int) (i_plans_0_row : Nat → Int) (i_plans_1_row : Nat → Int) (i_plans_2_row : Nat → Int) : Option (Int × Int × Int × Int × (Nat → Int) × (Nat → Int) × (Nat → Int) × (Nat → Int) × (Nat → Int) × (Nat → Int) × (Nat → Int) × (Nat → Int) × (Nat → Int) × (Nat → Int) × Int × Int × Int × (Nat → Int) × Int × Int × Int × Int × Int × Int × Int × Int × Int × (Nat → Int) × (Nat → Int) × (Nat → Int) × (Nat → Int) × (Nat → Int)) :=
  zd3 (f_Planner_write s2 i_costs i_before i_by i_plans_1_length i_plans_1_tiring i_plans_1_row) fun v1 v2 a3 =>
  some (1, i_kinds, i_found, i_queued, i_slots, i_states, i_costs, i_before, i_by, i_queue, i_queuedAt, i_weights, i_heights, i_tops, i_carriers_judge_piled, i_carriers_judge_tiring, i_carriers_judge_barred, i_carriers_notes, i_plans_0_version, i_plans_0_length, i_plans_0_tiring, i_plans_1_version, v1, v2, i_plans_2_version, i_plans_2_length, i_plans_2_tiring, i_carriers_judge_words, i_carriers_judge_pile, i_plans_0_row, a3, i_plans_2_row)
def f_Planner_planned_73b (i_hill_children : Int) (i_hill_laws : Int) (i_hill_inForce : Int) (i_hill_changes : Int) (i_hill_columns_many : Int) (i_hill_strengths : Nat → Int) (i_hill_expelled : Nat → Int) (i_hill_terms : Nat → Int) (i_hill_goals : Nat → Int) (i_hill_orders : Nat → Int) (i_hill_ordered : Nat → Int) (i_hill_columns_heights : Nat → Int) (i_hill_columns_weights : Nat → Int) (i_kinds : Int) (i_found : Int) (i_queued : Int) (i_slots : Nat → Int) (i_states : Nat → Int) (i_costs : Nat → Int) (i_before : Nat → Int) (i_by : Nat → Int) (i_queue : Nat → Int) (i_queuedAt : Nat → Int) (i_weights : Nat → Int) (i_heights : Nat → Int) (i_tops : Nat → Int) (i_carriers_judge_piled : Int) (i_carriers_judge_tiring : Int) (i_carriers_judge_barred : Int) (i_carriers_notes : Nat → Int) (i_plans_0_version : Int) (i_plans_0_length : Int) (i_plans_0_tiring : Int) (i_plans_1_version : Int) (i_plans_1_length : Int) (i_plans_1_tiring : Int) (i_plans_2_version : Int) (i_plans_2_length : Int) (i_plans_2_tiring : Int) (i_carriers_judge_words : Nat → Int) (i_carriers_judge_pile : Nat → Int) (i_plans_0_row : Nat → Int) (i_plans_1_row : Nat → Int) (i_plans_2_row : Nat → Int) : Option (Int × Int × Int × Int × (Nat → Int) × (Nat → Int) × (Nat → Int) × (Nat → Int) × (Nat → Int) × (Nat → Int) × (Nat → Int) × (Nat → Int) × (Nat → Int) × (Nat → Int) × Int × Int × Int × (Nat → Int) × Int × Int × Int × Int × Int × Int × Int × Int × Int × (Nat → Int) × (Nat → Int) × (Nat → Int) × (Nat → Int) × (Nat → Int)) :=
  f_Planner_planned_74b i_hill_children i_hill_laws i_hill_inForce i_hill_changes i_hill_columns_many i_hill_strengths i_hill_expelled i_hill_terms i_hill_goals i_hill_orders i_hill_ordered i_hill_columns_heights i_hill_columns_weights (-1) i_kinds i_found i_queued i_slots i_states i_costs i_before i_by i_queue i_queuedAt i_weights i_heights i_tops i_carriers_judge_piled i_carriers_judge_tiring i_carriers_judge_barred i_carriers_notes i_plans_0_version i_plans_0_length i_plans_0_tiring i_plans_1_version i_plans_1_length i_plans_1_tiring i_plans_2_version i_plans_2_length i_plans_2_tiring i_carriers_judge_words i_carriers_judge_pile i_plans_0_row i_plans_1_row i_plans_2_row
def f_Planner_planned_74a (i_hill_children : Int) (i_hill_laws : Int) (i_hill_inForce : Int) (i_hill_changes : Int) (i_hill_columns_many : Int) (i_hill_strengths : Nat → Int) (i_hill_expelled : Nat → Int) (i_hill_terms : Nat → Int) (i_hill_goals : Nat → Int) (i_hill_orders : Nat → Int) (i_hill_ordered : Nat → Int) (i_hill_columns_heights : Nat → Int) (i_hill_columns_weights : Nat → Int) (s2 : Int) (i_kinds : Int) (i_found : Int) (i_queued : Int) (i_slots : Nat → Int) (i_states : Nat → Int) (i_costs : Nat → Int) (i_before : Nat → Int) (i_by : Nat → Int) (i_queue : Nat → Int) (i_queuedAt : Nat → Int) (i_weights : Nat → Int) (i_heights : Nat → Int) (i_tops : Nat → Int) (i_carriers_judge_piled : Int) (i_carriers_judge_tiring : Int) (i_carriers_judge_barred : Int) (i_carriers_notes : Nat → Int) (i_plans_0_version : Int) (i_plans_0_length : Int) (i_plans_0_tiring : Int) (i_plans_1_version : Int) (i_plans_1_length : Int) (i_plans_1_tiring : Int) (i_plans_2_version : Int) (i_plans_2_length : Int) (i_plans_2_tiring : Int) (i_carriers_judge_words : Nat → Int) (i_carriers_judge_pile : Nat → Int) (i_plans_0_row : Nat → Int) (i_plans_1_row : Nat → Int) (i_plans_2_row : Nat → Int) : Option (Int × Int × Int × Int × (Nat → Int) × (Nat → Int) × (Nat → Int) × (Nat → Int) × (Nat → Int) × (Nat → Int) × (Nat → Int) × (Nat → Int) × (Nat → Int) × (Nat → Int) × Int × Int × Int × (Nat → Int) × Int × Int × Int × Int × Int × Int × Int × Int × Int × (Nat → Int) × (Nat → Int) × (Nat → Int) × (Nat → Int) × (Nat → Int)) :=
  zd3 (f_Planner_write s2 i_costs i_before i_by i_plans_2_length i_plans_2_tiring i_plans_2_row) fun v1 v2 a3 =>
  some (2, i_kinds, i_found, i_queued, i_slots, i_states, i_costs, i_before, i_by, i_queue, i_queuedAt, i_weights, i_heights, i_tops, i_carriers_judge_piled, i_carriers_judge_tiring, i_carriers_judge_barred, i_carriers_notes, i_plans_0_version, i_plans_0_length, i_plans_0_tiring, i_plans_1_version, i_plans_1_length, i_plans_1_tiring, i_plans_2_version, v1, v2, i_carriers_judge_words, i_carriers_judge_pile, i_plans_0_row, i_plans_1_row, a3)
def f_Planner_planned_73a (i_hill_children : Int) (i_hill_laws : Int) (i_hill_inForce : Int) (i_hill_changes : Int) (i_hill_columns_many : Int) (i_hill_strengths : Nat → Int) (i_hill_expelled : Nat → Int) (i_hill_terms : Nat → Int) (i_hill_goals : Nat → Int) (i_hill_orders : Nat → Int) (i_hill_ordered : Nat → Int) (i_hill_columns_heights : Nat → Int) (i_hill_columns_weights : Nat → Int) (i_kinds : Int) (i_found : Int) (i_queued : Int) (i_slots : Nat → Int) (i_states : Nat → Int) (i_costs : Nat → Int) (i_before : Nat → Int) (i_by : Nat → Int) (i_queue : Nat → Int) (i_queuedAt : Nat → Int) (i_weights : Nat → Int) (i_heights : Nat → Int) (i_tops : Nat → Int) (i_carriers_judge_piled : Int) (i_carriers_judge_tiring : Int) (i_carriers_judge_barred : Int) (i_carriers_notes : Nat → Int) (i_plans_0_version : Int) (i_plans_0_length : Int) (i_plans_0_tiring : Int) (i_plans_1_version : Int) (i_plans_1_length : Int) (i_plans_1_tiring : Int) (i_plans_2_version : Int) (i_plans_2_length : Int) (i_plans_2_tiring : Int) (i_carriers_judge_words : Nat → Int) (i_carriers_judge_pile : Nat → Int) (i_plans_0_row : Nat → Int) (i_plans_1_row : Nat → Int) (i_plans_2_row : Nat → Int) : Option (Int × Int × Int × Int × (Nat → Int) × (Nat → Int) × (Nat → Int) × (Nat → Int) × (Nat → Int) × (Nat → Int) × (Nat → Int) × (Nat → Int) × (Nat → Int) × (Nat → Int) × Int × Int × Int × (Nat → Int) × Int × Int × Int × Int × Int × Int × Int × Int × Int × (Nat → Int) × (Nat → Int) × (Nat → Int) × (Nat → Int) × (Nat → Int)) :=
  f_Planner_planned_74a i_hill_children i_hill_laws i_hill_inForce i_hill_changes i_hill_columns_many i_hill_strengths i_hill_expelled i_hill_terms i_hill_goals i_hill_orders i_hill_ordered i_hill_columns_heights i_hill_columns_weights (-1) i_kinds i_found i_queued i_slots i_states i_costs i_before i_by i_queue i_queuedAt i_weights i_heights i_tops i_carriers_judge_piled i_carriers_judge_tiring i_carriers_judge_barred i_carriers_notes i_plans_0_version i_plans_0_length i_plans_0_tiring i_plans_1_version i_plans_1_length i_plans_1_tiring i_plans_2_version i_plans_2_length i_plans_2_tiring i_carriers_judge_words i_carriers_judge_pile i_plans_0_row i_plans_1_row i_plans_2_row
def f_Planner_planned_22 (i_hill_children : Int) (i_hill_laws : Int) (i_hill_inForce : Int) (i_hill_changes : Int) (i_hill_columns_many : Int) (i_hill_strengths : Nat → Int) (i_hill_expelled : Nat → Int) (i_hill_terms : Nat → Int) (i_hill_goals : Nat → Int) (i_hill_orders : Nat → Int) (i_hill_ordered : Nat → Int) (i_hill_columns_heights : Nat → Int) (i_hill_columns_weights : Nat → Int) (x1 : Int) (s1 : Int) (i_kinds : Int) (i_found : Int) (i_queued : Int) (i_slots : Nat → Int) (i_states : Nat → Int) (i_costs : Nat → Int) (i_before : Nat → Int) (i_by : Nat → Int) (i_queue : Nat → Int) (i_queuedAt : Nat → Int) (i_weights : Nat → Int) (i_heights : Nat → Int) (i_tops : Nat → Int) (i_carriers_judge_piled : Int) (i_carriers_judge_tiring : Int) (i_carriers_judge_barred : Int) (i_carriers_notes : Nat → Int) (i_plans_0_version : Int) (i_plans_0_length : Int) (i_plans_0_tiring : Int) (i_plans_1_version : Int) (i_plans_1_length : Int) (i_plans_1_tiring : Int) (i_plans_2_version : Int) (i_plans_2_length : Int) (i_plans_2_tiring : Int) (i_carriers_judge_words : Nat → Int) (i_carriers_judge_pile : Nat → Int) (i_plans_0_row : Nat → Int) (i_plans_1_row : Nat → Int) (i_plans_2_row : Nat → Int) : Option (Int × Int × Int × Int × (Nat → Int) × (Nat → Int) × (Nat → Int) × (Nat → Int) × (Nat → Int) × (Nat → Int) × (Nat → Int) × (Nat → Int) × (Nat → Int) × (Nat → Int) × Int × Int × Int × (Nat → Int) × Int × Int × Int × Int × Int × Int × Int × Int × Int × (Nat → Int) × (Nat → Int) × (Nat → Int) × (Nat → Int) × (Nat → Int)) :=
  if zi_w s1 = 0 then
    if zi_w i_plans_0_version = zi_w i_hill_changes then
      some (0, i_kinds, i_found, i_queued, i_slots, i_states, i_costs, i_before, i_by, i_queue, i_queuedAt, i_weights, i_heights, i_tops, i_carriers_judge_piled, i_carriers_judge_tiring, i_carriers_judge_barred, i_carriers_notes, i_plans_0_version, i_plans_0_length, i_plans_0_tiring, i_plans_1_version, i_plans_1_length, i_plans_1_tiring, i_plans_2_version, i_plans_2_length, i_plans_2_tiring, i_carriers_judge_words, i_carriers_judge_pile, i_plans_0_row, i_plans_1_row, i_plans_2_row)
    else
      zd1 (f_Planner_isSmall i_hill_columns_many i_hill_columns_heights) fun v1 =>
      if zi_w v1 = 0 then
        f_Planner_planned_73c i_hill_children i_hill_laws i_hill_inForce i_hill_changes i_hill_columns_many i_hill_strengths i_hill_expelled i_hill_terms i_hill_goals i_hill_orders i_hill_ordered i_hill_columns_heights i_hill_columns_weights i_kinds i_found i_queued i_slots i_states i_costs i_before i_by i_queue i_queuedAt i_weights i_heights i_tops i_carriers_judge_piled i_carriers_judge_tiring i_carriers_judge_barred i_carriers_notes i_hill_changes i_plans_0_length i_plans_0_tiring i_plans_1_version i_plans_1_length i_plans_1_tiring i_plans_2_version i_plans_2_length i_plans_2_tiring i_carriers_judge_words i_carriers_judge_pile i_plans_0_row i_plans_1_row i_plans_2_row
      else
        zd1 (f_Planner_goalsFit i_hill_columns_many i_hill_goals i_hill_columns_heights) fun v2 =>
        if zi_w v2 = 0 then
          f_Planner_planned_73c i_hill_children i_hill_laws i_hill_inForce i_hill_changes i_hill_columns_many i_hill_strengths i_hill_expelled i_hill_terms i_hill_goals i_hill_orders i_hill_ordered i_hill_columns_heights i_hill_columns_weights i_kinds i_found i_queued i_slots i_states i_costs i_before i_by i_queue i_queuedAt i_weights i_heights i_tops i_carriers_judge_piled i_carriers_judge_tiring i_carriers_judge_barred i_carriers_notes i_hill_changes i_plans_0_length i_plans_0_tiring i_plans_1_version i_plans_1_length i_plans_1_tiring i_plans_2_version i_plans_2_length i_plans_2_tiring i_carriers_judge_words i_carriers_judge_pile i_plans_0_row i_plans_1_row i_plans_2_row
        else
          zd20 (f_Planner_search x1 i_hill_children i_hill_laws i_hill_inForce i_hill_changes i_hill_columns_many i_hill_strengths i_hill_expelled i_hill_terms i_hill_goals i_hill_orders i_hill_ordered i_hill_columns_heights i_hill_columns_weights i_kinds i_found i_queued i_slots i_states i_costs i_before i_by i_queue i_queuedAt i_weights i_heights i_tops i_carriers_judge_piled i_carriers_judge_tiring i_carriers_judge_barred i_carriers_notes i_carriers_judge_words i_carriers_judge_pile) fun v3 v4 v5 v6 a7 a8 a9 a10 a11 a12 a13 a14 a15 a16 v17 v18 v19 a20 a21 a22 =>
          f_Planner_planned_74c i_hill_children i_hill_laws i_hill_inForce i_hill_changes i_hill_columns_many i_hill_strengths i_hill_expelled i_hill_terms i_hill_goals i_hill_orders i_hill_ordered i_hill_columns_heights i_hill_columns_weights v3 v4 v5 v6 a7 a8 a9 a10 a11 a12 a13 a14 a15 a16 v17 v18 v19 a20 i_hill_changes i_plans_0_length i_plans_0_tiring i_plans_1_version i_plans_1_length i_plans_1_tiring i_plans_2_version i_plans_2_length i_plans_2_tiring a21 a22 i_plans_0_row i_plans_1_row i_plans_2_row
  else if zi_w s1 = 1 then
    if zi_w i_plans_1_version = zi_w i_hill_changes then
      some (1, i_kinds, i_found, i_queued, i_slots, i_states, i_costs, i_before, i_by, i_queue, i_queuedAt, i_weights, i_heights, i_tops, i_carriers_judge_piled, i_carriers_judge_tiring, i_carriers_judge_barred, i_carriers_notes, i_plans_0_version, i_plans_0_length, i_plans_0_tiring, i_plans_1_version, i_plans_1_length, i_plans_1_tiring, i_plans_2_version, i_plans_2_length, i_plans_2_tiring, i_carriers_judge_words, i_carriers_judge_pile, i_plans_0_row, i_plans_1_row, i_plans_2_row)
    else
      zd1 (f_Planner_isSmall i_hill_columns_many i_hill_columns_heights) fun v23 =>
      if zi_w v23 = 0 then
        f_Planner_planned_73b i_hill_children i_hill_laws i_hill_inForce i_hill_changes i_hill_columns_many i_hill_strengths i_hill_expelled i_hill_terms i_hill_goals i_hill_orders i_hill_ordered i_hill_columns_heights i_hill_columns_weights i_kinds i_found i_queued i_slots i_states i_costs i_before i_by i_queue i_queuedAt i_weights i_heights i_tops i_carriers_judge_piled i_carriers_judge_tiring i_carriers_judge_barred i_carriers_notes i_plans_0_version i_plans_0_length i_plans_0_tiring i_hill_changes i_plans_1_length i_plans_1_tiring i_plans_2_version i_plans_2_length i_plans_2_tiring i_carriers_judge_words i_carriers_judge_pile i_plans_0_row i_plans_1_row i_plans_2_row
      else
        zd1 (f_Planner_goalsFit i_hill_columns_many i_hill_goals i_hill_columns_heights) fun v24 =>
        if zi_w v24 = 0 then
          f_Planner_planned_73b i_hill_children i_hill_laws i_hill_inForce i_hill_changes i_hill_columns_many i_hill_strengths i_hill_expelled i_hill_terms i_hill_goals i_hill_orders i_hill_ordered i_hill_columns_heights i_hill_columns_weights i_kinds i_found i_queued i_slots i_states i_costs i_before i_by i_queue i_queuedAt i_weights i_heights i_tops i_carriers_judge_piled i_carriers_judge_tiring i_carriers_judge_barred i_carriers_notes i_plans_0_version i_plans_0_length i_plans_0_tiring i_hill_changes i_plans_1_length i_plans_1_tiring i_plans_2_version i_plans_2_length i_plans_2_tiring i_carriers_judge_words i_carriers_judge_pile i_plans_0_row i_plans_1_row i_plans_2_row
        else
          zd20 (f_Planner_search x1 i_hill_children i_hill_laws i_hill_inForce i_hill_changes i_hill_columns_many i_hill_strengths i_hill_expelled i_hill_terms i_hill_goals i_hill_orders i_hill_ordered i_hill_columns_heights i_hill_columns_weights i_kinds i_found i_queued i_slots i_states i_costs i_before i_by i_queue i_queuedAt i_weights i_heights i_tops i_carriers_judge_piled i_carriers_judge_tiring i_carriers_judge_barred i_carriers_notes i_carriers_judge_words i_carriers_judge_pile) fun v25 v26 v27 v28 a29 a30 a31 a32 a33 a34 a35 a36 a37 a38 v39 v40 v41 a42 a43 a44 =>
          f_Planner_planned_74b i_hill_children i_hill_laws i_hill_inForce i_hill_changes i_hill_columns_many i_hill_strengths i_hill_expelled i_hill_terms i_hill_goals i_hill_orders i_hill_ordered i_hill_columns_heights i_hill_columns_weights v25 v26 v27 v28 a29 a30 a31 a32 a33 a34 a35 a36 a37 a38 v39 v40 v41 a42 i_plans_0_version i_plans_0_length i_plans_0_tiring i_hill_changes i_plans_1_length i_plans_1_tiring i_plans_2_version i_plans_2_length i_plans_2_tiring a43 a44 i_plans_0_row i_plans_1_row i_plans_2_row
  else if zi_w s1 = 2 then
    if zi_w i_plans_2_version = zi_w i_hill_changes then
      some (2, i_kinds, i_found, i_queued, i_slots, i_states, i_costs, i_before, i_by, i_queue, i_queuedAt, i_weights, i_heights, i_tops, i_carriers_judge_piled, i_carriers_judge_tiring, i_carriers_judge_barred, i_carriers_notes, i_plans_0_version, i_plans_0_length, i_plans_0_tiring, i_plans_1_version, i_plans_1_length, i_plans_1_tiring, i_plans_2_version, i_plans_2_length, i_plans_2_tiring, i_carriers_judge_words, i_carriers_judge_pile, i_plans_0_row, i_plans_1_row, i_plans_2_row)
    else
      zd1 (f_Planner_isSmall i_hill_columns_many i_hill_columns_heights) fun v45 =>
      if zi_w v45 = 0 then
        f_Planner_planned_73a i_hill_children i_hill_laws i_hill_inForce i_hill_changes i_hill_columns_many i_hill_strengths i_hill_expelled i_hill_terms i_hill_goals i_hill_orders i_hill_ordered i_hill_columns_heights i_hill_columns_weights i_kinds i_found i_queued i_slots i_states i_costs i_before i_by i_queue i_queuedAt i_weights i_heights i_tops i_carriers_judge_piled i_carriers_judge_tiring i_carriers_judge_barred i_carriers_notes i_plans_0_version i_plans_0_length i_plans_0_tiring i_plans_1_version i_plans_1_length i_plans_1_tiring i_hill_changes i_plans_2_length i_plans_2_tiring i_carriers_judge_words i_carriers_judge_pile i_plans_0_row i_plans_1_row i_plans_2_row
      else
        zd1 (f_Planner_goalsFit i_hill_columns_many i_hill_goals i_hill_columns_heights) fun v46 =>
        if zi_w v46 = 0 then
          f_Planner_planned_73a i_hill_children i_hill_laws i_hill_inForce i_hill_changes i_hill_columns_many i_hill_strengths i_hill_expelled i_hill_terms i_hill_goals i_hill_orders i_hill_ordered i_hill_columns_heights i_hill_columns_weights i_kinds i_found i_queued i_slots i_states i_costs i_before i_by i_queue i_queuedAt i_weights i_heights i_tops i_carriers_judge_piled i_carriers_judge_tiring i_carriers_judge_barred i_carriers_notes i_plans_0_version i_plans_0_length i_plans_0_tiring i_plans_1_version i_plans_1_length i_plans_1_tiring i_hill_changes i_plans_2_length i_plans_2_tiring i_carriers_judge_words i_carriers_judge_pile i_plans_0_row i_plans_1_row i_plans_2_row
        else
          zd20 (f_Planner_search x1 i_hill_children i_hill_laws i_hill_inForce i_hill_changes i_hill_columns_many i_hill_strengths i_hill_expelled i_hill_terms i_hill_goals i_hill_orders i_hill_ordered i_hill_columns_heights i_hill_columns_weights i_kinds i_found i_queued i_slots i_states i_costs i_before i_by i_queue i_queuedAt i_weights i_heights i_tops i_carriers_judge_piled i_carriers_judge_tiring i_carriers_judge_barred i_carriers_notes i_carriers_judge_words i_carriers_judge_pile) fun v47 v48 v49 v50 a51 a52 a53 a54 a55 a56 a57 a58 a59 a60 v61 v62 v63 a64 a65 a66 =>
          f_Planner_planned_74a i_hill_children i_hill_laws i_hill_inForce i_hill_changes i_hill_columns_many i_hill_strengths i_hill_expelled i_hill_terms i_hill_goals i_hill_orders i_hill_ordered i_hill_columns_heights i_hill_columns_weights v47 v48 v49 v50 a51 a52 a53 a54 a55 a56 a57 a58 a59 a60 v61 v62 v63 a64 i_plans_0_version i_plans_0_length i_plans_0_tiring i_plans_1_version i_plans_1_length i_plans_1_tiring i_hill_changes i_plans_2_length i_plans_2_tiring a65 a66 i_plans_0_row i_plans_1_row i_plans_2_row
  else none
def f_Planner_planned_21 (i_hill_children : Int) (i_hill_laws : Int) (i_hill_inForce : Int) (i_hill_changes : Int) (i_hill_columns_many : Int) (i_hill_strengths : Nat → Int) (i_hill_expelled : Nat → Int) (i_hill_terms : Nat → Int) (i_hill_goals : Nat → Int) (i_hill_orders : Nat → Int) (i_hill_ordered : Nat → Int) (i_hill_columns_heights : Nat → Int) (i_hill_columns_weights : Nat → Int) (x1 : Int) (i_kinds : Int) (i_found : Int) (i_queued : Int) (i_slots : Nat → Int) (i_states : Nat → Int) (i_costs : Nat → Int) (i_before : Nat → Int) (i_by : Nat → Int) (i_queue : Nat → Int) (i_queuedAt : Nat → Int) (i_weights : Nat → Int) (i_heights : Nat → Int) (i_tops : Nat → Int) (i_carriers_judge_piled : Int) (i_carriers_judge_tiring : Int) (i_carriers_judge_barred : Int) (i_carriers_notes : Nat → Int) (i_plans_0_version : Int) (i_plans_0_length : Int) (i_plans_0_tiring : Int) (i_plans_1_version : Int) (i_plans_1_length : Int) (i_plans_1_tiring : Int) (i_plans_2_version : Int) (i_plans_2_length : Int) (i_plans_2_tiring : Int) (i_carriers_judge_words : Nat → Int) (i_carriers_judge_pile : Nat → Int) (i_plans_0_row : Nat → Int) (i_plans_1_row : Nat → Int) (i_plans_2_row : Nat → Int) : Option (Int × Int × Int × Int × (Nat → Int) × (Nat → Int) × (Nat → Int) × (Nat → Int) × (Nat → Int) × (Nat → Int) × (Nat → Int) × (Nat → Int) × (Nat → Int) × (Nat → Int) × Int × Int × Int × (Nat → Int) × Int × Int × Int × Int × Int × Int × Int × Int × Int × (Nat → Int) × (Nat → Int) × (Nat → Int) × (Nat → Int) × (Nat → Int)) :=
  f_Planner_planned_22 i_hill_children i_hill_laws i_hill_inForce i_hill_changes i_hill_columns_many i_hill_strengths i_hill_expelled i_hill_terms i_hill_goals i_hill_orders i_hill_ordered i_hill_columns_heights i_hill_columns_weights x1 0 i_kinds i_found i_queued i_slots i_states i_costs i_before i_by i_queue i_queuedAt i_weights i_heights i_tops i_carriers_judge_piled i_carriers_judge_tiring i_carriers_judge_barred i_carriers_notes i_plans_0_version i_plans_0_length i_plans_0_tiring i_plans_1_version i_plans_1_length i_plans_1_tiring i_plans_2_version i_plans_2_length i_plans_2_tiring i_carriers_judge_words i_carriers_judge_pile i_plans_0_row i_plans_1_row i_plans_2_row
def f_Planner_planned (x1 : Int) (i_hill_children : Int) (i_hill_laws : Int) (i_hill_inForce : Int) (i_hill_changes : Int) (i_hill_columns_many : Int) (i_hill_strengths : Nat → Int) (i_hill_expelled : Nat → Int) (i_hill_terms : Nat → Int) (i_hill_goals : Nat → Int) (i_hill_orders : Nat → Int) (i_hill_ordered : Nat → Int) (i_hill_columns_heights : Nat → Int) (i_hill_columns_weights : Nat → Int) (i_kinds : Int) (i_found : Int) (i_queued : Int) (i_slots : Nat → Int) (i_states : Nat → Int) (i_costs : Nat → Int) (i_before : Nat → Int) (i_by : Nat → Int) (i_queue : Nat → Int) (i_queuedAt : Nat → Int) (i_weights : Nat → Int) (i_heights : Nat → Int) (i_tops : Nat → Int) (i_carriers_judge_piled : Int) (i_carriers_judge_tiring : Int) (i_carriers_judge_barred : Int) (i_carriers_notes : Nat → Int) (i_plans_0_version : Int) (i_plans_0_length : Int) (i_plans_0_tiring : Int) (i_plans_1_version : Int) (i_plans_1_length : Int) (i_plans_1_tiring : Int) (i_plans_2_version : Int) (i_plans_2_length : Int) (i_plans_2_tiring : Int) (i_carriers_judge_words : Nat → Int) (i_carriers_judge_pile : Nat → Int) (i_plans_0_row : Nat → Int) (i_plans_1_row : Nat → Int) (i_plans_2_row : Nat → Int) : Option (Int × Int × Int × Int × (Nat → Int) × (Nat → Int) × (Nat → Int) × (Nat → Int) × (Nat → Int) × (Nat → Int) × (Nat → Int) × (Nat → Int) × (Nat → Int) × (Nat → Int) × Int × Int × Int × (Nat → Int) × Int × Int × Int × Int × Int × Int × Int × Int × Int × (Nat → Int) × (Nat → Int) × (Nat → Int) × (Nat → Int) × (Nat → Int)) :=
  if zi_w x1 < 0 then
    f_Planner_planned_21 i_hill_children i_hill_laws i_hill_inForce i_hill_changes i_hill_columns_many i_hill_strengths i_hill_expelled i_hill_terms i_hill_goals i_hill_orders i_hill_ordered i_hill_columns_heights i_hill_columns_weights x1 i_kinds i_found i_queued i_slots i_states i_costs i_before i_by i_queue i_queuedAt i_weights i_heights i_tops i_carriers_judge_piled i_carriers_judge_tiring i_carriers_judge_barred i_carriers_notes i_plans_0_version i_plans_0_length i_plans_0_tiring i_plans_1_version i_plans_1_length i_plans_1_tiring i_plans_2_version i_plans_2_length i_plans_2_tiring i_carriers_judge_words i_carriers_judge_pile i_plans_0_row i_plans_1_row i_plans_2_row
  else
    if zi_w 3 ≤ zi_w x1 then
      f_Planner_planned_21 i_hill_children i_hill_laws i_hill_inForce i_hill_changes i_hill_columns_many i_hill_strengths i_hill_expelled i_hill_terms i_hill_goals i_hill_orders i_hill_ordered i_hill_columns_heights i_hill_columns_weights x1 i_kinds i_found i_queued i_slots i_states i_costs i_before i_by i_queue i_queuedAt i_weights i_heights i_tops i_carriers_judge_piled i_carriers_judge_tiring i_carriers_judge_barred i_carriers_notes i_plans_0_version i_plans_0_length i_plans_0_tiring i_plans_1_version i_plans_1_length i_plans_1_tiring i_plans_2_version i_plans_2_length i_plans_2_tiring i_carriers_judge_words i_carriers_judge_pile i_plans_0_row i_plans_1_row i_plans_2_row
    else
      f_Planner_planned_22 i_hill_children i_hill_laws i_hill_inForce i_hill_changes i_hill_columns_many i_hill_strengths i_hill_expelled i_hill_terms i_hill_goals i_hill_orders i_hill_ordered i_hill_columns_heights i_hill_columns_weights x1 x1 i_kinds i_found i_queued i_slots i_states i_costs i_before i_by i_queue i_queuedAt i_weights i_heights i_tops i_carriers_judge_piled i_carriers_judge_tiring i_carriers_judge_barred i_carriers_notes i_plans_0_version i_plans_0_length i_plans_0_tiring i_plans_1_version i_plans_1_length i_plans_1_tiring i_plans_2_version i_plans_2_length i_plans_2_tiring i_carriers_judge_words i_carriers_judge_pile i_plans_0_row i_plans_1_row i_plans_2_row
def f_Plan_piece (x1 : Int) (x2 : Int) (i_length : Int) (i_row : Nat → Int) : Option (Int) :=
  if zi_w x1 < 0 then
    some (-1)
  else
    if zi_w i_length ≤ zi_w x1 then
      some (-1)
    else
      if zi_w x1 < zi_w 6720 then
        if zi_w x2 = 0 then
          zg 6720 i_row x1 fun v1 =>
          if zi_w 32 = 0 then none else zn (zi_div v1 32) fun v2 =>
          some v2
        else if zi_w x2 = 1 then
          zg 6720 i_row x1 fun v3 =>
          if zi_w 8 = 0 then none else zn (zi_div v3 8) fun v4 =>
          if zi_w 4 = 0 then none else zn (zi_rem v4 4) fun v5 =>
          some v5
        else if zi_w x2 = 2 then
          zg 6720 i_row x1 fun v6 =>
          if zi_w 8 = 0 then none else zn (zi_rem v6 8) fun v7 =>
          some v7
        else
          some (-1)
      else
        some (-1)
def f_HS_plan_45c (i_hill_children : Int) (i_hill_laws : Int) (i_hill_inForce : Int) (i_hill_changes : Int) (i_hill_columns_many : Int) (i_hill_strengths : Nat → Int) (i_hill_expelled : Nat → Int) (i_hill_terms : Nat → Int) (i_hill_goals : Nat → Int) (i_hill_orders : Nat → Int) (i_hill_ordered : Nat → Int) (i_hill_columns_heights : Nat → Int) (i_hill_columns_weights : Nat → Int) (x1 : Int) (i_judge_piled : Int) (i_judge_tiring : Int) (i_judge_barred : Int) (i_planner_kinds : Int) (i_planner_found : Int) (i_planner_queued : Int) (i_judge_words : Nat → Int) (i_judge_pile : Nat → Int) (i_carriers_notes : Nat → Int) (i_planner_slots : Nat → Int) (i_planner_states : Nat → Int) (i_planner_costs : Nat → Int) (i_planner_before : Nat → Int) (i_planner_by : Nat → Int) (i_planner_queue : Nat → Int) (i_planner_queuedAt : Nat → Int) (i_planner_weights : Nat → Int) (i_planner_heights : Nat → Int) (i_planner_tops : Nat → Int) (i_planner_plans_0_version : Int) (i_planner_plans_0_length : Int) (i_planner_plans_0_tiring : Int) (i_planner_plans_1_version : Int) (i_planner_plans_1_length : Int) (i_planner_plans_1_tiring : Int) (i_planner_plans_2_version : Int) (i_planner_plans_2_length : Int) (i_planner_plans_2_tiring : Int) (i_planner_plans_0_row : Nat → Int) (i_planner_plans_1_row : Nat → Int) (i_planner_plans_2_row : Nat → Int) : Option (Int × Int × Int × Int × Int × Int × Int × (Nat → Int) × (Nat → Int) × (Nat → Int) × (Nat → Int) × (Nat → Int) × (Nat → Int) × (Nat → Int) × (Nat → Int) × (Nat → Int) × (Nat → Int) × (Nat → Int) × (Nat → Int) × (Nat → Int) × Int × Int × Int × Int × Int × Int × Int × Int × Int × (Nat → Int) × (Nat → Int) × (Nat → Int)) :=
  if zi_w x1 ≠ zi_w 2 then
    some (i_planner_plans_0_length, i_judge_piled, i_judge_tiring, i_judge_barred, i_planner_kinds, i_planner_found, i_planner_queued, i_judge_words, i_judge_pile, i_carriers_notes, i_planner_slots, i_planner_states, i_planner_costs, i_planner_before, i_planner_by, i_planner_queue, i_planner_queuedAt, i_planner_weights, i_planner_heights, i_planner_tops, i_planner_plans_0_version, i_planner_plans_0_length, i_planner_plans_0_tiring, i_planner_plans_1_version, i_planner_plans_1_length, i_planner_plans_1_tiring, i_planner_plans_2_version, i_planner_plans_2_length, i_planner_plans_2_tiring, i_planner_plans_0_row, i_planner_plans_1_row, i_planner_plans_2_row)
  else
    some (i_planner_plans_0_tiring, i_judge_piled, i_judge_tiring, i_judge_barred, i_planner_kinds, i_planner_found, i_planner_queued, i_judge_words, i_judge_pile, i_carriers_notes, i_planner_slots, i_planner_states, i_planner_costs, i_planner_before, i_planner_by, i_planner_queue, i_planner_queuedAt, i_planner_weights, i_planner_heights, i_planner_tops, i_planner_plans_0_version, i_planner_plans_0_length, i_planner_plans_0_tiring, i_planner_plans_1_version, i_planner_plans_1_length, i_planner_plans_1_tiring, i_planner_plans_2_version, i_planner_plans_2_length, i_planner_plans_2_tiring, i_planner_plans_0_row, i_planner_plans_1_row, i_planner_plans_2_row)
def f_HS_plan_45b (i_hill_children : Int) (i_hill_laws : Int) (i_hill_inForce : Int) (i_hill_changes : Int) (i_hill_columns_many : Int) (i_hill_strengths : Nat → Int) (i_hill_expelled : Nat → Int) (i_hill_terms : Nat → Int) (i_hill_goals : Nat → Int) (i_hill_orders : Nat → Int) (i_hill_ordered : Nat → Int) (i_hill_columns_heights : Nat → Int) (i_hill_columns_weights : Nat → Int) (x1 : Int) (i_judge_piled : Int) (i_judge_tiring : Int) (i_judge_barred : Int) (i_planner_kinds : Int) (i_planner_found : Int) (i_planner_queued : Int) (i_judge_words : Nat → Int) (i_judge_pile : Nat → Int) (i_carriers_notes : Nat → Int) (i_planner_slots : Nat → Int) (i_planner_states : Nat → Int) (i_planner_costs : Nat → Int) (i_planner_before : Nat → Int) (i_planner_by : Nat → Int) (i_planner_queue : Nat → Int) (i_planner_queuedAt : Nat → Int) (i_planner_weights : Nat → Int) (i_planner_heights : Nat → Int) (i_planner_tops : Nat → Int) (i_planner_plans_0_version : Int) (i_planner_plans_0_length : Int) (i_planner_plans_0_tiring : Int) (i_planner_plans_1_version : Int) (i_planner_plans_1_length : Int) (i_planner_plans_1_tiring : Int) (i_planner_plans_2_version : Int) (i_planner_plans_2_length : Int) (i_planner_plans_2_tiring : Int) (i_planner_plans_0_row : Nat → Int) (i_planner_plans_1_row : Nat → Int) (i_planner_plans_2_row : Nat → Int) : Option (Int × Int × Int × Int × Int × Int × Int × (Nat → Int) × (Nat → Int) × (Nat → Int) × (Nat → Int) × (Nat → Int) × (Nat → Int) × (Nat → Int) × (Nat → Int) × (Nat → Int) × (Nat → Int) × (Nat → Int) × (Nat → Int) × (Nat → Int) × Int × Int × Int × Int × Int × Int × Int × Int × Int × (Nat → Int) × (Nat → Int) × (Nat → Int)) :=
  if zi_w x1 ≠ zi_w 2 then
    some (i_planner_plans_1_length, i_judge_piled, i_judge_tiring, i_judge_barred, i_planner_kinds, i_planner_found, i_planner_queued, i_judge_words, i_judge_pile, i_carriers_notes, i_planner_slots, i_planner_states, i_planner_costs, i_planner_before, i_planner_by, i_planner_queue, i_planner_queuedAt, i_planner_weights, i_planner_heights, i_planner_tops, i_planner_plans_0_version, i_planner_plans_0_length, i_planner_plans_0_tiring, i_planner_plans_1_version, i_planner_plans_1_length, i_planner_plans_1_tiring, i_planner_plans_2_version, i_planner_plans_2_length, i_planner_plans_2_tiring, i_planner_plans_0_row, i_planner_plans_1_row, i_planner_plans_2_row)
  else
    some (i_planner_plans_1_tiring, i_judge_piled, i_judge_tiring, i_judge_barred, i_planner_kinds, i_planner_found, i_planner_queued, i_judge_words, i_judge_pile, i_carriers_notes, i_planner_slots, i_planner_states, i_planner_costs, i_planner_before, i_planner_by, i_planner_queue, i_planner_queuedAt, i_planner_weights, i_planner_heights, i_planner_tops, i_planner_plans_0_version, i_planner_plans_0_length, i_planner_plans_0_tiring, i_planner_plans_1_version, i_planner_plans_1_length, i_planner_plans_1_tiring, i_planner_plans_2_version, i_planner_plans_2_length, i_planner_plans_2_tiring, i_planner_plans_0_row, i_planner_plans_1_row, i_planner_plans_2_row)
def f_HS_plan_45a (i_hill_children : Int) (i_hill_laws : Int) (i_hill_inForce : Int) (i_hill_changes : Int) (i_hill_columns_many : Int) (i_hill_strengths : Nat → Int) (i_hill_expelled : Nat → Int) (i_hill_terms : Nat → Int) (i_hill_goals : Nat → Int) (i_hill_orders : Nat → Int) (i_hill_ordered : Nat → Int) (i_hill_columns_heights : Nat → Int) (i_hill_columns_weights : Nat → Int) (x1 : Int) (i_judge_piled : Int) (i_judge_tiring : Int) (i_judge_barred : Int) (i_planner_kinds : Int) (i_planner_found : Int) (i_planner_queued : Int) (i_judge_words : Nat → Int) (i_judge_pile : Nat → Int) (i_carriers_notes : Nat → Int) (i_planner_slots : Nat → Int) (i_planner_states : Nat → Int) (i_planner_costs : Nat → Int) (i_planner_before : Nat → Int) (i_planner_by : Nat → Int) (i_planner_queue : Nat → Int) (i_planner_queuedAt : Nat → Int) (i_planner_weights : Nat → Int) (i_planner_heights : Nat → Int) (i_planner_tops : Nat → Int) (i_planner_plans_0_version : Int) (i_planner_plans_0_length : Int) (i_planner_plans_0_tiring : Int) (i_planner_plans_1_version : Int) (i_planner_plans_1_length : Int) (i_planner_plans_1_tiring : Int) (i_planner_plans_2_version : Int) (i_planner_plans_2_length : Int) (i_planner_plans_2_tiring : Int) (i_planner_plans_0_row : Nat → Int) (i_planner_plans_1_row : Nat → Int) (i_planner_plans_2_row : Nat → Int) : Option (Int × Int × Int × Int × Int × Int × Int × (Nat → Int) × (Nat → Int) × (Nat → Int) × (Nat → Int) × (Nat → Int) × (Nat → Int) × (Nat → Int) × (Nat → Int) × (Nat → Int) × (Nat → Int) × (Nat → Int) × (Nat → Int) × (Nat → Int) × Int × Int × Int × Int × Int × Int × Int × Int × Int × (Nat → Int) × (Nat → Int) × (Nat → Int)) :=
  if zi_w x1 ≠ zi_w 2 then
    some (i_planner_plans_2_length, i_judge_piled, i_judge_tiring, i_judge_barred, i_planner_kinds, i_planner_found, i_planner_queued, i_judge_words, i_judge_pile, i_carriers_notes, i_planner_slots, i_planner_states, i_planner_costs, i_planner_before, i_planner_by, i_planner_queue, i_planner_queuedAt, i_planner_weights, i_planner_heights, i_planner_tops, i_planner_plans_0_version, i_planner_plans_0_length, i_planner_plans_0_tiring, i_planner_plans_1_version, i_planner_plans_1_length, i_planner_plans_1_tiring, i_planner_plans_2_version, i_planner_plans_2_length, i_planner_plans_2_tiring, i_planner_plans_0_row, i_planner_plans_1_row, i_planner_plans_2_row)
  else
    some (i_planner_plans_2_tiring, i_judge_piled, i_judge_tiring, i_judge_barred, i_planner_kinds, i_planner_found, i_planner_queued, i_judge_words, i_judge_pile, i_carriers_notes, i_planner_slots, i_planner_states, i_planner_costs, i_planner_before, i_planner_by, i_planner_queue, i_planner_queuedAt, i_planner_weights, i_planner_heights, i_planner_tops, i_planner_plans_0_version, i_planner_plans_0_length, i_planner_plans_0_tiring, i_planner_plans_1_version, i_planner_plans_1_length, i_planner_plans_1_tiring, i_planner_plans_2_version, i_planner_plans_2_length, i_planner_plans_2_tiring, i_planner_plans_0_row, i_planner_plans_1_row, i_planner_plans_2_row)
def f_HS_plan (x1 : Int) (x2 : Int) (x3 : Int) (i_hill_children : Int) (i_hill_laws : Int) (i_hill_inForce : Int) (i_hill_changes : Int) (i_hill_columns_many : Int) (i_hill_strengths : Nat → Int) (i_hill_expelled : Nat → Int) (i_hill_terms : Nat → Int) (i_hill_goals : Nat → Int) (i_hill_orders : Nat → Int) (i_hill_ordered : Nat → Int) (i_hill_columns_heights : Nat → Int) (i_hill_columns_weights : Nat → Int) (i_judge_piled : Int) (i_judge_tiring : Int) (i_judge_barred : Int) (i_planner_kinds : Int) (i_planner_found : Int) (i_planner_queued : Int) (i_judge_words : Nat → Int) (i_judge_pile : Nat → Int) (i_carriers_notes : Nat → Int) (i_planner_slots : Nat → Int) (i_planner_states : Nat → Int) (i_planner_costs : Nat → Int) (i_planner_before : Nat → Int) (i_planner_by : Nat → Int) (i_planner_queue : Nat → Int) (i_planner_queuedAt : Nat → Int) (i_planner_weights : Nat → Int) (i_planner_heights : Nat → Int) (i_planner_tops : Nat → Int) (i_planner_plans_0_version : Int) (i_planner_plans_0_length : Int) (i_planner_plans_0_tiring : Int) (i_planner_plans_1_version : Int) (i_planner_plans_1_length : Int) (i_planner_plans_1_tiring : Int) (i_planner_plans_2_version : Int) (i_planner_plans_2_length : Int) (i_planner_plans_2_tiring : Int) (i_planner_plans_0_row : Nat → Int) (i_planner_plans_1_row : Nat → Int) (i_planner_plans_2_row : Nat → Int) : Option (Int × Int × Int × Int × Int × Int × Int × (Nat → Int) × (Nat → Int) × (Nat → Int) × (Nat → Int) × (Nat → Int) × (Nat → Int) × (Nat → Int) × (Nat → Int) × (Nat → Int) × (Nat → Int) × (Nat → Int) × (Nat → Int) × (Nat → Int) × Int × Int × Int × Int × Int × Int × Int × Int × Int × (Nat → Int) × (Nat → Int) × (Nat → Int)) :=
  if zi_w x1 < 0 then
    some ((-1), i_judge_piled, i_judge_tiring, i_judge_barred, i_planner_kinds, i_planner_found, i_planner_queued, i_judge_words, i_judge_pile, i_carriers_notes, i_planner_slots, i_planner_states, i_planner_costs, i_planner_before, i_planner_by, i_planner_queue, i_planner_queuedAt, i_planner_weights, i_planner_heights, i_planner_tops, i_planner_plans_0_version, i_planner_plans_0_length, i_planner_plans_0_tiring, i_planner_plans_1_version, i_planner_plans_1_length, i_planner_plans_1_tiring, i_planner_plans_2_version, i_planner_plans_2_length, i_planner_plans_2_tiring, i_planner_plans_0_row, i_planner_plans_1_row, i_planner_plans_2_row)
  else
    if zi_w 2 < zi_w x1 then
      some ((-1), i_judge_piled, i_judge_tiring, i_judge_barred, i_planner_kinds, i_planner_found, i_planner_queued, i_judge_words, i_judge_pile, i_carriers_notes, i_planner_slots, i_planner_states, i_planner_costs, i_planner_before, i_planner_by, i_planner_queue, i_planner_queuedAt, i_planner_weights, i_planner_heights, i_planner_tops, i_planner_plans_0_version, i_planner_plans_0_length, i_planner_plans_0_tiring, i_planner_plans_1_version, i_planner_plans_1_length, i_planner_plans_1_tiring, i_planner_plans_2_version, i_planner_plans_2_length, i_planner_plans_2_tiring, i_planner_plans_0_row, i_planner_plans_1_row, i_planner_plans_2_row)
    else
      zd1 (f_Planner_isSmall i_hill_columns_many i_hill_columns_heights) fun v1 =>
      if zi_w v1 ≠ 0 then
        zd32 (f_Planner_planned x1 i_hill_children i_hill_laws i_hill_inForce i_hill_changes i_hill_columns_many i_hill_strengths i_hill_expelled i_hill_terms i_hill_goals i_hill_orders i_hill_ordered i_hill_columns_heights i_hill_columns_weights i_planner_kinds i_planner_found i_planner_queued i_planner_slots i_planner_states i_planner_costs i_planner_before i_planner_by i_planner_queue i_planner_queuedAt i_planner_weights i_planner_heights i_planner_tops i_judge_piled i_judge_tiring i_judge_barred i_carriers_notes i_planner_plans_0_version i_planner_plans_0_length i_planner_plans_0_tiring i_planner_plans_1_version i_planner_plans_1_length i_planner_plans_1_tiring i_planner_plans_2_version i_planner_plans_2_length i_planner_plans_2_tiring i_judge_words i_judge_pile i_planner_plans_0_row i_planner_plans_1_row i_planner_plans_2_row) fun v2 v3 v4 v5 a6 a7 a8 a9 a10 a11 a12 a13 a14 a15 v16 v17 v18 a19 v20 v21 v22 v23 v24 v25 v26 v27 v28 a29 a30 a31 a32 a33 =>
        if v2 = 0 then
          if zi_w x2 = zi_w (-1) then
            f_HS_plan_45c i_hill_children i_hill_laws i_hill_inForce i_hill_changes i_hill_columns_many i_hill_strengths i_hill_expelled i_hill_terms i_hill_goals i_hill_orders i_hill_ordered i_hill_columns_heights i_hill_columns_weights x1 v16 v17 v18 v3 v4 v5 a29 a30 a19 a6 a7 a8 a9 a10 a11 a12 a13 a14 a15 v20 v21 v22 v23 v24 v25 v26 v27 v28 a31 a32 a33
          else
            if zi_w v21 ≠ zi_w (-1) then
              zd1 (f_Plan_piece x2 x3 v21 a31) fun v34 =>
              some (v34, v16, v17, v18, v3, v4, v5, a29, a30, a19, a6, a7, a8, a9, a10, a11, a12, a13, a14, a15, v20, v21, v22, v23, v24, v25, v26, v27, v28, a31, a32, a33)
            else
              f_HS_plan_45c i_hill_children i_hill_laws i_hill_inForce i_hill_changes i_hill_columns_many i_hill_strengths i_hill_expelled i_hill_terms i_hill_goals i_hill_orders i_hill_ordered i_hill_columns_heights i_hill_columns_weights x1 v16 v17 v18 v3 v4 v5 a29 a30 a19 a6 a7 a8 a9 a10 a11 a12 a13 a14 a15 v20 v21 v22 v23 v24 v25 v26 v27 v28 a31 a32 a33
        else if v2 = 1 then
          if zi_w x2 = zi_w (-1) then
            f_HS_plan_45b i_hill_children i_hill_laws i_hill_inForce i_hill_changes i_hill_columns_many i_hill_strengths i_hill_expelled i_hill_terms i_hill_goals i_hill_orders i_hill_ordered i_hill_columns_heights i_hill_columns_weights x1 v16 v17 v18 v3 v4 v5 a29 a30 a19 a6 a7 a8 a9 a10 a11 a12 a13 a14 a15 v20 v21 v22 v23 v24 v25 v26 v27 v28 a31 a32 a33
          else
            if zi_w v24 ≠ zi_w (-1) then
              zd1 (f_Plan_piece x2 x3 v24 a32) fun v35 =>
              some (v35, v16, v17, v18, v3, v4, v5, a29, a30, a19, a6, a7, a8, a9, a10, a11, a12, a13, a14, a15, v20, v21, v22, v23, v24, v25, v26, v27, v28, a31, a32, a33)
            else
              f_HS_plan_45b i_hill_children i_hill_laws i_hill_inForce i_hill_changes i_hill_columns_many i_hill_strengths i_hill_expelled i_hill_terms i_hill_goals i_hill_orders i_hill_ordered i_hill_columns_heights i_hill_columns_weights x1 v16 v17 v18 v3 v4 v5 a29 a30 a19 a6 a7 a8 a9 a10 a11 a12 a13 a14 a15 v20 v21 v22 v23 v24 v25 v26 v27 v28 a31 a32 a33
        else if v2 = 2 then
          if zi_w x2 = zi_w (-1) then
            f_HS_plan_45a i_hill_children i_hill_laws i_hill_inForce i_hill_changes i_hill_columns_many i_hill_strengths i_hill_expelled i_hill_terms i_hill_goals i_hill_orders i_hill_ordered i_hill_columns_heights i_hill_columns_weights x1 v16 v17 v18 v3 v4 v5 a29 a30 a19 a6 a7 a8 a9 a10 a11 a12 a13 a14 a15 v20 v21 v22 v23 v24 v25 v26 v27 v28 a31 a32 a33
          else
            if zi_w v27 ≠ zi_w (-1) then
              zd1 (f_Plan_piece x2 x3 v27 a33) fun v36 =>
              some (v36, v16, v17, v18, v3, v4, v5, a29, a30, a19, a6, a7, a8, a9, a10, a11, a12, a13, a14, a15, v20, v21, v22, v23, v24, v25, v26, v27, v28, a31, a32, a33)
            else
              f_HS_plan_45a i_hill_children i_hill_laws i_hill_inForce i_hill_changes i_hill_columns_many i_hill_strengths i_hill_expelled i_hill_terms i_hill_goals i_hill_orders i_hill_ordered i_hill_columns_heights i_hill_columns_weights x1 v16 v17 v18 v3 v4 v5 a29 a30 a19 a6 a7 a8 a9 a10 a11 a12 a13 a14 a15 v20 v21 v22 v23 v24 v25 v26 v27 v28 a31 a32 a33
        else none
      else
        some ((-1), i_judge_piled, i_judge_tiring, i_judge_barred, i_planner_kinds, i_planner_found, i_planner_queued, i_judge_words, i_judge_pile, i_carriers_notes, i_planner_slots, i_planner_states, i_planner_costs, i_planner_before, i_planner_by, i_planner_queue, i_planner_queuedAt, i_planner_weights, i_planner_heights, i_planner_tops, i_planner_plans_0_version, i_planner_plans_0_length, i_planner_plans_0_tiring, i_planner_plans_1_version, i_planner_plans_1_length, i_planner_plans_1_tiring, i_planner_plans_2_version, i_planner_plans_2_length, i_planner_plans_2_tiring, i_planner_plans_0_row, i_planner_plans_1_row, i_planner_plans_2_row)
def f_Arrays_fill_n3601_5_b  (k5 : Int → Int → Int → (Nat → Int) → Option ((Nat → Int))) (x1 : Int) (x2 : Int) (x3 : Int) (i_a0 : Nat → Int) : Option ((Nat → Int)) :=
  if zi_w x3 ≤ zi_w x2 then
    some i_a0
  else
    zs 3601 i_a0 x2 x1 fun a1 =>
    zn (x2 + 1) fun v2 =>
    k5 x1 v2 x3 a1
def f_Arrays_fill_n3601_5  : Nat → Int → Int → Int → (Nat → Int) → Option ((Nat → Int))
  | 0 => fun _ _ _ _ => none
  | n + 1 => fun y0 y1 y2 y3 => f_Arrays_fill_n3601_5_b  (f_Arrays_fill_n3601_5  n) y0 y1 y2 y3
def f_Arrays_fill_n3601 (x1 : Int) (i_a0 : Nat → Int) : Option ((Nat → Int)) :=
  f_Arrays_fill_n3601_5 zfu x1 0 3601 i_a0
def f_Scales_weighAll_78_b (i_hill_columns_many : Int) (i_hill_columns_heights : Nat → Int) (i_hill_columns_weights : Nat → Int) (k19 : Int → Int → (Nat → Int) → Option ((Nat → Int))) (k35 : Int → Int → Int → (Nat → Int) → Option ((Nat → Int))) (k78 : Int → Int → Int → Int → Int → (Nat → Int) → Option ((Nat → Int))) (x1 : Int) (x2 : Int) (x3 : Int) (x4 : Int) (x5 : Int) (i_setsBy : Nat → Int) : Option ((Nat → Int)) :=
  if zi_w x5 < zi_w x4 then
    zn (x3 + 1) fun v1 =>
    k35 x1 x2 v1 i_setsBy
  else
    zg 3601 i_setsBy x5 fun v2 =>
    zn (x5 - x4) fun v3 =>
    zg 3601 i_setsBy v3 fun v4 =>
    zn (v2 + v4) fun v5 =>
    zn (zi_min 1000000000 v5) fun v6 =>
    zs 3601 i_setsBy x5 v6 fun a7 =>
    zn (x5 + (-1)) fun v8 =>
    k78 x1 x2 x3 x4 v8 a7
def f_Scales_weighAll_78 (i_hill_columns_many : Int) (i_hill_columns_heights : Nat → Int) (i_hill_columns_weights : Nat → Int) (k19 : Int → Int → (Nat → Int) → Option ((Nat → Int))) (k35 : Int → Int → Int → (Nat → Int) → Option ((Nat → Int))) : Nat → Int → Int → Int → Int → Int → (Nat → Int) → Option ((Nat → Int))
  | 0 => fun _ _ _ _ _ _ => none
  | n + 1 => fun y0 y1 y2 y3 y4 y5 => f_Scales_weighAll_78_b i_hill_columns_many i_hill_columns_heights i_hill_columns_weights k19 k35 (f_Scales_weighAll_78 i_hill_columns_many i_hill_columns_heights i_hill_columns_weights k19 k35 n) y0 y1 y2 y3 y4 y5
def f_Scales_weighAll_35_b (i_hill_columns_many : Int) (i_hill_columns_heights : Nat → Int) (i_hill_columns_weights : Nat → Int) (k19 : Int → Int → (Nat → Int) → Option ((Nat → Int))) (k35 : Int → Int → Int → (Nat → Int) → Option ((Nat → Int))) (x1 : Int) (x2 : Int) (x3 : Int) (i_setsBy : Nat → Int) : Option ((Nat → Int)) :=
  zd1 (f_Columns_high x2 i_hill_columns_many i_hill_columns_heights) fun v1 =>
  if zi_w v1 ≤ zi_w x3 then
    zn (x2 + 1) fun v2 =>
    k19 x1 v2 i_setsBy
  else
    zd1 (f_Columns_heft x2 x3 i_hill_columns_many i_hill_columns_heights i_hill_columns_weights) fun v3 =>
    zn (x1 + v3) fun v4 =>
    zn (zi_min 3600 v4) fun v5 =>
    f_Scales_weighAll_78 i_hill_columns_many i_hill_columns_heights i_hill_columns_weights k19 k35 zfu v5 x2 x3 v3 v5 i_setsBy
def f_Scales_weighAll_35 (i_hill_columns_many : Int) (i_hill_columns_heights : Nat → Int) (i_hill_columns_weights : Nat → Int) (k19 : Int → Int → (Nat → Int) → Option ((Nat → Int))) : Nat → Int → Int → Int → (Nat → Int) → Option ((Nat → Int))
  | 0 => fun _ _ _ _ => none
  | n + 1 => fun y0 y1 y2 y3 => f_Scales_weighAll_35_b i_hill_columns_many i_hill_columns_heights i_hill_columns_weights k19 (f_Scales_weighAll_35 i_hill_columns_many i_hill_columns_heights i_hill_columns_weights k19 n) y0 y1 y2 y3
def f_Scales_weighAll_19_b (i_hill_columns_many : Int) (i_hill_columns_heights : Nat → Int) (i_hill_columns_weights : Nat → Int) (k19 : Int → Int → (Nat → Int) → Option ((Nat → Int))) (x1 : Int) (x2 : Int) (i_setsBy : Nat → Int) : Option ((Nat → Int)) :=
  if zi_w i_hill_columns_many ≤ zi_w x2 then
    some i_setsBy
  else
    f_Scales_weighAll_35 i_hill_columns_many i_hill_columns_heights i_hill_columns_weights k19 zfu x1 x2 0 i_setsBy
def f_Scales_weighAll_19 (i_hill_columns_many : Int) (i_hill_columns_heights : Nat → Int) (i_hill_columns_weights : Nat → Int) : Nat → Int → Int → (Nat → Int) → Option ((Nat → Int))
  | 0 => fun _ _ _ => none
  | n + 1 => fun y0 y1 y2 => f_Scales_weighAll_19_b i_hill_columns_many i_hill_columns_heights i_hill_columns_weights (f_Scales_weighAll_19 i_hill_columns_many i_hill_columns_heights i_hill_columns_weights n) y0 y1 y2
def f_Scales_weighAll (i_hill_columns_many : Int) (i_hill_columns_heights : Nat → Int) (i_hill_columns_weights : Nat → Int) (i_setsBy : Nat → Int) : Option ((Nat → Int)) :=
  zd1 (f_Arrays_fill_n3601 0 i_setsBy) fun a1 =>
  zs 3601 a1 0 1 fun a2 =>
  f_Scales_weighAll_19 i_hill_columns_many i_hill_columns_heights i_hill_columns_weights zfu 0 0 a2
def f_Scales_sets (x1 : Int) (i_hill_changes : Int) (i_hill_columns_many : Int) (i_hill_columns_heights : Nat → Int) (i_hill_columns_weights : Nat → Int) (i_version : Int) (i_setsBy : Nat → Int) : Option (Int × Int × (Nat → Int)) :=
  if zi_w x1 < 0 then
    some ((-1), i_version, i_setsBy)
  else
    if zi_w x1 ≤ zi_w 3600 then
      if zi_w i_version = zi_w i_hill_changes then
        zg 3601 i_setsBy x1 fun v1 =>
        some (v1, i_version, i_setsBy)
      else
        zd1 (f_Scales_weighAll i_hill_columns_many i_hill_columns_heights i_hill_columns_weights i_setsBy) fun a2 =>
        zg 3601 a2 x1 fun v3 =>
        some (v3, i_hill_changes, a2)
    else
      some ((-1), i_version, i_setsBy)
def f_HS_weighs (x1 : Int) (i_hill_changes : Int) (i_hill_columns_many : Int) (i_hill_columns_heights : Nat → Int) (i_hill_columns_weights : Nat → Int) (i_scales_version : Int) (i_scales_setsBy : Nat → Int) : Option (Int × Int × (Nat → Int)) :=
  zd3 (f_Scales_sets x1 i_hill_changes i_hill_columns_many i_hill_columns_heights i_hill_columns_weights i_scales_version i_scales_setsBy) fun v1 v2 a3 =>
  some (v1, v2, a3)
def f_HS_trips_10 (i_hill_children : Int) (i_latestStatus : Int) (i_hill_changes : Int) (i_refusals : Nat → Int) (i_hill_trips : Nat → Int) : Option (Int × Int × Int × (Nat → Int) × (Nat → Int)) :=
  zd3 (f_HS_refuse (-1) i_latestStatus i_refusals) fun v1 v2 a3 =>
  some (v1, v2, i_hill_changes, a3, i_hill_trips)
def f_HS_trips (x1 : Int) (x2 : Int) (i_hill_children : Int) (i_latestStatus : Int) (i_hill_changes : Int) (i_refusals : Nat → Int) (i_hill_trips : Nat → Int) : Option (Int × Int × Int × (Nat → Int) × (Nat → Int)) :=
  if zi_w x2 < 0 then
    f_HS_trips_10 i_hill_children i_latestStatus i_hill_changes i_refusals i_hill_trips
  else
    if zi_w x2 ≤ zi_w 20 then
      zd1 (f_Hill_hasChild x1 i_hill_children) fun v1 =>
      if zi_w v1 ≠ 0 then
        zg 6 i_hill_trips x1 fun v2 =>
        zs 6 i_hill_trips x1 x2 fun a3 =>
        zd3 (f_HS_accept v2 i_latestStatus i_hill_changes) fun v4 v5 v6 =>
        some (v4, v5, v6, i_refusals, a3)
      else
        zd3 (f_HS_refuse (-2) i_latestStatus i_refusals) fun v7 v8 a9 =>
        some (v7, v8, i_hill_changes, a9, i_hill_trips)
    else
      f_HS_trips_10 i_hill_children i_latestStatus i_hill_changes i_refusals i_hill_trips
def f_Scales_bestToWeigh_55 (i_sets : Int) (i_hill_children : Int) (i_setsWith : Nat → Int) (k6 : Int → Int → Int → Option (Int)) (x1 : Int) (x2 : Int) (x3 : Int) : Option (Int) :=
  zn (x3 + 1) fun v1 =>
  k6 x1 x2 v1
def f_Scales_bestToWeigh_50 (i_sets : Int) (i_hill_children : Int) (i_setsWith : Nat → Int) (k6 : Int → Int → Int → Option (Int)) (x3 : Int) (x4 : Int) : Option (Int) :=
  f_Scales_bestToWeigh_55 i_sets i_hill_children i_setsWith k6 x3 x4 x3
def f_Scales_bestToWeigh_6_b (i_sets : Int) (i_hill_children : Int) (i_setsWith : Nat → Int) (k6 : Int → Int → Int → Option (Int)) (x1 : Int) (x2 : Int) (x3 : Int) : Option (Int) :=
  if zi_w i_hill_children ≤ zi_w x3 then
    some x1
  else
    zg 6 i_setsWith x3 fun v1 =>
    zg 6 i_setsWith x3 fun v2 =>
    zn (i_sets - v2) fun v3 =>
    zn (zi_max v1 v3) fun v4 =>
    if zi_w x1 = zi_w (-1) then
      f_Scales_bestToWeigh_50 i_sets i_hill_children i_setsWith k6 x3 v4
    else
      if zi_w x2 ≤ zi_w v4 then
        f_Scales_bestToWeigh_55 i_sets i_hill_children i_setsWith k6 x1 x2 x3
      else
        f_Scales_bestToWeigh_50 i_sets i_hill_children i_setsWith k6 x3 v4
def f_Scales_bestToWeigh_6 (i_sets : Int) (i_hill_children : Int) (i_setsWith : Nat → Int) : Nat → Int → Int → Int → Option (Int)
  | 0 => fun _ _ _ => none
  | n + 1 => fun y0 y1 y2 => f_Scales_bestToWeigh_6_b i_sets i_hill_children i_setsWith (f_Scales_bestToWeigh_6 i_sets i_hill_children i_setsWith n) y0 y1 y2
def f_Scales_bestToWeigh (i_sets : Int) (i_hill_children : Int) (i_setsWith : Nat → Int) : Option (Int) :=
  f_Scales_bestToWeigh_6 i_sets i_hill_children i_setsWith zfu (-1) 0 0
def f_Scales_finding (x1 : Int) (i_sets : Int) (i_lowest : Int) (i_inAll : Int) (i_inAny : Int) (i_hill_children : Int) (i_setsWith : Nat → Int) : Option (Int) :=
  if zi_w x1 ≠ 0 then
    if zi_w i_sets ≠ 0 then
      if zi_w x1 = 1 then
        some i_lowest
      else if zi_w x1 = 2 then
        some i_inAll
      else if zi_w x1 = 3 then
        zn (zi_shl 1 i_hill_children) fun v1 =>
        zn (v1 - 1) fun v2 =>
        zn (zi_xor i_inAny (-1)) fun v3 =>
        zn (zi_and v2 v3) fun v4 =>
        some v4
      else if zi_w x1 = 4 then
        zd1 (f_Scales_bestToWeigh i_sets i_hill_children i_setsWith) fun v5 =>
        some v5
      else
        some (-1)
    else
      some (-1)
  else
    some i_sets
def f_Scales_note_44_b (i_hill_children : Int) (k44 : Int → Int → Int → Int → Int → Int → (Nat → Int) → Option (Int × Int × Int × Int × (Nat → Int))) (x1 : Int) (x2 : Int) (i_sets : Int) (i_lowest : Int) (i_inAll : Int) (i_inAny : Int) (i_setsWith : Nat → Int) : Option (Int × Int × Int × Int × (Nat → Int)) :=
  if zi_w i_hill_children ≤ zi_w x2 then
    some (i_sets, i_lowest, i_inAll, i_inAny, i_setsWith)
  else
    zg 6 i_setsWith x2 fun v1 =>
    zn (zi_shr x1 x2) fun v2 =>
    zn (zi_and v2 1) fun v3 =>
    zn (v1 + v3) fun v4 =>
    zs 6 i_setsWith x2 v4 fun a5 =>
    zn (x2 + 1) fun v6 =>
    k44 x1 v6 i_sets i_lowest i_inAll i_inAny a5
def f_Scales_note_44 (i_hill_children : Int) : Nat → Int → Int → Int → Int → Int → Int → (Nat → Int) → Option (Int × Int × Int × Int × (Nat → Int))
  | 0 => fun _ _ _ _ _ _ _ => none
  | n + 1 => fun y0 y1 y2 y3 y4 y5 y6 => f_Scales_note_44_b i_hill_children (f_Scales_note_44 i_hill_children n) y0 y1 y2 y3 y4 y5 y6
def f_Scales_note_12 (i_hill_children : Int) (x1 : Int) (i_sets : Int) (i_lowest : Int) (i_inAll : Int) (i_inAny : Int) (i_setsWith : Nat → Int) : Option (Int × Int × Int × Int × (Nat → Int)) :=
  zn (i_sets + 1) fun v1 =>
  zn (zi_and i_inAll x1) fun v2 =>
  zn (zi_or i_inAny x1) fun v3 =>
  f_Scales_note_44 i_hill_children zfu x1 0 v1 i_lowest v2 v3 i_setsWith
def f_Scales_note (x1 : Int) (i_hill_children : Int) (i_sets : Int) (i_lowest : Int) (i_inAll : Int) (i_inAny : Int) (i_setsWith : Nat → Int) : Option (Int × Int × Int × Int × (Nat → Int)) :=
  if zi_w i_sets ≠ 0 then
    f_Scales_note_12 i_hill_children x1 i_sets i_lowest i_inAll i_inAny i_setsWith
  else
    f_Scales_note_12 i_hill_children x1 i_sets x1 i_inAll i_inAny i_setsWith
def f_Arrays_fill_n6_5_b  (k5 : Int → Int → Int → (Nat → Int) → Option ((Nat → Int))) (x1 : Int) (x2 : Int) (x3 : Int) (i_a0 : Nat → Int) : Option ((Nat → Int)) :=
  if zi_w x3 ≤ zi_w x2 then
    some i_a0
  else
    zs 6 i_a0 x2 x1 fun a1 =>
    zn (x2 + 1) fun v2 =>
    k5 x1 v2 x3 a1
def f_Arrays_fill_n6_5  : Nat → Int → Int → Int → (Nat → Int) → Option ((Nat → Int))
  | 0 => fun _ _ _ _ => none
  | n + 1 => fun y0 y1 y2 y3 => f_Arrays_fill_n6_5_b  (f_Arrays_fill_n6_5  n) y0 y1 y2 y3
def f_Arrays_fill_n6 (x1 : Int) (i_a0 : Nat → Int) : Option ((Nat → Int)) :=
  f_Arrays_fill_n6_5 zfu x1 0 6 i_a0
def f_Scales_tripsOf_4_b (i_hill_children : Int) (i_hill_trips : Nat → Int) (k4 : Int → Int → Int → Option (Int)) (x1 : Int) (x2 : Int) (x3 : Int) : Option (Int) :=
  if zi_w i_hill_children ≤ zi_w x3 then
    some x2
  else
    zn (zi_shr x1 x3) fun v1 =>
    zn (zi_and v1 1) fun v2 =>
    zg 6 i_hill_trips x3 fun v3 =>
    zn (v2 * v3) fun v4 =>
    zn (x2 + v4) fun v5 =>
    zn (x3 + 1) fun v6 =>
    k4 x1 v5 v6
def f_Scales_tripsOf_4 (i_hill_children : Int) (i_hill_trips : Nat → Int) : Nat → Int → Int → Int → Option (Int)
  | 0 => fun _ _ _ => none
  | n + 1 => fun y0 y1 y2 => f_Scales_tripsOf_4_b i_hill_children i_hill_trips (f_Scales_tripsOf_4 i_hill_children i_hill_trips n) y0 y1 y2
def f_Scales_tripsOf (x1 : Int) (i_hill_children : Int) (i_hill_trips : Nat → Int) : Option (Int) :=
  f_Scales_tripsOf_4 i_hill_children i_hill_trips zfu x1 0 0
def f_Scales_suspect_67 (i_hill_children : Int) (i_hill_trips : Nat → Int) (k43 : Int → Int → Int → Int → Int → Int → Int → Int → (Nat → Int) → Option (Int × Int × Int × Int × (Nat → Int))) (x1 : Int) (x2 : Int) (x3 : Int) (x4 : Int) (i_sets : Int) (i_lowest : Int) (i_inAll : Int) (i_inAny : Int) (i_setsWith : Nat → Int) : Option (Int × Int × Int × Int × (Nat → Int)) :=
  zn (x4 + 1) fun v1 =>
  k43 x1 x2 x3 v1 i_sets i_lowest i_inAll i_inAny i_setsWith
def f_Scales_suspect_43_b (i_hill_children : Int) (i_hill_trips : Nat → Int) (k43 : Int → Int → Int → Int → Int → Int → Int → Int → (Nat → Int) → Option (Int × Int × Int × Int × (Nat → Int))) (x1 : Int) (x2 : Int) (x3 : Int) (x4 : Int) (i_sets : Int) (i_lowest : Int) (i_inAll : Int) (i_inAny : Int) (i_setsWith : Nat → Int) : Option (Int × Int × Int × Int × (Nat → Int)) :=
  if zi_w x3 < zi_w x4 then
    some (i_sets, i_lowest, i_inAll, i_inAny, i_setsWith)
  else
    zd1 (f_Scales_tripsOf x4 i_hill_children i_hill_trips) fun v1 =>
    zn (v1 * x1) fun v2 =>
    if zi_w v2 ≠ zi_w x2 then
      f_Scales_suspect_67 i_hill_children i_hill_trips k43 x1 x2 x3 x4 i_sets i_lowest i_inAll i_inAny i_setsWith
    else
      zd5 (f_Scales_note x4 i_hill_children i_sets i_lowest i_inAll i_inAny i_setsWith) fun v3 v4 v5 v6 a7 =>
      f_Scales_suspect_67 i_hill_children i_hill_trips k43 x1 x2 x3 x4 v3 v4 v5 v6 a7
def f_Scales_suspect_43 (i_hill_children : Int) (i_hill_trips : Nat → Int) : Nat → Int → Int → Int → Int → Int → Int → Int → Int → (Nat → Int) → Option (Int × Int × Int × Int × (Nat → Int))
  | 0 => fun _ _ _ _ _ _ _ _ _ => none
  | n + 1 => fun y0 y1 y2 y3 y4 y5 y6 y7 y8 => f_Scales_suspect_43_b i_hill_children i_hill_trips (f_Scales_suspect_43 i_hill_children i_hill_trips n) y0 y1 y2 y3 y4 y5 y6 y7 y8
def f_Scales_suspect (x1 : Int) (x2 : Int) (i_hill_children : Int) (i_hill_trips : Nat → Int) (i_sets : Int) (i_lowest : Int) (i_inAll : Int) (i_inAny : Int) (i_setsWith : Nat → Int) : Option (Int × Int × Int × Int × (Nat → Int)) :=
  zn (zi_shl 1 i_hill_children) fun v1 =>
  zn (v1 - 1) fun v2 =>
  zd1 (f_Arrays_fill_n6 0 i_setsWith) fun a3 =>
  f_Scales_suspect_43 i_hill_children i_hill_trips zfu x1 x2 v2 0 0 (-1) v2 0 a3
def f_HS_culprits (x1 : Int) (x2 : Int) (x3 : Int) (i_hill_children : Int) (i_hill_trips : Nat → Int) (i_scales_sets : Int) (i_scales_lowest : Int) (i_scales_inAll : Int) (i_scales_inAny : Int) (i_scales_setsWith : Nat → Int) : Option (Int × Int × Int × Int × Int × (Nat → Int)) :=
  if zi_w x1 < zi_w 1 then
    some ((-1), i_scales_sets, i_scales_lowest, i_scales_inAll, i_scales_inAny, i_scales_setsWith)
  else
    if zi_w 9 < zi_w x1 then
      some ((-1), i_scales_sets, i_scales_lowest, i_scales_inAll, i_scales_inAny, i_scales_setsWith)
    else
      if zi_w x2 < 0 then
        some ((-1), i_scales_sets, i_scales_lowest, i_scales_inAll, i_scales_inAny, i_scales_setsWith)
      else
        if zi_w x2 ≤ zi_w 999 then
          zd5 (f_Scales_suspect x1 x2 i_hill_children i_hill_trips i_scales_sets i_scales_lowest i_scales_inAll i_scales_inAny i_scales_setsWith) fun v1 v2 v3 v4 a5 =>
          zd1 (f_Scales_finding x3 v1 v2 v3 v4 i_hill_children a5) fun v6 =>
          some (v6, v1, v2, v3, v4, a5)
        else
          some ((-1), i_scales_sets, i_scales_lowest, i_scales_inAll, i_scales_inAny, i_scales_setsWith)
def f_Columns_become (i_a1_many : Int) (i_a1_heights : Nat → Int) (i_a1_weights : Nat → Int) (i_many : Int) (i_heights : Nat → Int) (i_weights : Nat → Int) : Option (Int × (Nat → Int) × (Nat → Int)) :=
  zcp 12 i_a1_heights 0 12 i_heights 0 12 fun a1 =>
  zcp 120 i_a1_weights 0 120 i_weights 0 120 fun a2 =>
  some (i_a1_many, a1, a2)
def f_Schools_shadesBehind_9 (r_Schools_shadesBehind : Int → Int → Int → Int → Int → Int → Int → Int → (Nat → Int) → (Nat → Int) → (Nat → Int) → (Nat → Int) → (Nat → Int) → (Nat → Int) → (Nat → Int) → (Nat → Int) → Int → Int → Int → (Nat → Int) → (Nat → Int) → (Nat → Int) → (Nat → Int) → (Nat → Int) → Option (Int × (Nat → Int) × (Nat → Int) × Int × Int × Int × (Nat → Int) × (Nat → Int) × (Nat → Int) × (Nat → Int) × (Nat → Int))) (r_Schools_shadesCarried : Int → Int → Int → Int → Int → Int → Int → Int → Int → Int → (Nat → Int) → (Nat → Int) → (Nat → Int) → (Nat → Int) → (Nat → Int) → (Nat → Int) → (Nat → Int) → (Nat → Int) → Int → Int → Int → (Nat → Int) → (Nat → Int) → (Nat → Int) → (Nat → Int) → (Nat → Int) → Option (Int × (Nat → Int) × (Nat → Int) × Int × Int × Int × (Nat → Int) × (Nat → Int) × (Nat → Int) × (Nat → Int) × (Nat → Int))) (i_hill_children : Int) (i_hill_parishes : Int) (i_hill_laws : Int) (i_hill_inForce : Int) (i_hill_changes : Int) (i_columns_many : Int) (i_hill_strengths : Nat → Int) (i_hill_expelled : Nat → Int) (i_hill_places : Nat → Int) (i_hill_terms : Nat → Int) (i_hill_orders : Nat → Int) (i_hill_ordered : Nat → Int) (i_from : Nat → Int) (i_to : Nat → Int) (i_carriers_judge_piled : Int) (i_carriers_judge_tiring : Int) (i_carriers_judge_barred : Int) (i_carriers_notes : Nat → Int) (i_columns_heights : Nat → Int) (i_columns_weights : Nat → Int) (i_carriers_judge_words : Nat → Int) (i_carriers_judge_pile : Nat → Int) : Option (Int × (Nat → Int) × (Nat → Int) × Int × Int × Int × (Nat → Int) × (Nat → Int) × (Nat → Int) × (Nat → Int) × (Nat → Int)) :=
  zd1 (f_Hill_shades i_hill_parishes i_columns_many i_hill_places i_hill_terms i_columns_heights) fun v1 =>
  some (v1, i_from, i_to, i_carriers_judge_piled, i_carriers_judge_tiring, i_carriers_judge_barred, i_carriers_notes, i_columns_heights, i_columns_weights, i_carriers_judge_words, i_carriers_judge_pile)
def f_Schools_shadesBehind_167 (r_Schools_shadesBehind : Int → Int → Int → Int → Int → Int → Int → Int → (Nat → Int) → (Nat → Int) → (Nat → Int) → (Nat → Int) → (Nat → Int) → (Nat → Int) → (Nat → Int) → (Nat → Int) → Int → Int → Int → (Nat → Int) → (Nat → Int) → (Nat → Int) → (Nat → Int) → (Nat → Int) → Option (Int × (Nat → Int) × (Nat → Int) × Int × Int × Int × (Nat → Int) × (Nat → Int) × (Nat → Int) × (Nat → Int) × (Nat → Int))) (r_Schools_shadesCarried : Int → Int → Int → Int → Int → Int → Int → Int → Int → Int → (Nat → Int) → (Nat → Int) → (Nat → Int) → (Nat → Int) → (Nat → Int) → (Nat → Int) → (Nat → Int) → (Nat → Int) → Int → Int → Int → (Nat → Int) → (Nat → Int) → (Nat → Int) → (Nat → Int) → (Nat → Int) → Option (Int × (Nat → Int) × (Nat → Int) × Int × Int × Int × (Nat → Int) × (Nat → Int) × (Nat → Int) × (Nat → Int) × (Nat → Int))) (i_hill_children : Int) (i_hill_parishes : Int) (i_hill_laws : Int) (i_hill_inForce : Int) (i_hill_changes : Int) (i_columns_many : Int) (i_hill_strengths : Nat → Int) (i_hill_expelled : Nat → Int) (i_hill_places : Nat → Int) (i_hill_terms : Nat → Int) (i_hill_orders : Nat → Int) (i_hill_ordered : Nat → Int) (k40 : Int → Int → Int → Int → (Nat → Int) → (Nat → Int) → Int → Int → Int → (Nat → Int) → (Nat → Int) → (Nat → Int) → (Nat → Int) → (Nat → Int) → Option (Int × (Nat → Int) × (Nat → Int) × Int × Int × Int × (Nat → Int) × (Nat → Int) × (Nat → Int) × (Nat → Int) × (Nat → Int))) (k55 : Int → Int → Int → Int → Int → (Nat → Int) → (Nat → Int) → Int → Int → Int → (Nat → Int) → (Nat → Int) → (Nat → Int) → (Nat → Int) → (Nat → Int) → Option (Int × (Nat → Int) × (Nat → Int) × Int × Int × Int × (Nat → Int) × (Nat → Int) × (Nat → Int) × (Nat → Int) × (Nat → Int))) (x1 : Int) (x2 : Int) (x3 : Int) (x4 : Int) (x5 : Int) (i_from : Nat → Int) (i_to : Nat → Int) (i_carriers_judge_piled : Int) (i_carriers_judge_tiring : Int) (i_carriers_judge_barred : Int) (i_carriers_notes : Nat → Int) (i_columns_heights : Nat → Int) (i_columns_weights : Nat → Int) (i_carriers_judge_words : Nat → Int) (i_carriers_judge_pile : Nat → Int) : Option (Int × (Nat → Int) × (Nat → Int) × Int × Int × Int × (Nat → Int) × (Nat → Int) × (Nat → Int) × (Nat → Int) × (Nat → Int)) :=
  zn (x5 + 1) fun v1 =>
  k55 x1 x2 x3 x4 v1 i_from i_to i_carriers_judge_piled i_carriers_judge_tiring i_carriers_judge_barred i_carriers_notes i_columns_heights i_columns_weights i_carriers_judge_words i_carriers_judge_pile
def f_Schools_shadesBehind_148 (r_Schools_shadesBehind : Int → Int → Int → Int → Int → Int → Int → Int → (Nat → Int) → (Nat → Int) → (Nat → Int) → (Nat → Int) → (Nat → Int) → (Nat → Int) → (Nat → Int) → (Nat → Int) → Int → Int → Int → (Nat → Int) → (Nat → Int) → (Nat → Int) → (Nat → Int) → (Nat → Int) → Option (Int × (Nat → Int) × (Nat → Int) × Int × Int × Int × (Nat → Int) × (Nat → Int) × (Nat → Int) × (Nat → Int) × (Nat → Int))) (r_Schools_shadesCarried : Int → Int → Int → Int → Int → Int → Int → Int → Int → Int → (Nat → Int) → (Nat → Int) → (Nat → Int) → (Nat → Int) → (Nat → Int) → (Nat → Int) → (Nat → Int) → (Nat → Int) → Int → Int → Int → (Nat → Int) → (Nat → Int) → (Nat → Int) → (Nat → Int) → (Nat → Int) → Option (Int × (Nat → Int) × (Nat → Int) × Int × Int × Int × (Nat → Int) × (Nat → Int) × (Nat → Int) × (Nat → Int) × (Nat → Int))) (i_hill_children : Int) (i_hill_parishes : Int) (i_hill_laws : Int) (i_hill_inForce : Int) (i_hill_changes : Int) (i_columns_many : Int) (i_hill_strengths : Nat → Int) (i_hill_expelled : Nat → Int) (i_hill_places : Nat → Int) (i_hill_terms : Nat → Int) (i_hill_orders : Nat → Int) (i_hill_ordered : Nat → Int) (k40 : Int → Int → Int → Int → (Nat → Int) → (Nat → Int) → Int → Int → Int → (Nat → Int) → (Nat → Int) → (Nat → Int) → (Nat → Int) → (Nat → Int) → Option (Int × (Nat → Int) × (Nat → Int) × Int × Int × Int × (Nat → Int) × (Nat → Int) × (Nat → Int) × (Nat → Int) × (Nat → Int))) (k55 : Int → Int → Int → Int → Int → (Nat → Int) → (Nat → Int) → Int → Int → Int → (Nat → Int) → (Nat → Int) → (Nat → Int) → (Nat → Int) → (Nat → Int) → Option (Int × (Nat → Int) × (Nat → Int) × Int × Int × Int × (Nat → Int) × (Nat → Int) × (Nat → Int) × (Nat → Int) × (Nat → Int))) (x1 : Int) (x2 : Int) (x4 : Int) (x5 : Int) (x6 : Int) (i_from : Nat → Int) (i_to : Nat → Int) (i_carriers_judge_piled : Int) (i_carriers_judge_tiring : Int) (i_carriers_judge_barred : Int) (i_carriers_notes : Nat → Int) (i_columns_heights : Nat → Int) (i_columns_weights : Nat → Int) (i_carriers_judge_words : Nat → Int) (i_carriers_judge_pile : Nat → Int) : Option (Int × (Nat → Int) × (Nat → Int) × Int × Int × Int × (Nat → Int) × (Nat → Int) × (Nat → Int) × (Nat → Int) × (Nat → Int)) :=
  zs 5 i_from x1 x4 fun a1 =>
  zs 5 i_to x1 x5 fun a2 =>
  f_Schools_shadesBehind_167 r_Schools_shadesBehind r_Schools_shadesCarried i_hill_children i_hill_parishes i_hill_laws i_hill_inForce i_hill_changes i_columns_many i_hill_strengths i_hill_expelled i_hill_places i_hill_terms i_hill_orders i_hill_ordered k40 k55 x1 x2 x6 x4 x5 a1 a2 i_carriers_judge_piled i_carriers_judge_tiring i_carriers_judge_barred i_carriers_notes i_columns_heights i_columns_weights i_carriers_judge_words i_carriers_judge_pile
def f_Schools_shadesBehind_55_b (r_Schools_shadesBehind : Int → Int → Int → Int → Int → Int → Int → Int → (Nat → Int) → (Nat → Int) → (Nat → Int) → (Nat → Int) → (Nat → Int) → (Nat → Int) → (Nat → Int) → (Nat → Int) → Int → Int → Int → (Nat → Int) → (Nat → Int) → (Nat → Int) → (Nat → Int) → (Nat → Int) → Option (Int × (Nat → Int) × (Nat → Int) × Int × Int × Int × (Nat → Int) × (Nat → Int) × (Nat → Int) × (Nat → Int) × (Nat → Int))) (r_Schools_shadesCarried : Int → Int → Int → Int → Int → Int → Int → Int → Int → Int → (Nat → Int) → (Nat → Int) → (Nat → Int) → (Nat → Int) → (Nat → Int) → (Nat → Int) → (Nat → Int) → (Nat → Int) → Int → Int → Int → (Nat → Int) → (Nat → Int) → (Nat → Int) → (Nat → Int) → (Nat → Int) → Option (Int × (Nat → Int) × (Nat → Int) × Int × Int × Int × (Nat → Int) × (Nat → Int) × (Nat → Int) × (Nat → Int) × (Nat → Int))) (i_hill_children : Int) (i_hill_parishes : Int) (i_hill_laws : Int) (i_hill_inForce : Int) (i_hill_changes : Int) (i_columns_many : Int) (i_hill_strengths : Nat → Int) (i_hill_expelled : Nat → Int) (i_hill_places : Nat → Int) (i_hill_terms : Nat → Int) (i_hill_orders : Nat → Int) (i_hill_ordered : Nat → Int) (k40 : Int → Int → Int → Int → (Nat → Int) → (Nat → Int) → Int → Int → Int → (Nat → Int) → (Nat → Int) → (Nat → Int) → (Nat → Int) → (Nat → Int) → Option (Int × (Nat → Int) × (Nat → Int) × Int × Int × Int × (Nat → Int) × (Nat → Int) × (Nat → Int) × (Nat → Int) × (Nat → Int))) (k55 : Int → Int → Int → Int → Int → (Nat → Int) → (Nat → Int) → Int → Int → Int → (Nat → Int) → (Nat → Int) → (Nat → Int) → (Nat → Int) → (Nat → Int) → Option (Int × (Nat → Int) × (Nat → Int) × Int × Int × Int × (Nat → Int) × (Nat → Int) × (Nat → Int) × (Nat → Int) × (Nat → Int))) (x1 : Int) (x2 : Int) (x3 : Int) (x4 : Int) (x5 : Int) (i_from : Nat → Int) (i_to : Nat → Int) (i_carriers_judge_piled : Int) (i_carriers_judge_tiring : Int) (i_carriers_judge_barred : Int) (i_carriers_notes : Nat → Int) (i_columns_heights : Nat → Int) (i_columns_weights : Nat → Int) (i_carriers_judge_words : Nat → Int) (i_carriers_judge_pile : Nat → Int) : Option (Int × (Nat → Int) × (Nat → Int) × Int × Int × Int × (Nat → Int) × (Nat → Int) × (Nat → Int) × (Nat → Int) × (Nat → Int)) :=
  if zi_w i_columns_many ≤ zi_w x5 then
    zn (x4 + 1) fun v1 =>
    k40 x1 x2 x3 v1 i_from i_to i_carriers_judge_piled i_carriers_judge_tiring i_carriers_judge_barred i_carriers_notes i_columns_heights i_columns_weights i_carriers_judge_words i_carriers_judge_pile
  else
    zd1 (f_Columns_top x4 i_columns_many i_columns_heights i_columns_weights) fun v2 =>
    zd1 (f_Columns_high x4 i_columns_many i_columns_heights) fun v3 =>
    zd1 (f_Columns_high x5 i_columns_many i_columns_heights) fun v4 =>
    zd7 (f_Carriers_note x4 x5 v2 v3 v4 i_hill_children i_hill_laws i_hill_inForce i_hill_changes i_hill_strengths i_hill_expelled i_hill_terms i_hill_orders i_hill_ordered i_carriers_judge_piled i_carriers_judge_tiring i_carriers_judge_barred i_carriers_notes i_carriers_judge_words i_carriers_judge_pile) fun v5 v6 v7 v8 a9 a10 a11 =>
    if zi_w v5 ≠ zi_w (-1) then
      zd11 (r_Schools_shadesCarried x1 x2 x4 x5 i_hill_children i_hill_parishes i_hill_laws i_hill_inForce i_hill_changes i_columns_many i_hill_strengths i_hill_expelled i_hill_places i_hill_terms i_hill_orders i_hill_ordered i_from i_to v6 v7 v8 a9 i_columns_heights i_columns_weights a10 a11) fun v12 a13 a14 v15 v16 v17 a18 a19 a20 a21 a22 =>
      if zi_w x3 = zi_w (-1) then
        f_Schools_shadesBehind_148 r_Schools_shadesBehind r_Schools_shadesCarried i_hill_children i_hill_parishes i_hill_laws i_hill_inForce i_hill_changes i_columns_many i_hill_strengths i_hill_expelled i_hill_places i_hill_terms i_hill_orders i_hill_ordered k40 k55 x1 x2 x4 x5 v12 a13 a14 v15 v16 v17 a18 a19 a20 a21 a22
      else
        if zi_w x2 ≠ 0 then
          if zi_w x3 ≤ zi_w v12 then
            f_Schools_shadesBehind_167 r_Schools_shadesBehind r_Schools_shadesCarried i_hill_children i_hill_parishes i_hill_laws i_hill_inForce i_hill_changes i_columns_many i_hill_strengths i_hill_expelled i_hill_places i_hill_terms i_hill_orders i_hill_ordered k40 k55 x1 x2 x3 x4 x5 a13 a14 v15 v16 v17 a18 a19 a20 a21 a22
          else
            f_Schools_shadesBehind_148 r_Schools_shadesBehind r_Schools_shadesCarried i_hill_children i_hill_parishes i_hill_laws i_hill_inForce i_hill_changes i_columns_many i_hill_strengths i_hill_expelled i_hill_places i_hill_terms i_hill_orders i_hill_ordered k40 k55 x1 x2 x4 x5 v12 a13 a14 v15 v16 v17 a18 a19 a20 a21 a22
        else
          if zi_w v12 ≤ zi_w x3 then
            f_Schools_shadesBehind_167 r_Schools_shadesBehind r_Schools_shadesCarried i_hill_children i_hill_parishes i_hill_laws i_hill_inForce i_hill_changes i_columns_many i_hill_strengths i_hill_expelled i_hill_places i_hill_terms i_hill_orders i_hill_ordered k40 k55 x1 x2 x3 x4 x5 a13 a14 v15 v16 v17 a18 a19 a20 a21 a22
          else
            f_Schools_shadesBehind_148 r_Schools_shadesBehind r_Schools_shadesCarried i_hill_children i_hill_parishes i_hill_laws i_hill_inForce i_hill_changes i_columns_many i_hill_strengths i_hill_expelled i_hill_places i_hill_terms i_hill_orders i_hill_ordered k40 k55 x1 x2 x4 x5 v12 a13 a14 v15 v16 v17 a18 a19 a20 a21 a22
    else
      f_Schools_shadesBehind_167 r_Schools_shadesBehind r_Schools_shadesCarried i_hill_children i_hill_parishes i_hill_laws i_hill_inForce i_hill_changes i_columns_many i_hill_strengths i_hill_expelled i_hill_places i_hill_terms i_hill_orders i_hill_ordered k40 k55 x1 x2 x3 x4 x5 i_from i_to v6 v7 v8 a9 i_columns_heights i_columns_weights a10 a11
def f_Schools_shadesBehind_55 (r_Schools_shadesBehind : Int → Int → Int → Int → Int → Int → Int → Int → (Nat → Int) → (Nat → Int) → (Nat → Int) → (Nat → Int) → (Nat → Int) → (Nat → Int) → (Nat → Int) → (Nat → Int) → Int → Int → Int → (Nat → Int) → (Nat → Int) → (Nat → Int) → (Nat → Int) → (Nat → Int) → Option (Int × (Nat → Int) × (Nat → Int) × Int × Int × Int × (Nat → Int) × (Nat → Int) × (Nat → Int) × (Nat → Int) × (Nat → Int))) (r_Schools_shadesCarried : Int → Int → Int → Int → Int → Int → Int → Int → Int → Int → (Nat → Int) → (Nat → Int) → (Nat → Int) → (Nat → Int) → (Nat → Int) → (Nat → Int) → (Nat → Int) → (Nat → Int) → Int → Int → Int → (Nat → Int) → (Nat → Int) → (Nat → Int) → (Nat → Int) → (Nat → Int) → Option (Int × (Nat → Int) × (Nat → Int) × Int × Int × Int × (Nat → Int) × (Nat → Int) × (Nat → Int) × (Nat → Int) × (Nat → Int))) (i_hill_children : Int) (i_hill_parishes : Int) (i_hill_laws : Int) (i_hill_inForce : Int) (i_hill_changes : Int) (i_columns_many : Int) (i_hill_strengths : Nat → Int) (i_hill_expelled : Nat → Int) (i_hill_places : Nat → Int) (i_hill_terms : Nat → Int) (i_hill_orders : Nat → Int) (i_hill_ordered : Nat → Int) (k40 : Int → Int → Int → Int → (Nat → Int) → (Nat → Int) → Int → Int → Int → (Nat → Int) → (Nat → Int) → (Nat → Int) → (Nat → Int) → (Nat → Int) → Option (Int × (Nat → Int) × (Nat → Int) × Int × Int × Int × (Nat → Int) × (Nat → Int) × (Nat → Int) × (Nat → Int) × (Nat → Int))) : Nat → Int → Int → Int → Int → Int → (Nat → Int) → (Nat → Int) → Int → Int → Int → (Nat → Int) → (Nat → Int) → (Nat → Int) → (Nat → Int) → (Nat → Int) → Option (Int × (Nat → Int) × (Nat → Int) × Int × Int × Int × (Nat → Int) × (Nat → Int) × (Nat → Int) × (Nat → Int) × (Nat → Int))
  | 0 => fun _ _ _ _ _ _ _ _ _ _ _ _ _ _ _ => none
  | n + 1 => fun y0 y1 y2 y3 y4 y5 y6 y7 y8 y9 y10 y11 y12 y13 y14 => f_Schools_shadesBehind_55_b r_Schools_shadesBehind r_Schools_shadesCarried i_hill_children i_hill_parishes i_hill_laws i_hill_inForce i_hill_changes i_columns_many i_hill_strengths i_hill_expelled i_hill_places i_hill_terms i_hill_orders i_hill_ordered k40 (f_Schools_shadesBehind_55 r_Schools_shadesBehind r_Schools_shadesCarried i_hill_children i_hill_parishes i_hill_laws i_hill_inForce i_hill_changes i_columns_many i_hill_strengths i_hill_expelled i_hill_places i_hill_terms i_hill_orders i_hill_ordered k40 n) y0 y1 y2 y3 y4 y5 y6 y7 y8 y9 y10 y11 y12 y13 y14
def f_Schools_shadesBehind_40_b (r_Schools_shadesBehind : Int → Int → Int → Int → Int → Int → Int → Int → (Nat → Int) → (Nat → Int) → (Nat → Int) → (Nat → Int) → (Nat → Int) → (Nat → Int) → (Nat → Int) → (Nat → Int) → Int → Int → Int → (Nat → Int) → (Nat → Int) → (Nat → Int) → (Nat → Int) → (Nat → Int) → Option (Int × (Nat → Int) × (Nat → Int) × Int × Int × Int × (Nat → Int) × (Nat → Int) × (Nat → Int) × (Nat → Int) × (Nat → Int))) (r_Schools_shadesCarried : Int → Int → Int → Int → Int → Int → Int → Int → Int → Int → (Nat → Int) → (Nat → Int) → (Nat → Int) → (Nat → Int) → (Nat → Int) → (Nat → Int) → (Nat → Int) → (Nat → Int) → Int → Int → Int → (Nat → Int) → (Nat → Int) → (Nat → Int) → (Nat → Int) → (Nat → Int) → Option (Int × (Nat → Int) × (Nat → Int) × Int × Int × Int × (Nat → Int) × (Nat → Int) × (Nat → Int) × (Nat → Int) × (Nat → Int))) (i_hill_children : Int) (i_hill_parishes : Int) (i_hill_laws : Int) (i_hill_inForce : Int) (i_hill_changes : Int) (i_columns_many : Int) (i_hill_strengths : Nat → Int) (i_hill_expelled : Nat → Int) (i_hill_places : Nat → Int) (i_hill_terms : Nat → Int) (i_hill_orders : Nat → Int) (i_hill_ordered : Nat → Int) (k40 : Int → Int → Int → Int → (Nat → Int) → (Nat → Int) → Int → Int → Int → (Nat → Int) → (Nat → Int) → (Nat → Int) → (Nat → Int) → (Nat → Int) → Option (Int × (Nat → Int) × (Nat → Int) × Int × Int × Int × (Nat → Int) × (Nat → Int) × (Nat → Int) × (Nat → Int) × (Nat → Int))) (x1 : Int) (x2 : Int) (x3 : Int) (x4 : Int) (i_from : Nat → Int) (i_to : Nat → Int) (i_carriers_judge_piled : Int) (i_carriers_judge_tiring : Int) (i_carriers_judge_barred : Int) (i_carriers_notes : Nat → Int) (i_columns_heights : Nat → Int) (i_columns_weights : Nat → Int) (i_carriers_judge_words : Nat → Int) (i_carriers_judge_pile : Nat → Int) : Option (Int × (Nat → Int) × (Nat → Int) × Int × Int × Int × (Nat → Int) × (Nat → Int) × (Nat → Int) × (Nat → Int) × (Nat → Int)) :=
  if zi_w i_columns_many ≤ zi_w x4 then
    if zi_w x3 ≠ zi_w (-1) then
      some (x3, i_from, i_to, i_carriers_judge_piled, i_carriers_judge_tiring, i_carriers_judge_barred, i_carriers_notes, i_columns_heights, i_columns_weights, i_carriers_judge_words, i_carriers_judge_pile)
    else
      zd1 (f_Hill_shades i_hill_parishes i_columns_many i_hill_places i_hill_terms i_columns_heights) fun v1 =>
      some (v1, i_from, i_to, i_carriers_judge_piled, i_carriers_judge_tiring, i_carriers_judge_barred, i_carriers_notes, i_columns_heights, i_columns_weights, i_carriers_judge_words, i_carriers_judge_pile)
  else
    f_Schools_shadesBehind_55 r_Schools_shadesBehind r_Schools_shadesCarried i_hill_children i_hill_parishes i_hill_laws i_hill_inForce i_hill_changes i_columns_many i_hill_strengths i_hill_expelled i_hill_places i_hill_terms i_hill_orders i_hill_ordered k40 zfu x1 x2 x3 x4 0 i_from i_to i_carriers_judge_piled i_carriers_judge_tiring i_carriers_judge_barred i_carriers_notes i_columns_heights i_columns_weights i_carriers_judge_words i_carriers_judge_pile
def f_Schools_shadesBehind_40 (r_Schools_shadesBehind : Int → Int → Int → Int → Int → Int → Int → Int → (Nat → Int) → (Nat → Int) → (Nat → Int) → (Nat → Int) → (Nat → Int) → (Nat → Int) → (Nat → Int) → (Nat → Int) → Int → Int → Int → (Nat → Int) → (Nat → Int) → (Nat → Int) → (Nat → Int) → (Nat → Int) → Option (Int × (Nat → Int) × (Nat → Int) × Int × Int × Int × (Nat → Int) × (Nat → Int) × (Nat → Int) × (Nat → Int) × (Nat → Int))) (r_Schools_shadesCarried : Int → Int → Int → Int → Int → Int → Int → Int → Int → Int → (Nat → Int) → (Nat → Int) → (Nat → Int) → (Nat → Int) → (Nat → Int) → (Nat → Int) → (Nat → Int) → (Nat → Int) → Int → Int → Int → (Nat → Int) → (Nat → Int) → (Nat → Int) → (Nat → Int) → (Nat → Int) → Option (Int × (Nat → Int) × (Nat → Int) × Int × Int × Int × (Nat → Int) × (Nat → Int) × (Nat → Int) × (Nat → Int) × (Nat → Int))) (i_hill_children : Int) (i_hill_parishes : Int) (i_hill_laws : Int) (i_hill_inForce : Int) (i_hill_changes : Int) (i_columns_many : Int) (i_hill_strengths : Nat → Int) (i_hill_expelled : Nat → Int) (i_hill_places : Nat → Int) (i_hill_terms : Nat → Int) (i_hill_orders : Nat → Int) (i_hill_ordered : Nat → Int) : Nat → Int → Int → Int → Int → (Nat → Int) → (Nat → Int) → Int → Int → Int → (Nat → Int) → (Nat → Int) → (Nat → Int) → (Nat → Int) → (Nat → Int) → Option (Int × (Nat → Int) × (Nat → Int) × Int × Int × Int × (Nat → Int) × (Nat → Int) × (Nat → Int) × (Nat → Int) × (Nat → Int))
  | 0 => fun _ _ _ _ _ _ _ _ _ _ _ _ _ _ => none
  | n + 1 => fun y0 y1 y2 y3 y4 y5 y6 y7 y8 y9 y10 y11 y12 y13 => f_Schools_shadesBehind_40_b r_Schools_shadesBehind r_Schools_shadesCarried i_hill_children i_hill_parishes i_hill_laws i_hill_inForce i_hill_changes i_columns_many i_hill_strengths i_hill_expelled i_hill_places i_hill_terms i_hill_orders i_hill_ordered (f_Schools_shadesBehind_40 r_Schools_shadesBehind r_Schools_shadesCarried i_hill_children i_hill_parishes i_hill_laws i_hill_inForce i_hill_changes i_columns_many i_hill_strengths i_hill_expelled i_hill_places i_hill_terms i_hill_orders i_hill_ordered n) y0 y1 y2 y3 y4 y5 y6 y7 y8 y9 y10 y11 y12 y13
def fb_Schools_shadesBehind (r_Schools_shadesBehind : Int → Int → Int → Int → Int → Int → Int → Int → (Nat → Int) → (Nat → Int) → (Nat → Int) → (Nat → Int) → (Nat → Int) → (Nat → Int) → (Nat → Int) → (Nat → Int) → Int → Int → Int → (Nat → Int) → (Nat → Int) → (Nat → Int) → (Nat → Int) → (Nat → Int) → Option (Int × (Nat → Int) × (Nat → Int) × Int × Int × Int × (Nat → Int) × (Nat → Int) × (Nat → Int) × (Nat → Int) × (Nat → Int))) (r_Schools_shadesCarried : Int → Int → Int → Int → Int → Int → Int → Int → Int → Int → (Nat → Int) → (Nat → Int) → (Nat → Int) → (Nat → Int) → (Nat → Int) → (Nat → Int) → (Nat → Int) → (Nat → Int) → Int → Int → Int → (Nat → Int) → (Nat → Int) → (Nat → Int) → (Nat → Int) → (Nat → Int) → Option (Int × (Nat → Int) × (Nat → Int) × Int × Int × Int × (Nat → Int) × (Nat → Int) × (Nat → Int) × (Nat → Int) × (Nat → Int))) (x1 : Int) (x2 : Int) (i_hill_children : Int) (i_hill_parishes : Int) (i_hill_laws : Int) (i_hill_inForce : Int) (i_hill_changes : Int) (i_columns_many : Int) (i_hill_strengths : Nat → Int) (i_hill_expelled : Nat → Int) (i_hill_places : Nat → Int) (i_hill_terms : Nat → Int) (i_hill_orders : Nat → Int) (i_hill_ordered : Nat → Int) (i_from : Nat → Int) (i_to : Nat → Int) (i_carriers_judge_piled : Int) (i_carriers_judge_tiring : Int) (i_carriers_judge_barred : Int) (i_carriers_notes : Nat → Int) (i_columns_heights : Nat → Int) (i_columns_weights : Nat → Int) (i_carriers_judge_words : Nat → Int) (i_carriers_judge_pile : Nat → Int) : Option (Int × (Nat → Int) × (Nat → Int) × Int × Int × Int × (Nat → Int) × (Nat → Int) × (Nat → Int) × (Nat → Int) × (Nat → Int)) :=
  if zi_w x1 ≤ 0 then
    f_Schools_shadesBehind_9 r_Schools_shadesBehind r_Schools_shadesCarried i_hill_children i_hill_parishes i_hill_laws i_hill_inForce i_hill_changes i_columns_many i_hill_strengths i_hill_expelled i_hill_places i_hill_terms i_hill_orders i_hill_ordered i_from i_to i_carriers_judge_piled i_carriers_judge_tiring i_carriers_judge_barred i_carriers_notes i_columns_heights i_columns_weights i_carriers_judge_words i_carriers_judge_pile
  else
    if zi_w x1 ≤ zi_w 4 then
      zs 5 i_from x1 (-1) fun a1 =>
      zs 5 i_to x1 (-1) fun a2 =>
      f_Schools_shadesBehind_40 r_Schools_shadesBehind r_Schools_shadesCarried i_hill_children i_hill_parishes i_hill_laws i_hill_inForce i_hill_changes i_columns_many i_hill_strengths i_hill_expelled i_hill_places i_hill_terms i_hill_orders i_hill_ordered zfu x1 x2 (-1) 0 a1 a2 i_carriers_judge_piled i_carriers_judge_tiring i_carriers_judge_barred i_carriers_notes i_columns_heights i_columns_weights i_carriers_judge_words i_carriers_judge_pile
    else
      f_Schools_shadesBehind_9 r_Schools_shadesBehind r_Schools_shadesCarried i_hill_children i_hill_parishes i_hill_laws i_hill_inForce i_hill_changes i_columns_many i_hill_strengths i_hill_expelled i_hill_places i_hill_terms i_hill_orders i_hill_ordered i_from i_to i_carriers_judge_piled i_carriers_judge_tiring i_carriers_judge_barred i_carriers_notes i_columns_heights i_columns_weights i_carriers_judge_words i_carriers_judge_pile
def fb_Schools_shadesCarried (r_Schools_shadesBehind : Int → Int → Int → Int → Int → Int → Int → Int → (Nat → Int) → (Nat → Int) → (Nat → Int) → (Nat → Int) → (Nat → Int) → (Nat → Int) → (Nat → Int) → (Nat → Int) → Int → Int → Int → (Nat → Int) → (Nat → Int) → (Nat → Int) → (Nat → Int) → (Nat → Int) → Option (Int × (Nat → Int) × (Nat → Int) × Int × Int × Int × (Nat → Int) × (Nat → Int) × (Nat → Int) × (Nat → Int) × (Nat → Int))) (r_Schools_shadesCarried : Int → Int → Int → Int → Int → Int → Int → Int → Int → Int → (Nat → Int) → (Nat → Int) → (Nat → Int) → (Nat → Int) → (Nat → Int) → (Nat → Int) → (Nat → Int) → (Nat → Int) → Int → Int → Int → (Nat → Int) → (Nat → Int) → (Nat → Int) → (Nat → Int) → (Nat → Int) → Option (Int × (Nat → Int) × (Nat → Int) × Int × Int × Int × (Nat → Int) × (Nat → Int) × (Nat → Int) × (Nat → Int) × (Nat → Int))) (x1 : Int) (x2 : Int) (x3 : Int) (x4 : Int) (i_hill_children : Int) (i_hill_parishes : Int) (i_hill_laws : Int) (i_hill_inForce : Int) (i_hill_changes : Int) (i_columns_many : Int) (i_hill_strengths : Nat → Int) (i_hill_expelled : Nat → Int) (i_hill_places : Nat → Int) (i_hill_terms : Nat → Int) (i_hill_orders : Nat → Int) (i_hill_ordered : Nat → Int) (i_from : Nat → Int) (i_to : Nat → Int) (i_carriers_judge_piled : Int) (i_carriers_judge_tiring : Int) (i_carriers_judge_barred : Int) (i_carriers_notes : Nat → Int) (i_columns_heights : Nat → Int) (i_columns_weights : Nat → Int) (i_carriers_judge_words : Nat → Int) (i_carriers_judge_pile : Nat → Int) : Option (Int × (Nat → Int) × (Nat → Int) × Int × Int × Int × (Nat → Int) × (Nat → Int) × (Nat → Int) × (Nat → Int) × (Nat → Int)) :=
  zd2 (f_Columns_move x3 x4 i_columns_many i_columns_heights i_columns_weights) fun a1 a2 =>
  zn (x1 - 1) fun v3 =>
  zn (1 - x2) fun v4 =>
  zd11 (r_Schools_shadesBehind v3 v4 i_hill_children i_hill_parishes i_hill_laws i_hill_inForce i_hill_changes i_columns_many i_hill_strengths i_hill_expelled i_hill_places i_hill_terms i_hill_orders i_hill_ordered i_from i_to i_carriers_judge_piled i_carriers_judge_tiring i_carriers_judge_barred i_carriers_notes a1 a2 i_carriers_judge_words i_carriers_judge_pile) fun v5 a6 a7 v8 v9 v10 a11 a12 a13 a14 a15 =>
  zd2 (f_Columns_move x4 x3 i_columns_many a12 a13) fun a16 a17 =>
  some (v5, a6, a7, v8, v9, v10, a11, a16, a17, a14, a15)
def g_Schools_shadesBehind : Nat → (Int → Int → Int → Int → Int → Int → Int → Int → (Nat → Int) → (Nat → Int) → (Nat → Int) → (Nat → Int) → (Nat → Int) → (Nat → Int) → (Nat → Int) → (Nat → Int) → Int → Int → Int → (Nat → Int) → (Nat → Int) → (Nat → Int) → (Nat → Int) → (Nat → Int) → Option (Int × (Nat → Int) × (Nat → Int) × Int × Int × Int × (Nat → Int) × (Nat → Int) × (Nat → Int) × (Nat → Int) × (Nat → Int))) × (Int → Int → Int → Int → Int → Int → Int → Int → Int → Int → (Nat → Int) → (Nat → Int) → (Nat → Int) → (Nat → Int) → (Nat → Int) → (Nat → Int) → (Nat → Int) → (Nat → Int) → Int → Int → Int → (Nat → Int) → (Nat → Int) → (Nat → Int) → (Nat → Int) → (Nat → Int) → Option (Int × (Nat → Int) × (Nat → Int) × Int × Int × Int × (Nat → Int) × (Nat → Int) × (Nat → Int) × (Nat → Int) × (Nat → Int)))
  | 0 => (fun _ _ _ _ _ _ _ _ _ _ _ _ _ _ _ _ _ _ _ _ _ _ _ _ => none, fun _ _ _ _ _ _ _ _ _ _ _ _ _ _ _ _ _ _ _ _ _ _ _ _ _ _ => none)
  | n + 1 => (fb_Schools_shadesBehind (g_Schools_shadesBehind n).1 (g_Schools_shadesBehind n).2, fb_Schools_shadesCarried (g_Schools_shadesBehind n).1 (g_Schools_shadesBehind n).2)
def f_Schools_shadesBehind (x1 : Int) (x2 : Int) (i_hill_children : Int) (i_hill_parishes : Int) (i_hill_laws : Int) (i_hill_inForce : Int) (i_hill_changes : Int) (i_columns_many : Int) (i_hill_strengths : Nat → Int) (i_hill_expelled : Nat → Int) (i_hill_places : Nat → Int) (i_hill_terms : Nat → Int) (i_hill_orders : Nat → Int) (i_hill_ordered : Nat → Int) (i_from : Nat → Int) (i_to : Nat → Int) (i_carriers_judge_piled : Int) (i_carriers_judge_tiring : Int) (i_carriers_judge_barred : Int) (i_carriers_notes : Nat → Int) (i_columns_heights : Nat → Int) (i_columns_weights : Nat → Int) (i_carriers_judge_words : Nat → Int) (i_carriers_judge_pile : Nat → Int) : Option (Int × (Nat → Int) × (Nat → Int) × Int × Int × Int × (Nat → Int) × (Nat → Int) × (Nat → Int) × (Nat → Int) × (Nat → Int)) := (g_Schools_shadesBehind zdp).1 x1 x2 i_hill_children i_hill_parishes i_hill_laws i_hill_inForce i_hill_changes i_columns_many i_hill_strengths i_hill_expelled i_hill_places i_hill_terms i_hill_orders i_hill_ordered i_from i_to i_carriers_judge_piled i_carriers_judge_tiring i_carriers_judge_barred i_carriers_notes i_columns_heights i_columns_weights i_carriers_judge_words i_carriers_judge_pile
def f_Schools_shadesCarried (x1 : Int) (x2 : Int) (x3 : Int) (x4 : Int) (i_hill_children : Int) (i_hill_parishes : Int) (i_hill_laws : Int) (i_hill_inForce : Int) (i_hill_changes : Int) (i_columns_many : Int) (i_hill_strengths : Nat → Int) (i_hill_expelled : Nat → Int) (i_hill_places : Nat → Int) (i_hill_terms : Nat → Int) (i_hill_orders : Nat → Int) (i_hill_ordered : Nat → Int) (i_from : Nat → Int) (i_to : Nat → Int) (i_carriers_judge_piled : Int) (i_carriers_judge_tiring : Int) (i_carriers_judge_barred : Int) (i_carriers_notes : Nat → Int) (i_columns_heights : Nat → Int) (i_columns_weights : Nat → Int) (i_carriers_judge_words : Nat → Int) (i_carriers_judge_pile : Nat → Int) : Option (Int × (Nat → Int) × (Nat → Int) × Int × Int × Int × (Nat → Int) × (Nat → Int) × (Nat → Int) × (Nat → Int) × (Nat → Int)) := (g_Schools_shadesBehind zdp).2 x1 x2 x3 x4 i_hill_children i_hill_parishes i_hill_laws i_hill_inForce i_hill_changes i_columns_many i_hill_strengths i_hill_expelled i_hill_places i_hill_terms i_hill_orders i_hill_ordered i_from i_to i_carriers_judge_piled i_carriers_judge_tiring i_carriers_judge_barred i_carriers_notes i_columns_heights i_columns_weights i_carriers_judge_words i_carriers_judge_pile
def f_Schools_outcome_87 (i_hill_children : Int) (i_hill_parishes : Int) (i_hill_laws : Int) (i_hill_inForce : Int) (i_hill_changes : Int) (i_hill_columns_many : Int) (i_hill_strengths : Nat → Int) (i_hill_expelled : Nat → Int) (i_hill_places : Nat → Int) (i_hill_terms : Nat → Int) (i_hill_orders : Nat → Int) (i_hill_ordered : Nat → Int) (i_hill_columns_heights : Nat → Int) (i_hill_columns_weights : Nat → Int) (x1 : Int) (x3 : Int) (i_version : Int) (i_latestTurns : Int) (i_latestFirst : Int) (i_shades : Int) (i_columns_many : Int) (i_from : Nat → Int) (i_to : Nat → Int) (i_carriers_judge_piled : Int) (i_carriers_judge_tiring : Int) (i_carriers_judge_barred : Int) (i_carriers_notes : Nat → Int) (i_columns_heights : Nat → Int) (i_columns_weights : Nat → Int) (i_carriers_judge_words : Nat → Int) (i_carriers_judge_pile : Nat → Int) : Option (Int × Int × Int × Int × Int × Int × (Nat → Int) × (Nat → Int) × Int × Int × Int × (Nat → Int) × (Nat → Int) × (Nat → Int) × (Nat → Int) × (Nat → Int)) :=
  if zi_w x3 = 0 then
    some (i_shades, i_version, i_latestTurns, i_latestFirst, i_shades, i_columns_many, i_from, i_to, i_carriers_judge_piled, i_carriers_judge_tiring, i_carriers_judge_barred, i_carriers_notes, i_columns_heights, i_columns_weights, i_carriers_judge_words, i_carriers_judge_pile)
  else if zi_w x3 = 1 then
    zg 5 i_from x1 fun v1 =>
    some (v1, i_version, i_latestTurns, i_latestFirst, i_shades, i_columns_many, i_from, i_to, i_carriers_judge_piled, i_carriers_judge_tiring, i_carriers_judge_barred, i_carriers_notes, i_columns_heights, i_columns_weights, i_carriers_judge_words, i_carriers_judge_pile)
  else if zi_w x3 = 2 then
    zg 5 i_to x1 fun v2 =>
    some (v2, i_version, i_latestTurns, i_latestFirst, i_shades, i_columns_many, i_from, i_to, i_carriers_judge_piled, i_carriers_judge_tiring, i_carriers_judge_barred, i_carriers_notes, i_columns_heights, i_columns_weights, i_carriers_judge_words, i_carriers_judge_pile)
  else
    some ((-1), i_version, i_latestTurns, i_latestFirst, i_shades, i_columns_many, i_from, i_to, i_carriers_judge_piled, i_carriers_judge_tiring, i_carriers_judge_barred, i_carriers_notes, i_columns_heights, i_columns_weights, i_carriers_judge_words, i_carriers_judge_pile)
def f_Schools_outcome_42 (i_hill_children : Int) (i_hill_parishes : Int) (i_hill_laws : Int) (i_hill_inForce : Int) (i_hill_changes : Int) (i_hill_columns_many : Int) (i_hill_strengths : Nat → Int) (i_hill_expelled : Nat → Int) (i_hill_places : Nat → Int) (i_hill_terms : Nat → Int) (i_hill_orders : Nat → Int) (i_hill_ordered : Nat → Int) (i_hill_columns_heights : Nat → Int) (i_hill_columns_weights : Nat → Int) (x1 : Int) (x2 : Int) (x3 : Int) (i_version : Int) (i_latestTurns : Int) (i_latestFirst : Int) (i_shades : Int) (i_columns_many : Int) (i_from : Nat → Int) (i_to : Nat → Int) (i_carriers_judge_piled : Int) (i_carriers_judge_tiring : Int) (i_carriers_judge_barred : Int) (i_carriers_notes : Nat → Int) (i_columns_heights : Nat → Int) (i_columns_weights : Nat → Int) (i_carriers_judge_words : Nat → Int) (i_carriers_judge_pile : Nat → Int) : Option (Int × Int × Int × Int × Int × Int × (Nat → Int) × (Nat → Int) × Int × Int × Int × (Nat → Int) × (Nat → Int) × (Nat → Int) × (Nat → Int) × (Nat → Int)) :=
  zd3 (f_Columns_become i_hill_columns_many i_hill_columns_heights i_hill_columns_weights i_columns_many i_columns_heights i_columns_weights) fun v1 a2 a3 =>
  zd11 (f_Schools_shadesBehind x1 x2 i_hill_children i_hill_parishes i_hill_laws i_hill_inForce i_hill_changes v1 i_hill_strengths i_hill_expelled i_hill_places i_hill_terms i_hill_orders i_hill_ordered i_from i_to i_carriers_judge_piled i_carriers_judge_tiring i_carriers_judge_barred i_carriers_notes a2 a3 i_carriers_judge_words i_carriers_judge_pile) fun v4 a5 a6 v7 v8 v9 a10 a11 a12 a13 a14 =>
  f_Schools_outcome_87 i_hill_children i_hill_parishes i_hill_laws i_hill_inForce i_hill_changes i_hill_columns_many i_hill_strengths i_hill_expelled i_hill_places i_hill_terms i_hill_orders i_hill_ordered i_hill_columns_heights i_hill_columns_weights x1 x3 i_hill_changes x1 x2 v4 v1 a5 a6 v7 v8 v9 a10 a11 a12 a13 a14
def f_Schools_outcome (x1 : Int) (x2 : Int) (x3 : Int) (i_hill_children : Int) (i_hill_parishes : Int) (i_hill_laws : Int) (i_hill_inForce : Int) (i_hill_changes : Int) (i_hill_columns_many : Int) (i_hill_strengths : Nat → Int) (i_hill_expelled : Nat → Int) (i_hill_places : Nat → Int) (i_hill_terms : Nat → Int) (i_hill_orders : Nat → Int) (i_hill_ordered : Nat → Int) (i_hill_columns_heights : Nat → Int) (i_hill_columns_weights : Nat → Int) (i_version : Int) (i_latestTurns : Int) (i_latestFirst : Int) (i_shades : Int) (i_columns_many : Int) (i_from : Nat → Int) (i_to : Nat → Int) (i_carriers_judge_piled : Int) (i_carriers_judge_tiring : Int) (i_carriers_judge_barred : Int) (i_carriers_notes : Nat → Int) (i_columns_heights : Nat → Int) (i_columns_weights : Nat → Int) (i_carriers_judge_words : Nat → Int) (i_carriers_judge_pile : Nat → Int) : Option (Int × Int × Int × Int × Int × Int × (Nat → Int) × (Nat → Int) × Int × Int × Int × (Nat → Int) × (Nat → Int) × (Nat → Int) × (Nat → Int) × (Nat → Int)) :=
  if zi_w x1 < zi_w 1 then
    some ((-1), i_version, i_latestTurns, i_latestFirst, i_shades, i_columns_many, i_from, i_to, i_carriers_judge_piled, i_carriers_judge_tiring, i_carriers_judge_barred, i_carriers_notes, i_columns_heights, i_columns_weights, i_carriers_judge_words, i_carriers_judge_pile)
  else
    if zi_w x1 ≤ zi_w 4 then
      if zi_w i_version ≠ zi_w i_hill_changes then
        f_Schools_outcome_42 i_hill_children i_hill_parishes i_hill_laws i_hill_inForce i_hill_changes i_hill_columns_many i_hill_strengths i_hill_expelled i_hill_places i_hill_terms i_hill_orders i_hill_ordered i_hill_columns_heights i_hill_columns_weights x1 x2 x3 i_version i_latestTurns i_latestFirst i_shades i_columns_many i_from i_to i_carriers_judge_piled i_carriers_judge_tiring i_carriers_judge_barred i_carriers_notes i_columns_heights i_columns_weights i_carriers_judge_words i_carriers_judge_pile
      else
        if zi_w i_latestTurns ≠ zi_w x1 then
          f_Schools_outcome_42 i_hill_children i_hill_parishes i_hill_laws i_hill_inForce i_hill_changes i_hill_columns_many i_hill_strengths i_hill_expelled i_hill_places i_hill_terms i_hill_orders i_hill_ordered i_hill_columns_heights i_hill_columns_weights x1 x2 x3 i_version i_latestTurns i_latestFirst i_shades i_columns_many i_from i_to i_carriers_judge_piled i_carriers_judge_tiring i_carriers_judge_barred i_carriers_notes i_columns_heights i_columns_weights i_carriers_judge_words i_carriers_judge_pile
        else
          if zi_w i_latestFirst = zi_w x2 then
            f_Schools_outcome_87 i_hill_children i_hill_parishes i_hill_laws i_hill_inForce i_hill_changes i_hill_columns_many i_hill_strengths i_hill_expelled i_hill_places i_hill_terms i_hill_orders i_hill_ordered i_hill_columns_heights i_hill_columns_weights x1 x3 i_version i_latestTurns i_latestFirst i_shades i_columns_many i_from i_to i_carriers_judge_piled i_carriers_judge_tiring i_carriers_judge_barred i_carriers_notes i_columns_heights i_columns_weights i_carriers_judge_words i_carriers_judge_pile
          else
            f_Schools_outcome_42 i_hill_children i_hill_parishes i_hill_laws i_hill_inForce i_hill_changes i_hill_columns_many i_hill_strengths i_hill_expelled i_hill_places i_hill_terms i_hill_orders i_hill_ordered i_hill_columns_heights i_hill_columns_weights x1 x2 x3 i_version i_latestTurns i_latestFirst i_shades i_columns_many i_from i_to i_carriers_judge_piled i_carriers_judge_tiring i_carriers_judge_barred i_carriers_notes i_columns_heights i_columns_weights i_carriers_judge_words i_carriers_judge_pile
    else
      some ((-1), i_version, i_latestTurns, i_latestFirst, i_shades, i_columns_many, i_from, i_to, i_carriers_judge_piled, i_carriers_judge_tiring, i_carriers_judge_barred, i_carriers_notes, i_columns_heights, i_columns_weights, i_carriers_judge_words, i_carriers_judge_pile)
def f_HS_duel (x1 : Int) (x2 : Int) (x3 : Int) (i_hill_children : Int) (i_hill_parishes : Int) (i_hill_laws : Int) (i_hill_inForce : Int) (i_hill_changes : Int) (i_hill_columns_many : Int) (i_hill_strengths : Nat → Int) (i_hill_expelled : Nat → Int) (i_hill_places : Nat → Int) (i_hill_terms : Nat → Int) (i_hill_orders : Nat → Int) (i_hill_ordered : Nat → Int) (i_hill_columns_heights : Nat → Int) (i_hill_columns_weights : Nat → Int) (i_judge_piled : Int) (i_judge_tiring : Int) (i_judge_barred : Int) (i_schools_version : Int) (i_schools_latestTurns : Int) (i_schools_latestFirst : Int) (i_schools_shades : Int) (i_judge_words : Nat → Int) (i_judge_pile : Nat → Int) (i_carriers_notes : Nat → Int) (i_schools_columns_many : Int) (i_schools_from : Nat → Int) (i_schools_to : Nat → Int) (i_schools_columns_heights : Nat → Int) (i_schools_columns_weights : Nat → Int) : Option (Int × Int × Int × Int × Int × Int × Int × Int × (Nat → Int) × (Nat → Int) × (Nat → Int) × Int × (Nat → Int) × (Nat → Int) × (Nat → Int) × (Nat → Int)) :=
  if zi_w x1 < zi_w 1 then
    some ((-1), i_judge_piled, i_judge_tiring, i_judge_barred, i_schools_version, i_schools_latestTurns, i_schools_latestFirst, i_schools_shades, i_judge_words, i_judge_pile, i_carriers_notes, i_schools_columns_many, i_schools_from, i_schools_to, i_schools_columns_heights, i_schools_columns_weights)
  else
    if zi_w 4 < zi_w x1 then
      some ((-1), i_judge_piled, i_judge_tiring, i_judge_barred, i_schools_version, i_schools_latestTurns, i_schools_latestFirst, i_schools_shades, i_judge_words, i_judge_pile, i_carriers_notes, i_schools_columns_many, i_schools_from, i_schools_to, i_schools_columns_heights, i_schools_columns_weights)
    else
      if zi_w x2 < 0 then
        some ((-1), i_judge_piled, i_judge_tiring, i_judge_barred, i_schools_version, i_schools_latestTurns, i_schools_latestFirst, i_schools_shades, i_judge_words, i_judge_pile, i_carriers_notes, i_schools_columns_many, i_schools_from, i_schools_to, i_schools_columns_heights, i_schools_columns_weights)
      else
        if zi_w 1 < zi_w x2 then
          some ((-1), i_judge_piled, i_judge_tiring, i_judge_barred, i_schools_version, i_schools_latestTurns, i_schools_latestFirst, i_schools_shades, i_judge_words, i_judge_pile, i_carriers_notes, i_schools_columns_many, i_schools_from, i_schools_to, i_schools_columns_heights, i_schools_columns_weights)
        else
          if zi_w i_hill_columns_many ≤ zi_w 4 then
            zd16 (f_Schools_outcome x1 x2 x3 i_hill_children i_hill_parishes i_hill_laws i_hill_inForce i_hill_changes i_hill_columns_many i_hill_strengths i_hill_expelled i_hill_places i_hill_terms i_hill_orders i_hill_ordered i_hill_columns_heights i_hill_columns_weights i_schools_version i_schools_latestTurns i_schools_latestFirst i_schools_shades i_schools_columns_many i_schools_from i_schools_to i_judge_piled i_judge_tiring i_judge_barred i_carriers_notes i_schools_columns_heights i_schools_columns_weights i_judge_words i_judge_pile) fun v1 v2 v3 v4 v5 v6 a7 a8 v9 v10 v11 a12 a13 a14 a15 a16 =>
            some (v1, v9, v10, v11, v2, v3, v4, v5, a15, a16, a12, v6, a7, a8, a13, a14)
          else
            some ((-1), i_judge_piled, i_judge_tiring, i_judge_barred, i_schools_version, i_schools_latestTurns, i_schools_latestFirst, i_schools_shades, i_judge_words, i_judge_pile, i_carriers_notes, i_schools_columns_many, i_schools_from, i_schools_to, i_schools_columns_heights, i_schools_columns_weights)
def f_Scales_layersOf_68 (i_hill_columns_many : Int) (i_hill_columns_heights : Nat → Int) (i_hill_columns_weights : Nat → Int) (k18 : Int → Int → Int → Option (Int)) (x1 : Int) (x3 : Int) (s0 : Int) (s1 : Int) : Option (Int) :=
  zn (s0 + s1) fun v1 =>
  zn (x3 + 1) fun v2 =>
  k18 x1 v1 v2
def f_Scales_layersOf_18_b (i_hill_columns_many : Int) (i_hill_columns_heights : Nat → Int) (i_hill_columns_weights : Nat → Int) (k18 : Int → Int → Int → Option (Int)) (x1 : Int) (x2 : Int) (x3 : Int) : Option (Int) :=
  zd1 (f_Columns_high x1 i_hill_columns_many i_hill_columns_heights) fun v1 =>
  if zi_w v1 ≤ zi_w x3 then
    some x2
  else
    zd1 (f_Columns_heft x1 x3 i_hill_columns_many i_hill_columns_heights i_hill_columns_weights) fun v2 =>
    zn (x3 - 1) fun v3 =>
    zd1 (f_Columns_heft x1 v3 i_hill_columns_many i_hill_columns_heights i_hill_columns_weights) fun v4 =>
    if zi_w v2 ≤ zi_w v4 then
      f_Scales_layersOf_68 i_hill_columns_many i_hill_columns_heights i_hill_columns_weights k18 x1 x3 x2 0
    else
      f_Scales_layersOf_68 i_hill_columns_many i_hill_columns_heights i_hill_columns_weights k18 x1 x3 x2 1
def f_Scales_layersOf_18 (i_hill_columns_many : Int) (i_hill_columns_heights : Nat → Int) (i_hill_columns_weights : Nat → Int) : Nat → Int → Int → Int → Option (Int)
  | 0 => fun _ _ _ => none
  | n + 1 => fun y0 y1 y2 => f_Scales_layersOf_18_b i_hill_columns_many i_hill_columns_heights i_hill_columns_weights (f_Scales_layersOf_18 i_hill_columns_many i_hill_columns_heights i_hill_columns_weights n) y0 y1 y2
def f_Scales_layersOf (x1 : Int) (i_hill_columns_many : Int) (i_hill_columns_heights : Nat → Int) (i_hill_columns_weights : Nat → Int) : Option (Int) :=
  zd1 (f_Columns_high x1 i_hill_columns_many i_hill_columns_heights) fun v1 =>
  zn (zi_min 1 v1) fun v2 =>
  f_Scales_layersOf_18 i_hill_columns_many i_hill_columns_heights i_hill_columns_weights zfu x1 v2 1
def f_HS_layers (x1 : Int) (i_hill_columns_many : Int) (i_hill_columns_heights : Nat → Int) (i_hill_columns_weights : Nat → Int) : Option (Int) :=
  zd1 (f_Columns_has x1 i_hill_columns_many) fun v1 =>
  if zi_w v1 = 0 then
    some (-1)
  else
    zd1 (f_Scales_layersOf x1 i_hill_columns_many i_hill_columns_heights i_hill_columns_weights) fun v2 =>
    some v2
def f_Paper_wash (x1 : Int) (i_columns_many : Int) (i_columns_heights : Nat → Int) (i_columns_weights : Nat → Int) : Option (Int × (Nat → Int) × (Nat → Int)) :=
  zd1 (f_Columns_high x1 i_columns_many i_columns_heights) fun v1 =>
  if zi_w v1 ≠ 0 then
    zd2 (f_Columns_take x1 i_columns_many i_columns_weights i_columns_heights) fun v2 a3 =>
    zn (x1 + 1) fun v4 =>
    zd3 (f_Columns_put v4 v2 i_columns_many a3 i_columns_weights) fun v5 a6 a7 =>
    if zi_w v5 = 0 then
      some (1, a6, a7)
    else
      some (0, a6, a7)
  else
    some (0, i_columns_heights, i_columns_weights)
def f_Paper_pour_29_b (i_a1_many : Int) (i_a1_heights : Nat → Int) (i_a1_weights : Nat → Int) (k29 : Int → Int → Int → Int → Int → Int → (Nat → Int) → (Nat → Int) → Option (Int × Int × (Nat → Int) × (Nat → Int))) (x2 : Int) (x4 : Int) (x5 : Int) (x6 : Int) (x7 : Int) (i_columns_many : Int) (i_columns_heights : Nat → Int) (i_columns_weights : Nat → Int) : Option (Int × Int × (Nat → Int) × (Nat → Int)) :=
  if zi_w x4 ≤ zi_w x7 then
    some (x5, i_columns_many, i_columns_heights, i_columns_weights)
  else
    zn (x6 * 1103) fun v1 =>
    zn (v1 + 12345) fun v2 =>
    if zi_w 1000003 = 0 then none else zn (zi_rem v2 1000003) fun v3 =>
    if zi_w i_columns_many = 0 then none else zn (zi_rem v3 i_columns_many) fun v4 =>
    zd3 (f_Paper_wash v4 i_columns_many i_columns_heights i_columns_weights) fun v5 a6 a7 =>
    zn (x5 + v5) fun v8 =>
    zd3 (f_Columns_settle x2 i_columns_many a6 a7) fun v9 a10 a11 =>
    zn (x7 + 1) fun v12 =>
    k29 x2 x4 v8 v3 v12 i_columns_many a10 a11
def f_Paper_pour_29 (i_a1_many : Int) (i_a1_heights : Nat → Int) (i_a1_weights : Nat → Int) : Nat → Int → Int → Int → Int → Int → Int → (Nat → Int) → (Nat → Int) → Option (Int × Int × (Nat → Int) × (Nat → Int))
  | 0 => fun _ _ _ _ _ _ _ _ => none
  | n + 1 => fun y0 y1 y2 y3 y4 y5 y6 y7 => f_Paper_pour_29_b i_a1_many i_a1_heights i_a1_weights (f_Paper_pour_29 i_a1_many i_a1_heights i_a1_weights n) y0 y1 y2 y3 y4 y5 y6 y7
def f_Paper_pour (x2 : Int) (x3 : Int) (x4 : Int) (i_a1_many : Int) (i_a1_heights : Nat → Int) (i_a1_weights : Nat → Int) (i_columns_many : Int) (i_columns_heights : Nat → Int) (i_columns_weights : Nat → Int) : Option (Int × Int × (Nat → Int) × (Nat → Int)) :=
  zd3 (f_Columns_become i_a1_many i_a1_heights i_a1_weights i_columns_many i_columns_heights i_columns_weights) fun v1 a2 a3 =>
  if zi_w v1 ≠ 0 then
    f_Paper_pour_29 i_a1_many i_a1_heights i_a1_weights zfu x2 x4 0 x3 0 v1 a2 a3
  else
    some (0, v1, a2, a3)
def f_HS_rain_22 (i_hill_columns_many : Int) (i_hill_terms : Nat → Int) (i_hill_columns_heights : Nat → Int) (i_hill_columns_weights : Nat → Int) (i_latestStatus : Int) (i_hill_changes : Int) (i_refusals : Nat → Int) (i_paper_columns_many : Int) (i_paper_columns_heights : Nat → Int) (i_paper_columns_weights : Nat → Int) : Option (Int × Int × Int × (Nat → Int) × Int × (Nat → Int) × (Nat → Int)) :=
  zd3 (f_HS_refuse (-1) i_latestStatus i_refusals) fun v1 v2 a3 =>
  some (v1, v2, i_hill_changes, a3, i_paper_columns_many, i_paper_columns_heights, i_paper_columns_weights)
def f_HS_rain (x1 : Int) (x2 : Int) (i_hill_columns_many : Int) (i_hill_terms : Nat → Int) (i_hill_columns_heights : Nat → Int) (i_hill_columns_weights : Nat → Int) (i_latestStatus : Int) (i_hill_changes : Int) (i_refusals : Nat → Int) (i_paper_columns_many : Int) (i_paper_columns_heights : Nat → Int) (i_paper_columns_weights : Nat → Int) : Option (Int × Int × Int × (Nat → Int) × Int × (Nat → Int) × (Nat → Int)) :=
  if zi_w x1 < 0 then
    f_HS_rain_22 i_hill_columns_many i_hill_terms i_hill_columns_heights i_hill_columns_weights i_latestStatus i_hill_changes i_refusals i_paper_columns_many i_paper_columns_heights i_paper_columns_weights
  else
    if zi_w 1000000 < zi_w x1 then
      f_HS_rain_22 i_hill_columns_many i_hill_terms i_hill_columns_heights i_hill_columns_weights i_latestStatus i_hill_changes i_refusals i_paper_columns_many i_paper_columns_heights i_paper_columns_weights
    else
      if zi_w x2 < zi_w 1 then
        f_HS_rain_22 i_hill_columns_many i_hill_terms i_hill_columns_heights i_hill_columns_weights i_latestStatus i_hill_changes i_refusals i_paper_columns_many i_paper_columns_heights i_paper_columns_weights
      else
        if zi_w x2 ≤ zi_w 40 then
          zg 4 i_hill_terms 2 fun v1 =>
          zd4 (f_Paper_pour v1 x1 x2 i_hill_columns_many i_hill_columns_heights i_hill_columns_weights i_paper_columns_many i_paper_columns_heights i_paper_columns_weights) fun v2 v3 a4 a5 =>
          zd3 (f_HS_accept v2 i_latestStatus i_hill_changes) fun v6 v7 v8 =>
          some (v6, v7, v8, i_refusals, v3, a4, a5)
        else
          f_HS_rain_22 i_hill_columns_many i_hill_terms i_hill_columns_heights i_hill_columns_weights i_latestStatus i_hill_changes i_refusals i_paper_columns_many i_paper_columns_heights i_paper_columns_weights
def f_HS_rained (x1 : Int) (x2 : Int) (i_paper_columns_many : Int) (i_paper_columns_heights : Nat → Int) (i_paper_columns_weights : Nat → Int) : Option (Int) :=
  zd1 (f_Columns_has x1 i_paper_columns_many) fun v1 =>
  if zi_w v1 = 0 then
    some (-1)
  else
    if zi_w x2 < 0 then
      some (-1)
    else
      if zi_w x2 ≤ zi_w 1 then
        if zi_w x2 ≠ 0 then
          zd1 (f_Columns_load x1 i_paper_columns_many i_paper_columns_heights i_paper_columns_weights) fun v2 =>
          some v2
        else
          zd1 (f_Columns_high x1 i_paper_columns_many i_paper_columns_heights) fun v3 =>
          some v3
      else
        some (-1)
def f_Hill_become (i_a1_children : Int) (i_a1_parishes : Int) (i_a1_laws : Int) (i_a1_inForce : Int) (i_a1_columns_many : Int) (i_a1_strengths : Nat → Int) (i_a1_expelled : Nat → Int) (i_a1_trips : Nat → Int) (i_a1_places : Nat → Int) (i_a1_terms : Nat → Int) (i_a1_goals : Nat → Int) (i_a1_orders : Nat → Int) (i_a1_ordered : Nat → Int) (i_a1_columns_heights : Nat → Int) (i_a1_columns_weights : Nat → Int) (i_children : Int) (i_parishes : Int) (i_laws : Int) (i_inForce : Int) (i_columns_many : Int) (i_strengths : Nat → Int) (i_expelled : Nat → Int) (i_trips : Nat → Int) (i_places : Nat → Int) (i_terms : Nat → Int) (i_goals : Nat → Int) (i_orders : Nat → Int) (i_ordered : Nat → Int) (i_columns_heights : Nat → Int) (i_columns_weights : Nat → Int) : Option (Int × Int × Int × Int × Int × (Nat → Int) × (Nat → Int) × (Nat → Int) × (Nat → Int) × (Nat → Int) × (Nat → Int) × (Nat → Int) × (Nat → Int) × (Nat → Int) × (Nat → Int)) :=
  zd3 (f_Columns_become i_a1_columns_many i_a1_columns_heights i_a1_columns_weights i_columns_many i_columns_heights i_columns_weights) fun v1 a2 a3 =>
  zcp 6 i_a1_strengths 0 6 i_strengths 0 6 fun a4 =>
  zcp 6 i_a1_expelled 0 6 i_expelled 0 6 fun a5 =>
  zcp 6 i_a1_trips 0 6 i_trips 0 6 fun a6 =>
  zcp 6 i_a1_places 0 6 i_places 0 6 fun a7 =>
  zcp 4 i_a1_terms 0 4 i_terms 0 4 fun a8 =>
  zcp 12 i_a1_goals 0 12 i_goals 0 12 fun a9 =>
  zcp 2544 i_a1_orders 0 2544 i_orders 0 2544 fun a10 =>
  zcp 6 i_a1_ordered 0 6 i_ordered 0 6 fun a11 =>
  some (i_a1_children, i_a1_parishes, i_a1_laws, i_a1_inForce, v1, a4, a5, a6, a7, a8, a9, a10, a11, a2, a3)
def f_HS_image_9 (i_hill_children : Int) (i_hill_parishes : Int) (i_hill_laws : Int) (i_hill_inForce : Int) (i_hill_columns_many : Int) (i_hill_strengths : Nat → Int) (i_hill_expelled : Nat → Int) (i_hill_trips : Nat → Int) (i_hill_places : Nat → Int) (i_hill_terms : Nat → Int) (i_hill_goals : Nat → Int) (i_hill_orders : Nat → Int) (i_hill_ordered : Nat → Int) (i_hill_columns_heights : Nat → Int) (i_hill_columns_weights : Nat → Int) (i_latestStatus : Int) (i_hill_changes : Int) (i_kept : Nat → Int) (i_refusals : Nat → Int) (i_images_0_children : Int) (i_images_0_parishes : Int) (i_images_0_laws : Int) (i_images_0_inForce : Int) (i_images_1_children : Int) (i_images_1_parishes : Int) (i_images_1_laws : Int) (i_images_1_inForce : Int) (i_images_0_columns_many : Int) (i_images_0_strengths : Nat → Int) (i_images_0_expelled : Nat → Int) (i_images_0_trips : Nat → Int) (i_images_0_places : Nat → Int) (i_images_0_terms : Nat → Int) (i_images_0_goals : Nat → Int) (i_images_0_orders : Nat → Int) (i_images_0_ordered : Nat → Int) (i_images_1_columns_many : Int) (i_images_1_strengths : Nat → Int) (i_images_1_expelled : Nat → Int) (i_images_1_trips : Nat → Int) (i_images_1_places : Nat → Int) (i_images_1_terms : Nat → Int) (i_images_1_goals : Nat → Int) (i_images_1_orders : Nat → Int) (i_images_1_ordered : Nat → Int) (i_images_0_columns_heights : Nat → Int) (i_images_0_columns_weights : Nat → Int) (i_images_1_columns_heights : Nat → Int) (i_images_1_columns_weights : Nat → Int) : Option (Int × Int × Int × (Nat → Int) × (Nat → Int) × Int × Int × Int × Int × Int × Int × Int × Int × Int × (Nat → Int) × (Nat → Int) × (Nat → Int) × (Nat → Int) × (Nat → Int) × (Nat → Int) × (Nat → Int) × (Nat → Int) × Int × (Nat → Int) × (Nat → Int) × (Nat → Int) × (Nat → Int) × (Nat → Int) × (Nat → Int) × (Nat → Int) × (Nat → Int) × (Nat → Int) × (Nat → Int) × (Nat → Int) × (Nat → Int)) :=
  zd3 (f_HS_refuse (-1) i_latestStatus i_refusals) fun v1 v2 a3 =>
  some (v1, v2, i_hill_changes, i_kept, a3, i_images_0_children, i_images_0_parishes, i_images_0_laws, i_images_0_inForce, i_images_1_children, i_images_1_parishes, i_images_1_laws, i_images_1_inForce, i_images_0_columns_many, i_images_0_strengths, i_images_0_expelled, i_images_0_trips, i_images_0_places, i_images_0_terms, i_images_0_goals, i_images_0_orders, i_images_0_ordered, i_images_1_columns_many, i_images_1_strengths, i_images_1_expelled, i_images_1_trips, i_images_1_places, i_images_1_terms, i_images_1_goals, i_images_1_orders, i_images_1_ordered, i_images_0_columns_heights, i_images_0_columns_weights, i_images_1_columns_heights, i_images_1_columns_weights)
def f_HS_image_28 (i_hill_children : Int) (i_hill_parishes : Int) (i_hill_laws : Int) (i_hill_inForce : Int) (i_hill_columns_many : Int) (i_hill_strengths : Nat → Int) (i_hill_expelled : Nat → Int) (i_hill_trips : Nat → Int) (i_hill_places : Nat → Int) (i_hill_terms : Nat → Int) (i_hill_goals : Nat → Int) (i_hill_orders : Nat → Int) (i_hill_ordered : Nat → Int) (i_hill_columns_heights : Nat → Int) (i_hill_columns_weights : Nat → Int) (x1 : Int) (i_latestStatus : Int) (i_hill_changes : Int) (i_kept : Nat → Int) (i_refusals : Nat → Int) (i_images_0_children : Int) (i_images_0_parishes : Int) (i_images_0_laws : Int) (i_images_0_inForce : Int) (i_images_1_children : Int) (i_images_1_parishes : Int) (i_images_1_laws : Int) (i_images_1_inForce : Int) (i_images_0_columns_many : Int) (i_images_0_strengths : Nat → Int) (i_images_0_expelled : Nat → Int) (i_images_0_trips : Nat → Int) (i_images_0_places : Nat → Int) (i_images_0_terms : Nat → Int) (i_images_0_goals : Nat → Int) (i_images_0_orders : Nat → Int) (i_images_0_ordered : Nat → Int) (i_images_1_columns_many : Int) (i_images_1_strengths : Nat → Int) (i_images_1_expelled : Nat → Int) (i_images_1_trips : Nat → Int) (i_images_1_places : Nat → Int) (i_images_1_terms : Nat → Int) (i_images_1_goals : Nat → Int) (i_images_1_orders : Nat → Int) (i_images_1_ordered : Nat → Int) (i_images_0_columns_heights : Nat → Int) (i_images_0_columns_weights : Nat → Int) (i_images_1_columns_heights : Nat → Int) (i_images_1_columns_weights : Nat → Int) : Option (Int × Int × Int × (Nat → Int) × (Nat → Int) × Int × Int × Int × Int × Int × Int × Int × Int × Int × (Nat → Int) × (Nat → Int) × (Nat → Int) × (Nat → Int) × (Nat → Int) × (Nat → Int) × (Nat → Int) × (Nat → Int) × Int × (Nat → Int) × (Nat → Int) × (Nat → Int) × (Nat → Int) × (Nat → Int) × (Nat → Int) × (Nat → Int) × (Nat → Int) × (Nat → Int) × (Nat → Int) × (Nat → Int) × (Nat → Int)) :=
  if ¬ (zi_w 1 = 0 ∨ zi_w 1 = 1) then none else zs 2 i_kept x1 1 fun a1 =>
  zd3 (f_HS_accept 0 i_latestStatus i_hill_changes) fun v2 v3 v4 =>
  some (v2, v3, v4, a1, i_refusals, i_images_0_children, i_images_0_parishes, i_images_0_laws, i_images_0_inForce, i_images_1_children, i_images_1_parishes, i_images_1_laws, i_images_1_inForce, i_images_0_columns_many, i_images_0_strengths, i_images_0_expelled, i_images_0_trips, i_images_0_places, i_images_0_terms, i_images_0_goals, i_images_0_orders, i_images_0_ordered, i_images_1_columns_many, i_images_1_strengths, i_images_1_expelled, i_images_1_trips, i_images_1_places, i_images_1_terms, i_images_1_goals, i_images_1_orders, i_images_1_ordered, i_images_0_columns_heights, i_images_0_columns_weights, i_images_1_columns_heights, i_images_1_columns_weights)
def f_HS_image (x1 : Int) (i_hill_children : Int) (i_hill_parishes : Int) (i_hill_laws : Int) (i_hill_inForce : Int) (i_hill_columns_many : Int) (i_hill_strengths : Nat → Int) (i_hill_expelled : Nat → Int) (i_hill_trips : Nat → Int) (i_hill_places : Nat → Int) (i_hill_terms : Nat → Int) (i_hill_goals : Nat → Int) (i_hill_orders : Nat → Int) (i_hill_ordered : Nat → Int) (i_hill_columns_heights : Nat → Int) (i_hill_columns_weights : Nat → Int) (i_latestStatus : Int) (i_hill_changes : Int) (i_kept : Nat → Int) (i_refusals : Nat → Int) (i_images_0_children : Int) (i_images_0_parishes : Int) (i_images_0_laws : Int) (i_images_0_inForce : Int) (i_images_1_children : Int) (i_images_1_parishes : Int) (i_images_1_laws : Int) (i_images_1_inForce : Int) (i_images_0_columns_many : Int) (i_images_0_strengths : Nat → Int) (i_images_0_expelled : Nat → Int) (i_images_0_trips : Nat → Int) (i_images_0_places : Nat → Int) (i_images_0_terms : Nat → Int) (i_images_0_goals : Nat → Int) (i_images_0_orders : Nat → Int) (i_images_0_ordered : Nat → Int) (i_images_1_columns_many : Int) (i_images_1_strengths : Nat → Int) (i_images_1_expelled : Nat → Int) (i_images_1_trips : Nat → Int) (i_images_1_places : Nat → Int) (i_images_1_terms : Nat → Int) (i_images_1_goals : Nat → Int) (i_images_1_orders : Nat → Int) (i_images_1_ordered : Nat → Int) (i_images_0_columns_heights : Nat → Int) (i_images_0_columns_weights : Nat → Int) (i_images_1_columns_heights : Nat → Int) (i_images_1_columns_weights : Nat → Int) : Option (Int × Int × Int × (Nat → Int) × (Nat → Int) × Int × Int × Int × Int × Int × Int × Int × Int × Int × (Nat → Int) × (Nat → Int) × (Nat → Int) × (Nat → Int) × (Nat → Int) × (Nat → Int) × (Nat → Int) × (Nat → Int) × Int × (Nat → Int) × (Nat → Int) × (Nat → Int) × (Nat → Int) × (Nat → Int) × (Nat → Int) × (Nat → Int) × (Nat → Int) × (Nat → Int) × (Nat → Int) × (Nat → Int) × (Nat → Int)) :=
  if zi_w x1 < 0 then
    f_HS_image_9 i_hill_children i_hill_parishes i_hill_laws i_hill_inForce i_hill_columns_many i_hill_strengths i_hill_expelled i_hill_trips i_hill_places i_hill_terms i_hill_goals i_hill_orders i_hill_ordered i_hill_columns_heights i_hill_columns_weights i_latestStatus i_hill_changes i_kept i_refusals i_images_0_children i_images_0_parishes i_images_0_laws i_images_0_inForce i_images_1_children i_images_1_parishes i_images_1_laws i_images_1_inForce i_images_0_columns_many i_images_0_strengths i_images_0_expelled i_images_0_trips i_images_0_places i_images_0_terms i_images_0_goals i_images_0_orders i_images_0_ordered i_images_1_columns_many i_images_1_strengths i_images_1_expelled i_images_1_trips i_images_1_places i_images_1_terms i_images_1_goals i_images_1_orders i_images_1_ordered i_images_0_columns_heights i_images_0_columns_weights i_images_1_columns_heights i_images_1_columns_weights
  else
    if zi_w x1 < zi_w 2 then
      if zi_w x1 = 0 then
        zd15 (f_Hill_become i_hill_children i_hill_parishes i_hill_laws i_hill_inForce i_hill_columns_many i_hill_strengths i_hill_expelled i_hill_trips i_hill_places i_hill_terms i_hill_goals i_hill_orders i_hill_ordered i_hill_columns_heights i_hill_columns_weights i_images_0_children i_images_0_parishes i_images_0_laws i_images_0_inForce i_images_0_columns_many i_images_0_strengths i_images_0_expelled i_images_0_trips i_images_0_places i_images_0_terms i_images_0_goals i_images_0_orders i_images_0_ordered i_images_0_columns_heights i_images_0_columns_weights) fun v1 v2 v3 v4 v5 a6 a7 a8 a9 a10 a11 a12 a13 a14 a15 =>
        f_HS_image_28 i_hill_children i_hill_parishes i_hill_laws i_hill_inForce i_hill_columns_many i_hill_strengths i_hill_expelled i_hill_trips i_hill_places i_hill_terms i_hill_goals i_hill_orders i_hill_ordered i_hill_columns_heights i_hill_columns_weights x1 i_latestStatus i_hill_changes i_kept i_refusals v1 v2 v3 v4 i_images_1_children i_images_1_parishes i_images_1_laws i_images_1_inForce v5 a6 a7 a8 a9 a10 a11 a12 a13 i_images_1_columns_many i_images_1_strengths i_images_1_expelled i_images_1_trips i_images_1_places i_images_1_terms i_images_1_goals i_images_1_orders i_images_1_ordered a14 a15 i_images_1_columns_heights i_images_1_columns_weights
      else if zi_w x1 = 1 then
        zd15 (f_Hill_become i_hill_children i_hill_parishes i_hill_laws i_hill_inForce i_hill_columns_many i_hill_strengths i_hill_expelled i_hill_trips i_hill_places i_hill_terms i_hill_goals i_hill_orders i_hill_ordered i_hill_columns_heights i_hill_columns_weights i_images_1_children i_images_1_parishes i_images_1_laws i_images_1_inForce i_images_1_columns_many i_images_1_strengths i_images_1_expelled i_images_1_trips i_images_1_places i_images_1_terms i_images_1_goals i_images_1_orders i_images_1_ordered i_images_1_columns_heights i_images_1_columns_weights) fun v16 v17 v18 v19 v20 a21 a22 a23 a24 a25 a26 a27 a28 a29 a30 =>
        f_HS_image_28 i_hill_children i_hill_parishes i_hill_laws i_hill_inForce i_hill_columns_many i_hill_strengths i_hill_expelled i_hill_trips i_hill_places i_hill_terms i_hill_goals i_hill_orders i_hill_ordered i_hill_columns_heights i_hill_columns_weights x1 i_latestStatus i_hill_changes i_kept i_refusals i_images_0_children i_images_0_parishes i_images_0_laws i_images_0_inForce v16 v17 v18 v19 i_images_0_columns_many i_images_0_strengths i_images_0_expelled i_images_0_trips i_images_0_places i_images_0_terms i_images_0_goals i_images_0_orders i_images_0_ordered v20 a21 a22 a23 a24 a25 a26 a27 a28 i_images_0_columns_heights i_images_0_columns_weights a29 a30
      else none
    else
      f_HS_image_9 i_hill_children i_hill_parishes i_hill_laws i_hill_inForce i_hill_columns_many i_hill_strengths i_hill_expelled i_hill_trips i_hill_places i_hill_terms i_hill_goals i_hill_orders i_hill_ordered i_hill_columns_heights i_hill_columns_weights i_latestStatus i_hill_changes i_kept i_refusals i_images_0_children i_images_0_parishes i_images_0_laws i_images_0_inForce i_images_1_children i_images_1_parishes i_images_1_laws i_images_1_inForce i_images_0_columns_many i_images_0_strengths i_images_0_expelled i_images_0_trips i_images_0_places i_images_0_terms i_images_0_goals i_images_0_orders i_images_0_ordered i_images_1_columns_many i_images_1_strengths i_images_1_expelled i_images_1_trips i_images_1_places i_images_1_terms i_images_1_goals i_images_1_orders i_images_1_ordered i_images_0_columns_heights i_images_0_columns_weights i_images_1_columns_heights i_images_1_columns_weights
def f_HS_back_9 (i_kept : Nat → Int) (i_images_0_children : Int) (i_images_0_parishes : Int) (i_images_0_laws : Int) (i_images_0_inForce : Int) (i_images_1_children : Int) (i_images_1_parishes : Int) (i_images_1_laws : Int) (i_images_1_inForce : Int) (i_images_0_columns_many : Int) (i_images_0_strengths : Nat → Int) (i_images_0_expelled : Nat → Int) (i_images_0_trips : Nat → Int) (i_images_0_places : Nat → Int) (i_images_0_terms : Nat → Int) (i_images_0_goals : Nat → Int) (i_images_0_orders : Nat → Int) (i_images_0_ordered : Nat → Int) (i_images_1_columns_many : Int) (i_images_1_strengths : Nat → Int) (i_images_1_expelled : Nat → Int) (i_images_1_trips : Nat → Int) (i_images_1_places : Nat → Int) (i_images_1_terms : Nat → Int) (i_images_1_goals : Nat → Int) (i_images_1_orders : Nat → Int) (i_images_1_ordered : Nat → Int) (i_images_0_columns_heights : Nat → Int) (i_images_0_columns_weights : Nat → Int) (i_images_1_columns_heights : Nat → Int) (i_images_1_columns_weights : Nat → Int) (i_latestStatus : Int) (i_hill_children : Int) (i_hill_parishes : Int) (i_hill_laws : Int) (i_hill_inForce : Int) (i_hill_changes : Int) (i_refusals : Nat → Int) (i_hill_columns_many : Int) (i_hill_strengths : Nat → Int) (i_hill_expelled : Nat → Int) (i_hill_trips : Nat → Int) (i_hill_places : Nat → Int) (i_hill_terms : Nat → Int) (i_hill_goals : Nat → Int) (i_hill_orders : Nat → Int) (i_hill_ordered : Nat → Int) (i_hill_columns_heights : Nat → Int) (i_hill_columns_weights : Nat → Int) : Option (Int × Int × Int × Int × Int × Int × Int × (Nat → Int) × Int × (Nat → Int) × (Nat → Int) × (Nat → Int) × (Nat → Int) × (Nat → Int) × (Nat → Int) × (Nat → Int) × (Nat → Int) × (Nat → Int) × (Nat → Int)) :=
  zd3 (f_HS_refuse (-1) i_latestStatus i_refusals) fun v1 v2 a3 =>
  some (v1, v2, i_hill_children, i_hill_parishes, i_hill_laws, i_hill_inForce, i_hill_changes, a3, i_hill_columns_many, i_hill_strengths, i_hill_expelled, i_hill_trips, i_hill_places, i_hill_terms, i_hill_goals, i_hill_orders, i_hill_ordered, i_hill_columns_heights, i_hill_columns_weights)
def f_HS_back_44 (i_kept : Nat → Int) (i_images_0_children : Int) (i_images_0_parishes : Int) (i_images_0_laws : Int) (i_images_0_inForce : Int) (i_images_1_children : Int) (i_images_1_parishes : Int) (i_images_1_laws : Int) (i_images_1_inForce : Int) (i_images_0_columns_many : Int) (i_images_0_strengths : Nat → Int) (i_images_0_expelled : Nat → Int) (i_images_0_trips : Nat → Int) (i_images_0_places : Nat → Int) (i_images_0_terms : Nat → Int) (i_images_0_goals : Nat → Int) (i_images_0_orders : Nat → Int) (i_images_0_ordered : Nat → Int) (i_images_1_columns_many : Int) (i_images_1_strengths : Nat → Int) (i_images_1_expelled : Nat → Int) (i_images_1_trips : Nat → Int) (i_images_1_places : Nat → Int) (i_images_1_terms : Nat → Int) (i_images_1_goals : Nat → Int) (i_images_1_orders : Nat → Int) (i_images_1_ordered : Nat → Int) (i_images_0_columns_heights : Nat → Int) (i_images_0_columns_weights : Nat → Int) (i_images_1_columns_heights : Nat → Int) (i_images_1_columns_weights : Nat → Int) (i_latestStatus : Int) (i_hill_children : Int) (i_hill_parishes : Int) (i_hill_laws : Int) (i_hill_inForce : Int) (i_hill_changes : Int) (i_refusals : Nat → Int) (i_hill_columns_many : Int) (i_hill_strengths : Nat → Int) (i_hill_expelled : Nat → Int) (i_hill_trips : Nat → Int) (i_hill_places : Nat → Int) (i_hill_terms : Nat → Int) (i_hill_goals : Nat → Int) (i_hill_orders : Nat → Int) (i_hill_ordered : Nat → Int) (i_hill_columns_heights : Nat → Int) (i_hill_columns_weights : Nat → Int) : Option (Int × Int × Int × Int × Int × Int × Int × (Nat → Int) × Int × (Nat → Int) × (Nat → Int) × (Nat → Int) × (Nat → Int) × (Nat → Int) × (Nat → Int) × (Nat → Int) × (Nat → Int) × (Nat → Int) × (Nat → Int)) :=
  zd3 (f_HS_accept 0 i_latestStatus i_hill_changes) fun v1 v2 v3 =>
  some (v1, v2, i_hill_children, i_hill_parishes, i_hill_laws, i_hill_inForce, v3, i_refusals, i_hill_columns_many, i_hill_strengths, i_hill_expelled, i_hill_trips, i_hill_places, i_hill_terms, i_hill_goals, i_hill_orders, i_hill_ordered, i_hill_columns_heights, i_hill_columns_weights)
def f_HS_back (x1 : Int) (i_kept : Nat → Int) (i_images_0_children : Int) (i_images_0_parishes : Int) (i_images_0_laws : Int) (i_images_0_inForce : Int) (i_images_1_children : Int) (i_images_1_parishes : Int) (i_images_1_laws : Int) (i_images_1_inForce : Int) (i_images_0_columns_many : Int) (i_images_0_strengths : Nat → Int) (i_images_0_expelled : Nat → Int) (i_images_0_trips : Nat → Int) (i_images_0_places : Nat → Int) (i_images_0_terms : Nat → Int) (i_images_0_goals : Nat → Int) (i_images_0_orders : Nat → Int) (i_images_0_ordered : Nat → Int) (i_images_1_columns_many : Int) (i_images_1_strengths : Nat → Int) (i_images_1_expelled : Nat → Int) (i_images_1_trips : Nat → Int) (i_images_1_places : Nat → Int) (i_images_1_terms : Nat → Int) (i_images_1_goals : Nat → Int) (i_images_1_orders : Nat → Int) (i_images_1_ordered : Nat → Int) (i_images_0_columns_heights : Nat → Int) (i_images_0_columns_weights : Nat → Int) (i_images_1_columns_heights : Nat → Int) (i_images_1_columns_weights : Nat → Int) (i_latestStatus : Int) (i_hill_children : Int) (i_hill_parishes : Int) (i_hill_laws : Int) (i_hill_inForce : Int) (i_hill_changes : Int) (i_refusals : Nat → Int) (i_hill_columns_many : Int) (i_hill_strengths : Nat → Int) (i_hill_expelled : Nat → Int) (i_hill_trips : Nat → Int) (i_hill_places : Nat → Int) (i_hill_terms : Nat → Int) (i_hill_goals : Nat → Int) (i_hill_orders : Nat → Int) (i_hill_ordered : Nat → Int) (i_hill_columns_heights : Nat → Int) (i_hill_columns_weights : Nat → Int) : Option (Int × Int × Int × Int × Int × Int × Int × (Nat → Int) × Int × (Nat → Int) × (Nat → Int) × (Nat → Int) × (Nat → Int) × (Nat → Int) × (Nat → Int) × (Nat → Int) × (Nat → Int) × (Nat → Int) × (Nat → Int)) :=
  if zi_w x1 < 0 then
    f_HS_back_9 i_kept i_images_0_children i_images_0_parishes i_images_0_laws i_images_0_inForce i_images_1_children i_images_1_parishes i_images_1_laws i_images_1_inForce i_images_0_columns_many i_images_0_strengths i_images_0_expelled i_images_0_trips i_images_0_places i_images_0_terms i_images_0_goals i_images_0_orders i_images_0_ordered i_images_1_columns_many i_images_1_strengths i_images_1_expelled i_images_1_trips i_images_1_places i_images_1_terms i_images_1_goals i_images_1_orders i_images_1_ordered i_images_0_columns_heights i_images_0_columns_weights i_images_1_columns_heights i_images_1_columns_weights i_latestStatus i_hill_children i_hill_parishes i_hill_laws i_hill_inForce i_hill_changes i_refusals i_hill_columns_many i_hill_strengths i_hill_expelled i_hill_trips i_hill_places i_hill_terms i_hill_goals i_hill_orders i_hill_ordered i_hill_columns_heights i_hill_columns_weights
  else
    if zi_w x1 < zi_w 2 then
      zg 2 i_kept x1 fun v1 =>
      if zi_w v1 ≠ 0 then
        if zi_w x1 = 0 then
          zd15 (f_Hill_become i_images_0_children i_images_0_parishes i_images_0_laws i_images_0_inForce i_images_0_columns_many i_images_0_strengths i_images_0_expelled i_images_0_trips i_images_0_places i_images_0_terms i_images_0_goals i_images_0_orders i_images_0_ordered i_images_0_columns_heights i_images_0_columns_weights i_hill_children i_hill_parishes i_hill_laws i_hill_inForce i_hill_columns_many i_hill_strengths i_hill_expelled i_hill_trips i_hill_places i_hill_terms i_hill_goals i_hill_orders i_hill_ordered i_hill_columns_heights i_hill_columns_weights) fun v2 v3 v4 v5 v6 a7 a8 a9 a10 a11 a12 a13 a14 a15 a16 =>
          f_HS_back_44 i_kept i_images_0_children i_images_0_parishes i_images_0_laws i_images_0_inForce i_images_1_children i_images_1_parishes i_images_1_laws i_images_1_inForce i_images_0_columns_many i_images_0_strengths i_images_0_expelled i_images_0_trips i_images_0_places i_images_0_terms i_images_0_goals i_images_0_orders i_images_0_ordered i_images_1_columns_many i_images_1_strengths i_images_1_expelled i_images_1_trips i_images_1_places i_images_1_terms i_images_1_goals i_images_1_orders i_images_1_ordered i_images_0_columns_heights i_images_0_columns_weights i_images_1_columns_heights i_images_1_columns_weights i_latestStatus v2 v3 v4 v5 i_hill_changes i_refusals v6 a7 a8 a9 a10 a11 a12 a13 a14 a15 a16
        else if zi_w x1 = 1 then
          zd15 (f_Hill_become i_images_1_children i_images_1_parishes i_images_1_laws i_images_1_inForce i_images_1_columns_many i_images_1_strengths i_images_1_expelled i_images_1_trips i_images_1_places i_images_1_terms i_images_1_goals i_images_1_orders i_images_1_ordered i_images_1_columns_heights i_images_1_columns_weights i_hill_children i_hill_parishes i_hill_laws i_hill_inForce i_hill_columns_many i_hill_strengths i_hill_expelled i_hill_trips i_hill_places i_hill_terms i_hill_goals i_hill_orders i_hill_ordered i_hill_columns_heights i_hill_columns_weights) fun v17 v18 v19 v20 v21 a22 a23 a24 a25 a26 a27 a28 a29 a30 a31 =>
          f_HS_back_44 i_kept i_images_0_children i_images_0_parishes i_images_0_laws i_images_0_inForce i_images_1_children i_images_1_parishes i_images_1_laws i_images_1_inForce i_images_0_columns_many i_images_0_strengths i_images_0_expelled i_images_0_trips i_images_0_places i_images_0_terms i_images_0_goals i_images_0_orders i_images_0_ordered i_images_1_columns_many i_images_1_strengths i_images_1_expelled i_images_1_trips i_images_1_places i_images_1_terms i_images_1_goals i_images_1_orders i_images_1_ordered i_images_0_columns_heights i_images_0_columns_weights i_images_1_columns_heights i_images_1_columns_weights i_latestStatus v17 v18 v19 v20 i_hill_changes i_refusals v21 a22 a23 a24 a25 a26 a27 a28 a29 a30 a31
        else none
      else
        zd3 (f_HS_refuse (-2) i_latestStatus i_refusals) fun v32 v33 a34 =>
        some (v32, v33, i_hill_children, i_hill_parishes, i_hill_laws, i_hill_inForce, i_hill_changes, a34, i_hill_columns_many, i_hill_strengths, i_hill_expelled, i_hill_trips, i_hill_places, i_hill_terms, i_hill_goals, i_hill_orders, i_hill_ordered, i_hill_columns_heights, i_hill_columns_weights)
    else
      f_HS_back_9 i_kept i_images_0_children i_images_0_parishes i_images_0_laws i_images_0_inForce i_images_1_children i_images_1_parishes i_images_1_laws i_images_1_inForce i_images_0_columns_many i_images_0_strengths i_images_0_expelled i_images_0_trips i_images_0_places i_images_0_terms i_images_0_goals i_images_0_orders i_images_0_ordered i_images_1_columns_many i_images_1_strengths i_images_1_expelled i_images_1_trips i_images_1_places i_images_1_terms i_images_1_goals i_images_1_orders i_images_1_ordered i_images_0_columns_heights i_images_0_columns_weights i_images_1_columns_heights i_images_1_columns_weights i_latestStatus i_hill_children i_hill_parishes i_hill_laws i_hill_inForce i_hill_changes i_refusals i_hill_columns_many i_hill_strengths i_hill_expelled i_hill_trips i_hill_places i_hill_terms i_hill_goals i_hill_orders i_hill_ordered i_hill_columns_heights i_hill_columns_weights
def f_HS_count (x1 : Int) (i_taped : Int) (i_hill_children : Int) (i_hill_parishes : Int) (i_hill_laws : Int) (i_hill_inForce : Int) (i_refusals : Nat → Int) (i_hill_columns_many : Int) (i_hill_terms : Nat → Int) (i_hill_columns_heights : Nat → Int) : Option (Int) :=
  if zi_w x1 = 0 then
    some i_hill_columns_many
  else if zi_w x1 = 1 then
    zd1 (f_Columns_stones i_hill_columns_many i_hill_columns_heights) fun v1 =>
    some v1
  else if zi_w x1 = 2 then
    some i_hill_children
  else if zi_w x1 = 3 then
    some i_hill_parishes
  else if zi_w x1 = 4 then
    some i_hill_laws
  else if zi_w x1 = 5 then
    some i_taped
  else if zi_w x1 = 6 then
    zg 7 i_refusals 1 fun v2 =>
    some v2
  else if zi_w x1 = 7 then
    zg 7 i_refusals 2 fun v3 =>
    some v3
  else if zi_w x1 = 8 then
    zg 7 i_refusals 3 fun v4 =>
    some v4
  else if zi_w x1 = 9 then
    zg 7 i_refusals 5 fun v5 =>
    some v5
  else if zi_w x1 = 10 then
    zg 7 i_refusals 6 fun v6 =>
    some v6
  else if zi_w x1 = 11 then
    some i_hill_inForce
  else if zi_w x1 = 12 then
    zg 4 i_hill_terms 0 fun v7 =>
    some v7
  else if zi_w x1 = 13 then
    zg 4 i_hill_terms 1 fun v8 =>
    some v8
  else if zi_w x1 = 14 then
    zg 4 i_hill_terms 2 fun v9 =>
    some v9
  else if zi_w x1 = 15 then
    zg 4 i_hill_terms 3 fun v10 =>
    some v10
  else
    some (-1)
def f_HS_status (i_latestStatus : Int) : Option (Int) :=
  some i_latestStatus
def f_HM_in (x0 : Int) (x2 : Int) (x4 : Int) : Option (Int) :=
  if zl_w x0 < zl_w x2 then
    some 0
  else
    if zl_w x4 < zl_w x0 then
      some 0
    else
      some 1
def f_HM_tell_10  (x1 : Int) (s1 : Int) (i_status : Int) (i_refusals : Nat → Int) : Option (Int × Int × (Nat → Int)) :=
  if 0 ≤ zi_w x1 then
    some (x1, s1, i_refusals)
  else
    zn (-x1) fun v1 =>
    zg 7 i_refusals v1 fun v2 =>
    zn (v2 + 1) fun v3 =>
    zs 7 i_refusals v1 v3 fun a4 =>
    some (x1, s1, a4)
def f_HM_tell (x1 : Int) (i_status : Int) (i_refusals : Nat → Int) : Option (Int × Int × (Nat → Int)) :=
  if 0 ≤ zi_w x1 then
    f_HM_tell_10 x1 0 i_status i_refusals
  else
    f_HM_tell_10 x1 x1 i_status i_refusals
def f_HM_image_23_b (i_row : Nat → Int) (k23 : Int → Int → Int → Int → (Nat → Int) → (Nat → Int) → (Nat → Int) → Option (Int × Int × Int × (Nat → Int) × (Nat → Int) × (Nat → Int))) (x1 : Int) (x2 : Int) (i_thrown : Int) (i_status : Int) (i_refusals : Nat → Int) (i_images : Nat → Int) (i_isKept : Nat → Int) : Option (Int × Int × Int × (Nat → Int) × (Nat → Int) × (Nat → Int)) :=
  if zi_w 5580 ≤ zi_w x2 then
    if ¬ (zi_w 1 = 0 ∨ zi_w 1 = 1) then none else zs 2 i_isKept x1 1 fun a1 =>
    zd3 (f_HM_tell 0 i_status i_refusals) fun v2 v3 a4 =>
    some (v2, i_thrown, v3, a4, i_images, a1)
  else
    zn (5580 * x1) fun v5 =>
    zn (v5 + x2) fun v6 =>
    zg 5580 i_row x2 fun v7 =>
    zs 11160 i_images v6 v7 fun a8 =>
    zn (x2 + 1) fun v9 =>
    k23 x1 v9 i_thrown i_status i_refusals a8 i_isKept
def f_HM_image_23 (i_row : Nat → Int) : Nat → Int → Int → Int → Int → (Nat → Int) → (Nat → Int) → (Nat → Int) → Option (Int × Int × Int × (Nat → Int) × (Nat → Int) × (Nat → Int))
  | 0 => fun _ _ _ _ _ _ _ => none
  | n + 1 => fun y0 y1 y2 y3 y4 y5 y6 => f_HM_image_23_b i_row (f_HM_image_23 i_row n) y0 y1 y2 y3 y4 y5 y6
def f_HM_image (x1 : Int) (i_row : Nat → Int) (i_thrown : Int) (i_status : Int) (i_refusals : Nat → Int) (i_images : Nat → Int) (i_isKept : Nat → Int) : Option (Int × Int × Int × (Nat → Int) × (Nat → Int) × (Nat → Int)) :=
  zn (zi_w x1) fun v1 =>
  zd1 (f_HM_in v1 0 1) fun v2 =>
  if zi_w v2 ≠ 0 then
    f_HM_image_23 i_row zfu x1 0 0 i_status i_refusals i_images i_isKept
  else
    zd3 (f_HM_tell (-1) i_status i_refusals) fun v3 v4 a5 =>
    some (v3, 0, v4, a5, i_images, i_isKept)
def f_HM_back_39_b (i_images : Nat → Int) (i_isKept : Nat → Int) (k39 : Int → Int → Int → Int → (Nat → Int) → (Nat → Int) → Option (Int × Int × Int × (Nat → Int) × (Nat → Int))) (x1 : Int) (x2 : Int) (i_thrown : Int) (i_status : Int) (i_refusals : Nat → Int) (i_row : Nat → Int) : Option (Int × Int × Int × (Nat → Int) × (Nat → Int)) :=
  if zi_w 5580 ≤ zi_w x2 then
    zd3 (f_HM_tell 0 i_status i_refusals) fun v1 v2 a3 =>
    some (v1, i_thrown, v2, a3, i_row)
  else
    zn (5580 * x1) fun v4 =>
    zn (v4 + x2) fun v5 =>
    zg 11160 i_images v5 fun v6 =>
    zs 5580 i_row x2 v6 fun a7 =>
    zn (x2 + 1) fun v8 =>
    k39 x1 v8 i_thrown i_status i_refusals a7
def f_HM_back_39 (i_images : Nat → Int) (i_isKept : Nat → Int) : Nat → Int → Int → Int → Int → (Nat → Int) → (Nat → Int) → Option (Int × Int × Int × (Nat → Int) × (Nat → Int))
  | 0 => fun _ _ _ _ _ _ => none
  | n + 1 => fun y0 y1 y2 y3 y4 y5 => f_HM_back_39_b i_images i_isKept (f_HM_back_39 i_images i_isKept n) y0 y1 y2 y3 y4 y5
def f_HM_back (x1 : Int) (i_images : Nat → Int) (i_isKept : Nat → Int) (i_thrown : Int) (i_status : Int) (i_refusals : Nat → Int) (i_row : Nat → Int) : Option (Int × Int × Int × (Nat → Int) × (Nat → Int)) :=
  zn (zi_w x1) fun v1 =>
  zd1 (f_HM_in v1 0 1) fun v2 =>
  if zi_w v2 ≠ 0 then
    zg 2 i_isKept x1 fun v3 =>
    if zi_w v3 ≠ 0 then
      f_HM_back_39 i_images i_isKept zfu x1 0 0 i_status i_refusals i_row
    else
      zd3 (f_HM_tell (-2) i_status i_refusals) fun v4 v5 a6 =>
      some (v4, 0, v5, a6, i_row)
  else
    zd3 (f_HM_tell (-1) i_status i_refusals) fun v7 v8 a9 =>
    some (v7, 0, v8, a9, i_row)
def f_HM_columns (i_row : Nat → Int) : Option (Int) :=
  zg 5580 i_row 0 fun v1 =>
  some v1
def f_HM_column (i_thrown : Int) (i_status : Int) (i_refusals : Nat → Int) (i_row : Nat → Int) : Option (Int × Int × Int × (Nat → Int) × (Nat → Int)) :=
  zd1 (f_HM_columns i_row) fun v1 =>
  if zi_w v1 ≠ zi_w 12 then
    zn (9 + v1) fun v2 =>
    zs 5580 i_row v2 0 fun a3 =>
    zn (141 + v1) fun v4 =>
    zs 5580 a3 v4 (-1) fun a5 =>
    zg 5580 a5 0 fun v6 =>
    zn (v6 + 1) fun v7 =>
    zs 5580 a5 0 v7 fun a8 =>
    zd3 (f_HM_tell v1 i_status i_refusals) fun v9 v10 a11 =>
    some (v9, 0, v10, a11, a8)
  else
    zd3 (f_HM_tell (-5) i_status i_refusals) fun v12 v13 a14 =>
    some (v12, 0, v13, a14, i_row)
def f_HM_isWeight (x0 : Int) : Option (Int) :=
  zn (zi_w x0) fun v1 =>
  zd1 (f_HM_in v1 1 30) fun v2 =>
  if ¬ (zi_w v2 = 0 ∨ zi_w v2 = 1) then none else
  some v2
def f_HM_isColumn (x1 : Int) (i_row : Nat → Int) : Option (Int) :=
  zn (zi_w x1) fun v1 =>
  zd1 (f_HM_columns i_row) fun v2 =>
  zn (zi_w v2) fun v3 =>
  zn (v3 - 1) fun v4 =>
  zd1 (f_HM_in v1 0 v4) fun v5 =>
  if ¬ (zi_w v5 = 0 ∨ zi_w v5 = 1) then none else
  some v5
def f_HM_stone (x1 : Int) (x2 : Int) (i_thrown : Int) (i_status : Int) (i_refusals : Nat → Int) (i_row : Nat → Int) : Option (Int × Int × Int × (Nat → Int) × (Nat → Int)) :=
  zd1 (f_HM_isWeight x2) fun v1 =>
  if zi_w v1 ≠ 0 then
    zd1 (f_HM_isColumn x1 i_row) fun v2 =>
    if zi_w v2 ≠ 0 then
      zn (9 + x1) fun v3 =>
      zg 5580 i_row v3 fun v4 =>
      if zi_w v4 ≠ zi_w 10 then
        zn (10 * x1) fun v5 =>
        zn (21 + v5) fun v6 =>
        zn (v6 + v4) fun v7 =>
        zs 5580 i_row v7 x2 fun a8 =>
        zn (9 + x1) fun v9 =>
        zg 5580 a8 v9 fun v10 =>
        zn (v10 + 1) fun v11 =>
        zs 5580 a8 v9 v11 fun a12 =>
        zn (v4 + 1) fun v13 =>
        zd3 (f_HM_tell v13 i_status i_refusals) fun v14 v15 a16 =>
        some (v14, 0, v15, a16, a12)
      else
        zd3 (f_HM_tell (-5) i_status i_refusals) fun v17 v18 a19 =>
        some (v17, 0, v18, a19, i_row)
    else
      zd3 (f_HM_tell (-2) i_status i_refusals) fun v20 v21 a22 =>
      some (v20, 0, v21, a22, i_row)
  else
    zd3 (f_HM_tell (-1) i_status i_refusals) fun v23 v24 a25 =>
    some (v23, 0, v24, a25, i_row)
def f_HM_lift (x1 : Int) (i_thrown : Int) (i_status : Int) (i_refusals : Nat → Int) (i_row : Nat → Int) : Option (Int × Int × Int × (Nat → Int) × (Nat → Int)) :=
  zd1 (f_HM_isColumn x1 i_row) fun v1 =>
  if zi_w v1 ≠ 0 then
    zn (9 + x1) fun v2 =>
    zg 5580 i_row v2 fun v3 =>
    if zi_w v3 ≠ 0 then
      zn (9 + x1) fun v4 =>
      zg 5580 i_row v4 fun v5 =>
      zn (v5 - 1) fun v6 =>
      zs 5580 i_row v4 v6 fun a7 =>
      zn (10 * x1) fun v8 =>
      zn (21 + v8) fun v9 =>
      zn (v9 + v3) fun v10 =>
      zn (v10 - 1) fun v11 =>
      zg 5580 a7 v11 fun v12 =>
      zd3 (f_HM_tell v12 i_status i_refusals) fun v13 v14 a15 =>
      some (v13, 0, v14, a15, a7)
    else
      zd3 (f_HM_tell (-3) i_status i_refusals) fun v16 v17 a18 =>
      some (v16, 0, v17, a18, i_row)
  else
    zd3 (f_HM_tell (-2) i_status i_refusals) fun v19 v20 a21 =>
    some (v19, 0, v20, a21, i_row)
def f_HM_of (x1 : Int) (x2 : Int) (i_row : Nat → Int) (i_thrown : Int) : Option (Int × Int) :=
  zd1 (f_HM_isColumn x1 i_row) fun v1 =>
  if zi_w v1 ≠ 0 then
    if zi_w x2 ≠ zi_w (-1) then
      zn (zi_w x2) fun v2 =>
      zn (9 + x1) fun v3 =>
      zg 5580 i_row v3 fun v4 =>
      zn (zi_w v4) fun v5 =>
      zn (v5 - 1) fun v6 =>
      zd1 (f_HM_in v2 0 v6) fun v7 =>
      if zi_w v7 = 0 then
        some ((-1), 0)
      else
        zn (10 * x1) fun v8 =>
        zn (21 + v8) fun v9 =>
        zn (v9 + x2) fun v10 =>
        zg 5580 i_row v10 fun v11 =>
        some (v11, 0)
    else
      zn (9 + x1) fun v12 =>
      zg 5580 i_row v12 fun v13 =>
      some (v13, 0)
  else
    some ((-1), 0)
def f_HM_weight_19_b (i_row : Nat → Int) (k19 : Int → Int → Int → Int → Option (Int × Int)) (x1 : Int) (x2 : Int) (x3 : Int) (i_thrown : Int) : Option (Int × Int) :=
  zn (9 + x1) fun v1 =>
  zg 5580 i_row v1 fun v2 =>
  if zi_w v2 ≤ zi_w x3 then
    some (x2, i_thrown)
  else
    zn (10 * x1) fun v3 =>
    zn (21 + v3) fun v4 =>
    zn (v4 + x3) fun v5 =>
    zg 5580 i_row v5 fun v6 =>
    zn (x2 + v6) fun v7 =>
    zn (x3 + 1) fun v8 =>
    k19 x1 v7 v8 i_thrown
def f_HM_weight_19 (i_row : Nat → Int) : Nat → Int → Int → Int → Int → Option (Int × Int)
  | 0 => fun _ _ _ _ => none
  | n + 1 => fun y0 y1 y2 y3 => f_HM_weight_19_b i_row (f_HM_weight_19 i_row n) y0 y1 y2 y3
def f_HM_weight (x1 : Int) (i_row : Nat → Int) (i_thrown : Int) : Option (Int × Int) :=
  zd1 (f_HM_isColumn x1 i_row) fun v1 =>
  if zi_w v1 ≠ 0 then
    f_HM_weight_19 i_row zfu x1 0 0 0
  else
    some ((-1), 0)
def f_HM_child (x1 : Int) (i_thrown : Int) (i_status : Int) (i_refusals : Nat → Int) (i_row : Nat → Int) : Option (Int × Int × Int × (Nat → Int) × (Nat → Int)) :=
  zn (zi_w x1) fun v1 =>
  zd1 (f_HM_in v1 1 60) fun v2 =>
  if zi_w v2 ≠ 0 then
    zg 5580 i_row 1 fun v3 =>
    if zi_w v3 ≠ zi_w 6 then
      zn (3 * v3) fun v4 =>
      zn (153 + v4) fun v5 =>
      zs 5580 i_row v5 x1 fun a6 =>
      zn (3 * v3) fun v7 =>
      zn (153 + v7) fun v8 =>
      zn (v8 + 1) fun v9 =>
      zs 5580 a6 v9 0 fun a10 =>
      zn (3 * v3) fun v11 =>
      zn (153 + v11) fun v12 =>
      zn (v12 + 2) fun v13 =>
      zs 5580 a10 v13 0 fun a14 =>
      zg 5580 a14 1 fun v15 =>
      zn (v15 + 1) fun v16 =>
      zs 5580 a14 1 v16 fun a17 =>
      zd3 (f_HM_tell v3 i_status i_refusals) fun v18 v19 a20 =>
      some (v18, 0, v19, a20, a17)
    else
      zd3 (f_HM_tell (-5) i_status i_refusals) fun v21 v22 a23 =>
      some (v21, 0, v22, a23, i_row)
  else
    zd3 (f_HM_tell (-1) i_status i_refusals) fun v24 v25 a26 =>
    some (v24, 0, v25, a26, i_row)
def f_HM_isChild (x1 : Int) (i_row : Nat → Int) : Option (Int) :=
  zn (zi_w x1) fun v1 =>
  zg 5580 i_row 1 fun v2 =>
  zn (zi_w v2) fun v3 =>
  zn (v3 - 1) fun v4 =>
  zd1 (f_HM_in v1 0 v4) fun v5 =>
  if ¬ (zi_w v5 = 0 ∨ zi_w v5 = 1) then none else
  some v5
def f_HM_change (x1 : Int) (x2 : Int) (i_status : Int) (i_row : Nat → Int) : Option (Int × Int × (Nat → Int)) :=
  zg 5580 i_row x1 fun v1 =>
  zs 5580 i_row x1 x2 fun a2 =>
  some (v1, 0, a2)
def f_HM_expel (x1 : Int) (x2 : Int) (i_thrown : Int) (i_status : Int) (i_refusals : Nat → Int) (i_row : Nat → Int) : Option (Int × Int × Int × (Nat → Int) × (Nat → Int)) :=
  zn (zi_w x2) fun v1 =>
  zd1 (f_HM_in v1 0 1) fun v2 =>
  if zi_w v2 ≠ 0 then
    zd1 (f_HM_isChild x1 i_row) fun v3 =>
    if zi_w v3 = 0 then
      zd3 (f_HM_tell (-2) i_status i_refusals) fun v4 v5 a6 =>
      some (v4, 0, v5, a6, i_row)
    else
      zn (3 * x1) fun v7 =>
      zn (153 + v7) fun v8 =>
      zn (v8 + 1) fun v9 =>
      zd3 (f_HM_change v9 x2 i_status i_row) fun v10 v11 a12 =>
      some (v10, 0, v11, i_refusals, a12)
  else
    zd3 (f_HM_tell (-1) i_status i_refusals) fun v13 v14 a15 =>
    some (v13, 0, v14, a15, i_row)
def f_HM_fact (x1 : Int) (x2 : Int) (i_row : Nat → Int) (i_thrown : Int) : Option (Int × Int) :=
  zd1 (f_HM_isChild x1 i_row) fun v1 =>
  if zi_w v1 = 0 then
    some ((-1), 0)
  else
    zn (zi_w x2) fun v2 =>
    zd1 (f_HM_in v2 0 2) fun v3 =>
    if zi_w v3 = 0 then
      some ((-1), 0)
    else
      zn (3 * x1) fun v4 =>
      zn (153 + v4) fun v5 =>
      zn (v5 + x2) fun v6 =>
      zg 5580 i_row v6 fun v7 =>
      some (v7, 0)
def f_HM_parish (x1 : Int) (i_thrown : Int) (i_status : Int) (i_refusals : Nat → Int) (i_row : Nat → Int) : Option (Int × Int × Int × (Nat → Int) × (Nat → Int)) :=
  zd1 (f_HM_isColumn x1 i_row) fun v1 =>
  if zi_w v1 ≠ 0 then
    zg 5580 i_row 2 fun v2 =>
    if zi_w v2 ≠ zi_w 6 then
      zn (171 + v2) fun v3 =>
      zs 5580 i_row v3 x1 fun a4 =>
      zg 5580 a4 2 fun v5 =>
      zn (v5 + 1) fun v6 =>
      zs 5580 a4 2 v6 fun a7 =>
      zd3 (f_HM_tell v2 i_status i_refusals) fun v8 v9 a10 =>
      some (v8, 0, v9, a10, a7)
    else
      zd3 (f_HM_tell (-5) i_status i_refusals) fun v11 v12 a13 =>
      some (v11, 0, v12, a13, i_row)
  else
    zd3 (f_HM_tell (-2) i_status i_refusals) fun v14 v15 a16 =>
    some (v14, 0, v15, a16, i_row)
def f_HM_isTerm (x0 : Int) (x1 : Int) : Option (Int) :=
  if zi_w x0 = 0 then
    zn (zi_w x1) fun v1 =>
    zd1 (f_HM_in v1 0 99) fun v2 =>
    if ¬ (zi_w v2 = 0 ∨ zi_w v2 = 1) then none else
    some v2
  else if zi_w x0 = 1 then
    zn (zi_w x1) fun v3 =>
    zd1 (f_HM_in v3 1 9) fun v4 =>
    if ¬ (zi_w v4 = 0 ∨ zi_w v4 = 1) then none else
    some v4
  else if zi_w x0 = 2 then
    zn (zi_w x1) fun v5 =>
    zd1 (f_HM_in v5 1 9) fun v6 =>
    if ¬ (zi_w v6 = 0 ∨ zi_w v6 = 1) then none else
    some v6
  else if zi_w x0 = 3 then
    zn (zi_w x1) fun v7 =>
    zd1 (f_HM_in v7 0 30) fun v8 =>
    if ¬ (zi_w v8 = 0 ∨ zi_w v8 = 1) then none else
    some v8
  else
    some 0
def f_HM_terms (x1 : Int) (x2 : Int) (i_thrown : Int) (i_status : Int) (i_refusals : Nat → Int) (i_row : Nat → Int) : Option (Int × Int × Int × (Nat → Int) × (Nat → Int)) :=
  zd1 (f_HM_isTerm x1 x2) fun v1 =>
  if zi_w v1 = 0 then
    zd3 (f_HM_tell (-1) i_status i_refusals) fun v2 v3 a4 =>
    some (v2, 0, v3, a4, i_row)
  else
    zn (5 + x1) fun v5 =>
    zd3 (f_HM_change v5 x2 i_status i_row) fun v6 v7 a8 =>
    some (v6, 0, v7, i_refusals, a8)
def f_HM_row_32 (i_tape : Nat → Int) (i_thrown : Int) (i_status : Int) (i_gravel : Int) (i_taped : Int) (i_refusals : Nat → Int) (i_row : Nat → Int) : Option (Int × Int × Int × Int × Int × (Nat → Int) × (Nat → Int)) :=
  zd3 (f_HM_tell (-6) i_status i_refusals) fun v1 v2 a3 =>
  some (v1, i_thrown, v2, i_gravel, i_taped, a3, i_row)
def f_HM_row_147 (i_tape : Nat → Int) (k56 : Int → Int → Int → Int → Int → Int → Int → Int → (Nat → Int) → (Nat → Int) → Option (Int × Int × Int × Int × Int × (Nat → Int) × (Nat → Int))) (x1 : Int) (x2 : Int) (x3 : Int) (x4 : Int) (i_thrown : Int) (i_status : Int) (i_gravel : Int) (i_taped : Int) (i_refusals : Nat → Int) (i_row : Nat → Int) : Option (Int × Int × Int × Int × Int × (Nat → Int) × (Nat → Int)) :=
  zn (x4 + 1) fun v1 =>
  k56 x1 x2 x3 v1 i_thrown i_status i_gravel i_taped i_refusals i_row
def f_HM_row_137 (i_tape : Nat → Int) (k56 : Int → Int → Int → Int → Int → Int → Int → Int → (Nat → Int) → (Nat → Int) → Option (Int × Int × Int × Int × Int × (Nat → Int) × (Nat → Int))) (x1 : Int) (x2 : Int) (x3 : Int) (x4 : Int) (i_thrown : Int) (i_status : Int) (i_gravel : Int) (i_taped : Int) (i_refusals : Nat → Int) (i_row : Nat → Int) : Option (Int × Int × Int × Int × Int × (Nat → Int) × (Nat → Int)) :=
  zn (i_gravel + 1) fun v1 =>
  f_HM_row_147 i_tape k56 x1 x2 x3 x4 i_thrown i_status v1 i_taped i_refusals i_row
def f_HM_row_56_b (i_tape : Nat → Int) (k56 : Int → Int → Int → Int → Int → Int → Int → Int → (Nat → Int) → (Nat → Int) → Option (Int × Int × Int × Int × Int × (Nat → Int) × (Nat → Int))) (x1 : Int) (x2 : Int) (x3 : Int) (x4 : Int) (i_thrown : Int) (i_status : Int) (i_gravel : Int) (i_taped : Int) (i_refusals : Nat → Int) (i_row : Nat → Int) : Option (Int × Int × Int × Int × Int × (Nat → Int) × (Nat → Int)) :=
  if zi_w x1 ≤ zi_w x4 then
    zd3 (f_HM_tell x3 i_status i_refusals) fun v1 v2 a3 =>
    some (v1, i_thrown, v2, i_gravel, i_taped, a3, i_row)
  else
    zg 400 i_tape x4 fun v4 =>
    zd1 (f_HM_isWeight v4) fun v5 =>
    if zi_w v5 = 0 then
      f_HM_row_137 i_tape k56 x1 x2 x3 x4 i_thrown i_status i_gravel i_taped i_refusals i_row
    else
      zn (9 + x2) fun v6 =>
      zg 5580 i_row v6 fun v7 =>
      if zi_w 10 ≤ zi_w v7 then
        f_HM_row_137 i_tape k56 x1 x2 x3 x4 i_thrown i_status i_gravel i_taped i_refusals i_row
      else
        zn (10 * x2) fun v8 =>
        zn (21 + v8) fun v9 =>
        zn (9 + x2) fun v10 =>
        zg 5580 i_row v10 fun v11 =>
        zn (v9 + v11) fun v12 =>
        zg 400 i_tape x4 fun v13 =>
        zs 5580 i_row v12 v13 fun a14 =>
        zn (9 + x2) fun v15 =>
        zg 5580 a14 v15 fun v16 =>
        zn (v16 + 1) fun v17 =>
        zs 5580 a14 v15 v17 fun a18 =>
        zn (x3 + 1) fun v19 =>
        f_HM_row_147 i_tape k56 x1 x2 v19 x4 i_thrown i_status i_gravel i_taped i_refusals a18
def f_HM_row_56 (i_tape : Nat → Int) : Nat → Int → Int → Int → Int → Int → Int → Int → Int → (Nat → Int) → (Nat → Int) → Option (Int × Int × Int × Int × Int × (Nat → Int) × (Nat → Int))
  | 0 => fun _ _ _ _ _ _ _ _ _ _ => none
  | n + 1 => fun y0 y1 y2 y3 y4 y5 y6 y7 y8 y9 => f_HM_row_56_b i_tape (f_HM_row_56 i_tape n) y0 y1 y2 y3 y4 y5 y6 y7 y8 y9
def f_HM_row (i_tape : Nat → Int) (i_thrown : Int) (i_status : Int) (i_gravel : Int) (i_taped : Int) (i_refusals : Nat → Int) (i_row : Nat → Int) : Option (Int × Int × Int × Int × Int × (Nat → Int) × (Nat → Int)) :=
  if zi_w i_taped = 0 then
    f_HM_row_32 i_tape 0 i_status i_gravel 0 i_refusals i_row
  else
    zg 400 i_tape 0 fun v1 =>
    zd1 (f_HM_isColumn v1 i_row) fun v2 =>
    if zi_w v2 ≠ 0 then
      zg 400 i_tape 0 fun v3 =>
      f_HM_row_56 i_tape zfu i_taped v3 0 1 0 i_status 0 0 i_refusals i_row
    else
      f_HM_row_32 i_tape 0 i_status i_gravel 0 i_refusals i_row
def f_HM_gravel (i_gravel : Int) (i_thrown : Int) : Option (Int × Int) :=
  some (i_gravel, 0)
def f_HM_four_3_b  (k3 : Int → Int → Int → (Nat → Int) → Option (Int × (Nat → Int))) (x1 : Int) (x2 : Int) (i_taped : Int) (i_tape : Nat → Int) : Option (Int × (Nat → Int)) :=
  if zi_w x2 < 0 then
    some (i_taped, i_tape)
  else
    zn (zi_shr x1 x2) fun v1 =>
    zn (zi_and v1 255) fun v2 =>
    zs 400 i_tape i_taped v2 fun a3 =>
    zn (i_taped + 1) fun v4 =>
    zn (x2 + (-8)) fun v5 =>
    k3 x1 v5 v4 a3
def f_HM_four_3  : Nat → Int → Int → Int → (Nat → Int) → Option (Int × (Nat → Int))
  | 0 => fun _ _ _ _ => none
  | n + 1 => fun y0 y1 y2 y3 => f_HM_four_3_b  (f_HM_four_3  n) y0 y1 y2 y3
def f_HM_four (x1 : Int) (i_taped : Int) (i_tape : Nat → Int) : Option (Int × (Nat → Int)) :=
  f_HM_four_3 zfu x1 24 i_taped i_tape
def f_HM_feed (x1 : Int) (x2 : Int) (x3 : Int) (x4 : Int) (x5 : Int) (i_thrown : Int) (i_taped : Int) (i_tape : Nat → Int) : Option (Int × Int × Int × (Nat → Int)) :=
  zn (i_taped + 20) fun v1 =>
  if zi_w v1 ≤ zi_w 400 then
    zd2 (f_HM_four x1 i_taped i_tape) fun v2 a3 =>
    zd2 (f_HM_four x2 v2 a3) fun v4 a5 =>
    zd2 (f_HM_four x3 v4 a5) fun v6 a7 =>
    zd2 (f_HM_four x4 v6 a7) fun v8 a9 =>
    zd2 (f_HM_four x5 v8 a9) fun v10 a11 =>
    some (v10, 0, v10, a11)
  else
    some ((-1), 0, i_taped, i_tape)
def f_HM_end (x1 : Int) (i_thrown : Int) (i_taped : Int) : Option (Int × Int × Int) :=
  if zi_w x1 < 0 then
    some ((-1), 0, i_taped)
  else
    if zi_w x1 ≤ zi_w i_taped then
      some (x1, 0, x1)
    else
      some ((-1), 0, i_taped)
def f_HM_fault (i_fault : Int) (i_thrown : Int) : Option (Int × Int) :=
  some (i_fault, 0)
def f_HM_isSmall (x0 : Int) : Option (Int) :=
  if zi_w x0 < zi_w 97 then
    some 0
  else
    if zi_w 122 < zi_w x0 then
      some 0
    else
      some 1
def f_HM_isDigit (x0 : Int) : Option (Int) :=
  if zi_w x0 < zi_w 48 then
    some 0
  else
    if zi_w 57 < zi_w x0 then
      some 0
    else
      some 1
def f_HM_next_319 (i_taped : Int) (i_tape : Nat → Int) (k243 : Int → Int → Int → Int → Option (Int × Int × Int × Int)) (s1 : Int) (i_from : Int) (i_to : Int) (i_sort : Int) (i_worth : Int) : Option (Int × Int × Int × Int) :=
  zn (i_to + 1) fun v1 =>
  k243 i_from v1 i_sort s1
def f_HM_next_243_b (i_taped : Int) (i_tape : Nat → Int) (k243 : Int → Int → Int → Int → Option (Int × Int × Int × Int)) (i_from : Int) (i_to : Int) (i_sort : Int) (i_worth : Int) : Option (Int × Int × Int × Int) :=
  if zi_w i_sort ≠ zi_w 2 then
    some (i_from, i_to, i_sort, i_worth)
  else
    if zi_w i_taped ≤ zi_w i_to then
      some (i_from, i_to, i_sort, i_worth)
    else
      zg 400 i_tape i_to fun v1 =>
      zd1 (f_HM_isDigit v1) fun v2 =>
      if zi_w v2 = 0 then
        some (i_from, i_to, i_sort, i_worth)
      else
        if zl_w i_worth ≤ zl_w 1000000 then
          zn (i_worth * 10) fun v3 =>
          zg 400 i_tape i_to fun v4 =>
          zn (zi_w v4) fun v5 =>
          zn (v3 + v5) fun v6 =>
          zn (v6 - 48) fun v7 =>
          f_HM_next_319 i_taped i_tape k243 v7 i_from i_to i_sort i_worth
        else
          f_HM_next_319 i_taped i_tape k243 i_worth i_from i_to i_sort i_worth
def f_HM_next_243 (i_taped : Int) (i_tape : Nat → Int) : Nat → Int → Int → Int → Int → Option (Int × Int × Int × Int)
  | 0 => fun _ _ _ _ => none
  | n + 1 => fun y0 y1 y2 y3 => f_HM_next_243_b i_taped i_tape (f_HM_next_243 i_taped i_tape n) y0 y1 y2 y3
def f_HM_next_227 (i_taped : Int) (i_tape : Nat → Int) (k149 : Int → Int → Int → Int → Option (Int × Int × Int × Int)) (s1 : Int) (i_from : Int) (i_to : Int) (i_sort : Int) (i_worth : Int) : Option (Int × Int × Int × Int) :=
  zn (i_to + 1) fun v1 =>
  k149 i_from v1 i_sort s1
def f_HM_next_149_b (i_taped : Int) (i_tape : Nat → Int) (k149 : Int → Int → Int → Int → Option (Int × Int × Int × Int)) (i_from : Int) (i_to : Int) (i_sort : Int) (i_worth : Int) : Option (Int × Int × Int × Int) :=
  if zi_w i_sort ≠ zi_w 1 then
    f_HM_next_243 i_taped i_tape zfu i_from i_to i_sort i_worth
  else
    if zi_w i_taped ≤ zi_w i_to then
      f_HM_next_243 i_taped i_tape zfu i_from i_to i_sort i_worth
    else
      zg 400 i_tape i_to fun v1 =>
      zd1 (f_HM_isSmall v1) fun v2 =>
      if zi_w v2 = 0 then
        f_HM_next_243 i_taped i_tape zfu i_from i_to i_sort i_worth
      else
        zn (i_to - i_from) fun v3 =>
        if zi_w 10 ≤ zi_w v3 then
          f_HM_next_227 i_taped i_tape k149 (-1) i_from i_to i_sort i_worth
        else
          zn (i_worth * 32) fun v4 =>
          zg 400 i_tape i_to fun v5 =>
          zn (zi_w v5) fun v6 =>
          zn (v4 + v6) fun v7 =>
          zn (v7 - 96) fun v8 =>
          f_HM_next_227 i_taped i_tape k149 v8 i_from i_to i_sort i_worth
def f_HM_next_149 (i_taped : Int) (i_tape : Nat → Int) : Nat → Int → Int → Int → Int → Option (Int × Int × Int × Int)
  | 0 => fun _ _ _ _ => none
  | n + 1 => fun y0 y1 y2 y3 => f_HM_next_149_b i_taped i_tape (f_HM_next_149 i_taped i_tape n) y0 y1 y2 y3
def f_HM_next_114 (i_taped : Int) (i_tape : Nat → Int) (s1 : Int) (i_from : Int) (i_to : Int) (i_sort : Int) (i_worth : Int) : Option (Int × Int × Int × Int) :=
  if zi_w s1 ≠ zi_w 3 then
    f_HM_next_149 i_taped i_tape zfu i_from i_to s1 i_worth
  else
    zg 400 i_tape i_from fun v1 =>
    zn (zi_w v1) fun v2 =>
    zn (i_to + 1) fun v3 =>
    f_HM_next_149 i_taped i_tape zfu i_from v3 s1 v2
def f_HM_next_46 (i_taped : Int) (i_tape : Nat → Int) (i_from : Int) (i_to : Int) (i_sort : Int) (i_worth : Int) : Option (Int × Int × Int × Int) :=
  if zi_w i_from ≠ zi_w i_taped then
    zg 400 i_tape i_from fun v1 =>
    zd1 (f_HM_isSmall v1) fun v2 =>
    if zi_w v2 = 0 then
      zg 400 i_tape i_from fun v3 =>
      zd1 (f_HM_isDigit v3) fun v4 =>
      if zi_w v4 = 0 then
        f_HM_next_114 i_taped i_tape 3 i_from i_from i_sort 0
      else
        f_HM_next_114 i_taped i_tape 2 i_from i_from i_sort 0
    else
      f_HM_next_114 i_taped i_tape 1 i_from i_from i_sort 0
  else
    f_HM_next_114 i_taped i_tape 0 i_from i_from i_sort 0
def f_HM_next_8_b (i_taped : Int) (i_tape : Nat → Int) (k8 : Int → Int → Int → Int → Option (Int × Int × Int × Int)) (i_from : Int) (i_to : Int) (i_sort : Int) (i_worth : Int) : Option (Int × Int × Int × Int) :=
  if zi_w i_taped ≤ zi_w i_from then
    f_HM_next_46 i_taped i_tape i_from i_to i_sort i_worth
  else
    zg 400 i_tape i_from fun v1 =>
    if zi_w v1 ≠ zi_w 32 then
      f_HM_next_46 i_taped i_tape i_from i_to i_sort i_worth
    else
      zn (i_from + 1) fun v2 =>
      k8 v2 i_to i_sort i_worth
def f_HM_next_8 (i_taped : Int) (i_tape : Nat → Int) : Nat → Int → Int → Int → Int → Option (Int × Int × Int × Int)
  | 0 => fun _ _ _ _ => none
  | n + 1 => fun y0 y1 y2 y3 => f_HM_next_8_b i_taped i_tape (f_HM_next_8 i_taped i_tape n) y0 y1 y2 y3
def f_HM_next (i_taped : Int) (i_tape : Nat → Int) (i_from : Int) (i_to : Int) (i_sort : Int) (i_worth : Int) : Option (Int × Int × Int × Int) :=
  f_HM_next_8 i_taped i_tape zfu i_to i_to i_sort i_worth
def f_HM_must_24 (i_taped : Int) (i_tape : Nat → Int) (i_from : Int) (i_to : Int) (i_sort : Int) (i_worth : Int) (i_fault : Int) (i_bad : Int) : Option (Int × Int × Int × Int × Int × Int) :=
  if zi_w i_bad ≠ 0 then
    some (i_from, i_to, i_sort, i_worth, i_fault, i_bad)
  else
    zd4 (f_HM_next i_taped i_tape i_from i_to i_sort i_worth) fun v1 v2 v3 v4 =>
    some (v1, v2, v3, v4, i_fault, i_bad)
def f_HM_must (x1 : Int) (i_taped : Int) (i_tape : Nat → Int) (i_from : Int) (i_to : Int) (i_sort : Int) (i_worth : Int) (i_fault : Int) (i_bad : Int) : Option (Int × Int × Int × Int × Int × Int) :=
  if zi_w i_bad ≠ 0 then
    f_HM_must_24 i_taped i_tape i_from i_to i_sort i_worth i_fault i_bad
  else
    if zi_w x1 ≠ 0 then
      f_HM_must_24 i_taped i_tape i_from i_to i_sort i_worth i_fault i_bad
    else
      f_HM_must_24 i_taped i_tape i_from i_to i_sort i_worth i_from 1
def f_HM_isWord (x1 : Int) (i_sort : Int) (i_worth : Int) : Option (Int) :=
  if zi_w i_sort ≠ zi_w 1 then
    some 0
  else
    if zl_w i_worth ≠ zl_w x1 then
      some 0
    else
      some 1
def f_HM_binds (x0 : Int) : Option (Int) :=
  if zi_w x0 < zi_w 30 then
    if zi_w x0 ≠ zi_w 29 then
      if zi_w x0 ≠ zi_w 28 then
        if zi_w x0 ≠ zi_w 27 then
          if zi_w x0 < zi_w 24 then
            if zi_w x0 < zi_w 22 then
              some 5
            else
              some 6
          else
            some 4
        else
          some 3
      else
        some 2
    else
      some 1
  else
    some 0
def f_HM_emit (x1 : Int) (x2 : Int) (i_nCode : Int) (i_nOp : Nat → Int) (i_nArg : Nat → Int) : Option (Int × (Nat → Int) × (Nat → Int)) :=
  zs 400 i_nOp i_nCode x1 fun a1 =>
  zs 400 i_nArg i_nCode x2 fun a2 =>
  zn (i_nCode + 1) fun v3 =>
  some (v3, a1, a2)
def f_HM_settle_63 (i_pile : Nat → Int) (i_pileAt : Nat → Int) (k0 : Int → Int → Int → (Nat → Int) → (Nat → Int) → Option (Int × Int × (Nat → Int) × (Nat → Int))) (x1 : Int) (i_nCode : Int) (i_piled : Int) (i_nOp : Nat → Int) (i_nArg : Nat → Int) : Option (Int × Int × (Nat → Int) × (Nat → Int)) :=
  zg 400 i_pileAt i_piled fun v1 =>
  zs 400 i_nArg v1 i_nCode fun a2 =>
  k0 x1 i_nCode i_piled i_nOp a2
def f_HM_settle_0_b (i_pile : Nat → Int) (i_pileAt : Nat → Int) (k0 : Int → Int → Int → (Nat → Int) → (Nat → Int) → Option (Int × Int × (Nat → Int) × (Nat → Int))) (x1 : Int) (i_nCode : Int) (i_piled : Int) (i_nOp : Nat → Int) (i_nArg : Nat → Int) : Option (Int × Int × (Nat → Int) × (Nat → Int)) :=
  if zi_w i_piled ≤ 0 then
    some (i_nCode, i_piled, i_nOp, i_nArg)
  else
    zn (i_piled - 1) fun v1 =>
    zg 400 i_pile v1 fun v2 =>
    zd1 (f_HM_binds v2) fun v3 =>
    if zi_w v3 < zi_w x1 then
      some (i_nCode, i_piled, i_nOp, i_nArg)
    else
      zn (i_piled - 1) fun v4 =>
      zg 400 i_pile v4 fun v5 =>
      if zi_w v5 = zi_w 28 then
        f_HM_settle_63 i_pile i_pileAt k0 x1 i_nCode v4 i_nOp i_nArg
      else
        zg 400 i_pile v4 fun v6 =>
        if zi_w v6 ≠ zi_w 29 then
          zg 400 i_pile v4 fun v7 =>
          zd3 (f_HM_emit v7 0 i_nCode i_nOp i_nArg) fun v8 a9 a10 =>
          k0 x1 v8 v4 a9 a10
        else
          f_HM_settle_63 i_pile i_pileAt k0 x1 i_nCode v4 i_nOp i_nArg
def f_HM_settle_0 (i_pile : Nat → Int) (i_pileAt : Nat → Int) : Nat → Int → Int → Int → (Nat → Int) → (Nat → Int) → Option (Int × Int × (Nat → Int) × (Nat → Int))
  | 0 => fun _ _ _ _ _ => none
  | n + 1 => fun y0 y1 y2 y3 y4 => f_HM_settle_0_b i_pile i_pileAt (f_HM_settle_0 i_pile i_pileAt n) y0 y1 y2 y3 y4
def f_HM_settle (x1 : Int) (i_pile : Nat → Int) (i_pileAt : Nat → Int) (i_nCode : Int) (i_piled : Int) (i_nOp : Nat → Int) (i_nArg : Nat → Int) : Option (Int × Int × (Nat → Int) × (Nat → Int)) :=
  f_HM_settle_0 i_pile i_pileAt zfu x1 i_nCode i_piled i_nOp i_nArg
def f_HM_push (x1 : Int) (x2 : Int) (i_piled : Int) (i_pile : Nat → Int) (i_pileAt : Nat → Int) : Option (Int × (Nat → Int) × (Nat → Int)) :=
  zs 400 i_pile i_piled x1 fun a1 =>
  zs 400 i_pileAt i_piled x2 fun a2 =>
  zn (i_piled + 1) fun v3 =>
  some (v3, a1, a2)
def f_HM_openBracket_15 (i_taped : Int) (i_tape : Nat → Int) (x1 : Int) (s1 : Int) (i_from : Int) (i_to : Int) (i_sort : Int) (i_worth : Int) (i_fault : Int) (i_bad : Int) (i_piled : Int) (i_opened : Int) (i_pile : Nat → Int) (i_pileAt : Nat → Int) : Option (Int × Int × Int × Int × Int × Int × Int × Int × (Nat → Int) × (Nat → Int)) :=
  zd6 (f_HM_must s1 i_taped i_tape i_from i_to i_sort i_worth i_fault i_bad) fun v1 v2 v3 v4 v5 v6 =>
  if zi_w v6 ≠ 0 then
    some (v1, v2, v3, v4, v5, v6, i_piled, i_opened, i_pile, i_pileAt)
  else
    zn (i_opened + 1) fun v7 =>
    zd3 (f_HM_push x1 0 i_piled i_pile i_pileAt) fun v8 a9 a10 =>
    some (v1, v2, v3, v4, v5, v6, v8, v7, a9, a10)
def f_HM_openBracket (x1 : Int) (i_taped : Int) (i_tape : Nat → Int) (i_from : Int) (i_to : Int) (i_sort : Int) (i_worth : Int) (i_fault : Int) (i_bad : Int) (i_piled : Int) (i_opened : Int) (i_pile : Nat → Int) (i_pileAt : Nat → Int) : Option (Int × Int × Int × Int × Int × Int × Int × Int × (Nat → Int) × (Nat → Int)) :=
  if zi_w 8 ≤ zi_w i_opened then
    f_HM_openBracket_15 i_taped i_tape x1 0 i_from i_to i_sort i_worth i_fault i_bad i_piled i_opened i_pile i_pileAt
  else
    f_HM_openBracket_15 i_taped i_tape x1 1 i_from i_to i_sort i_worth i_fault i_bad i_piled i_opened i_pile i_pileAt
def f_HM_isSign (x1 : Int) (i_sort : Int) (i_worth : Int) : Option (Int) :=
  if zi_w i_sort ≠ zi_w 3 then
    some 0
  else
    zn (zi_w x1) fun v1 =>
    if zl_w i_worth ≠ zl_w v1 then
      some 0
    else
      some 1
def f_HM_leaf_19 (i_taped : Int) (i_tape : Nat → Int) (x2 : Int) (x3 : Int) (s1 : Int) (i_from : Int) (i_to : Int) (i_sort : Int) (i_worth : Int) (i_fault : Int) (i_bad : Int) (i_nCode : Int) (i_nLeaves : Int) (i_nOp : Nat → Int) (i_nArg : Nat → Int) : Option (Int × Int × Int × Int × Int × Int × Int × Int × (Nat → Int) × (Nat → Int)) :=
  zd6 (f_HM_must s1 i_taped i_tape i_from i_to i_sort i_worth i_fault i_bad) fun v1 v2 v3 v4 v5 v6 =>
  if zi_w v6 ≠ 0 then
    some (v1, v2, v3, v4, v5, v6, i_nCode, i_nLeaves, i_nOp, i_nArg)
  else
    zd3 (f_HM_emit x2 x3 i_nCode i_nOp i_nArg) fun v7 a8 a9 =>
    zn (i_nLeaves + 1) fun v10 =>
    some (v1, v2, v3, v4, v5, v6, v7, v10, a8, a9)
def f_HM_leaf_18 (i_taped : Int) (i_tape : Nat → Int) (x2 : Int) (x3 : Int) (i_from : Int) (i_to : Int) (i_sort : Int) (i_worth : Int) (i_fault : Int) (i_bad : Int) (i_nCode : Int) (i_nLeaves : Int) (i_nOp : Nat → Int) (i_nArg : Nat → Int) : Option (Int × Int × Int × Int × Int × Int × Int × Int × (Nat → Int) × (Nat → Int)) :=
  f_HM_leaf_19 i_taped i_tape x2 x3 0 i_from i_to i_sort i_worth i_fault i_bad i_nCode i_nLeaves i_nOp i_nArg
def f_HM_leaf (x1 : Int) (x2 : Int) (x3 : Int) (i_taped : Int) (i_tape : Nat → Int) (i_from : Int) (i_to : Int) (i_sort : Int) (i_worth : Int) (i_fault : Int) (i_bad : Int) (i_nCode : Int) (i_nLeaves : Int) (i_nOp : Nat → Int) (i_nArg : Nat → Int) : Option (Int × Int × Int × Int × Int × Int × Int × Int × (Nat → Int) × (Nat → Int)) :=
  if zi_w x1 = 0 then
    f_HM_leaf_18 i_taped i_tape x2 x3 i_from i_to i_sort i_worth i_fault i_bad i_nCode i_nLeaves i_nOp i_nArg
  else
    if zi_w 50 ≤ zi_w i_nLeaves then
      f_HM_leaf_18 i_taped i_tape x2 x3 i_from i_to i_sort i_worth i_fault i_bad i_nCode i_nLeaves i_nOp i_nArg
    else
      f_HM_leaf_19 i_taped i_tape x2 x3 1 i_from i_to i_sort i_worth i_fault i_bad i_nCode i_nLeaves i_nOp i_nArg
def f_HM_partAt_30 (i_sort : Int) (i_worth : Int) (i_words : Nat → Int) (k4 : Int → Int → Option (Int)) (x2 : Int) (s0 : Int) : Option (Int) :=
  zn (x2 + 1) fun v1 =>
  k4 s0 v1
def f_HM_partAt_4_b (i_sort : Int) (i_worth : Int) (i_words : Nat → Int) (k4 : Int → Int → Option (Int)) (x1 : Int) (x2 : Int) : Option (Int) :=
  if zi_w 8 ≤ zi_w x2 then
    some x1
  else
    zg 8 i_words x2 fun v1 =>
    zd1 (f_HM_isWord v1 i_sort i_worth) fun v2 =>
    if zi_w v2 = 0 then
      f_HM_partAt_30 i_sort i_worth i_words k4 x2 x1
    else
      zn (x2 + 1) fun v3 =>
      f_HM_partAt_30 i_sort i_worth i_words k4 x2 v3
def f_HM_partAt_4 (i_sort : Int) (i_worth : Int) (i_words : Nat → Int) : Nat → Int → Int → Option (Int)
  | 0 => fun _ _ => none
  | n + 1 => fun y0 y1 => f_HM_partAt_4_b i_sort i_worth i_words (f_HM_partAt_4 i_sort i_worth i_words n) y0 y1
def f_HM_partAt (i_sort : Int) (i_worth : Int) (i_words : Nat → Int) : Option (Int) :=
  f_HM_partAt_4 i_sort i_worth i_words zfu (-1) 0
def f_HM_readPart_85 (i_taped : Int) (i_tape : Nat → Int) (i_words : Nat → Int) (s1 : Int) (s2 : Int) (s3 : Int) (i_from : Int) (i_to : Int) (i_sort : Int) (i_worth : Int) (i_fault : Int) (i_bad : Int) (i_nCode : Int) (i_nLeaves : Int) (i_piled : Int) (i_opened : Int) (i_nOp : Nat → Int) (i_nArg : Nat → Int) (i_pile : Nat → Int) (i_pileAt : Nat → Int) : Option (Int × Int × Int × Int × Int × Int × Int × Int × Int × Int × Int × (Nat → Int) × (Nat → Int) × (Nat → Int) × (Nat → Int)) :=
  zd10 (f_HM_leaf s1 s2 s3 i_taped i_tape i_from i_to i_sort i_worth i_fault i_bad i_nCode i_nLeaves i_nOp i_nArg) fun v1 v2 v3 v4 v5 v6 v7 v8 a9 a10 =>
  some (3, v1, v2, v3, v4, v5, v6, v7, v8, i_piled, i_opened, a9, a10, i_pile, i_pileAt)
def f_HM_readPart_72 (i_taped : Int) (i_tape : Nat → Int) (i_words : Nat → Int) (x2 : Int) (s1 : Int) (s2 : Int) (i_from : Int) (i_to : Int) (i_sort : Int) (i_worth : Int) (i_fault : Int) (i_bad : Int) (i_nCode : Int) (i_nLeaves : Int) (i_piled : Int) (i_opened : Int) (i_nOp : Nat → Int) (i_nArg : Nat → Int) (i_pile : Nat → Int) (i_pileAt : Nat → Int) : Option (Int × Int × Int × Int × Int × Int × Int × Int × Int × Int × Int × (Nat → Int) × (Nat → Int) × (Nat → Int) × (Nat → Int)) :=
  if zi_w x2 = 0 then
    f_HM_readPart_85 i_taped i_tape i_words s1 s2 0 i_from i_to i_sort i_worth i_fault i_bad i_nCode i_nLeaves i_piled i_opened i_nOp i_nArg i_pile i_pileAt
  else
    f_HM_readPart_85 i_taped i_tape i_words s1 s2 i_worth i_from i_to i_sort i_worth i_fault i_bad i_nCode i_nLeaves i_piled i_opened i_nOp i_nArg i_pile i_pileAt
def f_HM_readPart_62 (i_taped : Int) (i_tape : Nat → Int) (i_words : Nat → Int) (x1 : Int) (x2 : Int) (s1 : Int) (i_from : Int) (i_to : Int) (i_sort : Int) (i_worth : Int) (i_fault : Int) (i_bad : Int) (i_nCode : Int) (i_nLeaves : Int) (i_piled : Int) (i_opened : Int) (i_nOp : Nat → Int) (i_nArg : Nat → Int) (i_pile : Nat → Int) (i_pileAt : Nat → Int) : Option (Int × Int × Int × Int × Int × Int × Int × Int × Int × Int × Int × (Nat → Int) × (Nat → Int) × (Nat → Int) × (Nat → Int)) :=
  if zi_w x1 ≠ zi_w (-1) then
    f_HM_readPart_72 i_taped i_tape i_words x2 s1 x1 i_from i_to i_sort i_worth i_fault i_bad i_nCode i_nLeaves i_piled i_opened i_nOp i_nArg i_pile i_pileAt
  else
    f_HM_readPart_72 i_taped i_tape i_words x2 s1 0 i_from i_to i_sort i_worth i_fault i_bad i_nCode i_nLeaves i_piled i_opened i_nOp i_nArg i_pile i_pileAt
def f_HM_readPart_57 (i_taped : Int) (i_tape : Nat → Int) (i_words : Nat → Int) (x1 : Int) (x2 : Int) (i_from : Int) (i_to : Int) (i_sort : Int) (i_worth : Int) (i_fault : Int) (i_bad : Int) (i_nCode : Int) (i_nLeaves : Int) (i_piled : Int) (i_opened : Int) (i_nOp : Nat → Int) (i_nArg : Nat → Int) (i_pile : Nat → Int) (i_pileAt : Nat → Int) : Option (Int × Int × Int × Int × Int × Int × Int × Int × Int × Int × Int × (Nat → Int) × (Nat → Int) × (Nat → Int) × (Nat → Int)) :=
  f_HM_readPart_62 i_taped i_tape i_words x1 x2 1 i_from i_to i_sort i_worth i_fault i_bad i_nCode i_nLeaves i_piled i_opened i_nOp i_nArg i_pile i_pileAt
def f_HM_readPart_46 (i_taped : Int) (i_tape : Nat → Int) (i_words : Nat → Int) (x1 : Int) (s0 : Int) (i_from : Int) (i_to : Int) (i_sort : Int) (i_worth : Int) (i_fault : Int) (i_bad : Int) (i_nCode : Int) (i_nLeaves : Int) (i_piled : Int) (i_opened : Int) (i_nOp : Nat → Int) (i_nArg : Nat → Int) (i_pile : Nat → Int) (i_pileAt : Nat → Int) : Option (Int × Int × Int × Int × Int × Int × Int × Int × Int × Int × Int × (Nat → Int) × (Nat → Int) × (Nat → Int) × (Nat → Int)) :=
  if zi_w x1 ≠ zi_w (-1) then
    f_HM_readPart_57 i_taped i_tape i_words x1 s0 i_from i_to i_sort i_worth i_fault i_bad i_nCode i_nLeaves i_piled i_opened i_nOp i_nArg i_pile i_pileAt
  else
    if zi_w s0 = 0 then
      f_HM_readPart_62 i_taped i_tape i_words x1 s0 0 i_from i_to i_sort i_worth i_fault i_bad i_nCode i_nLeaves i_piled i_opened i_nOp i_nArg i_pile i_pileAt
    else
      f_HM_readPart_57 i_taped i_tape i_words x1 s0 i_from i_to i_sort i_worth i_fault i_bad i_nCode i_nLeaves i_piled i_opened i_nOp i_nArg i_pile i_pileAt
def f_HM_readPart_45 (i_taped : Int) (i_tape : Nat → Int) (i_words : Nat → Int) (x1 : Int) (i_from : Int) (i_to : Int) (i_sort : Int) (i_worth : Int) (i_fault : Int) (i_bad : Int) (i_nCode : Int) (i_nLeaves : Int) (i_piled : Int) (i_opened : Int) (i_nOp : Nat → Int) (i_nArg : Nat → Int) (i_pile : Nat → Int) (i_pileAt : Nat → Int) : Option (Int × Int × Int × Int × Int × Int × Int × Int × Int × Int × Int × (Nat → Int) × (Nat → Int) × (Nat → Int) × (Nat → Int)) :=
  f_HM_readPart_46 i_taped i_tape i_words x1 0 i_from i_to i_sort i_worth i_fault i_bad i_nCode i_nLeaves i_piled i_opened i_nOp i_nArg i_pile i_pileAt
def f_HM_readPart (i_taped : Int) (i_tape : Nat → Int) (i_words : Nat → Int) (i_from : Int) (i_to : Int) (i_sort : Int) (i_worth : Int) (i_fault : Int) (i_bad : Int) (i_nCode : Int) (i_nLeaves : Int) (i_piled : Int) (i_opened : Int) (i_nOp : Nat → Int) (i_nArg : Nat → Int) (i_pile : Nat → Int) (i_pileAt : Nat → Int) : Option (Int × Int × Int × Int × Int × Int × Int × Int × Int × Int × Int × (Nat → Int) × (Nat → Int) × (Nat → Int) × (Nat → Int)) :=
  zd1 (f_HM_isSign 91 i_sort i_worth) fun v1 =>
  if zi_w v1 = 0 then
    zd1 (f_HM_partAt i_sort i_worth i_words) fun v2 =>
    if zi_w i_sort ≠ zi_w 2 then
      f_HM_readPart_45 i_taped i_tape i_words v2 i_from i_to i_sort i_worth i_fault i_bad i_nCode i_nLeaves i_piled i_opened i_nOp i_nArg i_pile i_pileAt
    else
      if zl_w 1000 < zl_w i_worth then
        f_HM_readPart_45 i_taped i_tape i_words v2 i_from i_to i_sort i_worth i_fault i_bad i_nCode i_nLeaves i_piled i_opened i_nOp i_nArg i_pile i_pileAt
      else
        f_HM_readPart_46 i_taped i_tape i_words v2 1 i_from i_to i_sort i_worth i_fault i_bad i_nCode i_nLeaves i_piled i_opened i_nOp i_nArg i_pile i_pileAt
  else
    zd10 (f_HM_openBracket 31 i_taped i_tape i_from i_to i_sort i_worth i_fault i_bad i_piled i_opened i_pile i_pileAt) fun v3 v4 v5 v6 v7 v8 v9 v10 a11 a12 =>
    some (1, v3, v4, v5, v6, v7, v8, i_nCode, i_nLeaves, v9, v10, i_nOp, i_nArg, a11, a12)
def f_HM_readPlain (i_taped : Int) (i_tape : Nat → Int) (i_words : Nat → Int) (i_from : Int) (i_to : Int) (i_sort : Int) (i_worth : Int) (i_fault : Int) (i_bad : Int) (i_nCode : Int) (i_nLeaves : Int) (i_piled : Int) (i_opened : Int) (i_nOp : Nat → Int) (i_nArg : Nat → Int) (i_pile : Nat → Int) (i_pileAt : Nat → Int) : Option (Int × Int × Int × Int × Int × Int × Int × Int × Int × Int × Int × (Nat → Int) × (Nat → Int) × (Nat → Int) × (Nat → Int)) :=
  zd1 (f_HM_isWord 14836 i_sort i_worth) fun v1 =>
  if zi_w v1 = 0 then
    zd1 (f_HM_isSign 40 i_sort i_worth) fun v2 =>
    if zi_w v2 = 0 then
      zd15 (f_HM_readPart i_taped i_tape i_words i_from i_to i_sort i_worth i_fault i_bad i_nCode i_nLeaves i_piled i_opened i_nOp i_nArg i_pile i_pileAt) fun v3 v4 v5 v6 v7 v8 v9 v10 v11 v12 v13 a14 a15 a16 a17 =>
      some (v3, v4, v5, v6, v7, v8, v9, v10, v11, v12, v13, a14, a15, a16, a17)
    else
      zd10 (f_HM_openBracket 30 i_taped i_tape i_from i_to i_sort i_worth i_fault i_bad i_piled i_opened i_pile i_pileAt) fun v18 v19 v20 v21 v22 v23 v24 v25 a26 a27 =>
      some (0, v18, v19, v20, v21, v22, v23, i_nCode, i_nLeaves, v24, v25, i_nOp, i_nArg, a26, a27)
  else
    zd3 (f_HM_push 27 0 i_piled i_pile i_pileAt) fun v28 a29 a30 =>
    zd4 (f_HM_next i_taped i_tape i_from i_to i_sort i_worth) fun v31 v32 v33 v34 =>
    some (0, v31, v32, v33, v34, i_fault, i_bad, i_nCode, i_nLeaves, v28, i_opened, i_nOp, i_nArg, a29, a30)
def f_HM_inner_33 (i_piled : Int) (i_pile : Nat → Int) (k4 : Int → Int → Option (Int)) (x2 : Int) (s0 : Int) : Option (Int) :=
  zn (x2 + 1) fun v1 =>
  k4 s0 v1
def f_HM_inner_4_b (i_piled : Int) (i_pile : Nat → Int) (k4 : Int → Int → Option (Int)) (x1 : Int) (x2 : Int) : Option (Int) :=
  if zi_w i_piled ≤ zi_w x2 then
    some x1
  else
    zg 400 i_pile x2 fun v1 =>
    if zi_w v1 < zi_w 30 then
      f_HM_inner_33 i_piled i_pile k4 x2 x1
    else
      zg 400 i_pile x2 fun v2 =>
      f_HM_inner_33 i_piled i_pile k4 x2 v2
def f_HM_inner_4 (i_piled : Int) (i_pile : Nat → Int) : Nat → Int → Int → Option (Int)
  | 0 => fun _ _ => none
  | n + 1 => fun y0 y1 => f_HM_inner_4_b i_piled i_pile (f_HM_inner_4 i_piled i_pile n) y0 y1
def f_HM_inner (i_piled : Int) (i_pile : Nat → Int) : Option (Int) :=
  f_HM_inner_4 i_piled i_pile zfu (-1) 0
def f_HM_behindTest_66 (i_taped : Int) (i_tape : Nat → Int) (s1 : Int) (i_from : Int) (i_to : Int) (i_sort : Int) (i_worth : Int) (i_fault : Int) (i_bad : Int) (i_nCode : Int) (i_piled : Int) (i_opened : Int) (i_nOp : Nat → Int) (i_nArg : Nat → Int) (i_pile : Nat → Int) (i_pileAt : Nat → Int) : Option (Int × Int × Int × Int × Int × Int × Int × Int × Int × Int × (Nat → Int) × (Nat → Int) × (Nat → Int) × (Nat → Int)) :=
  zd3 (f_HM_emit s1 0 i_nCode i_nOp i_nArg) fun v1 a2 a3 =>
  zd4 (f_HM_next i_taped i_tape i_from i_to i_sort i_worth) fun v4 v5 v6 v7 =>
  some (0, v4, v5, v6, v7, i_fault, i_bad, v1, i_piled, i_opened, a2, a3, i_pile, i_pileAt)
def f_HM_behindTest_47 (i_taped : Int) (i_tape : Nat → Int) (x1 : Int) (s1 : Int) (i_from : Int) (i_to : Int) (i_sort : Int) (i_worth : Int) (i_fault : Int) (i_bad : Int) (i_nCode : Int) (i_piled : Int) (i_opened : Int) (i_nOp : Nat → Int) (i_nArg : Nat → Int) (i_pile : Nat → Int) (i_pileAt : Nat → Int) : Option (Int × Int × Int × Int × Int × Int × Int × Int × Int × Int × (Nat → Int) × (Nat → Int) × (Nat → Int) × (Nat → Int)) :=
  zd3 (f_HM_push s1 i_nCode i_piled i_pile i_pileAt) fun v1 a2 a3 =>
  if zi_w x1 = 0 then
    f_HM_behindTest_66 i_taped i_tape 29 i_from i_to i_sort i_worth i_fault i_bad i_nCode v1 i_opened i_nOp i_nArg a2 a3
  else
    f_HM_behindTest_66 i_taped i_tape 28 i_from i_to i_sort i_worth i_fault i_bad i_nCode v1 i_opened i_nOp i_nArg a2 a3
def f_HM_behindTest_32 (i_taped : Int) (i_tape : Nat → Int) (x1 : Int) (s1 : Int) (i_from : Int) (i_to : Int) (i_sort : Int) (i_worth : Int) (i_fault : Int) (i_bad : Int) (i_nCode : Int) (i_piled : Int) (i_opened : Int) (i_nOp : Nat → Int) (i_nArg : Nat → Int) (i_pile : Nat → Int) (i_pileAt : Nat → Int) : Option (Int × Int × Int × Int × Int × Int × Int × Int × Int × Int × (Nat → Int) × (Nat → Int) × (Nat → Int) × (Nat → Int)) :=
  zd4 (f_HM_settle s1 i_pile i_pileAt i_nCode i_piled i_nOp i_nArg) fun v1 v2 a3 a4 =>
  if zi_w x1 = 0 then
    f_HM_behindTest_47 i_taped i_tape x1 29 i_from i_to i_sort i_worth i_fault i_bad v1 v2 i_opened a3 a4 i_pile i_pileAt
  else
    f_HM_behindTest_47 i_taped i_tape x1 28 i_from i_to i_sort i_worth i_fault i_bad v1 v2 i_opened a3 a4 i_pile i_pileAt
def f_HM_behindTest_22 (i_taped : Int) (i_tape : Nat → Int) (x1 : Int) (i_from : Int) (i_to : Int) (i_sort : Int) (i_worth : Int) (i_fault : Int) (i_bad : Int) (i_nCode : Int) (i_piled : Int) (i_opened : Int) (i_nOp : Nat → Int) (i_nArg : Nat → Int) (i_pile : Nat → Int) (i_pileAt : Nat → Int) : Option (Int × Int × Int × Int × Int × Int × Int × Int × Int × Int × (Nat → Int) × (Nat → Int) × (Nat → Int) × (Nat → Int)) :=
  if zi_w x1 = 0 then
    f_HM_behindTest_32 i_taped i_tape x1 1 i_from i_to i_sort i_worth i_fault i_bad i_nCode i_piled i_opened i_nOp i_nArg i_pile i_pileAt
  else
    f_HM_behindTest_32 i_taped i_tape x1 2 i_from i_to i_sort i_worth i_fault i_bad i_nCode i_piled i_opened i_nOp i_nArg i_pile i_pileAt
def f_HM_behindTest (i_taped : Int) (i_tape : Nat → Int) (i_from : Int) (i_to : Int) (i_sort : Int) (i_worth : Int) (i_fault : Int) (i_bad : Int) (i_nCode : Int) (i_piled : Int) (i_opened : Int) (i_nOp : Nat → Int) (i_nArg : Nat → Int) (i_pile : Nat → Int) (i_pileAt : Nat → Int) : Option (Int × Int × Int × Int × Int × Int × Int × Int × Int × Int × (Nat → Int) × (Nat → Int) × (Nat → Int) × (Nat → Int)) :=
  zd1 (f_HM_isWord 1476 i_sort i_worth) fun v1 =>
  if zi_w v1 ≠ 0 then
    f_HM_behindTest_22 i_taped i_tape v1 i_from i_to i_sort i_worth i_fault i_bad i_nCode i_piled i_opened i_nOp i_nArg i_pile i_pileAt
  else
    zd1 (f_HM_isWord 498 i_sort i_worth) fun v2 =>
    if zi_w v2 = 0 then
      zd1 (f_HM_inner i_piled i_pile) fun v3 =>
      if zi_w v3 ≠ zi_w (-1) then
        zd1 (f_HM_isSign 41 i_sort i_worth) fun v4 =>
        zd6 (f_HM_must v4 i_taped i_tape i_from i_to i_sort i_worth i_fault i_bad) fun v5 v6 v7 v8 v9 v10 =>
        if zi_w v10 ≠ 0 then
          some (2, v5, v6, v7, v8, v9, v10, i_nCode, i_piled, i_opened, i_nOp, i_nArg, i_pile, i_pileAt)
        else
          zd4 (f_HM_settle 1 i_pile i_pileAt i_nCode i_piled i_nOp i_nArg) fun v11 v12 a13 a14 =>
          zn (v12 - 1) fun v15 =>
          zn (i_opened - 1) fun v16 =>
          some (2, v5, v6, v7, v8, v9, v10, v11, v15, v16, a13, a14, i_pile, i_pileAt)
      else
        some (4, i_from, i_to, i_sort, i_worth, i_fault, i_bad, i_nCode, i_piled, i_opened, i_nOp, i_nArg, i_pile, i_pileAt)
    else
      f_HM_behindTest_22 i_taped i_tape v1 i_from i_to i_sort i_worth i_fault i_bad i_nCode i_piled i_opened i_nOp i_nArg i_pile i_pileAt
def f_HM_isCompared_36 (i_piled : Int) (i_pile : Nat → Int) (x1 : Int) : Option (Int) :=
  if zi_w x1 < 0 then
    some 0
  else
    zg 400 i_pile x1 fun v1 =>
    zn (zi_w v1) fun v2 =>
    zd1 (f_HM_in v2 24 26) fun v3 =>
    if zi_w v3 = 0 then
      some 0
    else
      some 1
def f_HM_isCompared_7_b (i_piled : Int) (i_pile : Nat → Int) (k7 : Int → Option (Int)) (x1 : Int) : Option (Int) :=
  if zi_w x1 < 0 then
    f_HM_isCompared_36 i_piled i_pile x1
  else
    zg 400 i_pile x1 fun v1 =>
    zn (zi_w v1) fun v2 =>
    zd1 (f_HM_in v2 20 23) fun v3 =>
    if zi_w v3 = 0 then
      f_HM_isCompared_36 i_piled i_pile x1
    else
      zn (x1 + (-1)) fun v4 =>
      k7 v4
def f_HM_isCompared_7 (i_piled : Int) (i_pile : Nat → Int) : Nat → Int → Option (Int)
  | 0 => fun _ => none
  | n + 1 => fun y0 => f_HM_isCompared_7_b i_piled i_pile (f_HM_isCompared_7 i_piled i_pile n) y0
def f_HM_isCompared (i_piled : Int) (i_pile : Nat → Int) : Option (Int) :=
  zn (i_piled - 1) fun v1 =>
  f_HM_isCompared_7 i_piled i_pile zfu v1
def f_HM_behindSum_210 (i_taped : Int) (i_tape : Nat → Int) (x2 : Int) (s1 : Int) (i_from : Int) (i_to : Int) (i_sort : Int) (i_worth : Int) (i_fault : Int) (i_bad : Int) (i_nCode : Int) (i_piled : Int) (i_opened : Int) (i_nOp : Nat → Int) (i_nArg : Nat → Int) (i_pile : Nat → Int) (i_pileAt : Nat → Int) : Option (Int × Int × Int × Int × Int × Int × Int × Int × Int × Int × (Nat → Int) × (Nat → Int) × (Nat → Int) × (Nat → Int)) :=
  zd6 (f_HM_must s1 i_taped i_tape i_from i_to i_sort i_worth i_fault i_bad) fun v1 v2 v3 v4 v5 v6 =>
  if zi_w v6 ≠ 0 then
    some (1, v1, v2, v3, v4, v5, v6, i_nCode, i_piled, i_opened, i_nOp, i_nArg, i_pile, i_pileAt)
  else
    zd4 (f_HM_settle 5 i_pile i_pileAt i_nCode i_piled i_nOp i_nArg) fun v7 v8 a9 a10 =>
    zd3 (f_HM_push x2 0 v8 i_pile i_pileAt) fun v11 a12 a13 =>
    some (1, v1, v2, v3, v4, v5, v6, v7, v11, i_opened, a9, a10, a12, a13)
def f_HM_behindSum_205 (i_taped : Int) (i_tape : Nat → Int) (x2 : Int) (i_from : Int) (i_to : Int) (i_sort : Int) (i_worth : Int) (i_fault : Int) (i_bad : Int) (i_nCode : Int) (i_piled : Int) (i_opened : Int) (i_nOp : Nat → Int) (i_nArg : Nat → Int) (i_pile : Nat → Int) (i_pileAt : Nat → Int) : Option (Int × Int × Int × Int × Int × Int × Int × Int × Int × Int × (Nat → Int) × (Nat → Int) × (Nat → Int) × (Nat → Int)) :=
  f_HM_behindSum_210 i_taped i_tape x2 1 i_from i_to i_sort i_worth i_fault i_bad i_nCode i_piled i_opened i_nOp i_nArg i_pile i_pileAt
def f_HM_behindSum_188 (i_taped : Int) (i_tape : Nat → Int) (s0 : Int) (i_from : Int) (i_to : Int) (i_sort : Int) (i_worth : Int) (i_fault : Int) (i_bad : Int) (i_nCode : Int) (i_piled : Int) (i_opened : Int) (i_nOp : Nat → Int) (i_nArg : Nat → Int) (i_pile : Nat → Int) (i_pileAt : Nat → Int) : Option (Int × Int × Int × Int × Int × Int × Int × Int × Int × Int × (Nat → Int) × (Nat → Int) × (Nat → Int) × (Nat → Int)) :=
  if zi_w s0 ≠ zi_w 26 then
    f_HM_behindSum_205 i_taped i_tape s0 i_from i_to i_sort i_worth i_fault i_bad i_nCode i_piled i_opened i_nOp i_nArg i_pile i_pileAt
  else
    zd1 (f_HM_isSign 61 i_sort i_worth) fun v1 =>
    if zi_w v1 = 0 then
      f_HM_behindSum_210 i_taped i_tape s0 0 i_from i_to i_sort i_worth i_fault i_bad i_nCode i_piled i_opened i_nOp i_nArg i_pile i_pileAt
    else
      f_HM_behindSum_205 i_taped i_tape s0 i_from i_to i_sort i_worth i_fault i_bad i_nCode i_piled i_opened i_nOp i_nArg i_pile i_pileAt
def f_HM_behindSum_149 (i_taped : Int) (i_tape : Nat → Int) (i_from : Int) (i_to : Int) (i_sort : Int) (i_worth : Int) (i_fault : Int) (i_bad : Int) (i_nCode : Int) (i_piled : Int) (i_opened : Int) (i_nOp : Nat → Int) (i_nArg : Nat → Int) (i_pile : Nat → Int) (i_pileAt : Nat → Int) : Option (Int × Int × Int × Int × Int × Int × Int × Int × Int × Int × (Nat → Int) × (Nat → Int) × (Nat → Int) × (Nat → Int)) :=
  zd1 (f_HM_isCompared i_piled i_pile) fun v1 =>
  if zi_w v1 = 0 then
    zd1 (f_HM_isSign 60 i_sort i_worth) fun v2 =>
    if zi_w v2 = 0 then
      zd1 (f_HM_isSign 62 i_sort i_worth) fun v3 =>
      if zi_w v3 = 0 then
        f_HM_behindSum_188 i_taped i_tape 26 i_from i_to i_sort i_worth i_fault i_bad i_nCode i_piled i_opened i_nOp i_nArg i_pile i_pileAt
      else
        f_HM_behindSum_188 i_taped i_tape 25 i_from i_to i_sort i_worth i_fault i_bad i_nCode i_piled i_opened i_nOp i_nArg i_pile i_pileAt
    else
      f_HM_behindSum_188 i_taped i_tape 24 i_from i_to i_sort i_worth i_fault i_bad i_nCode i_piled i_opened i_nOp i_nArg i_pile i_pileAt
  else
    some (2, i_from, i_to, i_sort, i_worth, i_fault, i_bad, i_nCode, i_piled, i_opened, i_nOp, i_nArg, i_pile, i_pileAt)
def f_HM_behindSum_57 (i_taped : Int) (i_tape : Nat → Int) (x1 : Int) (s0 : Int) (i_from : Int) (i_to : Int) (i_sort : Int) (i_worth : Int) (i_fault : Int) (i_bad : Int) (i_nCode : Int) (i_piled : Int) (i_opened : Int) (i_nOp : Nat → Int) (i_nArg : Nat → Int) (i_pile : Nat → Int) (i_pileAt : Nat → Int) : Option (Int × Int × Int × Int × Int × Int × Int × Int × Int × Int × (Nat → Int) × (Nat → Int) × (Nat → Int) × (Nat → Int)) :=
  if zi_w s0 = zi_w (-1) then
    zd1 (f_HM_inner i_piled i_pile) fun v1 =>
    if zi_w v1 ≠ zi_w 31 then
      if zi_w v1 ≠ zi_w (-1) then
        f_HM_behindSum_149 i_taped i_tape i_from i_to i_sort i_worth i_fault i_bad i_nCode i_piled i_opened i_nOp i_nArg i_pile i_pileAt
      else
        if zi_w x1 ≠ 0 then
          f_HM_behindSum_149 i_taped i_tape i_from i_to i_sort i_worth i_fault i_bad i_nCode i_piled i_opened i_nOp i_nArg i_pile i_pileAt
        else
          some (4, i_from, i_to, i_sort, i_worth, i_fault, i_bad, i_nCode, i_piled, i_opened, i_nOp, i_nArg, i_pile, i_pileAt)
    else
      zd1 (f_HM_isSign 93 i_sort i_worth) fun v2 =>
      zd6 (f_HM_must v2 i_taped i_tape i_from i_to i_sort i_worth i_fault i_bad) fun v3 v4 v5 v6 v7 v8 =>
      if zi_w v8 ≠ 0 then
        some (3, v3, v4, v5, v6, v7, v8, i_nCode, i_piled, i_opened, i_nOp, i_nArg, i_pile, i_pileAt)
      else
        zd4 (f_HM_settle 5 i_pile i_pileAt i_nCode i_piled i_nOp i_nArg) fun v9 v10 a11 a12 =>
        zn (v10 - 1) fun v13 =>
        zn (i_opened - 1) fun v14 =>
        some (3, v3, v4, v5, v6, v7, v8, v9, v13, v14, a11, a12, i_pile, i_pileAt)
  else
    zd1 (f_HM_binds s0) fun v15 =>
    zd4 (f_HM_settle v15 i_pile i_pileAt i_nCode i_piled i_nOp i_nArg) fun v16 v17 a18 a19 =>
    zd3 (f_HM_push s0 0 v17 i_pile i_pileAt) fun v20 a21 a22 =>
    zd4 (f_HM_next i_taped i_tape i_from i_to i_sort i_worth) fun v23 v24 v25 v26 =>
    some (1, v23, v24, v25, v26, i_fault, i_bad, v16, v20, i_opened, a18, a19, a21, a22)
def f_HM_behindSum (x1 : Int) (i_taped : Int) (i_tape : Nat → Int) (i_from : Int) (i_to : Int) (i_sort : Int) (i_worth : Int) (i_fault : Int) (i_bad : Int) (i_nCode : Int) (i_piled : Int) (i_opened : Int) (i_nOp : Nat → Int) (i_nArg : Nat → Int) (i_pile : Nat → Int) (i_pileAt : Nat → Int) : Option (Int × Int × Int × Int × Int × Int × Int × Int × Int × Int × (Nat → Int) × (Nat → Int) × (Nat → Int) × (Nat → Int)) :=
  zd1 (f_HM_isSign 43 i_sort i_worth) fun v1 =>
  if zi_w v1 = 0 then
    zd1 (f_HM_isSign 45 i_sort i_worth) fun v2 =>
    if zi_w v2 = 0 then
      zd1 (f_HM_isSign 42 i_sort i_worth) fun v3 =>
      if zi_w v3 = 0 then
        zd1 (f_HM_isSign 47 i_sort i_worth) fun v4 =>
        if zi_w v4 = 0 then
          f_HM_behindSum_57 i_taped i_tape x1 (-1) i_from i_to i_sort i_worth i_fault i_bad i_nCode i_piled i_opened i_nOp i_nArg i_pile i_pileAt
        else
          f_HM_behindSum_57 i_taped i_tape x1 23 i_from i_to i_sort i_worth i_fault i_bad i_nCode i_piled i_opened i_nOp i_nArg i_pile i_pileAt
      else
        f_HM_behindSum_57 i_taped i_tape x1 22 i_from i_to i_sort i_worth i_fault i_bad i_nCode i_piled i_opened i_nOp i_nArg i_pile i_pileAt
    else
      f_HM_behindSum_57 i_taped i_tape x1 21 i_from i_to i_sort i_worth i_fault i_bad i_nCode i_piled i_opened i_nOp i_nArg i_pile i_pileAt
  else
    f_HM_behindSum_57 i_taped i_tape x1 20 i_from i_to i_sort i_worth i_fault i_bad i_nCode i_piled i_opened i_nOp i_nArg i_pile i_pileAt
def f_HM_readExpression_76 (i_taped : Int) (i_tape : Nat → Int) (i_words : Nat → Int) (i_from : Int) (i_to : Int) (i_sort : Int) (i_worth : Int) (i_fault : Int) (i_bad : Int) (i_nCode : Int) (i_nLeaves : Int) (i_piled : Int) (i_opened : Int) (i_nOp : Nat → Int) (i_nArg : Nat → Int) (i_pile : Nat → Int) (i_pileAt : Nat → Int) : Option (Int × Int × Int × Int × Int × Int × Int × Int × Int × Int × (Nat → Int) × (Nat → Int) × (Nat → Int) × (Nat → Int)) :=
  zd4 (f_HM_settle 1 i_pile i_pileAt i_nCode i_piled i_nOp i_nArg) fun v1 v2 a3 a4 =>
  some (i_from, i_to, i_sort, i_worth, i_fault, i_bad, v1, i_nLeaves, v2, i_opened, a3, a4, i_pile, i_pileAt)
def f_HM_readExpression_72 (i_taped : Int) (i_tape : Nat → Int) (i_words : Nat → Int) (k20 : Int → Int → Int → Int → Int → Int → Int → Int → Int → Int → Int → Int → (Nat → Int) → (Nat → Int) → (Nat → Int) → (Nat → Int) → Option (Int × Int × Int × Int × Int × Int × Int × Int × Int × Int × (Nat → Int) × (Nat → Int) × (Nat → Int) × (Nat → Int))) (x1 : Int) (s0 : Int) (i_from : Int) (i_to : Int) (i_sort : Int) (i_worth : Int) (i_fault : Int) (i_bad : Int) (i_nCode : Int) (i_nLeaves : Int) (i_piled : Int) (i_opened : Int) (i_nOp : Nat → Int) (i_nArg : Nat → Int) (i_pile : Nat → Int) (i_pileAt : Nat → Int) : Option (Int × Int × Int × Int × Int × Int × Int × Int × Int × Int × (Nat → Int) × (Nat → Int) × (Nat → Int) × (Nat → Int)) :=
  k20 x1 s0 i_from i_to i_sort i_worth i_fault i_bad i_nCode i_nLeaves i_piled i_opened i_nOp i_nArg i_pile i_pileAt
def f_HM_readExpression_20_b (i_taped : Int) (i_tape : Nat → Int) (i_words : Nat → Int) (k20 : Int → Int → Int → Int → Int → Int → Int → Int → Int → Int → Int → Int → (Nat → Int) → (Nat → Int) → (Nat → Int) → (Nat → Int) → Option (Int × Int × Int × Int × Int × Int × Int × Int × Int × Int × (Nat → Int) × (Nat → Int) × (Nat → Int) × (Nat → Int))) (x1 : Int) (x2 : Int) (i_from : Int) (i_to : Int) (i_sort : Int) (i_worth : Int) (i_fault : Int) (i_bad : Int) (i_nCode : Int) (i_nLeaves : Int) (i_piled : Int) (i_opened : Int) (i_nOp : Nat → Int) (i_nArg : Nat → Int) (i_pile : Nat → Int) (i_pileAt : Nat → Int) : Option (Int × Int × Int × Int × Int × Int × Int × Int × Int × Int × (Nat → Int) × (Nat → Int) × (Nat → Int) × (Nat → Int)) :=
  if zi_w i_bad ≠ 0 then
    f_HM_readExpression_76 i_taped i_tape i_words i_from i_to i_sort i_worth i_fault i_bad i_nCode i_nLeaves i_piled i_opened i_nOp i_nArg i_pile i_pileAt
  else
    if zi_w x2 = zi_w 4 then
      f_HM_readExpression_76 i_taped i_tape i_words i_from i_to i_sort i_worth i_fault i_bad i_nCode i_nLeaves i_piled i_opened i_nOp i_nArg i_pile i_pileAt
    else
      if zi_w x2 ≠ 0 then
        if zi_w x2 ≠ zi_w 1 then
          if zi_w x2 ≠ zi_w 3 then
            zd14 (f_HM_behindTest i_taped i_tape i_from i_to i_sort i_worth i_fault i_bad i_nCode i_piled i_opened i_nOp i_nArg i_pile i_pileAt) fun v1 v2 v3 v4 v5 v6 v7 v8 v9 v10 a11 a12 a13 a14 =>
            f_HM_readExpression_72 i_taped i_tape i_words k20 x1 v1 v2 v3 v4 v5 v6 v7 v8 i_nLeaves v9 v10 a11 a12 a13 a14
          else
            zd14 (f_HM_behindSum x1 i_taped i_tape i_from i_to i_sort i_worth i_fault i_bad i_nCode i_piled i_opened i_nOp i_nArg i_pile i_pileAt) fun v15 v16 v17 v18 v19 v20 v21 v22 v23 v24 a25 a26 a27 a28 =>
            f_HM_readExpression_72 i_taped i_tape i_words k20 x1 v15 v16 v17 v18 v19 v20 v21 v22 i_nLeaves v23 v24 a25 a26 a27 a28
        else
          zd15 (f_HM_readPart i_taped i_tape i_words i_from i_to i_sort i_worth i_fault i_bad i_nCode i_nLeaves i_piled i_opened i_nOp i_nArg i_pile i_pileAt) fun v29 v30 v31 v32 v33 v34 v35 v36 v37 v38 v39 a40 a41 a42 a43 =>
          f_HM_readExpression_72 i_taped i_tape i_words k20 x1 v29 v30 v31 v32 v33 v34 v35 v36 v37 v38 v39 a40 a41 a42 a43
      else
        zd15 (f_HM_readPlain i_taped i_tape i_words i_from i_to i_sort i_worth i_fault i_bad i_nCode i_nLeaves i_piled i_opened i_nOp i_nArg i_pile i_pileAt) fun v44 v45 v46 v47 v48 v49 v50 v51 v52 v53 v54 a55 a56 a57 a58 =>
        f_HM_readExpression_72 i_taped i_tape i_words k20 x1 v44 v45 v46 v47 v48 v49 v50 v51 v52 v53 v54 a55 a56 a57 a58
def f_HM_readExpression_20 (i_taped : Int) (i_tape : Nat → Int) (i_words : Nat → Int) : Nat → Int → Int → Int → Int → Int → Int → Int → Int → Int → Int → Int → Int → (Nat → Int) → (Nat → Int) → (Nat → Int) → (Nat → Int) → Option (Int × Int × Int × Int × Int × Int × Int × Int × Int × Int × (Nat → Int) × (Nat → Int) × (Nat → Int) × (Nat → Int))
  | 0 => fun _ _ _ _ _ _ _ _ _ _ _ _ _ _ _ _ => none
  | n + 1 => fun y0 y1 y2 y3 y4 y5 y6 y7 y8 y9 y10 y11 y12 y13 y14 y15 => f_HM_readExpression_20_b i_taped i_tape i_words (f_HM_readExpression_20 i_taped i_tape i_words n) y0 y1 y2 y3 y4 y5 y6 y7 y8 y9 y10 y11 y12 y13 y14 y15
def f_HM_readExpression_19 (i_taped : Int) (i_tape : Nat → Int) (i_words : Nat → Int) (x1 : Int) (s0 : Int) (i_from : Int) (i_to : Int) (i_sort : Int) (i_worth : Int) (i_fault : Int) (i_bad : Int) (i_nCode : Int) (i_nLeaves : Int) (i_piled : Int) (i_opened : Int) (i_nOp : Nat → Int) (i_nArg : Nat → Int) (i_pile : Nat → Int) (i_pileAt : Nat → Int) : Option (Int × Int × Int × Int × Int × Int × Int × Int × Int × Int × (Nat → Int) × (Nat → Int) × (Nat → Int) × (Nat → Int)) :=
  f_HM_readExpression_20 i_taped i_tape i_words zfu x1 s0 i_from i_to i_sort i_worth i_fault i_bad i_nCode i_nLeaves i_piled i_opened i_nOp i_nArg i_pile i_pileAt
def f_HM_readExpression (x1 : Int) (i_taped : Int) (i_tape : Nat → Int) (i_words : Nat → Int) (i_from : Int) (i_to : Int) (i_sort : Int) (i_worth : Int) (i_fault : Int) (i_bad : Int) (i_nCode : Int) (i_nLeaves : Int) (i_piled : Int) (i_opened : Int) (i_nOp : Nat → Int) (i_nArg : Nat → Int) (i_pile : Nat → Int) (i_pileAt : Nat → Int) : Option (Int × Int × Int × Int × Int × Int × Int × Int × Int × Int × (Nat → Int) × (Nat → Int) × (Nat → Int) × (Nat → Int)) :=
  if zi_w x1 = 0 then
    f_HM_readExpression_19 i_taped i_tape i_words x1 1 i_from i_to i_sort i_worth i_fault i_bad i_nCode i_nLeaves 0 0 i_nOp i_nArg i_pile i_pileAt
  else
    f_HM_readExpression_19 i_taped i_tape i_words x1 0 i_from i_to i_sort i_worth i_fault i_bad i_nCode i_nLeaves 0 0 i_nOp i_nArg i_pile i_pileAt
def f_HM_readClause_180 (i_taped : Int) (i_tape : Nat → Int) (i_words : Nat → Int) (x2 : Int) (i_from : Int) (i_to : Int) (i_sort : Int) (i_worth : Int) (i_fault : Int) (i_bad : Int) (i_nClauses : Int) (i_nCode : Int) (i_nLeaves : Int) (i_piled : Int) (i_opened : Int) (i_nClause : Nat → Int) (i_nOp : Nat → Int) (i_nArg : Nat → Int) (i_pile : Nat → Int) (i_pileAt : Nat → Int) : Option (Int × Int × Int × Int × Int × Int × Int × Int × Int × Int × Int × (Nat → Int) × (Nat → Int) × (Nat → Int) × (Nat → Int) × (Nat → Int)) :=
  zn (x2 + 6) fun v1 =>
  zs 96 i_nClause v1 i_nCode fun a2 =>
  some (i_from, i_to, i_sort, i_worth, i_fault, i_bad, i_nClauses, i_nCode, i_nLeaves, i_piled, i_opened, a2, i_nOp, i_nArg, i_pile, i_pileAt)
def f_HM_readClause_130 (i_taped : Int) (i_tape : Nat → Int) (i_words : Nat → Int) (x2 : Int) (i_from : Int) (i_to : Int) (i_sort : Int) (i_worth : Int) (i_fault : Int) (i_bad : Int) (i_nClauses : Int) (i_nCode : Int) (i_nLeaves : Int) (i_piled : Int) (i_opened : Int) (i_nClause : Nat → Int) (i_nOp : Nat → Int) (i_nArg : Nat → Int) (i_pile : Nat → Int) (i_pileAt : Nat → Int) : Option (Int × Int × Int × Int × Int × Int × Int × Int × Int × Int × Int × (Nat → Int) × (Nat → Int) × (Nat → Int) × (Nat → Int) × (Nat → Int)) :=
  zn (x2 + 4) fun v1 =>
  zs 96 i_nClause v1 i_nCode fun a2 =>
  zn (x2 + 5) fun v3 =>
  zs 96 a2 v3 i_nCode fun a4 =>
  if zi_w i_bad ≠ 0 then
    f_HM_readClause_180 i_taped i_tape i_words x2 i_from i_to i_sort i_worth i_fault i_bad i_nClauses i_nCode i_nLeaves i_piled i_opened a4 i_nOp i_nArg i_pile i_pileAt
  else
    zd1 (f_HM_isWord 294 i_sort i_worth) fun v5 =>
    if zi_w v5 = 0 then
      f_HM_readClause_180 i_taped i_tape i_words x2 i_from i_to i_sort i_worth i_fault i_bad i_nClauses i_nCode i_nLeaves i_piled i_opened a4 i_nOp i_nArg i_pile i_pileAt
    else
      zd4 (f_HM_next i_taped i_tape i_from i_to i_sort i_worth) fun v6 v7 v8 v9 =>
      zd14 (f_HM_readExpression 1 i_taped i_tape i_words v6 v7 v8 v9 i_fault i_bad i_nCode i_nLeaves i_piled i_opened i_nOp i_nArg i_pile i_pileAt) fun v10 v11 v12 v13 v14 v15 v16 v17 v18 v19 a20 a21 a22 a23 =>
      f_HM_readClause_180 i_taped i_tape i_words x2 v10 v11 v12 v13 v14 v15 i_nClauses v16 v17 v18 v19 a4 a20 a21 a22 a23
def f_HM_readClause_71_b (i_taped : Int) (i_tape : Nat → Int) (i_words : Nat → Int) (k71 : Int → Int → Int → Int → Int → Int → Int → Int → Int → Int → Int → Int → Int → Int → (Nat → Int) → (Nat → Int) → (Nat → Int) → (Nat → Int) → (Nat → Int) → Option (Int × Int × Int × Int × Int × Int × Int × Int × Int × Int × Int × (Nat → Int) × (Nat → Int) × (Nat → Int) × (Nat → Int) × (Nat → Int))) (x1 : Int) (x2 : Int) (x3 : Int) (i_from : Int) (i_to : Int) (i_sort : Int) (i_worth : Int) (i_fault : Int) (i_bad : Int) (i_nClauses : Int) (i_nCode : Int) (i_nLeaves : Int) (i_piled : Int) (i_opened : Int) (i_nClause : Nat → Int) (i_nOp : Nat → Int) (i_nArg : Nat → Int) (i_pile : Nat → Int) (i_pileAt : Nat → Int) : Option (Int × Int × Int × Int × Int × Int × Int × Int × Int × Int × Int × (Nat → Int) × (Nat → Int) × (Nat → Int) × (Nat → Int) × (Nat → Int)) :=
  if zi_w 8 ≤ zi_w x3 then
    zs 96 i_nClause x2 x1 fun a1 =>
    zn (i_nClauses + 1) fun v2 =>
    zn (x2 + 3) fun v3 =>
    zs 96 a1 v3 i_nCode fun a4 =>
    if zi_w x1 ≠ 0 then
      f_HM_readClause_130 i_taped i_tape i_words x2 i_from i_to i_sort i_worth i_fault i_bad v2 i_nCode i_nLeaves i_piled i_opened a4 i_nOp i_nArg i_pile i_pileAt
    else
      zd14 (f_HM_readExpression 0 i_taped i_tape i_words i_from i_to i_sort i_worth i_fault i_bad i_nCode i_nLeaves i_piled i_opened i_nOp i_nArg i_pile i_pileAt) fun v5 v6 v7 v8 v9 v10 v11 v12 v13 v14 a15 a16 a17 a18 =>
      f_HM_readClause_130 i_taped i_tape i_words x2 v5 v6 v7 v8 v9 v10 v2 v11 v12 v13 v14 a4 a15 a16 a17 a18
  else
    zn (x2 + x3) fun v19 =>
    zs 96 i_nClause v19 0 fun a20 =>
    zn (x3 + 1) fun v21 =>
    k71 x1 x2 v21 i_from i_to i_sort i_worth i_fault i_bad i_nClauses i_nCode i_nLeaves i_piled i_opened a20 i_nOp i_nArg i_pile i_pileAt
def f_HM_readClause_71 (i_taped : Int) (i_tape : Nat → Int) (i_words : Nat → Int) : Nat → Int → Int → Int → Int → Int → Int → Int → Int → Int → Int → Int → Int → Int → Int → (Nat → Int) → (Nat → Int) → (Nat → Int) → (Nat → Int) → (Nat → Int) → Option (Int × Int × Int × Int × Int × Int × Int × Int × Int × Int × Int × (Nat → Int) × (Nat → Int) × (Nat → Int) × (Nat → Int) × (Nat → Int))
  | 0 => fun _ _ _ _ _ _ _ _ _ _ _ _ _ _ _ _ _ _ _ => none
  | n + 1 => fun y0 y1 y2 y3 y4 y5 y6 y7 y8 y9 y10 y11 y12 y13 y14 y15 y16 y17 y18 => f_HM_readClause_71_b i_taped i_tape i_words (f_HM_readClause_71 i_taped i_tape i_words n) y0 y1 y2 y3 y4 y5 y6 y7 y8 y9 y10 y11 y12 y13 y14 y15 y16 y17 y18
def f_HM_readClause_50 (i_taped : Int) (i_tape : Nat → Int) (i_words : Nat → Int) (x1 : Int) (s1 : Int) (i_from : Int) (i_to : Int) (i_sort : Int) (i_worth : Int) (i_fault : Int) (i_bad : Int) (i_nClauses : Int) (i_nCode : Int) (i_nLeaves : Int) (i_piled : Int) (i_opened : Int) (i_nClause : Nat → Int) (i_nOp : Nat → Int) (i_nArg : Nat → Int) (i_pile : Nat → Int) (i_pileAt : Nat → Int) : Option (Int × Int × Int × Int × Int × Int × Int × Int × Int × Int × Int × (Nat → Int) × (Nat → Int) × (Nat → Int) × (Nat → Int) × (Nat → Int)) :=
  zd6 (f_HM_must s1 i_taped i_tape i_from i_to i_sort i_worth i_fault i_bad) fun v1 v2 v3 v4 v5 v6 =>
  if zi_w v6 = 0 then
    zn (8 * i_nClauses) fun v7 =>
    f_HM_readClause_71 i_taped i_tape i_words zfu x1 v7 0 v1 v2 v3 v4 v5 v6 i_nClauses i_nCode i_nLeaves i_piled i_opened i_nClause i_nOp i_nArg i_pile i_pileAt
  else
    some (v1, v2, v3, v4, v5, v6, i_nClauses, i_nCode, i_nLeaves, i_piled, i_opened, i_nClause, i_nOp, i_nArg, i_pile, i_pileAt)
def f_HM_readClause_49 (i_taped : Int) (i_tape : Nat → Int) (i_words : Nat → Int) (x1 : Int) (i_from : Int) (i_to : Int) (i_sort : Int) (i_worth : Int) (i_fault : Int) (i_bad : Int) (i_nClauses : Int) (i_nCode : Int) (i_nLeaves : Int) (i_piled : Int) (i_opened : Int) (i_nClause : Nat → Int) (i_nOp : Nat → Int) (i_nArg : Nat → Int) (i_pile : Nat → Int) (i_pileAt : Nat → Int) : Option (Int × Int × Int × Int × Int × Int × Int × Int × Int × Int × Int × (Nat → Int) × (Nat → Int) × (Nat → Int) × (Nat → Int) × (Nat → Int)) :=
  f_HM_readClause_50 i_taped i_tape i_words x1 0 i_from i_to i_sort i_worth i_fault i_bad i_nClauses i_nCode i_nLeaves i_piled i_opened i_nClause i_nOp i_nArg i_pile i_pileAt
def f_HM_readClause_29 (i_taped : Int) (i_tape : Nat → Int) (i_words : Nat → Int) (s0 : Int) (i_from : Int) (i_to : Int) (i_sort : Int) (i_worth : Int) (i_fault : Int) (i_bad : Int) (i_nClauses : Int) (i_nCode : Int) (i_nLeaves : Int) (i_piled : Int) (i_opened : Int) (i_nClause : Nat → Int) (i_nOp : Nat → Int) (i_nArg : Nat → Int) (i_pile : Nat → Int) (i_pileAt : Nat → Int) : Option (Int × Int × Int × Int × Int × Int × Int × Int × Int × Int × Int × (Nat → Int) × (Nat → Int) × (Nat → Int) × (Nat → Int) × (Nat → Int)) :=
  if zi_w s0 = zi_w (-1) then
    f_HM_readClause_49 i_taped i_tape i_words s0 i_from i_to i_sort i_worth i_fault i_bad i_nClauses i_nCode i_nLeaves i_piled i_opened i_nClause i_nOp i_nArg i_pile i_pileAt
  else
    if zi_w 12 ≤ zi_w i_nClauses then
      f_HM_readClause_49 i_taped i_tape i_words s0 i_from i_to i_sort i_worth i_fault i_bad i_nClauses i_nCode i_nLeaves i_piled i_opened i_nClause i_nOp i_nArg i_pile i_pileAt
    else
      f_HM_readClause_50 i_taped i_tape i_words s0 1 i_from i_to i_sort i_worth i_fault i_bad i_nClauses i_nCode i_nLeaves i_piled i_opened i_nClause i_nOp i_nArg i_pile i_pileAt
def f_HM_readClause (i_taped : Int) (i_tape : Nat → Int) (i_words : Nat → Int) (i_from : Int) (i_to : Int) (i_sort : Int) (i_worth : Int) (i_fault : Int) (i_bad : Int) (i_nClauses : Int) (i_nCode : Int) (i_nLeaves : Int) (i_piled : Int) (i_opened : Int) (i_nClause : Nat → Int) (i_nOp : Nat → Int) (i_nArg : Nat → Int) (i_pile : Nat → Int) (i_pileAt : Nat → Int) : Option (Int × Int × Int × Int × Int × Int × Int × Int × Int × Int × Int × (Nat → Int) × (Nat → Int) × (Nat → Int) × (Nat → Int) × (Nat → Int)) :=
  zd1 (f_HM_isWord 21285043 i_sort i_worth) fun v1 =>
  if zi_w v1 = 0 then
    zd1 (f_HM_isWord 67155 i_sort i_worth) fun v2 =>
    if zi_w v2 = 0 then
      f_HM_readClause_29 i_taped i_tape i_words (-1) i_from i_to i_sort i_worth i_fault i_bad i_nClauses i_nCode i_nLeaves i_piled i_opened i_nClause i_nOp i_nArg i_pile i_pileAt
    else
      f_HM_readClause_29 i_taped i_tape i_words 1 i_from i_to i_sort i_worth i_fault i_bad i_nClauses i_nCode i_nLeaves i_piled i_opened i_nClause i_nOp i_nArg i_pile i_pileAt
  else
    f_HM_readClause_29 i_taped i_tape i_words 0 i_from i_to i_sort i_worth i_fault i_bad i_nClauses i_nCode i_nLeaves i_piled i_opened i_nClause i_nOp i_nArg i_pile i_pileAt
def f_HM_begin (i_taped : Int) (i_tape : Nat → Int) (i_from : Int) (i_to : Int) (i_sort : Int) (i_worth : Int) (i_fault : Int) (i_bad : Int) : Option (Int × Int × Int × Int × Int × Int) :=
  zd4 (f_HM_next i_taped i_tape i_from 0 i_sort i_worth) fun v1 v2 v3 v4 =>
  some (v1, v2, v3, v4, (-1), 0)
def f_HM_law_180_b (i_tape : Nat → Int) (i_words : Nat → Int) (k180 : Int → Int → Int → Int → Int → Int → Int → Int → Int → Int → Int → Int → Int → Int → Int → Int → (Nat → Int) → (Nat → Int) → (Nat → Int) → (Nat → Int) → (Nat → Int) → (Nat → Int) → (Nat → Int) → Option (Int × Int × Int × Int × Int × Int × Int × Int × Int × Int × Int × Int × Int × Int × Int × (Nat → Int) × (Nat → Int) × (Nat → Int) × (Nat → Int) × (Nat → Int) × (Nat → Int) × (Nat → Int))) (x1 : Int) (x2 : Int) (i_thrown : Int) (i_status : Int) (i_taped : Int) (i_from : Int) (i_to : Int) (i_sort : Int) (i_worth : Int) (i_fault : Int) (i_bad : Int) (i_nClauses : Int) (i_nCode : Int) (i_nLeaves : Int) (i_piled : Int) (i_opened : Int) (i_refusals : Nat → Int) (i_row : Nat → Int) (i_nClause : Nat → Int) (i_nOp : Nat → Int) (i_nArg : Nat → Int) (i_pile : Nat → Int) (i_pileAt : Nat → Int) : Option (Int × Int × Int × Int × Int × Int × Int × Int × Int × Int × Int × Int × Int × Int × Int × (Nat → Int) × (Nat → Int) × (Nat → Int) × (Nat → Int) × (Nat → Int) × (Nat → Int) × (Nat → Int)) :=
  if zi_w i_nCode ≤ zi_w x2 then
    zg 5580 i_row 3 fun v1 =>
    zn (v1 + 1) fun v2 =>
    zs 5580 i_row 3 v2 fun a3 =>
    zg 5580 a3 3 fun v4 =>
    zn (v4 - 1) fun v5 =>
    zd3 (f_HM_tell v5 i_status i_refusals) fun v6 v7 a8 =>
    some (v6, i_thrown, v7, i_taped, i_from, i_to, i_sort, i_worth, i_fault, i_bad, i_nClauses, i_nCode, i_nLeaves, i_piled, i_opened, a8, a3, i_nClause, i_nOp, i_nArg, i_pile, i_pileAt)
  else
    zn (x1 + 98) fun v9 =>
    zn (2 * x2) fun v10 =>
    zn (v9 + v10) fun v11 =>
    zg 400 i_nOp x2 fun v12 =>
    zs 5580 i_row v11 v12 fun a13 =>
    zn (x1 + 98) fun v14 =>
    zn (2 * x2) fun v15 =>
    zn (v14 + v15) fun v16 =>
    zn (v16 + 1) fun v17 =>
    zg 400 i_nArg x2 fun v18 =>
    zs 5580 a13 v17 v18 fun a19 =>
    zn (x2 + 1) fun v20 =>
    k180 x1 v20 i_thrown i_status i_taped i_from i_to i_sort i_worth i_fault i_bad i_nClauses i_nCode i_nLeaves i_piled i_opened i_refusals a19 i_nClause i_nOp i_nArg i_pile i_pileAt
def f_HM_law_180 (i_tape : Nat → Int) (i_words : Nat → Int) : Nat → Int → Int → Int → Int → Int → Int → Int → Int → Int → Int → Int → Int → Int → Int → Int → Int → (Nat → Int) → (Nat → Int) → (Nat → Int) → (Nat → Int) → (Nat → Int) → (Nat → Int) → (Nat → Int) → Option (Int × Int × Int × Int × Int × Int × Int × Int × Int × Int × Int × Int × Int × Int × Int × (Nat → Int) × (Nat → Int) × (Nat → Int) × (Nat → Int) × (Nat → Int) × (Nat → Int) × (Nat → Int))
  | 0 => fun _ _ _ _ _ _ _ _ _ _ _ _ _ _ _ _ _ _ _ _ _ _ _ => none
  | n + 1 => fun y0 y1 y2 y3 y4 y5 y6 y7 y8 y9 y10 y11 y12 y13 y14 y15 y16 y17 y18 y19 y20 y21 y22 => f_HM_law_180_b i_tape i_words (f_HM_law_180 i_tape i_words n) y0 y1 y2 y3 y4 y5 y6 y7 y8 y9 y10 y11 y12 y13 y14 y15 y16 y17 y18 y19 y20 y21 y22
def f_HM_law_145_b (i_tape : Nat → Int) (i_words : Nat → Int) (k145 : Int → Int → Int → Int → Int → Int → Int → Int → Int → Int → Int → Int → Int → Int → Int → Int → (Nat → Int) → (Nat → Int) → (Nat → Int) → (Nat → Int) → (Nat → Int) → (Nat → Int) → (Nat → Int) → Option (Int × Int × Int × Int × Int × Int × Int × Int × Int × Int × Int × Int × Int × Int × Int × (Nat → Int) × (Nat → Int) × (Nat → Int) × (Nat → Int) × (Nat → Int) × (Nat → Int) × (Nat → Int))) (x1 : Int) (x2 : Int) (i_thrown : Int) (i_status : Int) (i_taped : Int) (i_from : Int) (i_to : Int) (i_sort : Int) (i_worth : Int) (i_fault : Int) (i_bad : Int) (i_nClauses : Int) (i_nCode : Int) (i_nLeaves : Int) (i_piled : Int) (i_opened : Int) (i_refusals : Nat → Int) (i_row : Nat → Int) (i_nClause : Nat → Int) (i_nOp : Nat → Int) (i_nArg : Nat → Int) (i_pile : Nat → Int) (i_pileAt : Nat → Int) : Option (Int × Int × Int × Int × Int × Int × Int × Int × Int × Int × Int × Int × Int × Int × Int × (Nat → Int) × (Nat → Int) × (Nat → Int) × (Nat → Int) × (Nat → Int) × (Nat → Int) × (Nat → Int)) :=
  zn (8 * i_nClauses) fun v1 =>
  if zi_w v1 ≤ zi_w x2 then
    f_HM_law_180 i_tape i_words zfu x1 0 i_thrown i_status i_taped i_from i_to i_sort i_worth i_fault i_bad i_nClauses i_nCode i_nLeaves i_piled i_opened i_refusals i_row i_nClause i_nOp i_nArg i_pile i_pileAt
  else
    zn (x1 + 2) fun v2 =>
    zn (v2 + x2) fun v3 =>
    zg 96 i_nClause x2 fun v4 =>
    zs 5580 i_row v3 v4 fun a5 =>
    zn (x2 + 1) fun v6 =>
    k145 x1 v6 i_thrown i_status i_taped i_from i_to i_sort i_worth i_fault i_bad i_nClauses i_nCode i_nLeaves i_piled i_opened i_refusals a5 i_nClause i_nOp i_nArg i_pile i_pileAt
def f_HM_law_145 (i_tape : Nat → Int) (i_words : Nat → Int) : Nat → Int → Int → Int → Int → Int → Int → Int → Int → Int → Int → Int → Int → Int → Int → Int → Int → (Nat → Int) → (Nat → Int) → (Nat → Int) → (Nat → Int) → (Nat → Int) → (Nat → Int) → (Nat → Int) → Option (Int × Int × Int × Int × Int × Int × Int × Int × Int × Int × Int × Int × Int × Int × Int × (Nat → Int) × (Nat → Int) × (Nat → Int) × (Nat → Int) × (Nat → Int) × (Nat → Int) × (Nat → Int))
  | 0 => fun _ _ _ _ _ _ _ _ _ _ _ _ _ _ _ _ _ _ _ _ _ _ _ => none
  | n + 1 => fun y0 y1 y2 y3 y4 y5 y6 y7 y8 y9 y10 y11 y12 y13 y14 y15 y16 y17 y18 y19 y20 y21 y22 => f_HM_law_145_b i_tape i_words (f_HM_law_145 i_tape i_words n) y0 y1 y2 y3 y4 y5 y6 y7 y8 y9 y10 y11 y12 y13 y14 y15 y16 y17 y18 y19 y20 y21 y22
def f_HM_law_97 (i_tape : Nat → Int) (i_words : Nat → Int) (i_thrown : Int) (i_status : Int) (i_taped : Int) (i_from : Int) (i_to : Int) (i_sort : Int) (i_worth : Int) (i_fault : Int) (i_bad : Int) (i_nClauses : Int) (i_nCode : Int) (i_nLeaves : Int) (i_piled : Int) (i_opened : Int) (i_refusals : Nat → Int) (i_row : Nat → Int) (i_nClause : Nat → Int) (i_nOp : Nat → Int) (i_nArg : Nat → Int) (i_pile : Nat → Int) (i_pileAt : Nat → Int) : Option (Int × Int × Int × Int × Int × Int × Int × Int × Int × Int × Int × Int × Int × Int × Int × (Nat → Int) × (Nat → Int) × (Nat → Int) × (Nat → Int) × (Nat → Int) × (Nat → Int) × (Nat → Int)) :=
  if zi_w i_bad = 0 then
    zg 5580 i_row 3 fun v1 =>
    zn (900 * v1) fun v2 =>
    zn (180 + v2) fun v3 =>
    zn (v3 + 1) fun v4 =>
    zs 5580 i_row v4 i_nClauses fun a5 =>
    f_HM_law_145 i_tape i_words zfu v3 0 i_thrown i_status 0 i_from i_to i_sort i_worth i_fault i_bad i_nClauses i_nCode i_nLeaves i_piled i_opened i_refusals a5 i_nClause i_nOp i_nArg i_pile i_pileAt
  else
    zd3 (f_HM_tell (-6) i_status i_refusals) fun v6 v7 a8 =>
    some (v6, i_thrown, v7, 0, i_from, i_to, i_sort, i_worth, i_fault, i_bad, i_nClauses, i_nCode, i_nLeaves, i_piled, i_opened, a8, i_row, i_nClause, i_nOp, i_nArg, i_pile, i_pileAt)
def f_HM_law_78 (i_tape : Nat → Int) (i_words : Nat → Int) (i_thrown : Int) (i_status : Int) (i_taped : Int) (i_from : Int) (i_to : Int) (i_sort : Int) (i_worth : Int) (i_fault : Int) (i_bad : Int) (i_nClauses : Int) (i_nCode : Int) (i_nLeaves : Int) (i_piled : Int) (i_opened : Int) (i_refusals : Nat → Int) (i_row : Nat → Int) (i_nClause : Nat → Int) (i_nOp : Nat → Int) (i_nArg : Nat → Int) (i_pile : Nat → Int) (i_pileAt : Nat → Int) : Option (Int × Int × Int × Int × Int × Int × Int × Int × Int × Int × Int × Int × Int × Int × Int × (Nat → Int) × (Nat → Int) × (Nat → Int) × (Nat → Int) × (Nat → Int) × (Nat → Int) × (Nat → Int)) :=
  if zi_w i_bad ≠ 0 then
    f_HM_law_97 i_tape i_words i_thrown i_status i_taped i_from i_to i_sort i_worth i_fault i_bad i_nClauses i_nCode i_nLeaves i_piled i_opened i_refusals i_row i_nClause i_nOp i_nArg i_pile i_pileAt
  else
    if zi_w i_sort = 0 then
      f_HM_law_97 i_tape i_words i_thrown i_status i_taped i_from i_to i_sort i_worth i_fault i_bad i_nClauses i_nCode i_nLeaves i_piled i_opened i_refusals i_row i_nClause i_nOp i_nArg i_pile i_pileAt
    else
      zd6 (f_HM_must 0 i_taped i_tape i_from i_to i_sort i_worth i_fault i_bad) fun v1 v2 v3 v4 v5 v6 =>
      f_HM_law_97 i_tape i_words i_thrown i_status i_taped v1 v2 v3 v4 v5 v6 i_nClauses i_nCode i_nLeaves i_piled i_opened i_refusals i_row i_nClause i_nOp i_nArg i_pile i_pileAt
def f_HM_law_51_b (i_tape : Nat → Int) (i_words : Nat → Int) (k51 : Int → Int → Int → Int → Int → Int → Int → Int → Int → Int → Int → Int → Int → Int → (Nat → Int) → (Nat → Int) → (Nat → Int) → (Nat → Int) → (Nat → Int) → (Nat → Int) → (Nat → Int) → Option (Int × Int × Int × Int × Int × Int × Int × Int × Int × Int × Int × Int × Int × Int × Int × (Nat → Int) × (Nat → Int) × (Nat → Int) × (Nat → Int) × (Nat → Int) × (Nat → Int) × (Nat → Int))) (i_thrown : Int) (i_status : Int) (i_taped : Int) (i_from : Int) (i_to : Int) (i_sort : Int) (i_worth : Int) (i_fault : Int) (i_bad : Int) (i_nClauses : Int) (i_nCode : Int) (i_nLeaves : Int) (i_piled : Int) (i_opened : Int) (i_refusals : Nat → Int) (i_row : Nat → Int) (i_nClause : Nat → Int) (i_nOp : Nat → Int) (i_nArg : Nat → Int) (i_pile : Nat → Int) (i_pileAt : Nat → Int) : Option (Int × Int × Int × Int × Int × Int × Int × Int × Int × Int × Int × Int × Int × Int × Int × (Nat → Int) × (Nat → Int) × (Nat → Int) × (Nat → Int) × (Nat → Int) × (Nat → Int) × (Nat → Int)) :=
  if zi_w i_bad ≠ 0 then
    f_HM_law_78 i_tape i_words i_thrown i_status i_taped i_from i_to i_sort i_worth i_fault i_bad i_nClauses i_nCode i_nLeaves i_piled i_opened i_refusals i_row i_nClause i_nOp i_nArg i_pile i_pileAt
  else
    zd1 (f_HM_isSign 59 i_sort i_worth) fun v1 =>
    if zi_w v1 = 0 then
      f_HM_law_78 i_tape i_words i_thrown i_status i_taped i_from i_to i_sort i_worth i_fault i_bad i_nClauses i_nCode i_nLeaves i_piled i_opened i_refusals i_row i_nClause i_nOp i_nArg i_pile i_pileAt
    else
      zd4 (f_HM_next i_taped i_tape i_from i_to i_sort i_worth) fun v2 v3 v4 v5 =>
      zd16 (f_HM_readClause i_taped i_tape i_words v2 v3 v4 v5 i_fault i_bad i_nClauses i_nCode i_nLeaves i_piled i_opened i_nClause i_nOp i_nArg i_pile i_pileAt) fun v6 v7 v8 v9 v10 v11 v12 v13 v14 v15 v16 a17 a18 a19 a20 a21 =>
      k51 i_thrown i_status i_taped v6 v7 v8 v9 v10 v11 v12 v13 v14 v15 v16 i_refusals i_row a17 a18 a19 a20 a21
def f_HM_law_51 (i_tape : Nat → Int) (i_words : Nat → Int) : Nat → Int → Int → Int → Int → Int → Int → Int → Int → Int → Int → Int → Int → Int → Int → (Nat → Int) → (Nat → Int) → (Nat → Int) → (Nat → Int) → (Nat → Int) → (Nat → Int) → (Nat → Int) → Option (Int × Int × Int × Int × Int × Int × Int × Int × Int × Int × Int × Int × Int × Int × Int × (Nat → Int) × (Nat → Int) × (Nat → Int) × (Nat → Int) × (Nat → Int) × (Nat → Int) × (Nat → Int))
  | 0 => fun _ _ _ _ _ _ _ _ _ _ _ _ _ _ _ _ _ _ _ _ _ => none
  | n + 1 => fun y0 y1 y2 y3 y4 y5 y6 y7 y8 y9 y10 y11 y12 y13 y14 y15 y16 y17 y18 y19 y20 => f_HM_law_51_b i_tape i_words (f_HM_law_51 i_tape i_words n) y0 y1 y2 y3 y4 y5 y6 y7 y8 y9 y10 y11 y12 y13 y14 y15 y16 y17 y18 y19 y20
def f_HM_law (i_tape : Nat → Int) (i_words : Nat → Int) (i_thrown : Int) (i_status : Int) (i_taped : Int) (i_from : Int) (i_to : Int) (i_sort : Int) (i_worth : Int) (i_fault : Int) (i_bad : Int) (i_nClauses : Int) (i_nCode : Int) (i_nLeaves : Int) (i_piled : Int) (i_opened : Int) (i_refusals : Nat → Int) (i_row : Nat → Int) (i_nClause : Nat → Int) (i_nOp : Nat → Int) (i_nArg : Nat → Int) (i_pile : Nat → Int) (i_pileAt : Nat → Int) : Option (Int × Int × Int × Int × Int × Int × Int × Int × Int × Int × Int × Int × Int × Int × Int × (Nat → Int) × (Nat → Int) × (Nat → Int) × (Nat → Int) × (Nat → Int) × (Nat → Int) × (Nat → Int)) :=
  zg 5580 i_row 3 fun v1 =>
  if zi_w v1 ≠ zi_w 6 then
    zd6 (f_HM_begin i_taped i_tape i_from i_to i_sort i_worth i_fault i_bad) fun v2 v3 v4 v5 v6 v7 =>
    zd16 (f_HM_readClause i_taped i_tape i_words v2 v3 v4 v5 v6 v7 0 0 0 i_piled i_opened i_nClause i_nOp i_nArg i_pile i_pileAt) fun v8 v9 v10 v11 v12 v13 v14 v15 v16 v17 v18 a19 a20 a21 a22 a23 =>
    f_HM_law_51 i_tape i_words zfu 0 i_status i_taped v8 v9 v10 v11 v12 v13 v14 v15 v16 v17 v18 i_refusals i_row a19 a20 a21 a22 a23
  else
    zd3 (f_HM_tell (-5) i_status i_refusals) fun v24 v25 a26 =>
    some (v24, 0, v25, 0, i_from, i_to, i_sort, i_worth, i_fault, i_bad, i_nClauses, i_nCode, i_nLeaves, i_piled, i_opened, a26, i_row, i_nClause, i_nOp, i_nArg, i_pile, i_pileAt)
def f_HM_force_28  (x1 : Int) (i_thrown : Int) (i_status : Int) (i_refusals : Nat → Int) (i_row : Nat → Int) : Option (Int × Int × Int × (Nat → Int) × (Nat → Int)) :=
  zd3 (f_HM_change 4 x1 i_status i_row) fun v1 v2 a3 =>
  some (v1, i_thrown, v2, i_refusals, a3)
def f_HM_force (x1 : Int) (i_thrown : Int) (i_status : Int) (i_refusals : Nat → Int) (i_row : Nat → Int) : Option (Int × Int × Int × (Nat → Int) × (Nat → Int)) :=
  if zi_w x1 = zi_w (-1) then
    f_HM_force_28 x1 0 i_status i_refusals i_row
  else
    zn (zi_w x1) fun v1 =>
    zg 5580 i_row 3 fun v2 =>
    zn (zi_w v2) fun v3 =>
    zn (v3 - 1) fun v4 =>
    zd1 (f_HM_in v1 0 v4) fun v5 =>
    if zi_w v5 = 0 then
      zd3 (f_HM_tell (-2) i_status i_refusals) fun v6 v7 a8 =>
      some (v6, 0, v7, a8, i_row)
    else
      f_HM_force_28 x1 0 i_status i_refusals i_row
def f_HM_are (x1 : Int) (x2 : Int) (x3 : Int) (i_row : Nat → Int) : Option (Int) :=
  zd1 (f_HM_isChild x1 i_row) fun v1 =>
  if zi_w v1 = 0 then
    some 0
  else
    zd1 (f_HM_isColumn x2 i_row) fun v2 =>
    if zi_w v2 = 0 then
      some 0
    else
      zd1 (f_HM_isColumn x3 i_row) fun v3 =>
      if zi_w v3 = 0 then
        some 0
      else
        some 1
def f_HM_top (x1 : Int) (i_high : Nat → Int) (i_heaps : Nat → Int) : Option (Int) :=
  zg 12 i_high x1 fun v1 =>
  if zi_w v1 ≠ 0 then
    zn (10 * x1) fun v2 =>
    zg 12 i_high x1 fun v3 =>
    zn (v2 + v3) fun v4 =>
    zn (v4 - 1) fun v5 =>
    zg 120 i_heaps v5 fun v6 =>
    some v6
  else
    some 0
def f_HM_reckon_68  (x2 : Int) (x4 : Int) (s1 : Int) (i_broken : Int) : Option (Int × Int) :=
  if ¬ (zi_w s1 = 0 ∨ zi_w s1 = 1) then none else
  if zi_w s1 = 0 then
    if zl_w x4 = 0 then none else zn (zl_div x2 x4) fun v1 =>
    some (v1, s1)
  else
    some (0, s1)
def f_HM_reckon (x1 : Int) (x2 : Int) (x4 : Int) (i_broken : Int) : Option (Int × Int) :=
  if zi_w x1 = 20 then
    zn (x2 + x4) fun v1 =>
    some (v1, i_broken)
  else if zi_w x1 = 21 then
    zn (x2 - x4) fun v2 =>
    some (v2, i_broken)
  else if zi_w x1 = 22 then
    zn (x2 * x4) fun v3 =>
    some (v3, i_broken)
  else if zi_w x1 = 23 then
    if zl_w x4 ≠ zl_w 0 then
      f_HM_reckon_68 x2 x4 0 i_broken
    else
      f_HM_reckon_68 x2 x4 1 i_broken
  else if zi_w x1 = 24 then
    if zl_w x4 ≤ zl_w x2 then
      some (0, i_broken)
    else
      some (1, i_broken)
  else if zi_w x1 = 25 then
    if zl_w x2 ≤ zl_w x4 then
      some (0, i_broken)
    else
      some (1, i_broken)
  else
    if zl_w x2 ≠ zl_w x4 then
      some (0, i_broken)
    else
      some (1, i_broken)
def f_HM_reckonAll_245 (i_law : Int) (i_row : Nat → Int) (i_set : Nat → Int) (x3 : Int) (i_broken : Int) (i_value : Int) (i_rest : Nat → Int) : Option (Int × Int × (Nat → Int)) :=
  if zi_w x3 ≤ 0 then
    some (i_broken, 0, i_rest)
  else
    zg 400 i_rest 0 fun v1 =>
    some (i_broken, v1, i_rest)
def f_HM_reckonAll_242 (i_law : Int) (i_row : Nat → Int) (i_set : Nat → Int) (k10 : Int → Int → Int → Int → Int → (Nat → Int) → Option (Int × Int × (Nat → Int))) (x2 : Int) (x3 : Int) (x4 : Int) (i_broken : Int) (i_value : Int) (i_rest : Nat → Int) : Option (Int × Int × (Nat → Int)) :=
  k10 x2 x3 x4 i_broken i_value i_rest
def f_HM_reckonAll_228 (i_law : Int) (i_row : Nat → Int) (i_set : Nat → Int) (k10 : Int → Int → Int → Int → Int → (Nat → Int) → Option (Int × Int × (Nat → Int))) (x2 : Int) (x3 : Int) (x4 : Int) (x6 : Int) (s0 : Int) (s1 : Int) (i_broken : Int) (i_value : Int) (i_rest : Nat → Int) : Option (Int × Int × (Nat → Int)) :=
  if zl_w s0 ≠ zl_w s1 then
    zn (x3 + (-1)) fun v1 =>
    f_HM_reckonAll_242 i_law i_row i_set k10 x2 v1 x4 i_broken i_value i_rest
  else
    f_HM_reckonAll_242 i_law i_row i_set k10 x2 x3 x6 i_broken i_value i_rest
def f_HM_reckonAll_174 (i_law : Int) (i_row : Nat → Int) (i_set : Nat → Int) (k10 : Int → Int → Int → Int → Int → (Nat → Int) → Option (Int × Int × (Nat → Int))) (x2 : Int) (x3 : Int) (x4 : Int) (s1 : Int) (i_broken : Int) (i_value : Int) (i_rest : Nat → Int) : Option (Int × Int × (Nat → Int)) :=
  if ¬ (zi_w s1 = 0 ∨ zi_w s1 = 1) then none else
  f_HM_reckonAll_242 i_law i_row i_set k10 x2 x3 x4 s1 i_value i_rest
def f_HM_reckonAll_169 (i_law : Int) (i_row : Nat → Int) (i_set : Nat → Int) (k10 : Int → Int → Int → Int → Int → (Nat → Int) → Option (Int × Int × (Nat → Int))) (x2 : Int) (x3 : Int) (x4 : Int) (i_broken : Int) (i_value : Int) (i_rest : Nat → Int) : Option (Int × Int × (Nat → Int)) :=
  f_HM_reckonAll_174 i_law i_row i_set k10 x2 x3 x4 1 i_broken i_value i_rest
def f_HM_reckonAll_96 (i_law : Int) (i_row : Nat → Int) (i_set : Nat → Int) (k10 : Int → Int → Int → Int → Int → (Nat → Int) → Option (Int × Int × (Nat → Int))) (x2 : Int) (x3 : Int) (x4 : Int) (s1 : Int) (s2 : Int) (i_broken : Int) (i_value : Int) (i_rest : Nat → Int) : Option (Int × Int × (Nat → Int)) :=
  zs 400 i_rest s1 s2 fun a1 =>
  zn (x3 + 1) fun v2 =>
  f_HM_reckonAll_242 i_law i_row i_set k10 x2 v2 x4 i_broken i_value a1
def f_HM_reckonAll_10_b (i_law : Int) (i_row : Nat → Int) (i_set : Nat → Int) (k10 : Int → Int → Int → Int → Int → (Nat → Int) → Option (Int × Int × (Nat → Int))) (x2 : Int) (x3 : Int) (x4 : Int) (i_broken : Int) (i_value : Int) (i_rest : Nat → Int) : Option (Int × Int × (Nat → Int)) :=
  if zi_w x2 ≤ zi_w x4 then
    f_HM_reckonAll_245 i_law i_row i_set x3 i_broken i_value i_rest
  else
    if zi_w i_broken ≠ 0 then
      f_HM_reckonAll_245 i_law i_row i_set x3 i_broken i_value i_rest
    else
      zn (i_law + 98) fun v1 =>
      zn (2 * x4) fun v2 =>
      zn (v1 + v2) fun v3 =>
      zg 5580 i_row v3 fun v4 =>
      zn (i_law + 98) fun v5 =>
      zn (2 * x4) fun v6 =>
      zn (v5 + v6) fun v7 =>
      zn (v7 + 1) fun v8 =>
      zg 5580 i_row v8 fun v9 =>
      zn (x4 + 1) fun v10 =>
      if zi_w 20 ≤ zi_w v4 then
        if zi_w 27 ≤ zi_w v4 then
          if zi_w v4 ≠ zi_w 27 then
            zn (x3 - 1) fun v11 =>
            zg 400 i_rest v11 fun v12 =>
            if zi_w v4 ≠ zi_w 28 then
              f_HM_reckonAll_228 i_law i_row i_set k10 x2 x3 v10 v9 v12 1 i_broken i_value i_rest
            else
              f_HM_reckonAll_228 i_law i_row i_set k10 x2 x3 v10 v9 v12 0 i_broken i_value i_rest
          else
            zn (x3 - 1) fun v13 =>
            zn (x3 - 1) fun v14 =>
            zg 400 i_rest v14 fun v15 =>
            zn (1 - v15) fun v16 =>
            zs 400 i_rest v13 v16 fun a17 =>
            f_HM_reckonAll_242 i_law i_row i_set k10 x2 x3 v10 i_broken i_value a17
        else
          zn (x3 + (-1)) fun v18 =>
          zn (v18 - 1) fun v19 =>
          zn (v18 - 1) fun v20 =>
          zg 400 i_rest v20 fun v21 =>
          zg 400 i_rest v18 fun v22 =>
          zd2 (f_HM_reckon v4 v21 v22 i_broken) fun v23 v24 =>
          zs 400 i_rest v19 v23 fun a25 =>
          if zi_w v24 ≠ 0 then
            f_HM_reckonAll_169 i_law i_row i_set k10 x2 v18 v10 v24 i_value a25
          else
            zn (v18 - 1) fun v26 =>
            zg 400 a25 v26 fun v27 =>
            zd1 (f_HM_in v27 (-1000000000) 1000000000) fun v28 =>
            if zi_w v28 ≠ 0 then
              f_HM_reckonAll_174 i_law i_row i_set k10 x2 v18 v10 0 v24 i_value a25
            else
              f_HM_reckonAll_169 i_law i_row i_set k10 x2 v18 v10 v24 i_value a25
      else
        if zi_w v4 ≠ 0 then
          zg 13 i_set v4 fun v29 =>
          f_HM_reckonAll_96 i_law i_row i_set k10 x2 x3 v10 x3 v29 i_broken i_value i_rest
        else
          zn (zi_w v9) fun v30 =>
          f_HM_reckonAll_96 i_law i_row i_set k10 x2 x3 v10 x3 v30 i_broken i_value i_rest
def f_HM_reckonAll_10 (i_law : Int) (i_row : Nat → Int) (i_set : Nat → Int) : Nat → Int → Int → Int → Int → Int → (Nat → Int) → Option (Int × Int × (Nat → Int))
  | 0 => fun _ _ _ _ _ _ => none
  | n + 1 => fun y0 y1 y2 y3 y4 y5 => f_HM_reckonAll_10_b i_law i_row i_set (f_HM_reckonAll_10 i_law i_row i_set n) y0 y1 y2 y3 y4 y5
def f_HM_reckonAll (x1 : Int) (x2 : Int) (i_law : Int) (i_row : Nat → Int) (i_set : Nat → Int) (i_broken : Int) (i_value : Int) (i_rest : Nat → Int) : Option (Int × Int × (Nat → Int)) :=
  f_HM_reckonAll_10 i_law i_row i_set zfu x2 0 x1 0 i_value i_rest
def f_HM_isSo_59 (i_law : Int) (i_row : Nat → Int) (i_set : Nat → Int) (x1 : Int) (i_broken : Int) (i_value : Int) (i_sum : Int) (i_rest : Nat → Int) : Option (Int × Int × Int × Int × (Nat → Int)) :=
  zg 5580 i_row x1 fun v1 =>
  if zi_w v1 ≠ 0 then
    some (1, i_broken, i_value, i_sum, i_rest)
  else
    zn (x1 + 3) fun v2 =>
    zg 5580 i_row v2 fun v3 =>
    zn (x1 + 4) fun v4 =>
    zg 5580 i_row v4 fun v5 =>
    zd3 (f_HM_reckonAll v3 v5 i_law i_row i_set i_broken i_value i_rest) fun v6 v7 a8 =>
    if zi_w v6 ≠ 0 then
      some (0, v6, v7, v7, a8)
    else
      some (1, v6, v7, v7, a8)
def f_HM_isSo (x1 : Int) (i_law : Int) (i_row : Nat → Int) (i_set : Nat → Int) (i_broken : Int) (i_value : Int) (i_sum : Int) (i_rest : Nat → Int) : Option (Int × Int × Int × Int × (Nat → Int)) :=
  zn (x1 + 5) fun v1 =>
  zg 5580 i_row v1 fun v2 =>
  zn (x1 + 6) fun v3 =>
  zg 5580 i_row v3 fun v4 =>
  if zi_w v4 ≤ zi_w v2 then
    f_HM_isSo_59 i_law i_row i_set x1 i_broken i_value i_sum i_rest
  else
    zn (x1 + 5) fun v5 =>
    zg 5580 i_row v5 fun v6 =>
    zn (x1 + 6) fun v7 =>
    zg 5580 i_row v7 fun v8 =>
    zd3 (f_HM_reckonAll v6 v8 i_law i_row i_set i_broken i_value i_rest) fun v9 v10 a11 =>
    if zi_w v9 ≠ 0 then
      some (0, v9, v10, i_sum, a11)
    else
      if zl_w v10 ≠ zl_w 0 then
        f_HM_isSo_59 i_law i_row i_set x1 v9 v10 i_sum a11
      else
        some (0, v9, v10, i_sum, a11)
def f_HM_size (x0 : Int) : Option (Int) :=
  if 0 ≤ zi_w x0 then
    some x0
  else
    zn (-x0) fun v1 =>
    some v1
def f_HM_tiring_239 (i_row : Nat → Int) (x8 : Int) (i_law : Int) (i_broken : Int) (i_value : Int) (i_sum : Int) (i_set : Nat → Int) (i_rest : Nat → Int) : Option (Int × Int × Int × Int × Int × (Nat → Int) × (Nat → Int)) :=
  if zl_w 0 ≤ zl_w x8 then
    if zl_w x8 ≤ zl_w 99 then
      some (x8, i_law, i_broken, i_value, i_sum, i_set, i_rest)
    else
      some (99, i_law, i_broken, i_value, i_sum, i_set, i_rest)
  else
    some (0, i_law, i_broken, i_value, i_sum, i_set, i_rest)
def f_HM_tiring_233 (i_row : Nat → Int) (k175 : Int → Int → Int → Int → Int → Int → (Nat → Int) → (Nat → Int) → Option (Int × Int × Int × Int × Int × (Nat → Int) × (Nat → Int))) (x8 : Int) (x10 : Int) (i_law : Int) (i_broken : Int) (i_value : Int) (i_sum : Int) (i_set : Nat → Int) (i_rest : Nat → Int) : Option (Int × Int × Int × Int × Int × (Nat → Int) × (Nat → Int)) :=
  zn (x10 + 1) fun v1 =>
  k175 x8 v1 i_law i_broken i_value i_sum i_set i_rest
def f_HM_tiring_175_b (i_row : Nat → Int) (k175 : Int → Int → Int → Int → Int → Int → (Nat → Int) → (Nat → Int) → Option (Int × Int × Int × Int × Int × (Nat → Int) × (Nat → Int))) (x8 : Int) (x10 : Int) (i_law : Int) (i_broken : Int) (i_value : Int) (i_sum : Int) (i_set : Nat → Int) (i_rest : Nat → Int) : Option (Int × Int × Int × Int × Int × (Nat → Int) × (Nat → Int)) :=
  zn (i_law + 1) fun v1 =>
  zg 5580 i_row v1 fun v2 =>
  if zi_w v2 ≤ zi_w x10 then
    f_HM_tiring_239 i_row x8 i_law i_broken i_value i_sum i_set i_rest
  else
    zn (i_law + 2) fun v3 =>
    zn (8 * x10) fun v4 =>
    zn (v3 + v4) fun v5 =>
    zd5 (f_HM_isSo v5 i_law i_row i_set i_broken i_value i_sum i_rest) fun v6 v7 v8 v9 a10 =>
    if zi_w v6 = 0 then
      f_HM_tiring_233 i_row k175 x8 x10 i_law v7 v8 v9 i_set a10
    else
      zg 5580 i_row v5 fun v11 =>
      if zi_w v11 ≠ zi_w 1 then
        f_HM_tiring_233 i_row k175 v9 x10 i_law v7 v8 v9 i_set a10
      else
        some ((-1), i_law, v7, v8, v9, i_set, a10)
def f_HM_tiring_175 (i_row : Nat → Int) : Nat → Int → Int → Int → Int → Int → Int → (Nat → Int) → (Nat → Int) → Option (Int × Int × Int × Int × Int × (Nat → Int) × (Nat → Int))
  | 0 => fun _ _ _ _ _ _ _ _ => none
  | n + 1 => fun y0 y1 y2 y3 y4 y5 y6 y7 => f_HM_tiring_175_b i_row (f_HM_tiring_175 i_row n) y0 y1 y2 y3 y4 y5 y6 y7
def f_HM_tiring (x1 : Int) (x2 : Int) (x3 : Int) (x4 : Int) (x5 : Int) (x6 : Int) (i_row : Nat → Int) (i_law : Int) (i_broken : Int) (i_value : Int) (i_sum : Int) (i_set : Nat → Int) (i_rest : Nat → Int) : Option (Int × Int × Int × Int × Int × (Nat → Int) × (Nat → Int)) :=
  zn (3 * x1) fun v1 =>
  zn (153 + v1) fun v2 =>
  zg 5580 i_row v2 fun v3 =>
  if zi_w x5 = 0 then
    some ((-1), i_law, i_broken, i_value, i_sum, i_set, i_rest)
  else
    if zi_w 9 < zi_w x6 then
      some ((-1), i_law, i_broken, i_value, i_sum, i_set, i_rest)
    else
      if zi_w x3 = zi_w x4 then
        some ((-1), i_law, i_broken, i_value, i_sum, i_set, i_rest)
      else
        zn (3 * x1) fun v4 =>
        zn (153 + v4) fun v5 =>
        zn (v5 + 1) fun v6 =>
        zg 5580 i_row v6 fun v7 =>
        if zi_w v7 = zi_w 1 then
          some ((-1), i_law, i_broken, i_value, i_sum, i_set, i_rest)
        else
          if zi_w x2 ≤ zi_w v3 then
            zn (x3 - x4) fun v8 =>
            zd1 (f_HM_size v8) fun v9 =>
            zn (zi_w v9) fun v10 =>
            zg 5580 i_row 4 fun v11 =>
            if zi_w v11 = zi_w (-1) then
              f_HM_tiring_239 i_row v10 i_law i_broken i_value i_sum i_set i_rest
            else
              zg 5580 i_row 4 fun v12 =>
              zn (900 * v12) fun v13 =>
              zn (180 + v13) fun v14 =>
              zn (zi_w x1) fun v15 =>
              zs 13 i_set 1 v15 fun a16 =>
              zn (zi_w v3) fun v17 =>
              zs 13 a16 2 v17 fun a18 =>
              zn (zi_w x2) fun v19 =>
              zs 13 a18 3 v19 fun a20 =>
              zn (zi_w x3) fun v21 =>
              zs 13 a20 4 v21 fun a22 =>
              zn (zi_w x4) fun v23 =>
              zs 13 a22 5 v23 fun a24 =>
              zn (zi_w x5) fun v25 =>
              zs 13 a24 6 v25 fun a26 =>
              zn (zi_w x6) fun v27 =>
              zs 13 a26 7 v27 fun a28 =>
              zg 5580 i_row 5 fun v29 =>
              zn (zi_w v29) fun v30 =>
              zs 13 a28 8 v30 fun a31 =>
              f_HM_tiring_175 i_row zfu v10 0 v14 i_broken i_value i_sum a31 i_rest
          else
            some ((-1), i_law, i_broken, i_value, i_sum, i_set, i_rest)
def f_HM_carrying (x1 : Int) (x2 : Int) (x3 : Int) (i_row : Nat → Int) (i_high : Nat → Int) (i_heaps : Nat → Int) (i_law : Int) (i_broken : Int) (i_value : Int) (i_sum : Int) (i_set : Nat → Int) (i_rest : Nat → Int) : Option (Int × Int × Int × Int × Int × (Nat → Int) × (Nat → Int)) :=
  zd1 (f_HM_top x2 i_high i_heaps) fun v1 =>
  zg 12 i_high x2 fun v2 =>
  zg 12 i_high x3 fun v3 =>
  zd7 (f_HM_tiring x1 v1 x2 x3 v2 v3 i_row i_law i_broken i_value i_sum i_set i_rest) fun v4 v5 v6 v7 v8 a9 a10 =>
  some (v4, v5, v6, v7, v8, a9, a10)
def f_HM_load_31_b (i_row : Nat → Int) (k31 : Int → (Nat → Int) → (Nat → Int) → Option ((Nat → Int) × (Nat → Int))) (x1 : Int) (i_high : Nat → Int) (i_heaps : Nat → Int) : Option ((Nat → Int) × (Nat → Int)) :=
  if zi_w 120 ≤ zi_w x1 then
    some (i_high, i_heaps)
  else
    zn (21 + x1) fun v1 =>
    zg 5580 i_row v1 fun v2 =>
    zs 120 i_heaps x1 v2 fun a3 =>
    zn (x1 + 1) fun v4 =>
    k31 v4 i_high a3
def f_HM_load_31 (i_row : Nat → Int) : Nat → Int → (Nat → Int) → (Nat → Int) → Option ((Nat → Int) × (Nat → Int))
  | 0 => fun _ _ _ => none
  | n + 1 => fun y0 y1 y2 => f_HM_load_31_b i_row (f_HM_load_31 i_row n) y0 y1 y2
def f_HM_load_2_b (i_row : Nat → Int) (k2 : Int → (Nat → Int) → (Nat → Int) → Option ((Nat → Int) × (Nat → Int))) (x1 : Int) (i_high : Nat → Int) (i_heaps : Nat → Int) : Option ((Nat → Int) × (Nat → Int)) :=
  if zi_w 12 ≤ zi_w x1 then
    f_HM_load_31 i_row zfu 0 i_high i_heaps
  else
    zn (9 + x1) fun v1 =>
    zg 5580 i_row v1 fun v2 =>
    zs 12 i_high x1 v2 fun a3 =>
    zn (x1 + 1) fun v4 =>
    k2 v4 a3 i_heaps
def f_HM_load_2 (i_row : Nat → Int) : Nat → Int → (Nat → Int) → (Nat → Int) → Option ((Nat → Int) × (Nat → Int))
  | 0 => fun _ _ _ => none
  | n + 1 => fun y0 y1 y2 => f_HM_load_2_b i_row (f_HM_load_2 i_row n) y0 y1 y2
def f_HM_load (i_row : Nat → Int) (i_high : Nat → Int) (i_heaps : Nat → Int) : Option ((Nat → Int) × (Nat → Int)) :=
  f_HM_load_2 i_row zfu 0 i_high i_heaps
def f_HM_can (x1 : Int) (x2 : Int) (x3 : Int) (i_row : Nat → Int) (i_thrown : Int) (i_law : Int) (i_broken : Int) (i_value : Int) (i_sum : Int) (i_set : Nat → Int) (i_rest : Nat → Int) (i_high : Nat → Int) (i_heaps : Nat → Int) : Option (Int × Int × Int × Int × Int × Int × (Nat → Int) × (Nat → Int) × (Nat → Int) × (Nat → Int)) :=
  zd1 (f_HM_are x1 x2 x3 i_row) fun v1 =>
  if zi_w v1 ≠ 0 then
    zd2 (f_HM_load i_row i_high i_heaps) fun a2 a3 =>
    zd7 (f_HM_carrying x1 x2 x3 i_row a2 a3 i_law i_broken i_value i_sum i_set i_rest) fun v4 v5 v6 v7 v8 a9 a10 =>
    if zi_w v4 ≠ zi_w (-1) then
      some (1, 0, v5, v6, v7, v8, a9, a10, a2, a3)
    else
      some (0, 0, v5, v6, v7, v8, a9, a10, a2, a3)
  else
    some ((-1), 0, i_law, i_broken, i_value, i_sum, i_set, i_rest, i_high, i_heaps)
def f_HM_tires (x1 : Int) (x2 : Int) (x3 : Int) (i_row : Nat → Int) (i_thrown : Int) (i_law : Int) (i_broken : Int) (i_value : Int) (i_sum : Int) (i_set : Nat → Int) (i_rest : Nat → Int) (i_high : Nat → Int) (i_heaps : Nat → Int) : Option (Int × Int × Int × Int × Int × Int × (Nat → Int) × (Nat → Int) × (Nat → Int) × (Nat → Int)) :=
  zd1 (f_HM_are x1 x2 x3 i_row) fun v1 =>
  if zi_w v1 ≠ 0 then
    zd2 (f_HM_load i_row i_high i_heaps) fun a2 a3 =>
    zd7 (f_HM_carrying x1 x2 x3 i_row a2 a3 i_law i_broken i_value i_sum i_set i_rest) fun v4 v5 v6 v7 v8 a9 a10 =>
    some (v4, 0, v5, v6, v7, v8, a9, a10, a2, a3)
  else
    some ((-1), 0, i_law, i_broken, i_value, i_sum, i_set, i_rest, i_high, i_heaps)
def f_HM_store_33_b (i_high : Nat → Int) (i_heaps : Nat → Int) (k33 : Int → (Nat → Int) → Option ((Nat → Int))) (x1 : Int) (i_row : Nat → Int) : Option ((Nat → Int)) :=
  if zi_w 120 ≤ zi_w x1 then
    some i_row
  else
    zn (21 + x1) fun v1 =>
    zg 120 i_heaps x1 fun v2 =>
    zs 5580 i_row v1 v2 fun a3 =>
    zn (x1 + 1) fun v4 =>
    k33 v4 a3
def f_HM_store_33 (i_high : Nat → Int) (i_heaps : Nat → Int) : Nat → Int → (Nat → Int) → Option ((Nat → Int))
  | 0 => fun _ _ => none
  | n + 1 => fun y0 y1 => f_HM_store_33_b i_high i_heaps (f_HM_store_33 i_high i_heaps n) y0 y1
def f_HM_store_2_b (i_high : Nat → Int) (i_heaps : Nat → Int) (k2 : Int → (Nat → Int) → Option ((Nat → Int))) (x1 : Int) (i_row : Nat → Int) : Option ((Nat → Int)) :=
  zd1 (f_HM_columns i_row) fun v1 =>
  if zi_w v1 ≤ zi_w x1 then
    f_HM_store_33 i_high i_heaps zfu 0 i_row
  else
    zn (9 + x1) fun v2 =>
    zg 12 i_high x1 fun v3 =>
    zs 5580 i_row v2 v3 fun a4 =>
    zn (x1 + 1) fun v5 =>
    k2 v5 a4
def f_HM_store_2 (i_high : Nat → Int) (i_heaps : Nat → Int) : Nat → Int → (Nat → Int) → Option ((Nat → Int))
  | 0 => fun _ _ => none
  | n + 1 => fun y0 y1 => f_HM_store_2_b i_high i_heaps (f_HM_store_2 i_high i_heaps n) y0 y1
def f_HM_store (i_high : Nat → Int) (i_heaps : Nat → Int) (i_row : Nat → Int) : Option ((Nat → Int)) :=
  f_HM_store_2 i_high i_heaps zfu 0 i_row
def f_HM_shift (x1 : Int) (x2 : Int) (i_high : Nat → Int) (i_heaps : Nat → Int) : Option ((Nat → Int) × (Nat → Int)) :=
  zd1 (f_HM_top x1 i_high i_heaps) fun v1 =>
  zg 12 i_high x1 fun v2 =>
  zn (v2 - 1) fun v3 =>
  zs 12 i_high x1 v3 fun a4 =>
  zn (10 * x2) fun v5 =>
  zg 12 a4 x2 fun v6 =>
  zn (v5 + v6) fun v7 =>
  zs 120 i_heaps v7 v1 fun a8 =>
  zg 12 a4 x2 fun v9 =>
  zn (v9 + 1) fun v10 =>
  zs 12 a4 x2 v10 fun a11 =>
  some (a11, a8)
def f_HM_carry (x1 : Int) (x2 : Int) (x3 : Int) (i_thrown : Int) (i_status : Int) (i_law : Int) (i_broken : Int) (i_value : Int) (i_sum : Int) (i_refusals : Nat → Int) (i_row : Nat → Int) (i_set : Nat → Int) (i_rest : Nat → Int) (i_high : Nat → Int) (i_heaps : Nat → Int) : Option (Int × Int × Int × Int × Int × Int × Int × (Nat → Int) × (Nat → Int) × (Nat → Int) × (Nat → Int) × (Nat → Int) × (Nat → Int)) :=
  zd1 (f_HM_are x1 x2 x3 i_row) fun v1 =>
  if zi_w v1 ≠ 0 then
    zd2 (f_HM_load i_row i_high i_heaps) fun a2 a3 =>
    zd7 (f_HM_carrying x1 x2 x3 i_row a2 a3 i_law i_broken i_value i_sum i_set i_rest) fun v4 v5 v6 v7 v8 a9 a10 =>
    if zi_w v4 ≠ zi_w (-1) then
      zd1 (f_HM_top x2 a2 a3) fun v11 =>
      zd2 (f_HM_shift x2 x3 a2 a3) fun a12 a13 =>
      zd1 (f_HM_store a12 a13 i_row) fun a14 =>
      zd3 (f_HM_tell v11 i_status i_refusals) fun v15 v16 a17 =>
      some (v15, 0, v16, v5, v6, v7, v8, a17, a14, a9, a10, a12, a13)
    else
      zd3 (f_HM_tell (-3) i_status i_refusals) fun v18 v19 a20 =>
      some (v18, 0, v19, v5, v6, v7, v8, a20, i_row, a9, a10, a2, a3)
  else
    zd3 (f_HM_tell (-2) i_status i_refusals) fun v21 v22 a23 =>
    some (v21, 0, v22, i_law, i_broken, i_value, i_sum, a23, i_row, i_set, i_rest, i_high, i_heaps)
def f_HM_exchange_24  (i_thrown : Int) (i_status : Int) (i_law : Int) (i_broken : Int) (i_value : Int) (i_sum : Int) (i_refusals : Nat → Int) (i_row : Nat → Int) (i_set : Nat → Int) (i_rest : Nat → Int) (i_high : Nat → Int) (i_heaps : Nat → Int) : Option (Int × Int × Int × Int × Int × Int × Int × (Nat → Int) × (Nat → Int) × (Nat → Int) × (Nat → Int) × (Nat → Int) × (Nat → Int)) :=
  zd3 (f_HM_tell (-2) i_status i_refusals) fun v1 v2 a3 =>
  some (v1, i_thrown, v2, i_law, i_broken, i_value, i_sum, a3, i_row, i_set, i_rest, i_high, i_heaps)
def f_HM_exchange (x1 : Int) (x2 : Int) (x3 : Int) (x4 : Int) (i_thrown : Int) (i_status : Int) (i_law : Int) (i_broken : Int) (i_value : Int) (i_sum : Int) (i_refusals : Nat → Int) (i_row : Nat → Int) (i_set : Nat → Int) (i_rest : Nat → Int) (i_high : Nat → Int) (i_heaps : Nat → Int) : Option (Int × Int × Int × Int × Int × Int × Int × (Nat → Int) × (Nat → Int) × (Nat → Int) × (Nat → Int) × (Nat → Int) × (Nat → Int)) :=
  zd1 (f_HM_are x1 x2 x3 i_row) fun v1 =>
  if zi_w v1 = 0 then
    f_HM_exchange_24 0 i_status i_law i_broken i_value i_sum i_refusals i_row i_set i_rest i_high i_heaps
  else
    zd1 (f_HM_isColumn x4 i_row) fun v2 =>
    if zi_w v2 ≠ 0 then
      zd2 (f_HM_load i_row i_high i_heaps) fun a3 a4 =>
      zd7 (f_HM_carrying x1 x2 x3 i_row a3 a4 i_law i_broken i_value i_sum i_set i_rest) fun v5 v6 v7 v8 v9 a10 a11 =>
      if zi_w v5 ≠ zi_w (-1) then
        zd1 (f_HM_top x2 a3 a4) fun v12 =>
        zd2 (f_HM_shift x2 x3 a3 a4) fun a13 a14 =>
        zd7 (f_HM_carrying x1 x4 x2 i_row a13 a14 v6 v7 v8 v9 a10 a11) fun v15 v16 v17 v18 v19 a20 a21 =>
        if zi_w v15 ≠ zi_w (-1) then
          zd1 (f_HM_top x4 a13 a14) fun v22 =>
          zn (v12 - v22) fun v23 =>
          zd1 (f_HM_size v23) fun v24 =>
          zg 5580 i_row 8 fun v25 =>
          if zi_w v25 ≤ zi_w v24 then
            zd2 (f_HM_shift x4 x2 a13 a14) fun a26 a27 =>
            zd1 (f_HM_store a26 a27 i_row) fun a28 =>
            zd3 (f_HM_tell v24 i_status i_refusals) fun v29 v30 a31 =>
            some (v29, 0, v30, v16, v17, v18, v19, a31, a28, a20, a21, a26, a27)
          else
            zd3 (f_HM_tell (-3) i_status i_refusals) fun v32 v33 a34 =>
            some (v32, 0, v33, v16, v17, v18, v19, a34, i_row, a20, a21, a13, a14)
        else
          zd3 (f_HM_tell (-3) i_status i_refusals) fun v35 v36 a37 =>
          some (v35, 0, v36, v16, v17, v18, v19, a37, i_row, a20, a21, a13, a14)
      else
        zd3 (f_HM_tell (-3) i_status i_refusals) fun v38 v39 a40 =>
        some (v38, 0, v39, v6, v7, v8, v9, a40, i_row, a10, a11, a3, a4)
    else
      f_HM_exchange_24 0 i_status i_law i_broken i_value i_sum i_refusals i_row i_set i_rest i_high i_heaps
def f_HM_isSteep (x1 : Int) (x2 : Int) (i_row : Nat → Int) (i_high : Nat → Int) : Option (Int) :=
  zd1 (f_HM_isColumn x2 i_row) fun v1 =>
  if zi_w v1 = 0 then
    some 0
  else
    zg 12 i_high x1 fun v2 =>
    zg 12 i_high x2 fun v3 =>
    zg 5580 i_row 7 fun v4 =>
    zn (v3 + v4) fun v5 =>
    if zi_w v2 ≤ zi_w v5 then
      some 0
    else
      some 1
def f_HM_steepest_2_b (i_row : Nat → Int) (i_high : Nat → Int) (k2 : Int → Option (Int)) (x1 : Int) : Option (Int) :=
  zd1 (f_HM_columns i_row) fun v1 =>
  if zi_w v1 ≤ zi_w x1 then
    some (-1)
  else
    zn (x1 - 1) fun v2 =>
    zd1 (f_HM_isSteep x1 v2 i_row i_high) fun v3 =>
    if zi_w v3 ≠ 0 then
      some x1
    else
      zn (x1 + 1) fun v4 =>
      zd1 (f_HM_isSteep x1 v4 i_row i_high) fun v5 =>
      if zi_w v5 = 0 then
        zn (x1 + 1) fun v6 =>
        k2 v6
      else
        some x1
def f_HM_steepest_2 (i_row : Nat → Int) (i_high : Nat → Int) : Nat → Int → Option (Int)
  | 0 => fun _ => none
  | n + 1 => fun y0 => f_HM_steepest_2_b i_row i_high (f_HM_steepest_2 i_row i_high n) y0
def f_HM_steepest (i_row : Nat → Int) (i_high : Nat → Int) : Option (Int) :=
  f_HM_steepest_2 i_row i_high zfu 0
def f_HM_steep (i_row : Nat → Int) (i_thrown : Int) (i_high : Nat → Int) (i_heaps : Nat → Int) : Option (Int × Int × (Nat → Int) × (Nat → Int)) :=
  zd2 (f_HM_load i_row i_high i_heaps) fun a1 a2 =>
  zd1 (f_HM_steepest i_row a1) fun v3 =>
  some (v3, 0, a1, a2)
def f_HM_slideAll_34 (i_row : Nat → Int) (k7 : Int → Int → (Nat → Int) → (Nat → Int) → Option (Int × (Nat → Int) × (Nat → Int))) (x1 : Int) (s1 : Int) (s2 : Int) (i_high : Nat → Int) (i_heaps : Nat → Int) : Option (Int × (Nat → Int) × (Nat → Int)) :=
  zd2 (f_HM_shift s1 s2 i_high i_heaps) fun a1 a2 =>
  zn (x1 + 1) fun v3 =>
  zd1 (f_HM_steepest i_row a1) fun v4 =>
  k7 v3 v4 a1 a2
def f_HM_slideAll_7_b (i_row : Nat → Int) (k7 : Int → Int → (Nat → Int) → (Nat → Int) → Option (Int × (Nat → Int) × (Nat → Int))) (x1 : Int) (x2 : Int) (i_high : Nat → Int) (i_heaps : Nat → Int) : Option (Int × (Nat → Int) × (Nat → Int)) :=
  if zi_w x2 = zi_w (-1) then
    some (x1, i_high, i_heaps)
  else
    zn (x2 - 1) fun v1 =>
    zd1 (f_HM_isSteep x2 v1 i_row i_high) fun v2 =>
    if zi_w v2 = 0 then
      zn (x2 + 1) fun v3 =>
      f_HM_slideAll_34 i_row k7 x1 x2 v3 i_high i_heaps
    else
      zn (x2 - 1) fun v4 =>
      f_HM_slideAll_34 i_row k7 x1 x2 v4 i_high i_heaps
def f_HM_slideAll_7 (i_row : Nat → Int) : Nat → Int → Int → (Nat → Int) → (Nat → Int) → Option (Int × (Nat → Int) × (Nat → Int))
  | 0 => fun _ _ _ _ => none
  | n + 1 => fun y0 y1 y2 y3 => f_HM_slideAll_7_b i_row (f_HM_slideAll_7 i_row n) y0 y1 y2 y3
def f_HM_slideAll (i_row : Nat → Int) (i_high : Nat → Int) (i_heaps : Nat → Int) : Option (Int × (Nat → Int) × (Nat → Int)) :=
  zd1 (f_HM_steepest i_row i_high) fun v1 =>
  f_HM_slideAll_7 i_row zfu 0 v1 i_high i_heaps
def f_HM_slide (i_thrown : Int) (i_row : Nat → Int) (i_high : Nat → Int) (i_heaps : Nat → Int) : Option (Int × Int × (Nat → Int) × (Nat → Int) × (Nat → Int)) :=
  zd2 (f_HM_load i_row i_high i_heaps) fun a1 a2 =>
  zd3 (f_HM_slideAll i_row a1 a2) fun v3 a4 a5 =>
  zd1 (f_HM_store a4 a5 i_row) fun a6 =>
  some (v3, 0, a6, a4, a5)
def f_HM_shadeAt_47 (i_row : Nat → Int) (i_high : Nat → Int) (k4 : Int → Int → Int → Option (Int)) (x1 : Int) (x3 : Int) (s0 : Int) : Option (Int) :=
  zn (x3 + 1) fun v1 =>
  k4 x1 s0 v1
def f_HM_shadeAt_4_b (i_row : Nat → Int) (i_high : Nat → Int) (k4 : Int → Int → Int → Option (Int)) (x1 : Int) (x2 : Int) (x3 : Int) : Option (Int) :=
  zd1 (f_HM_columns i_row) fun v1 =>
  if zi_w v1 ≤ zi_w x3 then
    some x2
  else
    zg 12 i_high x3 fun v2 =>
    zg 5580 i_row 6 fun v3 =>
    zn (x3 - x1) fun v4 =>
    zd1 (f_HM_size v4) fun v5 =>
    zn (v3 * v5) fun v6 =>
    zn (v2 - v6) fun v7 =>
    if zi_w v7 ≤ zi_w x2 then
      f_HM_shadeAt_47 i_row i_high k4 x1 x3 x2
    else
      f_HM_shadeAt_47 i_row i_high k4 x1 x3 v7
def f_HM_shadeAt_4 (i_row : Nat → Int) (i_high : Nat → Int) : Nat → Int → Int → Int → Option (Int)
  | 0 => fun _ _ _ => none
  | n + 1 => fun y0 y1 y2 => f_HM_shadeAt_4_b i_row i_high (f_HM_shadeAt_4 i_row i_high n) y0 y1 y2
def f_HM_shadeAt (x1 : Int) (i_row : Nat → Int) (i_high : Nat → Int) : Option (Int) :=
  f_HM_shadeAt_4 i_row i_high zfu x1 0 0
def f_HM_allShades_4_b (i_row : Nat → Int) (i_high : Nat → Int) (k4 : Int → Int → Option (Int)) (x1 : Int) (x2 : Int) : Option (Int) :=
  zg 5580 i_row 2 fun v1 =>
  if zi_w v1 ≤ zi_w x2 then
    some x1
  else
    zn (171 + x2) fun v2 =>
    zg 5580 i_row v2 fun v3 =>
    zd1 (f_HM_shadeAt v3 i_row i_high) fun v4 =>
    zn (x1 + v4) fun v5 =>
    zn (x2 + 1) fun v6 =>
    k4 v5 v6
def f_HM_allShades_4 (i_row : Nat → Int) (i_high : Nat → Int) : Nat → Int → Int → Option (Int)
  | 0 => fun _ _ => none
  | n + 1 => fun y0 y1 => f_HM_allShades_4_b i_row i_high (f_HM_allShades_4 i_row i_high n) y0 y1
def f_HM_allShades (i_row : Nat → Int) (i_high : Nat → Int) : Option (Int) :=
  f_HM_allShades_4 i_row i_high zfu 0 0
def f_HM_isParish (x1 : Int) (i_row : Nat → Int) : Option (Int) :=
  zn (zi_w x1) fun v1 =>
  zg 5580 i_row 2 fun v2 =>
  zn (zi_w v2) fun v3 =>
  zn (v3 - 1) fun v4 =>
  zd1 (f_HM_in v1 0 v4) fun v5 =>
  if ¬ (zi_w v5 = 0 ∨ zi_w v5 = 1) then none else
  some v5
def f_HM_shade (x1 : Int) (i_row : Nat → Int) (i_thrown : Int) (i_high : Nat → Int) (i_heaps : Nat → Int) : Option (Int × Int × (Nat → Int) × (Nat → Int)) :=
  zd2 (f_HM_load i_row i_high i_heaps) fun a1 a2 =>
  if zi_w x1 ≠ zi_w (-1) then
    zd1 (f_HM_isParish x1 i_row) fun v3 =>
    if zi_w v3 = 0 then
      some ((-1), 0, a1, a2)
    else
      zn (171 + x1) fun v4 =>
      zg 5580 i_row v4 fun v5 =>
      zd1 (f_HM_shadeAt v5 i_row a1) fun v6 =>
      some (v6, 0, a1, a2)
  else
    zd1 (f_HM_allShades i_row a1) fun v7 =>
    some (v7, 0, a1, a2)
def f_HM_gains (x1 : Int) (x2 : Int) (x3 : Int) (x4 : Int) (i_row : Nat → Int) (i_thrown : Int) (i_law : Int) (i_broken : Int) (i_value : Int) (i_sum : Int) (i_set : Nat → Int) (i_rest : Nat → Int) (i_high : Nat → Int) (i_heaps : Nat → Int) : Option (Int × Int × Int × Int × Int × Int × (Nat → Int) × (Nat → Int) × (Nat → Int) × (Nat → Int)) :=
  zd1 (f_HM_isParish x1 i_row) fun v1 =>
  if zi_w v1 = 0 then
    some ((-1000), 0, i_law, i_broken, i_value, i_sum, i_set, i_rest, i_high, i_heaps)
  else
    zd1 (f_HM_are x2 x3 x4 i_row) fun v2 =>
    if zi_w v2 ≠ 0 then
      zd2 (f_HM_load i_row i_high i_heaps) fun a3 a4 =>
      zd7 (f_HM_carrying x2 x3 x4 i_row a3 a4 i_law i_broken i_value i_sum i_set i_rest) fun v5 v6 v7 v8 v9 a10 a11 =>
      if zi_w v5 ≠ zi_w (-1) then
        zn (171 + x1) fun v12 =>
        zg 5580 i_row v12 fun v13 =>
        zd1 (f_HM_shadeAt v13 i_row a3) fun v14 =>
        zd2 (f_HM_shift x3 x4 a3 a4) fun a15 a16 =>
        zn (171 + x1) fun v17 =>
        zg 5580 i_row v17 fun v18 =>
        zd1 (f_HM_shadeAt v18 i_row a15) fun v19 =>
        zn (v14 - v19) fun v20 =>
        some (v20, 0, v6, v7, v8, v9, a10, a11, a15, a16)
      else
        some ((-1000), 0, v6, v7, v8, v9, a10, a11, a3, a4)
    else
      some ((-1000), 0, i_law, i_broken, i_value, i_sum, i_set, i_rest, i_high, i_heaps)
def f_HM_goal (x1 : Int) (x2 : Int) (i_thrown : Int) (i_status : Int) (i_refusals : Nat → Int) (i_row : Nat → Int) : Option (Int × Int × Int × (Nat → Int) × (Nat → Int)) :=
  zn (zi_w x2) fun v1 =>
  zd1 (f_HM_in v1 (-1) 10) fun v2 =>
  if zi_w v2 ≠ 0 then
    zd1 (f_HM_isColumn x1 i_row) fun v3 =>
    if zi_w v3 ≠ 0 then
      zn (141 + x1) fun v4 =>
      zd3 (f_HM_change v4 x2 i_status i_row) fun v5 v6 a7 =>
      some (v5, 0, v6, i_refusals, a7)
    else
      zd3 (f_HM_tell (-2) i_status i_refusals) fun v8 v9 a10 =>
      if 0 ≤ zi_w v8 then
        some (0, 0, v9, a10, i_row)
      else
        some ((-1000), 0, v9, a10, i_row)
  else
    zd3 (f_HM_tell (-1) i_status i_refusals) fun v11 v12 a13 =>
    if 0 ≤ zi_w v11 then
      some (0, 0, v12, a13, i_row)
    else
      some ((-1000), 0, v12, a13, i_row)
def f_HM_stones_4_b (i_row : Nat → Int) (k4 : Int → Int → Option (Int)) (x1 : Int) (x2 : Int) : Option (Int) :=
  zd1 (f_HM_columns i_row) fun v1 =>
  if zi_w v1 ≤ zi_w x2 then
    some x1
  else
    zn (9 + x2) fun v2 =>
    zg 5580 i_row v2 fun v3 =>
    zn (x1 + v3) fun v4 =>
    zn (x2 + 1) fun v5 =>
    k4 v4 v5
def f_HM_stones_4 (i_row : Nat → Int) : Nat → Int → Int → Option (Int)
  | 0 => fun _ _ => none
  | n + 1 => fun y0 y1 => f_HM_stones_4_b i_row (f_HM_stones_4 i_row n) y0 y1
def f_HM_stones (i_row : Nat → Int) : Option (Int) :=
  f_HM_stones_4 i_row zfu 0 0
def f_HM_costAt (x1 : Int) (x2 : Int) (x3 : Int) (x4 : Int) (x5 : Int) : Option (Int) :=
  zn (x1 * 5) fun v1 =>
  zn (v1 + x2) fun v2 =>
  zn (v2 * 16) fun v3 =>
  zn (v3 + x3) fun v4 =>
  zn (v4 * 25) fun v5 =>
  zn (x4 - 1) fun v6 =>
  zn (5 * v6) fun v7 =>
  zn (v5 + v7) fun v8 =>
  zn (v8 + x5) fun v9 =>
  some v9
def f_HM_smallTop (x1 : Int) (i_small : Nat → Int) (i_tall : Nat → Int) : Option (Int) :=
  zn (5 * x1) fun v1 =>
  zg 4 i_tall x1 fun v2 =>
  zn (v1 + v2) fun v3 =>
  zn (v3 - 1) fun v4 =>
  zg 20 i_small v4 fun v5 =>
  some v5
def f_HM_openSmall_111_b (k102 : Int → (Nat → Int) → (Nat → Int) → Option ((Nat → Int) × (Nat → Int))) (k111 : Int → Int → (Nat → Int) → (Nat → Int) → Option ((Nat → Int) × (Nat → Int))) (x5 : Int) (x6 : Int) (i_small : Nat → Int) (i_tall : Nat → Int) : Option ((Nat → Int) × (Nat → Int)) :=
  zg 4 i_tall x5 fun v1 =>
  if zi_w 2 = 0 then none else zn (zi_div v1 2) fun v2 =>
  if zi_w v2 ≤ zi_w x6 then
    zn (x5 + 1) fun v3 =>
    k102 v3 i_small i_tall
  else
    zg 4 i_tall x5 fun v4 =>
    zn (v4 - 1) fun v5 =>
    zn (v5 - x6) fun v6 =>
    zn (5 * x5) fun v7 =>
    zn (v7 + x6) fun v8 =>
    zg 20 i_small v8 fun v9 =>
    zn (5 * x5) fun v10 =>
    zn (v10 + x6) fun v11 =>
    zn (5 * x5) fun v12 =>
    zn (v12 + v6) fun v13 =>
    zg 20 i_small v13 fun v14 =>
    zs 20 i_small v11 v14 fun a15 =>
    zn (5 * x5) fun v16 =>
    zn (v16 + v6) fun v17 =>
    zs 20 a15 v17 v9 fun a18 =>
    zn (x6 + 1) fun v19 =>
    k111 x5 v19 a18 i_tall
def f_HM_openSmall_111 (k102 : Int → (Nat → Int) → (Nat → Int) → Option ((Nat → Int) × (Nat → Int))) : Nat → Int → Int → (Nat → Int) → (Nat → Int) → Option ((Nat → Int) × (Nat → Int))
  | 0 => fun _ _ _ _ => none
  | n + 1 => fun y0 y1 y2 y3 => f_HM_openSmall_111_b k102 (f_HM_openSmall_111 k102 n) y0 y1 y2 y3
def f_HM_openSmall_102_b  (k102 : Int → (Nat → Int) → (Nat → Int) → Option ((Nat → Int) × (Nat → Int))) (x5 : Int) (i_small : Nat → Int) (i_tall : Nat → Int) : Option ((Nat → Int) × (Nat → Int)) :=
  if zi_w 4 ≤ zi_w x5 then
    some (i_small, i_tall)
  else
    f_HM_openSmall_111 k102 zfu x5 0 i_small i_tall
def f_HM_openSmall_102  : Nat → Int → (Nat → Int) → (Nat → Int) → Option ((Nat → Int) × (Nat → Int))
  | 0 => fun _ _ _ => none
  | n + 1 => fun y0 y1 y2 => f_HM_openSmall_102_b  (f_HM_openSmall_102  n) y0 y1 y2
def f_HM_openSmall_93 (k31 : Int → Int → Int → Int → (Nat → Int) → (Nat → Int) → Option ((Nat → Int) × (Nat → Int))) (x2 : Int) (x3 : Int) (x4 : Int) (x5 : Int) (i_small : Nat → Int) (i_tall : Nat → Int) : Option ((Nat → Int) × (Nat → Int)) :=
  zn (x5 + 1) fun v1 =>
  k31 x2 x3 x4 v1 i_small i_tall
def f_HM_openSmall_31_b  (k31 : Int → Int → Int → Int → (Nat → Int) → (Nat → Int) → Option ((Nat → Int) × (Nat → Int))) (x2 : Int) (x3 : Int) (x4 : Int) (x5 : Int) (i_small : Nat → Int) (i_tall : Nat → Int) : Option ((Nat → Int) × (Nat → Int)) :=
  zn (x2 + 3) fun v1 =>
  if zi_w v1 ≤ zi_w x5 then
    f_HM_openSmall_102 zfu 0 i_small i_tall
  else
    if zi_w 6 = 0 then none else zn (zi_rem x3 6) fun v2 =>
    if zi_w 6 = 0 then none else zn (zi_div x3 6) fun v3 =>
    if zi_w v2 ≠ 0 then
      zn (5 * x4) fun v4 =>
      zg 4 i_tall x4 fun v5 =>
      zn (v4 + v5) fun v6 =>
      zn (v2 - 1) fun v7 =>
      zs 20 i_small v6 v7 fun a8 =>
      zg 4 i_tall x4 fun v9 =>
      zn (v9 + 1) fun v10 =>
      zs 4 i_tall x4 v10 fun a11 =>
      f_HM_openSmall_93 k31 x2 v3 x4 x5 a8 a11
    else
      zn (x4 + (-1)) fun v12 =>
      f_HM_openSmall_93 k31 x2 v3 v12 x5 i_small i_tall
def f_HM_openSmall_31  : Nat → Int → Int → Int → Int → (Nat → Int) → (Nat → Int) → Option ((Nat → Int) × (Nat → Int))
  | 0 => fun _ _ _ _ _ _ => none
  | n + 1 => fun y0 y1 y2 y3 y4 y5 => f_HM_openSmall_31_b  (f_HM_openSmall_31  n) y0 y1 y2 y3 y4 y5
def f_HM_openSmall_8_b  (k8 : Int → Int → Int → Int → (Nat → Int) → (Nat → Int) → Option ((Nat → Int) × (Nat → Int))) (x2 : Int) (x3 : Int) (x4 : Int) (x5 : Int) (i_small : Nat → Int) (i_tall : Nat → Int) : Option ((Nat → Int) × (Nat → Int)) :=
  if zi_w 4 ≤ zi_w x5 then
    f_HM_openSmall_31 zfu x2 x3 x4 0 i_small i_tall
  else
    zs 4 i_tall x5 0 fun a1 =>
    zn (x5 + 1) fun v2 =>
    k8 x2 x3 x4 v2 i_small a1
def f_HM_openSmall_8  : Nat → Int → Int → Int → Int → (Nat → Int) → (Nat → Int) → Option ((Nat → Int) × (Nat → Int))
  | 0 => fun _ _ _ _ _ _ => none
  | n + 1 => fun y0 y1 y2 y3 y4 y5 => f_HM_openSmall_8_b  (f_HM_openSmall_8  n) y0 y1 y2 y3 y4 y5
def f_HM_openSmall (x1 : Int) (x2 : Int) (i_small : Nat → Int) (i_tall : Nat → Int) : Option ((Nat → Int) × (Nat → Int)) :=
  f_HM_openSmall_8 zfu x2 x1 3 0 i_small i_tall
def f_HM_price (x1 : Int) (x2 : Int) (x3 : Int) (x4 : Int) (x5 : Int) (i_states : Nat → Int) (i_costs : Nat → Int) (i_small : Nat → Int) (i_tall : Nat → Int) : Option (Int × (Nat → Int) × (Nat → Int)) :=
  zg 6720 i_states x2 fun v1 =>
  zd2 (f_HM_openSmall v1 x5 i_small i_tall) fun a2 a3 =>
  if zi_w 4 = 0 then none else zn (zi_div x3 4) fun v4 =>
  zd1 (f_HM_smallTop v4 a2 a3) fun v5 =>
  zg 4 a3 v4 fun v6 =>
  if zi_w 4 = 0 then none else zn (zi_rem x3 4) fun v7 =>
  zg 4 a3 v7 fun v8 =>
  zd1 (f_HM_costAt x4 v5 x3 v6 v8) fun v9 =>
  zg 12000 i_costs v9 fun v10 =>
  if zi_w v10 ≠ zi_w (-1) then
    if zi_w x1 ≠ zi_w 2 then
      some (1, a2, a3)
    else
      zn (zi_w v10) fun v11 =>
      zn (10000 * v11) fun v12 =>
      zn (v12 + 1) fun v13 =>
      some (v13, a2, a3)
  else
    some (1000000000000000, a2, a3)
def f_HM_isOpen (x1 : Int) (x2 : Int) (x3 : Int) (i_nexts : Nat → Int) (i_safes : Nat → Int) : Option (Int) :=
  zn (16 * x2) fun v1 =>
  zn (v1 + x3) fun v2 =>
  zg 107520 i_nexts v2 fun v3 =>
  if zi_w v3 = zi_w (-1) then
    some 0
  else
    if zi_w x1 ≠ zi_w 1 then
      some 1
    else
      zg 6720 i_safes v3 fun v4 =>
      if zi_w v4 = 0 then
        some 0
      else
        some 1
def f_HM_firstMove_99 (i_row : Nat → Int) (i_states : Nat → Int) (i_nexts : Nat → Int) (i_left : Nat → Int) (i_costs : Nat → Int) (i_safes : Nat → Int) (k3 : Int → Int → Int → Int → (Nat → Int) → (Nat → Int) → Option (Int × (Nat → Int) × (Nat → Int))) (x1 : Int) (x2 : Int) (x3 : Int) (x4 : Int) (i_small : Nat → Int) (i_tall : Nat → Int) : Option (Int × (Nat → Int) × (Nat → Int)) :=
  zn (x4 + 1) fun v1 =>
  k3 x1 x2 x3 v1 i_small i_tall
def f_HM_firstMove_47 (i_row : Nat → Int) (i_states : Nat → Int) (i_nexts : Nat → Int) (i_left : Nat → Int) (i_costs : Nat → Int) (i_safes : Nat → Int) (k3 : Int → Int → Int → Int → (Nat → Int) → (Nat → Int) → Option (Int × (Nat → Int) × (Nat → Int))) (x1 : Int) (x2 : Int) (x3 : Int) (x4 : Int) (x5 : Int) (s0 : Int) (i_small : Nat → Int) (i_tall : Nat → Int) : Option (Int × (Nat → Int) × (Nat → Int)) :=
  if zi_w s0 = 0 then
    f_HM_firstMove_99 i_row i_states i_nexts i_left i_costs i_safes k3 x1 x2 x3 x4 i_small i_tall
  else
    if zi_w 6 = 0 then none else zn (zi_rem x4 6) fun v1 =>
    zd3 (f_HM_price x1 x2 x5 v1 x3 i_states i_costs i_small i_tall) fun v2 a3 a4 =>
    zn (16 * x2) fun v5 =>
    zn (v5 + x5) fun v6 =>
    zg 107520 i_nexts v6 fun v7 =>
    zg 6720 i_left v7 fun v8 =>
    zn (v2 + v8) fun v9 =>
    zg 6720 i_left x2 fun v10 =>
    if zl_w v9 ≠ zl_w v10 then
      f_HM_firstMove_99 i_row i_states i_nexts i_left i_costs i_safes k3 x1 x2 x3 x4 a3 a4
    else
      some (x4, a3, a4)
def f_HM_firstMove_46 (i_row : Nat → Int) (i_states : Nat → Int) (i_nexts : Nat → Int) (i_left : Nat → Int) (i_costs : Nat → Int) (i_safes : Nat → Int) (k3 : Int → Int → Int → Int → (Nat → Int) → (Nat → Int) → Option (Int × (Nat → Int) × (Nat → Int))) (x1 : Int) (x2 : Int) (x3 : Int) (x4 : Int) (x5 : Int) (i_small : Nat → Int) (i_tall : Nat → Int) : Option (Int × (Nat → Int) × (Nat → Int)) :=
  f_HM_firstMove_47 i_row i_states i_nexts i_left i_costs i_safes k3 x1 x2 x3 x4 x5 0 i_small i_tall
def f_HM_firstMove_3_b (i_row : Nat → Int) (i_states : Nat → Int) (i_nexts : Nat → Int) (i_left : Nat → Int) (i_costs : Nat → Int) (i_safes : Nat → Int) (k3 : Int → Int → Int → Int → (Nat → Int) → (Nat → Int) → Option (Int × (Nat → Int) × (Nat → Int))) (x1 : Int) (x2 : Int) (x3 : Int) (x4 : Int) (i_small : Nat → Int) (i_tall : Nat → Int) : Option (Int × (Nat → Int) × (Nat → Int)) :=
  if zi_w 96 ≤ zi_w x4 then
    some ((-1), i_small, i_tall)
  else
    if zi_w 6 = 0 then none else zn (zi_div x4 6) fun v1 =>
    if zi_w 6 = 0 then none else zn (zi_rem x4 6) fun v2 =>
    zg 5580 i_row 1 fun v3 =>
    if zi_w v3 ≤ zi_w v2 then
      f_HM_firstMove_46 i_row i_states i_nexts i_left i_costs i_safes k3 x1 x2 x3 x4 v1 i_small i_tall
    else
      zd1 (f_HM_isOpen x1 x2 v1 i_nexts i_safes) fun v4 =>
      if zi_w v4 = 0 then
        f_HM_firstMove_46 i_row i_states i_nexts i_left i_costs i_safes k3 x1 x2 x3 x4 v1 i_small i_tall
      else
        f_HM_firstMove_47 i_row i_states i_nexts i_left i_costs i_safes k3 x1 x2 x3 x4 v1 1 i_small i_tall
def f_HM_firstMove_3 (i_row : Nat → Int) (i_states : Nat → Int) (i_nexts : Nat → Int) (i_left : Nat → Int) (i_costs : Nat → Int) (i_safes : Nat → Int) : Nat → Int → Int → Int → Int → (Nat → Int) → (Nat → Int) → Option (Int × (Nat → Int) × (Nat → Int))
  | 0 => fun _ _ _ _ _ _ => none
  | n + 1 => fun y0 y1 y2 y3 y4 y5 => f_HM_firstMove_3_b i_row i_states i_nexts i_left i_costs i_safes (f_HM_firstMove_3 i_row i_states i_nexts i_left i_costs i_safes n) y0 y1 y2 y3 y4 y5
def f_HM_firstMove (x1 : Int) (x2 : Int) (x3 : Int) (i_row : Nat → Int) (i_states : Nat → Int) (i_nexts : Nat → Int) (i_left : Nat → Int) (i_costs : Nat → Int) (i_safes : Nat → Int) (i_small : Nat → Int) (i_tall : Nat → Int) : Option (Int × (Nat → Int) × (Nat → Int)) :=
  f_HM_firstMove_3 i_row i_states i_nexts i_left i_costs i_safes zfu x1 x2 x3 0 i_small i_tall
def f_HM_isGoal_54 (i_row : Nat → Int) (i_tall : Nat → Int) (k4 : Int → Int → Option (Int)) (x2 : Int) (s0 : Int) : Option (Int) :=
  zn (x2 + 1) fun v1 =>
  k4 s0 v1
def f_HM_isGoal_53 (i_row : Nat → Int) (i_tall : Nat → Int) (k4 : Int → Int → Option (Int)) (x2 : Int) : Option (Int) :=
  f_HM_isGoal_54 i_row i_tall k4 x2 0
def f_HM_isGoal_49 (i_row : Nat → Int) (i_tall : Nat → Int) (k4 : Int → Int → Option (Int)) (x2 : Int) : Option (Int) :=
  f_HM_isGoal_54 i_row i_tall k4 x2 1
def f_HM_isGoal_4_b (i_row : Nat → Int) (i_tall : Nat → Int) (k4 : Int → Int → Option (Int)) (x1 : Int) (x2 : Int) : Option (Int) :=
  zd1 (f_HM_columns i_row) fun v1 =>
  if zi_w v1 ≤ zi_w x2 then
    if ¬ (zi_w x1 = 0 ∨ zi_w x1 = 1) then none else
    some x1
  else
    if zi_w x1 = 0 then
      f_HM_isGoal_53 i_row i_tall k4 x2
    else
      zn (141 + x2) fun v2 =>
      zg 5580 i_row v2 fun v3 =>
      if zi_w v3 = zi_w (-1) then
        f_HM_isGoal_49 i_row i_tall k4 x2
      else
        zn (141 + x2) fun v4 =>
        zg 5580 i_row v4 fun v5 =>
        zg 4 i_tall x2 fun v6 =>
        if zi_w v5 ≠ zi_w v6 then
          f_HM_isGoal_53 i_row i_tall k4 x2
        else
          f_HM_isGoal_49 i_row i_tall k4 x2
def f_HM_isGoal_4 (i_row : Nat → Int) (i_tall : Nat → Int) : Nat → Int → Int → Option (Int)
  | 0 => fun _ _ => none
  | n + 1 => fun y0 y1 => f_HM_isGoal_4_b i_row i_tall (f_HM_isGoal_4 i_row i_tall n) y0 y1
def f_HM_isGoal (i_row : Nat → Int) (i_tall : Nat → Int) : Option (Int) :=
  f_HM_isGoal_4 i_row i_tall zfu 1 0
def f_HM_codeOfSmall_58 (i_small : Nat → Int) (i_tall : Nat → Int) (k4 : Int → Int → Option (Int)) (x2 : Int) (s0 : Int) : Option (Int) :=
  zn (x2 + 1) fun v1 =>
  k4 s0 v1
def f_HM_codeOfSmall_11_b (i_small : Nat → Int) (i_tall : Nat → Int) (k4 : Int → Int → Option (Int)) (k11 : Int → Int → Int → Option (Int)) (x1 : Int) (x2 : Int) (x3 : Int) : Option (Int) :=
  zg 4 i_tall x2 fun v1 =>
  if zi_w v1 ≤ zi_w x3 then
    if zi_w 3 ≤ zi_w x2 then
      f_HM_codeOfSmall_58 i_small i_tall k4 x2 x1
    else
      zn (6 * x1) fun v2 =>
      f_HM_codeOfSmall_58 i_small i_tall k4 x2 v2
  else
    zn (6 * x1) fun v3 =>
    zn (5 * x2) fun v4 =>
    zn (v4 + x3) fun v5 =>
    zg 20 i_small v5 fun v6 =>
    zn (v3 + v6) fun v7 =>
    zn (v7 + 1) fun v8 =>
    zn (x3 + 1) fun v9 =>
    k11 v8 x2 v9
def f_HM_codeOfSmall_11 (i_small : Nat → Int) (i_tall : Nat → Int) (k4 : Int → Int → Option (Int)) : Nat → Int → Int → Int → Option (Int)
  | 0 => fun _ _ _ => none
  | n + 1 => fun y0 y1 y2 => f_HM_codeOfSmall_11_b i_small i_tall k4 (f_HM_codeOfSmall_11 i_small i_tall k4 n) y0 y1 y2
def f_HM_codeOfSmall_4_b (i_small : Nat → Int) (i_tall : Nat → Int) (k4 : Int → Int → Option (Int)) (x1 : Int) (x2 : Int) : Option (Int) :=
  if zi_w 4 ≤ zi_w x2 then
    some x1
  else
    f_HM_codeOfSmall_11 i_small i_tall k4 zfu x1 x2 0
def f_HM_codeOfSmall_4 (i_small : Nat → Int) (i_tall : Nat → Int) : Nat → Int → Int → Option (Int)
  | 0 => fun _ _ => none
  | n + 1 => fun y0 y1 => f_HM_codeOfSmall_4_b i_small i_tall (f_HM_codeOfSmall_4 i_small i_tall n) y0 y1
def f_HM_codeOfSmall (i_small : Nat → Int) (i_tall : Nat → Int) : Option (Int) :=
  f_HM_codeOfSmall_4 i_small i_tall zfu 0 0
def f_HM_placeOf_9_b (i_states : Nat → Int) (i_table : Nat → Int) (k9 : Int → Int → Option (Int)) (x1 : Int) (x2 : Int) : Option (Int) :=
  zg 16384 i_table x2 fun v1 =>
  if zi_w v1 = zi_w (-1) then
    some x2
  else
    zg 16384 i_table x2 fun v2 =>
    zg 6720 i_states v2 fun v3 =>
    if zi_w v3 = zi_w x1 then
      some x2
    else
      zn (x2 + 1) fun v4 =>
      if zi_w 16384 = 0 then none else zn (zi_rem v4 16384) fun v5 =>
      k9 x1 v5
def f_HM_placeOf_9 (i_states : Nat → Int) (i_table : Nat → Int) : Nat → Int → Int → Option (Int)
  | 0 => fun _ _ => none
  | n + 1 => fun y0 y1 => f_HM_placeOf_9_b i_states i_table (f_HM_placeOf_9 i_states i_table n) y0 y1
def f_HM_placeOf (x1 : Int) (i_states : Nat → Int) (i_table : Nat → Int) : Option (Int) :=
  zn (x1 * 31) fun v1 =>
  if zi_w 16384 = 0 then none else zn (zi_rem v1 16384) fun v2 =>
  f_HM_placeOf_9 i_states i_table zfu x1 v2
def f_HM_numberOf (x1 : Int) (i_nStates : Int) (i_states : Nat → Int) (i_table : Nat → Int) : Option (Int × Int × (Nat → Int) × (Nat → Int)) :=
  zd1 (f_HM_placeOf x1 i_states i_table) fun v1 =>
  zg 16384 i_table v1 fun v2 =>
  if zi_w v2 ≠ zi_w (-1) then
    zg 16384 i_table v1 fun v3 =>
    some (v3, i_nStates, i_states, i_table)
  else
    zs 16384 i_table v1 i_nStates fun a4 =>
    zs 6720 i_states i_nStates x1 fun a5 =>
    zn (i_nStates + 1) fun v6 =>
    zg 16384 a4 v1 fun v7 =>
    some (v7, v6, a5, a4)
def f_HM_findCosts_127 (i_row : Nat → Int) (i_weights : Nat → Int) (k2 : Int → Int → Int → Int → Int → Int → (Nat → Int) → (Nat → Int) → (Nat → Int) → Option (Int × Int × Int × Int × (Nat → Int) × (Nat → Int) × (Nat → Int))) (k14 : Int → Int → Int → Int → Int → Int → Int → (Nat → Int) → (Nat → Int) → (Nat → Int) → Option (Int × Int × Int × Int × (Nat → Int) × (Nat → Int) × (Nat → Int))) (k22 : Int → Int → Int → Int → Int → Int → Int → Int → (Nat → Int) → (Nat → Int) → (Nat → Int) → Option (Int × Int × Int × Int × (Nat → Int) × (Nat → Int) × (Nat → Int))) (k61 : Int → Int → Int → Int → Int → Int → Int → Int → Int → Int → (Nat → Int) → (Nat → Int) → (Nat → Int) → Option (Int × Int × Int × Int × (Nat → Int) × (Nat → Int) × (Nat → Int))) (x1 : Int) (x2 : Int) (x3 : Int) (x4 : Int) (x5 : Int) (x6 : Int) (s1 : Int) (s2 : Int) (i_law : Int) (i_broken : Int) (i_value : Int) (i_sum : Int) (i_set : Nat → Int) (i_rest : Nat → Int) (i_costs : Nat → Int) : Option (Int × Int × Int × Int × (Nat → Int) × (Nat → Int) × (Nat → Int)) :=
  zs 12000 i_costs s1 s2 fun a1 =>
  zn (x6 + 1) fun v2 =>
  k61 x1 x2 x3 x4 x5 v2 i_law i_broken i_value i_sum i_set i_rest a1
def f_HM_findCosts_61_b (i_row : Nat → Int) (i_weights : Nat → Int) (k2 : Int → Int → Int → Int → Int → Int → (Nat → Int) → (Nat → Int) → (Nat → Int) → Option (Int × Int × Int × Int × (Nat → Int) × (Nat → Int) × (Nat → Int))) (k14 : Int → Int → Int → Int → Int → Int → Int → (Nat → Int) → (Nat → Int) → (Nat → Int) → Option (Int × Int × Int × Int × (Nat → Int) × (Nat → Int) × (Nat → Int))) (k22 : Int → Int → Int → Int → Int → Int → Int → Int → (Nat → Int) → (Nat → Int) → (Nat → Int) → Option (Int × Int × Int × Int × (Nat → Int) × (Nat → Int) × (Nat → Int))) (k61 : Int → Int → Int → Int → Int → Int → Int → Int → Int → Int → (Nat → Int) → (Nat → Int) → (Nat → Int) → Option (Int × Int × Int × Int × (Nat → Int) × (Nat → Int) × (Nat → Int))) (x1 : Int) (x2 : Int) (x3 : Int) (x4 : Int) (x5 : Int) (x6 : Int) (i_law : Int) (i_broken : Int) (i_value : Int) (i_sum : Int) (i_set : Nat → Int) (i_rest : Nat → Int) (i_costs : Nat → Int) : Option (Int × Int × Int × Int × (Nat → Int) × (Nat → Int) × (Nat → Int)) :=
  if zi_w 25 ≤ zi_w x6 then
    zn (x4 + 1) fun v1 =>
    k22 x1 x2 x3 v1 i_law i_broken i_value i_sum i_set i_rest i_costs
  else
    zn (x2 * 5) fun v2 =>
    zn (v2 + x3) fun v3 =>
    zn (v3 * 16) fun v4 =>
    zn (v4 + x4) fun v5 =>
    zn (v5 * 25) fun v6 =>
    zn (v6 + x6) fun v7 =>
    if zi_w x5 = 0 then
      f_HM_findCosts_127 i_row i_weights k2 k14 k22 k61 x1 x2 x3 x4 x5 x6 v7 (-1) i_law i_broken i_value i_sum i_set i_rest i_costs
    else
      zg 5 i_weights x3 fun v8 =>
      if zi_w 4 = 0 then none else zn (zi_div x4 4) fun v9 =>
      if zi_w 4 = 0 then none else zn (zi_rem x4 4) fun v10 =>
      if zi_w 5 = 0 then none else zn (zi_div x6 5) fun v11 =>
      zn (v11 + 1) fun v12 =>
      if zi_w 5 = 0 then none else zn (zi_rem x6 5) fun v13 =>
      zd7 (f_HM_tiring x2 v8 v9 v10 v12 v13 i_row i_law i_broken i_value i_sum i_set i_rest) fun v14 v15 v16 v17 v18 a19 a20 =>
      f_HM_findCosts_127 i_row i_weights k2 k14 k22 k61 x1 x2 x3 x4 x5 x6 v7 v14 v15 v16 v17 v18 a19 a20 i_costs
def f_HM_findCosts_61 (i_row : Nat → Int) (i_weights : Nat → Int) (k2 : Int → Int → Int → Int → Int → Int → (Nat → Int) → (Nat → Int) → (Nat → Int) → Option (Int × Int × Int × Int × (Nat → Int) × (Nat → Int) × (Nat → Int))) (k14 : Int → Int → Int → Int → Int → Int → Int → (Nat → Int) → (Nat → Int) → (Nat → Int) → Option (Int × Int × Int × Int × (Nat → Int) × (Nat → Int) × (Nat → Int))) (k22 : Int → Int → Int → Int → Int → Int → Int → Int → (Nat → Int) → (Nat → Int) → (Nat → Int) → Option (Int × Int × Int × Int × (Nat → Int) × (Nat → Int) × (Nat → Int))) : Nat → Int → Int → Int → Int → Int → Int → Int → Int → Int → Int → (Nat → Int) → (Nat → Int) → (Nat → Int) → Option (Int × Int × Int × Int × (Nat → Int) × (Nat → Int) × (Nat → Int))
  | 0 => fun _ _ _ _ _ _ _ _ _ _ _ _ _ => none
  | n + 1 => fun y0 y1 y2 y3 y4 y5 y6 y7 y8 y9 y10 y11 y12 => f_HM_findCosts_61_b i_row i_weights k2 k14 k22 (f_HM_findCosts_61 i_row i_weights k2 k14 k22 n) y0 y1 y2 y3 y4 y5 y6 y7 y8 y9 y10 y11 y12
def f_HM_findCosts_56 (i_row : Nat → Int) (i_weights : Nat → Int) (k2 : Int → Int → Int → Int → Int → Int → (Nat → Int) → (Nat → Int) → (Nat → Int) → Option (Int × Int × Int × Int × (Nat → Int) × (Nat → Int) × (Nat → Int))) (k14 : Int → Int → Int → Int → Int → Int → Int → (Nat → Int) → (Nat → Int) → (Nat → Int) → Option (Int × Int × Int × Int × (Nat → Int) × (Nat → Int) × (Nat → Int))) (k22 : Int → Int → Int → Int → Int → Int → Int → Int → (Nat → Int) → (Nat → Int) → (Nat → Int) → Option (Int × Int × Int × Int × (Nat → Int) × (Nat → Int) × (Nat → Int))) (x1 : Int) (x2 : Int) (x3 : Int) (x4 : Int) (s0 : Int) (i_law : Int) (i_broken : Int) (i_value : Int) (i_sum : Int) (i_set : Nat → Int) (i_rest : Nat → Int) (i_costs : Nat → Int) : Option (Int × Int × Int × Int × (Nat → Int) × (Nat → Int) × (Nat → Int)) :=
  f_HM_findCosts_61 i_row i_weights k2 k14 k22 zfu x1 x2 x3 x4 s0 0 i_law i_broken i_value i_sum i_set i_rest i_costs
def f_HM_findCosts_55 (i_row : Nat → Int) (i_weights : Nat → Int) (k2 : Int → Int → Int → Int → Int → Int → (Nat → Int) → (Nat → Int) → (Nat → Int) → Option (Int × Int × Int × Int × (Nat → Int) × (Nat → Int) × (Nat → Int))) (k14 : Int → Int → Int → Int → Int → Int → Int → (Nat → Int) → (Nat → Int) → (Nat → Int) → Option (Int × Int × Int × Int × (Nat → Int) × (Nat → Int) × (Nat → Int))) (k22 : Int → Int → Int → Int → Int → Int → Int → Int → (Nat → Int) → (Nat → Int) → (Nat → Int) → Option (Int × Int × Int × Int × (Nat → Int) × (Nat → Int) × (Nat → Int))) (x1 : Int) (x2 : Int) (x3 : Int) (x4 : Int) (i_law : Int) (i_broken : Int) (i_value : Int) (i_sum : Int) (i_set : Nat → Int) (i_rest : Nat → Int) (i_costs : Nat → Int) : Option (Int × Int × Int × Int × (Nat → Int) × (Nat → Int) × (Nat → Int)) :=
  f_HM_findCosts_56 i_row i_weights k2 k14 k22 x1 x2 x3 x4 0 i_law i_broken i_value i_sum i_set i_rest i_costs
def f_HM_findCosts_22_b (i_row : Nat → Int) (i_weights : Nat → Int) (k2 : Int → Int → Int → Int → Int → Int → (Nat → Int) → (Nat → Int) → (Nat → Int) → Option (Int × Int × Int × Int × (Nat → Int) × (Nat → Int) × (Nat → Int))) (k14 : Int → Int → Int → Int → Int → Int → Int → (Nat → Int) → (Nat → Int) → (Nat → Int) → Option (Int × Int × Int × Int × (Nat → Int) × (Nat → Int) × (Nat → Int))) (k22 : Int → Int → Int → Int → Int → Int → Int → Int → (Nat → Int) → (Nat → Int) → (Nat → Int) → Option (Int × Int × Int × Int × (Nat → Int) × (Nat → Int) × (Nat → Int))) (x1 : Int) (x2 : Int) (x3 : Int) (x4 : Int) (i_law : Int) (i_broken : Int) (i_value : Int) (i_sum : Int) (i_set : Nat → Int) (i_rest : Nat → Int) (i_costs : Nat → Int) : Option (Int × Int × Int × Int × (Nat → Int) × (Nat → Int) × (Nat → Int)) :=
  if zi_w 16 ≤ zi_w x4 then
    zn (x3 + 1) fun v1 =>
    k14 x1 x2 v1 i_law i_broken i_value i_sum i_set i_rest i_costs
  else
    if zi_w 4 = 0 then none else zn (zi_div x4 4) fun v2 =>
    zd1 (f_HM_columns i_row) fun v3 =>
    if zi_w v3 ≤ zi_w v2 then
      f_HM_findCosts_55 i_row i_weights k2 k14 k22 x1 x2 x3 x4 i_law i_broken i_value i_sum i_set i_rest i_costs
    else
      if zi_w 4 = 0 then none else zn (zi_rem x4 4) fun v4 =>
      zd1 (f_HM_columns i_row) fun v5 =>
      if zi_w v5 ≤ zi_w v4 then
        f_HM_findCosts_55 i_row i_weights k2 k14 k22 x1 x2 x3 x4 i_law i_broken i_value i_sum i_set i_rest i_costs
      else
        f_HM_findCosts_56 i_row i_weights k2 k14 k22 x1 x2 x3 x4 1 i_law i_broken i_value i_sum i_set i_rest i_costs
def f_HM_findCosts_22 (i_row : Nat → Int) (i_weights : Nat → Int) (k2 : Int → Int → Int → Int → Int → Int → (Nat → Int) → (Nat → Int) → (Nat → Int) → Option (Int × Int × Int × Int × (Nat → Int) × (Nat → Int) × (Nat → Int))) (k14 : Int → Int → Int → Int → Int → Int → Int → (Nat → Int) → (Nat → Int) → (Nat → Int) → Option (Int × Int × Int × Int × (Nat → Int) × (Nat → Int) × (Nat → Int))) : Nat → Int → Int → Int → Int → Int → Int → Int → Int → (Nat → Int) → (Nat → Int) → (Nat → Int) → Option (Int × Int × Int × Int × (Nat → Int) × (Nat → Int) × (Nat → Int))
  | 0 => fun _ _ _ _ _ _ _ _ _ _ _ => none
  | n + 1 => fun y0 y1 y2 y3 y4 y5 y6 y7 y8 y9 y10 => f_HM_findCosts_22_b i_row i_weights k2 k14 (f_HM_findCosts_22 i_row i_weights k2 k14 n) y0 y1 y2 y3 y4 y5 y6 y7 y8 y9 y10
def f_HM_findCosts_14_b (i_row : Nat → Int) (i_weights : Nat → Int) (k2 : Int → Int → Int → Int → Int → Int → (Nat → Int) → (Nat → Int) → (Nat → Int) → Option (Int × Int × Int × Int × (Nat → Int) × (Nat → Int) × (Nat → Int))) (k14 : Int → Int → Int → Int → Int → Int → Int → (Nat → Int) → (Nat → Int) → (Nat → Int) → Option (Int × Int × Int × Int × (Nat → Int) × (Nat → Int) × (Nat → Int))) (x1 : Int) (x2 : Int) (x3 : Int) (i_law : Int) (i_broken : Int) (i_value : Int) (i_sum : Int) (i_set : Nat → Int) (i_rest : Nat → Int) (i_costs : Nat → Int) : Option (Int × Int × Int × Int × (Nat → Int) × (Nat → Int) × (Nat → Int)) :=
  if zi_w x1 ≤ zi_w x3 then
    zn (x2 + 1) fun v1 =>
    k2 x1 v1 i_law i_broken i_value i_sum i_set i_rest i_costs
  else
    f_HM_findCosts_22 i_row i_weights k2 k14 zfu x1 x2 x3 0 i_law i_broken i_value i_sum i_set i_rest i_costs
def f_HM_findCosts_14 (i_row : Nat → Int) (i_weights : Nat → Int) (k2 : Int → Int → Int → Int → Int → Int → (Nat → Int) → (Nat → Int) → (Nat → Int) → Option (Int × Int × Int × Int × (Nat → Int) × (Nat → Int) × (Nat → Int))) : Nat → Int → Int → Int → Int → Int → Int → Int → (Nat → Int) → (Nat → Int) → (Nat → Int) → Option (Int × Int × Int × Int × (Nat → Int) × (Nat → Int) × (Nat → Int))
  | 0 => fun _ _ _ _ _ _ _ _ _ _ => none
  | n + 1 => fun y0 y1 y2 y3 y4 y5 y6 y7 y8 y9 => f_HM_findCosts_14_b i_row i_weights k2 (f_HM_findCosts_14 i_row i_weights k2 n) y0 y1 y2 y3 y4 y5 y6 y7 y8 y9
def f_HM_findCosts_2_b (i_row : Nat → Int) (i_weights : Nat → Int) (k2 : Int → Int → Int → Int → Int → Int → (Nat → Int) → (Nat → Int) → (Nat → Int) → Option (Int × Int × Int × Int × (Nat → Int) × (Nat → Int) × (Nat → Int))) (x1 : Int) (x2 : Int) (i_law : Int) (i_broken : Int) (i_value : Int) (i_sum : Int) (i_set : Nat → Int) (i_rest : Nat → Int) (i_costs : Nat → Int) : Option (Int × Int × Int × Int × (Nat → Int) × (Nat → Int) × (Nat → Int)) :=
  zg 5580 i_row 1 fun v1 =>
  if zi_w v1 ≤ zi_w x2 then
    some (i_law, i_broken, i_value, i_sum, i_set, i_rest, i_costs)
  else
    f_HM_findCosts_14 i_row i_weights k2 zfu x1 x2 0 i_law i_broken i_value i_sum i_set i_rest i_costs
def f_HM_findCosts_2 (i_row : Nat → Int) (i_weights : Nat → Int) : Nat → Int → Int → Int → Int → Int → Int → (Nat → Int) → (Nat → Int) → (Nat → Int) → Option (Int × Int × Int × Int × (Nat → Int) × (Nat → Int) × (Nat → Int))
  | 0 => fun _ _ _ _ _ _ _ _ _ => none
  | n + 1 => fun y0 y1 y2 y3 y4 y5 y6 y7 y8 => f_HM_findCosts_2_b i_row i_weights (f_HM_findCosts_2 i_row i_weights n) y0 y1 y2 y3 y4 y5 y6 y7 y8
def f_HM_findCosts (x1 : Int) (i_row : Nat → Int) (i_weights : Nat → Int) (i_law : Int) (i_broken : Int) (i_value : Int) (i_sum : Int) (i_set : Nat → Int) (i_rest : Nat → Int) (i_costs : Nat → Int) : Option (Int × Int × Int × Int × (Nat → Int) × (Nat → Int) × (Nat → Int)) :=
  f_HM_findCosts_2 i_row i_weights zfu x1 0 i_law i_broken i_value i_sum i_set i_rest i_costs
def f_HM_isMove_115 (i_row : Nat → Int) (i_costs : Nat → Int) (i_small : Nat → Int) (i_tall : Nat → Int) (k49 : Int → Int → Int → Int → Int → Int → Option (Int)) (x1 : Int) (x2 : Int) (x3 : Int) (x4 : Int) (x6 : Int) (s0 : Int) : Option (Int) :=
  zn (x6 + 1) fun v1 =>
  k49 x1 x2 x3 x4 s0 v1
def f_HM_isMove_110 (i_row : Nat → Int) (i_costs : Nat → Int) (i_small : Nat → Int) (i_tall : Nat → Int) (k49 : Int → Int → Int → Int → Int → Int → Option (Int)) (x1 : Int) (x2 : Int) (x3 : Int) (x4 : Int) (x6 : Int) : Option (Int) :=
  f_HM_isMove_115 i_row i_costs i_small i_tall k49 x1 x2 x3 x4 x6 1
def f_HM_isMove_114 (i_row : Nat → Int) (i_costs : Nat → Int) (i_small : Nat → Int) (i_tall : Nat → Int) (k49 : Int → Int → Int → Int → Int → Int → Option (Int)) (x1 : Int) (x2 : Int) (x3 : Int) (x4 : Int) (x6 : Int) : Option (Int) :=
  f_HM_isMove_115 i_row i_costs i_small i_tall k49 x1 x2 x3 x4 x6 0
def f_HM_isMove_76 (i_row : Nat → Int) (i_costs : Nat → Int) (i_small : Nat → Int) (i_tall : Nat → Int) (k49 : Int → Int → Int → Int → Int → Int → Option (Int)) (x1 : Int) (x2 : Int) (x3 : Int) (x4 : Int) (x6 : Int) : Option (Int) :=
  zd1 (f_HM_smallTop x3 i_small i_tall) fun v1 =>
  zg 4 i_tall x3 fun v2 =>
  zg 4 i_tall x4 fun v3 =>
  zd1 (f_HM_costAt x6 v1 x1 v2 v3) fun v4 =>
  zg 12000 i_costs v4 fun v5 =>
  if zi_w v5 = zi_w (-1) then
    f_HM_isMove_114 i_row i_costs i_small i_tall k49 x1 x2 x3 x4 x6
  else
    f_HM_isMove_110 i_row i_costs i_small i_tall k49 x1 x2 x3 x4 x6
def f_HM_isMove_49_b (i_row : Nat → Int) (i_costs : Nat → Int) (i_small : Nat → Int) (i_tall : Nat → Int) (k49 : Int → Int → Int → Int → Int → Int → Option (Int)) (x1 : Int) (x2 : Int) (x3 : Int) (x4 : Int) (x5 : Int) (x6 : Int) : Option (Int) :=
  zg 5580 i_row 1 fun v1 =>
  if zi_w v1 ≤ zi_w x6 then
    if ¬ (zi_w x5 = 0 ∨ zi_w x5 = 1) then none else
    some x5
  else
    if zi_w x5 ≠ 0 then
      f_HM_isMove_110 i_row i_costs i_small i_tall k49 x1 x2 x3 x4 x6
    else
      if zi_w x2 = zi_w (-1) then
        f_HM_isMove_76 i_row i_costs i_small i_tall k49 x1 x2 x3 x4 x6
      else
        if zi_w x2 ≠ zi_w x6 then
          f_HM_isMove_114 i_row i_costs i_small i_tall k49 x1 x2 x3 x4 x6
        else
          f_HM_isMove_76 i_row i_costs i_small i_tall k49 x1 x2 x3 x4 x6
def f_HM_isMove_49 (i_row : Nat → Int) (i_costs : Nat → Int) (i_small : Nat → Int) (i_tall : Nat → Int) : Nat → Int → Int → Int → Int → Int → Int → Option (Int)
  | 0 => fun _ _ _ _ _ _ => none
  | n + 1 => fun y0 y1 y2 y3 y4 y5 => f_HM_isMove_49_b i_row i_costs i_small i_tall (f_HM_isMove_49 i_row i_costs i_small i_tall n) y0 y1 y2 y3 y4 y5
def f_HM_isMove (x1 : Int) (x2 : Int) (i_row : Nat → Int) (i_costs : Nat → Int) (i_small : Nat → Int) (i_tall : Nat → Int) : Option (Int) :=
  if zi_w 4 = 0 then none else zn (zi_div x1 4) fun v1 =>
  if zi_w 4 = 0 then none else zn (zi_rem x1 4) fun v2 =>
  if zi_w v1 = zi_w v2 then
    some 0
  else
    zd1 (f_HM_columns i_row) fun v3 =>
    if zi_w v3 ≤ zi_w v1 then
      some 0
    else
      zd1 (f_HM_columns i_row) fun v4 =>
      if zi_w v4 ≤ zi_w v2 then
        some 0
      else
        zg 4 i_tall v1 fun v5 =>
        if zi_w v5 ≠ 0 then
          f_HM_isMove_49 i_row i_costs i_small i_tall zfu x1 x2 v1 v2 0 0
        else
          some 0
def f_HM_moved (x1 : Int) (i_nStates : Int) (i_states : Nat → Int) (i_table : Nat → Int) (i_small : Nat → Int) (i_tall : Nat → Int) : Option (Int × Int × (Nat → Int) × (Nat → Int) × (Nat → Int) × (Nat → Int)) :=
  if zi_w 4 = 0 then none else zn (zi_div x1 4) fun v1 =>
  if zi_w 4 = 0 then none else zn (zi_rem x1 4) fun v2 =>
  zd1 (f_HM_smallTop v1 i_small i_tall) fun v3 =>
  zg 4 i_tall v1 fun v4 =>
  zn (v4 - 1) fun v5 =>
  zs 4 i_tall v1 v5 fun a6 =>
  zn (5 * v2) fun v7 =>
  zg 4 a6 v2 fun v8 =>
  zn (v7 + v8) fun v9 =>
  zs 20 i_small v9 v3 fun a10 =>
  zg 4 a6 v2 fun v11 =>
  zn (v11 + 1) fun v12 =>
  zs 4 a6 v2 v12 fun a13 =>
  zd1 (f_HM_codeOfSmall a10 a13) fun v14 =>
  zd4 (f_HM_numberOf v14 i_nStates i_states i_table) fun v15 v16 a17 a18 =>
  some (v15, v16, a17, a18, a10, a13)
def f_HM_findStates_201 (i_row : Nat → Int) (k141 : Int → Int → Int → Int → Int → Int → Int → (Nat → Int) → (Nat → Int) → (Nat → Int) → (Nat → Int) → (Nat → Int) → (Nat → Int) → (Nat → Int) → (Nat → Int) → (Nat → Int) → Option (Int × Int × Int × Int × Int × (Nat → Int) × (Nat → Int) × (Nat → Int) × (Nat → Int) × (Nat → Int) × (Nat → Int) × (Nat → Int) × (Nat → Int) × (Nat → Int))) (k152 : Int → Int → Int → Int → Int → Int → Int → Int → (Nat → Int) → (Nat → Int) → (Nat → Int) → (Nat → Int) → (Nat → Int) → (Nat → Int) → (Nat → Int) → (Nat → Int) → (Nat → Int) → Option (Int × Int × Int × Int × Int × (Nat → Int) × (Nat → Int) × (Nat → Int) × (Nat → Int) × (Nat → Int) × (Nat → Int) × (Nat → Int) × (Nat → Int) × (Nat → Int))) (x1 : Int) (x3 : Int) (x4 : Int) (s1 : Int) (s2 : Int) (i_law : Int) (i_broken : Int) (i_value : Int) (i_sum : Int) (i_nStates : Int) (i_set : Nat → Int) (i_rest : Nat → Int) (i_weights : Nat → Int) (i_states : Nat → Int) (i_table : Nat → Int) (i_nexts : Nat → Int) (i_costs : Nat → Int) (i_small : Nat → Int) (i_tall : Nat → Int) : Option (Int × Int × Int × Int × Int × (Nat → Int) × (Nat → Int) × (Nat → Int) × (Nat → Int) × (Nat → Int) × (Nat → Int) × (Nat → Int) × (Nat → Int) × (Nat → Int)) :=
  zs 107520 i_nexts s1 s2 fun a1 =>
  zn (x4 + 1) fun v2 =>
  k152 x1 x3 v2 i_law i_broken i_value i_sum i_nStates i_set i_rest i_weights i_states i_table a1 i_costs i_small i_tall
def f_HM_findStates_152_b (i_row : Nat → Int) (k141 : Int → Int → Int → Int → Int → Int → Int → (Nat → Int) → (Nat → Int) → (Nat → Int) → (Nat → Int) → (Nat → Int) → (Nat → Int) → (Nat → Int) → (Nat → Int) → (Nat → Int) → Option (Int × Int × Int × Int × Int × (Nat → Int) × (Nat → Int) × (Nat → Int) × (Nat → Int) × (Nat → Int) × (Nat → Int) × (Nat → Int) × (Nat → Int) × (Nat → Int))) (k152 : Int → Int → Int → Int → Int → Int → Int → Int → (Nat → Int) → (Nat → Int) → (Nat → Int) → (Nat → Int) → (Nat → Int) → (Nat → Int) → (Nat → Int) → (Nat → Int) → (Nat → Int) → Option (Int × Int × Int × Int × Int × (Nat → Int) × (Nat → Int) × (Nat → Int) × (Nat → Int) × (Nat → Int) × (Nat → Int) × (Nat → Int) × (Nat → Int) × (Nat → Int))) (x1 : Int) (x3 : Int) (x4 : Int) (i_law : Int) (i_broken : Int) (i_value : Int) (i_sum : Int) (i_nStates : Int) (i_set : Nat → Int) (i_rest : Nat → Int) (i_weights : Nat → Int) (i_states : Nat → Int) (i_table : Nat → Int) (i_nexts : Nat → Int) (i_costs : Nat → Int) (i_small : Nat → Int) (i_tall : Nat → Int) : Option (Int × Int × Int × Int × Int × (Nat → Int) × (Nat → Int) × (Nat → Int) × (Nat → Int) × (Nat → Int) × (Nat → Int) × (Nat → Int) × (Nat → Int) × (Nat → Int)) :=
  if zi_w 16 ≤ zi_w x4 then
    zn (x3 + 1) fun v1 =>
    k141 x1 v1 i_law i_broken i_value i_sum i_nStates i_set i_rest i_weights i_states i_table i_nexts i_costs i_small i_tall
  else
    zg 6720 i_states x3 fun v2 =>
    zd2 (f_HM_openSmall v2 x1 i_small i_tall) fun a3 a4 =>
    zn (16 * x3) fun v5 =>
    zn (v5 + x4) fun v6 =>
    zd1 (f_HM_isMove x4 (-1) i_row i_costs a3 a4) fun v7 =>
    if zi_w v7 = 0 then
      f_HM_findStates_201 i_row k141 k152 x1 x3 x4 v6 (-1) i_law i_broken i_value i_sum i_nStates i_set i_rest i_weights i_states i_table i_nexts i_costs a3 a4
    else
      zd6 (f_HM_moved x4 i_nStates i_states i_table a3 a4) fun v8 v9 a10 a11 a12 a13 =>
      f_HM_findStates_201 i_row k141 k152 x1 x3 x4 v6 v8 i_law i_broken i_value i_sum v9 i_set i_rest i_weights a10 a11 i_nexts i_costs a12 a13
def f_HM_findStates_152 (i_row : Nat → Int) (k141 : Int → Int → Int → Int → Int → Int → Int → (Nat → Int) → (Nat → Int) → (Nat → Int) → (Nat → Int) → (Nat → Int) → (Nat → Int) → (Nat → Int) → (Nat → Int) → (Nat → Int) → Option (Int × Int × Int × Int × Int × (Nat → Int) × (Nat → Int) × (Nat → Int) × (Nat → Int) × (Nat → Int) × (Nat → Int) × (Nat → Int) × (Nat → Int) × (Nat → Int))) : Nat → Int → Int → Int → Int → Int → Int → Int → Int → (Nat → Int) → (Nat → Int) → (Nat → Int) → (Nat → Int) → (Nat → Int) → (Nat → Int) → (Nat → Int) → (Nat → Int) → (Nat → Int) → Option (Int × Int × Int × Int × Int × (Nat → Int) × (Nat → Int) × (Nat → Int) × (Nat → Int) × (Nat → Int) × (Nat → Int) × (Nat → Int) × (Nat → Int) × (Nat → Int))
  | 0 => fun _ _ _ _ _ _ _ _ _ _ _ _ _ _ _ _ _ => none
  | n + 1 => fun y0 y1 y2 y3 y4 y5 y6 y7 y8 y9 y10 y11 y12 y13 y14 y15 y16 => f_HM_findStates_152_b i_row k141 (f_HM_findStates_152 i_row k141 n) y0 y1 y2 y3 y4 y5 y6 y7 y8 y9 y10 y11 y12 y13 y14 y15 y16
def f_HM_findStates_141_b (i_row : Nat → Int) (k141 : Int → Int → Int → Int → Int → Int → Int → (Nat → Int) → (Nat → Int) → (Nat → Int) → (Nat → Int) → (Nat → Int) → (Nat → Int) → (Nat → Int) → (Nat → Int) → (Nat → Int) → Option (Int × Int × Int × Int × Int × (Nat → Int) × (Nat → Int) × (Nat → Int) × (Nat → Int) × (Nat → Int) × (Nat → Int) × (Nat → Int) × (Nat → Int) × (Nat → Int))) (x1 : Int) (x3 : Int) (i_law : Int) (i_broken : Int) (i_value : Int) (i_sum : Int) (i_nStates : Int) (i_set : Nat → Int) (i_rest : Nat → Int) (i_weights : Nat → Int) (i_states : Nat → Int) (i_table : Nat → Int) (i_nexts : Nat → Int) (i_costs : Nat → Int) (i_small : Nat → Int) (i_tall : Nat → Int) : Option (Int × Int × Int × Int × Int × (Nat → Int) × (Nat → Int) × (Nat → Int) × (Nat → Int) × (Nat → Int) × (Nat → Int) × (Nat → Int) × (Nat → Int) × (Nat → Int)) :=
  if zi_w i_nStates ≤ zi_w x3 then
    some (i_law, i_broken, i_value, i_sum, i_nStates, i_set, i_rest, i_weights, i_states, i_table, i_nexts, i_costs, i_small, i_tall)
  else
    f_HM_findStates_152 i_row k141 zfu x1 x3 0 i_law i_broken i_value i_sum i_nStates i_set i_rest i_weights i_states i_table i_nexts i_costs i_small i_tall
def f_HM_findStates_141 (i_row : Nat → Int) : Nat → Int → Int → Int → Int → Int → Int → Int → (Nat → Int) → (Nat → Int) → (Nat → Int) → (Nat → Int) → (Nat → Int) → (Nat → Int) → (Nat → Int) → (Nat → Int) → (Nat → Int) → Option (Int × Int × Int × Int × Int × (Nat → Int) × (Nat → Int) × (Nat → Int) × (Nat → Int) × (Nat → Int) × (Nat → Int) × (Nat → Int) × (Nat → Int) × (Nat → Int))
  | 0 => fun _ _ _ _ _ _ _ _ _ _ _ _ _ _ _ _ => none
  | n + 1 => fun y0 y1 y2 y3 y4 y5 y6 y7 y8 y9 y10 y11 y12 y13 y14 y15 => f_HM_findStates_141_b i_row (f_HM_findStates_141 i_row n) y0 y1 y2 y3 y4 y5 y6 y7 y8 y9 y10 y11 y12 y13 y14 y15
def f_HM_findStates_66_b (i_row : Nat → Int) (k31 : Int → Int → Int → Int → Int → Int → Int → Int → (Nat → Int) → (Nat → Int) → (Nat → Int) → (Nat → Int) → (Nat → Int) → (Nat → Int) → (Nat → Int) → (Nat → Int) → (Nat → Int) → Option (Int × Int × Int × Int × Int × (Nat → Int) × (Nat → Int) × (Nat → Int) × (Nat → Int) × (Nat → Int) × (Nat → Int) × (Nat → Int) × (Nat → Int) × (Nat → Int))) (k66 : Int → Int → Int → Int → Int → Int → Int → Int → Int → (Nat → Int) → (Nat → Int) → (Nat → Int) → (Nat → Int) → (Nat → Int) → (Nat → Int) → (Nat → Int) → (Nat → Int) → (Nat → Int) → Option (Int × Int × Int × Int × Int × (Nat → Int) × (Nat → Int) × (Nat → Int) × (Nat → Int) × (Nat → Int) × (Nat → Int) × (Nat → Int) × (Nat → Int) × (Nat → Int))) (x1 : Int) (x2 : Int) (x3 : Int) (x4 : Int) (i_law : Int) (i_broken : Int) (i_value : Int) (i_sum : Int) (i_nStates : Int) (i_set : Nat → Int) (i_rest : Nat → Int) (i_weights : Nat → Int) (i_states : Nat → Int) (i_table : Nat → Int) (i_nexts : Nat → Int) (i_costs : Nat → Int) (i_small : Nat → Int) (i_tall : Nat → Int) : Option (Int × Int × Int × Int × Int × (Nat → Int) × (Nat → Int) × (Nat → Int) × (Nat → Int) × (Nat → Int) × (Nat → Int) × (Nat → Int) × (Nat → Int) × (Nat → Int)) :=
  zg 4 i_tall x3 fun v1 =>
  if zi_w v1 ≤ zi_w x4 then
    zn (x3 + 1) fun v2 =>
    k31 x1 x2 v2 i_law i_broken i_value i_sum i_nStates i_set i_rest i_weights i_states i_table i_nexts i_costs i_small i_tall
  else
    zn (10 * x3) fun v3 =>
    zn (21 + v3) fun v4 =>
    zn (v4 + x4) fun v5 =>
    zg 5580 i_row v5 fun v6 =>
    zs 5 i_weights x2 v6 fun a7 =>
    zn (5 * x3) fun v8 =>
    zn (v8 + x4) fun v9 =>
    zs 20 i_small v9 x2 fun a10 =>
    zn (x2 + 1) fun v11 =>
    zn (x4 + 1) fun v12 =>
    k66 x1 v11 x3 v12 i_law i_broken i_value i_sum i_nStates i_set i_rest a7 i_states i_table i_nexts i_costs a10 i_tall
def f_HM_findStates_66 (i_row : Nat → Int) (k31 : Int → Int → Int → Int → Int → Int → Int → Int → (Nat → Int) → (Nat → Int) → (Nat → Int) → (Nat → Int) → (Nat → Int) → (Nat → Int) → (Nat → Int) → (Nat → Int) → (Nat → Int) → Option (Int × Int × Int × Int × Int × (Nat → Int) × (Nat → Int) × (Nat → Int) × (Nat → Int) × (Nat → Int) × (Nat → Int) × (Nat → Int) × (Nat → Int) × (Nat → Int))) : Nat → Int → Int → Int → Int → Int → Int → Int → Int → Int → (Nat → Int) → (Nat → Int) → (Nat → Int) → (Nat → Int) → (Nat → Int) → (Nat → Int) → (Nat → Int) → (Nat → Int) → (Nat → Int) → Option (Int × Int × Int × Int × Int × (Nat → Int) × (Nat → Int) × (Nat → Int) × (Nat → Int) × (Nat → Int) × (Nat → Int) × (Nat → Int) × (Nat → Int) × (Nat → Int))
  | 0 => fun _ _ _ _ _ _ _ _ _ _ _ _ _ _ _ _ _ _ => none
  | n + 1 => fun y0 y1 y2 y3 y4 y5 y6 y7 y8 y9 y10 y11 y12 y13 y14 y15 y16 y17 => f_HM_findStates_66_b i_row k31 (f_HM_findStates_66 i_row k31 n) y0 y1 y2 y3 y4 y5 y6 y7 y8 y9 y10 y11 y12 y13 y14 y15 y16 y17
def f_HM_findStates_62 (i_row : Nat → Int) (k31 : Int → Int → Int → Int → Int → Int → Int → Int → (Nat → Int) → (Nat → Int) → (Nat → Int) → (Nat → Int) → (Nat → Int) → (Nat → Int) → (Nat → Int) → (Nat → Int) → (Nat → Int) → Option (Int × Int × Int × Int × Int × (Nat → Int) × (Nat → Int) × (Nat → Int) × (Nat → Int) × (Nat → Int) × (Nat → Int) × (Nat → Int) × (Nat → Int) × (Nat → Int))) (x1 : Int) (x2 : Int) (x3 : Int) (s1 : Int) (s2 : Int) (i_law : Int) (i_broken : Int) (i_value : Int) (i_sum : Int) (i_nStates : Int) (i_set : Nat → Int) (i_rest : Nat → Int) (i_weights : Nat → Int) (i_states : Nat → Int) (i_table : Nat → Int) (i_nexts : Nat → Int) (i_costs : Nat → Int) (i_small : Nat → Int) (i_tall : Nat → Int) : Option (Int × Int × Int × Int × Int × (Nat → Int) × (Nat → Int) × (Nat → Int) × (Nat → Int) × (Nat → Int) × (Nat → Int) × (Nat → Int) × (Nat → Int) × (Nat → Int)) :=
  zs 4 i_tall s1 s2 fun a1 =>
  f_HM_findStates_66 i_row k31 zfu x1 x2 x3 0 i_law i_broken i_value i_sum i_nStates i_set i_rest i_weights i_states i_table i_nexts i_costs i_small a1
def f_HM_findStates_31_b (i_row : Nat → Int) (k31 : Int → Int → Int → Int → Int → Int → Int → Int → (Nat → Int) → (Nat → Int) → (Nat → Int) → (Nat → Int) → (Nat → Int) → (Nat → Int) → (Nat → Int) → (Nat → Int) → (Nat → Int) → Option (Int × Int × Int × Int × Int × (Nat → Int) × (Nat → Int) × (Nat → Int) × (Nat → Int) × (Nat → Int) × (Nat → Int) × (Nat → Int) × (Nat → Int) × (Nat → Int))) (x1 : Int) (x2 : Int) (x3 : Int) (i_law : Int) (i_broken : Int) (i_value : Int) (i_sum : Int) (i_nStates : Int) (i_set : Nat → Int) (i_rest : Nat → Int) (i_weights : Nat → Int) (i_states : Nat → Int) (i_table : Nat → Int) (i_nexts : Nat → Int) (i_costs : Nat → Int) (i_small : Nat → Int) (i_tall : Nat → Int) : Option (Int × Int × Int × Int × Int × (Nat → Int) × (Nat → Int) × (Nat → Int) × (Nat → Int) × (Nat → Int) × (Nat → Int) × (Nat → Int) × (Nat → Int) × (Nat → Int)) :=
  if zi_w 4 ≤ zi_w x3 then
    zd7 (f_HM_findCosts x1 i_row i_weights i_law i_broken i_value i_sum i_set i_rest i_costs) fun v1 v2 v3 v4 a5 a6 a7 =>
    zd1 (f_HM_codeOfSmall i_small i_tall) fun v8 =>
    zd4 (f_HM_numberOf v8 i_nStates i_states i_table) fun v9 v10 a11 a12 =>
    f_HM_findStates_141 i_row zfu x1 0 v1 v2 v3 v4 v10 a5 a6 i_weights a11 a12 i_nexts a7 i_small i_tall
  else
    zd1 (f_HM_columns i_row) fun v13 =>
    if zi_w v13 ≤ zi_w x3 then
      f_HM_findStates_62 i_row k31 x1 x2 x3 x3 0 i_law i_broken i_value i_sum i_nStates i_set i_rest i_weights i_states i_table i_nexts i_costs i_small i_tall
    else
      zn (9 + x3) fun v14 =>
      zg 5580 i_row v14 fun v15 =>
      f_HM_findStates_62 i_row k31 x1 x2 x3 x3 v15 i_law i_broken i_value i_sum i_nStates i_set i_rest i_weights i_states i_table i_nexts i_costs i_small i_tall
def f_HM_findStates_31 (i_row : Nat → Int) : Nat → Int → Int → Int → Int → Int → Int → Int → Int → (Nat → Int) → (Nat → Int) → (Nat → Int) → (Nat → Int) → (Nat → Int) → (Nat → Int) → (Nat → Int) → (Nat → Int) → (Nat → Int) → Option (Int × Int × Int × Int × Int × (Nat → Int) × (Nat → Int) × (Nat → Int) × (Nat → Int) × (Nat → Int) × (Nat → Int) × (Nat → Int) × (Nat → Int) × (Nat → Int))
  | 0 => fun _ _ _ _ _ _ _ _ _ _ _ _ _ _ _ _ _ => none
  | n + 1 => fun y0 y1 y2 y3 y4 y5 y6 y7 y8 y9 y10 y11 y12 y13 y14 y15 y16 => f_HM_findStates_31_b i_row (f_HM_findStates_31 i_row n) y0 y1 y2 y3 y4 y5 y6 y7 y8 y9 y10 y11 y12 y13 y14 y15 y16
def f_HM_findStates_2_b (i_row : Nat → Int) (k2 : Int → Int → Int → Int → Int → Int → Int → (Nat → Int) → (Nat → Int) → (Nat → Int) → (Nat → Int) → (Nat → Int) → (Nat → Int) → (Nat → Int) → (Nat → Int) → (Nat → Int) → Option (Int × Int × Int × Int × Int × (Nat → Int) × (Nat → Int) × (Nat → Int) × (Nat → Int) × (Nat → Int) × (Nat → Int) × (Nat → Int) × (Nat → Int) × (Nat → Int))) (x1 : Int) (x2 : Int) (i_law : Int) (i_broken : Int) (i_value : Int) (i_sum : Int) (i_nStates : Int) (i_set : Nat → Int) (i_rest : Nat → Int) (i_weights : Nat → Int) (i_states : Nat → Int) (i_table : Nat → Int) (i_nexts : Nat → Int) (i_costs : Nat → Int) (i_small : Nat → Int) (i_tall : Nat → Int) : Option (Int × Int × Int × Int × Int × (Nat → Int) × (Nat → Int) × (Nat → Int) × (Nat → Int) × (Nat → Int) × (Nat → Int) × (Nat → Int) × (Nat → Int) × (Nat → Int)) :=
  if zi_w 16384 ≤ zi_w x2 then
    f_HM_findStates_31 i_row zfu x1 0 0 i_law i_broken i_value i_sum 0 i_set i_rest i_weights i_states i_table i_nexts i_costs i_small i_tall
  else
    zs 16384 i_table x2 (-1) fun a1 =>
    zn (x2 + 1) fun v2 =>
    k2 x1 v2 i_law i_broken i_value i_sum i_nStates i_set i_rest i_weights i_states a1 i_nexts i_costs i_small i_tall
def f_HM_findStates_2 (i_row : Nat → Int) : Nat → Int → Int → Int → Int → Int → Int → Int → (Nat → Int) → (Nat → Int) → (Nat → Int) → (Nat → Int) → (Nat → Int) → (Nat → Int) → (Nat → Int) → (Nat → Int) → (Nat → Int) → Option (Int × Int × Int × Int × Int × (Nat → Int) × (Nat → Int) × (Nat → Int) × (Nat → Int) × (Nat → Int) × (Nat → Int) × (Nat → Int) × (Nat → Int) × (Nat → Int))
  | 0 => fun _ _ _ _ _ _ _ _ _ _ _ _ _ _ _ _ => none
  | n + 1 => fun y0 y1 y2 y3 y4 y5 y6 y7 y8 y9 y10 y11 y12 y13 y14 y15 => f_HM_findStates_2_b i_row (f_HM_findStates_2 i_row n) y0 y1 y2 y3 y4 y5 y6 y7 y8 y9 y10 y11 y12 y13 y14 y15
def f_HM_findStates (x1 : Int) (i_row : Nat → Int) (i_law : Int) (i_broken : Int) (i_value : Int) (i_sum : Int) (i_nStates : Int) (i_set : Nat → Int) (i_rest : Nat → Int) (i_weights : Nat → Int) (i_states : Nat → Int) (i_table : Nat → Int) (i_nexts : Nat → Int) (i_costs : Nat → Int) (i_small : Nat → Int) (i_tall : Nat → Int) : Option (Int × Int × Int × Int × Int × (Nat → Int) × (Nat → Int) × (Nat → Int) × (Nat → Int) × (Nat → Int) × (Nat → Int) × (Nat → Int) × (Nat → Int) × (Nat → Int)) :=
  f_HM_findStates_2 i_row zfu x1 0 i_law i_broken i_value i_sum i_nStates i_set i_rest i_weights i_states i_table i_nexts i_costs i_small i_tall
def f_HM_isSafe_64 (i_row : Nat → Int) (i_tall : Nat → Int) (k4 : Int → Int → Option (Int)) (k14 : Int → Int → Int → Option (Int)) (x2 : Int) (x3 : Int) (s0 : Int) : Option (Int) :=
  zn (x3 + 1) fun v1 =>
  k14 s0 x2 v1
def f_HM_isSafe_63 (i_row : Nat → Int) (i_tall : Nat → Int) (k4 : Int → Int → Option (Int)) (k14 : Int → Int → Int → Option (Int)) (x2 : Int) (x3 : Int) : Option (Int) :=
  f_HM_isSafe_64 i_row i_tall k4 k14 x2 x3 0
def f_HM_isSafe_59 (i_row : Nat → Int) (i_tall : Nat → Int) (k4 : Int → Int → Option (Int)) (k14 : Int → Int → Int → Option (Int)) (x2 : Int) (x3 : Int) : Option (Int) :=
  f_HM_isSafe_64 i_row i_tall k4 k14 x2 x3 1
def f_HM_isSafe_14_b (i_row : Nat → Int) (i_tall : Nat → Int) (k4 : Int → Int → Option (Int)) (k14 : Int → Int → Int → Option (Int)) (x1 : Int) (x2 : Int) (x3 : Int) : Option (Int) :=
  zd1 (f_HM_columns i_row) fun v1 =>
  if zi_w v1 ≤ zi_w x3 then
    zn (x2 + 1) fun v2 =>
    k4 x1 v2
  else
    if zi_w x1 = 0 then
      f_HM_isSafe_63 i_row i_tall k4 k14 x2 x3
    else
      zn (x2 - x3) fun v3 =>
      zd1 (f_HM_size v3) fun v4 =>
      if zi_w v4 ≠ zi_w 1 then
        f_HM_isSafe_59 i_row i_tall k4 k14 x2 x3
      else
        zg 4 i_tall x2 fun v5 =>
        zg 4 i_tall x3 fun v6 =>
        zg 5580 i_row 7 fun v7 =>
        zn (v6 + v7) fun v8 =>
        if zi_w v8 < zi_w v5 then
          f_HM_isSafe_63 i_row i_tall k4 k14 x2 x3
        else
          f_HM_isSafe_59 i_row i_tall k4 k14 x2 x3
def f_HM_isSafe_14 (i_row : Nat → Int) (i_tall : Nat → Int) (k4 : Int → Int → Option (Int)) : Nat → Int → Int → Int → Option (Int)
  | 0 => fun _ _ _ => none
  | n + 1 => fun y0 y1 y2 => f_HM_isSafe_14_b i_row i_tall k4 (f_HM_isSafe_14 i_row i_tall k4 n) y0 y1 y2
def f_HM_isSafe_4_b (i_row : Nat → Int) (i_tall : Nat → Int) (k4 : Int → Int → Option (Int)) (x1 : Int) (x2 : Int) : Option (Int) :=
  zd1 (f_HM_columns i_row) fun v1 =>
  if zi_w v1 ≤ zi_w x2 then
    if ¬ (zi_w x1 = 0 ∨ zi_w x1 = 1) then none else
    some x1
  else
    f_HM_isSafe_14 i_row i_tall k4 zfu x1 x2 0
def f_HM_isSafe_4 (i_row : Nat → Int) (i_tall : Nat → Int) : Nat → Int → Int → Option (Int)
  | 0 => fun _ _ => none
  | n + 1 => fun y0 y1 => f_HM_isSafe_4_b i_row i_tall (f_HM_isSafe_4 i_row i_tall n) y0 y1
def f_HM_isSafe (i_row : Nat → Int) (i_tall : Nat → Int) : Option (Int) :=
  f_HM_isSafe_4 i_row i_tall zfu 1 0
def f_HM_findLeft_296 (i_row : Nat → Int) (k191 : Int → Int → Int → Int → Int → Int → Int → (Nat → Int) → (Nat → Int) → (Nat → Int) → (Nat → Int) → (Nat → Int) → (Nat → Int) → (Nat → Int) → (Nat → Int) → (Nat → Int) → (Nat → Int) → (Nat → Int) → (Nat → Int) → Option (Int × Int × Int × Int × Int × (Nat → Int) × (Nat → Int) × (Nat → Int) × (Nat → Int) × (Nat → Int) × (Nat → Int) × (Nat → Int) × (Nat → Int) × (Nat → Int) × (Nat → Int) × (Nat → Int) × (Nat → Int))) (k205 : Int → Int → Int → Int → Int → Int → Int → Int → (Nat → Int) → (Nat → Int) → (Nat → Int) → (Nat → Int) → (Nat → Int) → (Nat → Int) → (Nat → Int) → (Nat → Int) → (Nat → Int) → (Nat → Int) → (Nat → Int) → (Nat → Int) → Option (Int × Int × Int × Int × Int × (Nat → Int) × (Nat → Int) × (Nat → Int) × (Nat → Int) × (Nat → Int) × (Nat → Int) × (Nat → Int) × (Nat → Int) × (Nat → Int) × (Nat → Int) × (Nat → Int) × (Nat → Int))) (k213 : Int → Int → Int → Int → Int → Int → Int → Int → Int → (Nat → Int) → (Nat → Int) → (Nat → Int) → (Nat → Int) → (Nat → Int) → (Nat → Int) → (Nat → Int) → (Nat → Int) → (Nat → Int) → (Nat → Int) → (Nat → Int) → (Nat → Int) → Option (Int × Int × Int × Int × Int × (Nat → Int) × (Nat → Int) × (Nat → Int) × (Nat → Int) × (Nat → Int) × (Nat → Int) × (Nat → Int) × (Nat → Int) × (Nat → Int) × (Nat → Int) × (Nat → Int) × (Nat → Int))) (x1 : Int) (x3 : Int) (x4 : Int) (x5 : Int) (i_law : Int) (i_broken : Int) (i_value : Int) (i_sum : Int) (i_nStates : Int) (i_set : Nat → Int) (i_rest : Nat → Int) (i_weights : Nat → Int) (i_states : Nat → Int) (i_table : Nat → Int) (i_nexts : Nat → Int) (i_left : Nat → Int) (i_costs : Nat → Int) (i_small : Nat → Int) (i_tall : Nat → Int) (i_safes : Nat → Int) (i_cheapest : Nat → Int) : Option (Int × Int × Int × Int × Int × (Nat → Int) × (Nat → Int) × (Nat → Int) × (Nat → Int) × (Nat → Int) × (Nat → Int) × (Nat → Int) × (Nat → Int) × (Nat → Int) × (Nat → Int) × (Nat → Int) × (Nat → Int)) :=
  zn (x5 + 1) fun v1 =>
  k213 x1 x3 x4 v1 i_law i_broken i_value i_sum i_nStates i_set i_rest i_weights i_states i_table i_nexts i_left i_costs i_small i_tall i_safes i_cheapest
def f_HM_findLeft_270 (i_row : Nat → Int) (k191 : Int → Int → Int → Int → Int → Int → Int → (Nat → Int) → (Nat → Int) → (Nat → Int) → (Nat → Int) → (Nat → Int) → (Nat → Int) → (Nat → Int) → (Nat → Int) → (Nat → Int) → (Nat → Int) → (Nat → Int) → (Nat → Int) → Option (Int × Int × Int × Int × Int × (Nat → Int) × (Nat → Int) × (Nat → Int) × (Nat → Int) × (Nat → Int) × (Nat → Int) × (Nat → Int) × (Nat → Int) × (Nat → Int) × (Nat → Int) × (Nat → Int) × (Nat → Int))) (k205 : Int → Int → Int → Int → Int → Int → Int → Int → (Nat → Int) → (Nat → Int) → (Nat → Int) → (Nat → Int) → (Nat → Int) → (Nat → Int) → (Nat → Int) → (Nat → Int) → (Nat → Int) → (Nat → Int) → (Nat → Int) → (Nat → Int) → Option (Int × Int × Int × Int × Int × (Nat → Int) × (Nat → Int) × (Nat → Int) × (Nat → Int) × (Nat → Int) × (Nat → Int) × (Nat → Int) × (Nat → Int) × (Nat → Int) × (Nat → Int) × (Nat → Int) × (Nat → Int))) (k213 : Int → Int → Int → Int → Int → Int → Int → Int → Int → (Nat → Int) → (Nat → Int) → (Nat → Int) → (Nat → Int) → (Nat → Int) → (Nat → Int) → (Nat → Int) → (Nat → Int) → (Nat → Int) → (Nat → Int) → (Nat → Int) → (Nat → Int) → Option (Int × Int × Int × Int × Int × (Nat → Int) × (Nat → Int) × (Nat → Int) × (Nat → Int) × (Nat → Int) × (Nat → Int) × (Nat → Int) × (Nat → Int) × (Nat → Int) × (Nat → Int) × (Nat → Int) × (Nat → Int))) (x1 : Int) (x3 : Int) (x4 : Int) (x5 : Int) (s0 : Int) (i_law : Int) (i_broken : Int) (i_value : Int) (i_sum : Int) (i_nStates : Int) (i_set : Nat → Int) (i_rest : Nat → Int) (i_weights : Nat → Int) (i_states : Nat → Int) (i_table : Nat → Int) (i_nexts : Nat → Int) (i_left : Nat → Int) (i_costs : Nat → Int) (i_small : Nat → Int) (i_tall : Nat → Int) (i_safes : Nat → Int) (i_cheapest : Nat → Int) : Option (Int × Int × Int × Int × Int × (Nat → Int) × (Nat → Int) × (Nat → Int) × (Nat → Int) × (Nat → Int) × (Nat → Int) × (Nat → Int) × (Nat → Int) × (Nat → Int) × (Nat → Int) × (Nat → Int) × (Nat → Int)) :=
  zg 6720 i_left x4 fun v1 =>
  if zl_w v1 ≤ zl_w s0 then
    f_HM_findLeft_296 i_row k191 k205 k213 x1 x3 x4 x5 i_law i_broken i_value i_sum i_nStates i_set i_rest i_weights i_states i_table i_nexts i_left i_costs i_small i_tall i_safes i_cheapest
  else
    zs 6720 i_left x4 s0 fun a2 =>
    f_HM_findLeft_296 i_row k191 k205 k213 x1 1 x4 x5 i_law i_broken i_value i_sum i_nStates i_set i_rest i_weights i_states i_table i_nexts a2 i_costs i_small i_tall i_safes i_cheapest
def f_HM_findLeft_213_b (i_row : Nat → Int) (k191 : Int → Int → Int → Int → Int → Int → Int → (Nat → Int) → (Nat → Int) → (Nat → Int) → (Nat → Int) → (Nat → Int) → (Nat → Int) → (Nat → Int) → (Nat → Int) → (Nat → Int) → (Nat → Int) → (Nat → Int) → (Nat → Int) → Option (Int × Int × Int × Int × Int × (Nat → Int) × (Nat → Int) × (Nat → Int) × (Nat → Int) × (Nat → Int) × (Nat → Int) × (Nat → Int) × (Nat → Int) × (Nat → Int) × (Nat → Int) × (Nat → Int) × (Nat → Int))) (k205 : Int → Int → Int → Int → Int → Int → Int → Int → (Nat → Int) → (Nat → Int) → (Nat → Int) → (Nat → Int) → (Nat → Int) → (Nat → Int) → (Nat → Int) → (Nat → Int) → (Nat → Int) → (Nat → Int) → (Nat → Int) → (Nat → Int) → Option (Int × Int × Int × Int × Int × (Nat → Int) × (Nat → Int) × (Nat → Int) × (Nat → Int) × (Nat → Int) × (Nat → Int) × (Nat → Int) × (Nat → Int) × (Nat → Int) × (Nat → Int) × (Nat → Int) × (Nat → Int))) (k213 : Int → Int → Int → Int → Int → Int → Int → Int → Int → (Nat → Int) → (Nat → Int) → (Nat → Int) → (Nat → Int) → (Nat → Int) → (Nat → Int) → (Nat → Int) → (Nat → Int) → (Nat → Int) → (Nat → Int) → (Nat → Int) → (Nat → Int) → Option (Int × Int × Int × Int × Int × (Nat → Int) × (Nat → Int) × (Nat → Int) × (Nat → Int) × (Nat → Int) × (Nat → Int) × (Nat → Int) × (Nat → Int) × (Nat → Int) × (Nat → Int) × (Nat → Int) × (Nat → Int))) (x1 : Int) (x3 : Int) (x4 : Int) (x5 : Int) (i_law : Int) (i_broken : Int) (i_value : Int) (i_sum : Int) (i_nStates : Int) (i_set : Nat → Int) (i_rest : Nat → Int) (i_weights : Nat → Int) (i_states : Nat → Int) (i_table : Nat → Int) (i_nexts : Nat → Int) (i_left : Nat → Int) (i_costs : Nat → Int) (i_small : Nat → Int) (i_tall : Nat → Int) (i_safes : Nat → Int) (i_cheapest : Nat → Int) : Option (Int × Int × Int × Int × Int × (Nat → Int) × (Nat → Int) × (Nat → Int) × (Nat → Int) × (Nat → Int) × (Nat → Int) × (Nat → Int) × (Nat → Int) × (Nat → Int) × (Nat → Int) × (Nat → Int) × (Nat → Int)) :=
  if zi_w 16 ≤ zi_w x5 then
    zn (x4 + (-1)) fun v1 =>
    k205 x1 x3 v1 i_law i_broken i_value i_sum i_nStates i_set i_rest i_weights i_states i_table i_nexts i_left i_costs i_small i_tall i_safes i_cheapest
  else
    zd1 (f_HM_isOpen x1 x4 x5 i_nexts i_safes) fun v2 =>
    if zi_w v2 = 0 then
      f_HM_findLeft_270 i_row k191 k205 k213 x1 x3 x4 x5 1000000000000000 i_law i_broken i_value i_sum i_nStates i_set i_rest i_weights i_states i_table i_nexts i_left i_costs i_small i_tall i_safes i_cheapest
    else
      zn (16 * x4) fun v3 =>
      zn (v3 + x5) fun v4 =>
      zg 107520 i_cheapest v4 fun v5 =>
      zn (16 * x4) fun v6 =>
      zn (v6 + x5) fun v7 =>
      zg 107520 i_nexts v7 fun v8 =>
      zg 6720 i_left v8 fun v9 =>
      zn (v5 + v9) fun v10 =>
      f_HM_findLeft_270 i_row k191 k205 k213 x1 x3 x4 x5 v10 i_law i_broken i_value i_sum i_nStates i_set i_rest i_weights i_states i_table i_nexts i_left i_costs i_small i_tall i_safes i_cheapest
def f_HM_findLeft_213 (i_row : Nat → Int) (k191 : Int → Int → Int → Int → Int → Int → Int → (Nat → Int) → (Nat → Int) → (Nat → Int) → (Nat → Int) → (Nat → Int) → (Nat → Int) → (Nat → Int) → (Nat → Int) → (Nat → Int) → (Nat → Int) → (Nat → Int) → (Nat → Int) → Option (Int × Int × Int × Int × Int × (Nat → Int) × (Nat → Int) × (Nat → Int) × (Nat → Int) × (Nat → Int) × (Nat → Int) × (Nat → Int) × (Nat → Int) × (Nat → Int) × (Nat → Int) × (Nat → Int) × (Nat → Int))) (k205 : Int → Int → Int → Int → Int → Int → Int → Int → (Nat → Int) → (Nat → Int) → (Nat → Int) → (Nat → Int) → (Nat → Int) → (Nat → Int) → (Nat → Int) → (Nat → Int) → (Nat → Int) → (Nat → Int) → (Nat → Int) → (Nat → Int) → Option (Int × Int × Int × Int × Int × (Nat → Int) × (Nat → Int) × (Nat → Int) × (Nat → Int) × (Nat → Int) × (Nat → Int) × (Nat → Int) × (Nat → Int) × (Nat → Int) × (Nat → Int) × (Nat → Int) × (Nat → Int))) : Nat → Int → Int → Int → Int → Int → Int → Int → Int → Int → (Nat → Int) → (Nat → Int) → (Nat → Int) → (Nat → Int) → (Nat → Int) → (Nat → Int) → (Nat → Int) → (Nat → Int) → (Nat → Int) → (Nat → Int) → (Nat → Int) → (Nat → Int) → Option (Int × Int × Int × Int × Int × (Nat → Int) × (Nat → Int) × (Nat → Int) × (Nat → Int) × (Nat → Int) × (Nat → Int) × (Nat → Int) × (Nat → Int) × (Nat → Int) × (Nat → Int) × (Nat → Int) × (Nat → Int))
  | 0 => fun _ _ _ _ _ _ _ _ _ _ _ _ _ _ _ _ _ _ _ _ _ => none
  | n + 1 => fun y0 y1 y2 y3 y4 y5 y6 y7 y8 y9 y10 y11 y12 y13 y14 y15 y16 y17 y18 y19 y20 => f_HM_findLeft_213_b i_row k191 k205 (f_HM_findLeft_213 i_row k191 k205 n) y0 y1 y2 y3 y4 y5 y6 y7 y8 y9 y10 y11 y12 y13 y14 y15 y16 y17 y18 y19 y20
def f_HM_findLeft_205_b (i_row : Nat → Int) (k191 : Int → Int → Int → Int → Int → Int → Int → (Nat → Int) → (Nat → Int) → (Nat → Int) → (Nat → Int) → (Nat → Int) → (Nat → Int) → (Nat → Int) → (Nat → Int) → (Nat → Int) → (Nat → Int) → (Nat → Int) → (Nat → Int) → Option (Int × Int × Int × Int × Int × (Nat → Int) × (Nat → Int) × (Nat → Int) × (Nat → Int) × (Nat → Int) × (Nat → Int) × (Nat → Int) × (Nat → Int) × (Nat → Int) × (Nat → Int) × (Nat → Int) × (Nat → Int))) (k205 : Int → Int → Int → Int → Int → Int → Int → Int → (Nat → Int) → (Nat → Int) → (Nat → Int) → (Nat → Int) → (Nat → Int) → (Nat → Int) → (Nat → Int) → (Nat → Int) → (Nat → Int) → (Nat → Int) → (Nat → Int) → (Nat → Int) → Option (Int × Int × Int × Int × Int × (Nat → Int) × (Nat → Int) × (Nat → Int) × (Nat → Int) × (Nat → Int) × (Nat → Int) × (Nat → Int) × (Nat → Int) × (Nat → Int) × (Nat → Int) × (Nat → Int) × (Nat → Int))) (x1 : Int) (x3 : Int) (x4 : Int) (i_law : Int) (i_broken : Int) (i_value : Int) (i_sum : Int) (i_nStates : Int) (i_set : Nat → Int) (i_rest : Nat → Int) (i_weights : Nat → Int) (i_states : Nat → Int) (i_table : Nat → Int) (i_nexts : Nat → Int) (i_left : Nat → Int) (i_costs : Nat → Int) (i_small : Nat → Int) (i_tall : Nat → Int) (i_safes : Nat → Int) (i_cheapest : Nat → Int) : Option (Int × Int × Int × Int × Int × (Nat → Int) × (Nat → Int) × (Nat → Int) × (Nat → Int) × (Nat → Int) × (Nat → Int) × (Nat → Int) × (Nat → Int) × (Nat → Int) × (Nat → Int) × (Nat → Int) × (Nat → Int)) :=
  if zi_w x4 < 0 then
    k191 x1 x3 i_law i_broken i_value i_sum i_nStates i_set i_rest i_weights i_states i_table i_nexts i_left i_costs i_small i_tall i_safes i_cheapest
  else
    f_HM_findLeft_213 i_row k191 k205 zfu x1 x3 x4 0 i_law i_broken i_value i_sum i_nStates i_set i_rest i_weights i_states i_table i_nexts i_left i_costs i_small i_tall i_safes i_cheapest
def f_HM_findLeft_205 (i_row : Nat → Int) (k191 : Int → Int → Int → Int → Int → Int → Int → (Nat → Int) → (Nat → Int) → (Nat → Int) → (Nat → Int) → (Nat → Int) → (Nat → Int) → (Nat → Int) → (Nat → Int) → (Nat → Int) → (Nat → Int) → (Nat → Int) → (Nat → Int) → Option (Int × Int × Int × Int × Int × (Nat → Int) × (Nat → Int) × (Nat → Int) × (Nat → Int) × (Nat → Int) × (Nat → Int) × (Nat → Int) × (Nat → Int) × (Nat → Int) × (Nat → Int) × (Nat → Int) × (Nat → Int))) : Nat → Int → Int → Int → Int → Int → Int → Int → Int → (Nat → Int) → (Nat → Int) → (Nat → Int) → (Nat → Int) → (Nat → Int) → (Nat → Int) → (Nat → Int) → (Nat → Int) → (Nat → Int) → (Nat → Int) → (Nat → Int) → (Nat → Int) → Option (Int × Int × Int × Int × Int × (Nat → Int) × (Nat → Int) × (Nat → Int) × (Nat → Int) × (Nat → Int) × (Nat → Int) × (Nat → Int) × (Nat → Int) × (Nat → Int) × (Nat → Int) × (Nat → Int) × (Nat → Int))
  | 0 => fun _ _ _ _ _ _ _ _ _ _ _ _ _ _ _ _ _ _ _ _ => none
  | n + 1 => fun y0 y1 y2 y3 y4 y5 y6 y7 y8 y9 y10 y11 y12 y13 y14 y15 y16 y17 y18 y19 => f_HM_findLeft_205_b i_row k191 (f_HM_findLeft_205 i_row k191 n) y0 y1 y2 y3 y4 y5 y6 y7 y8 y9 y10 y11 y12 y13 y14 y15 y16 y17 y18 y19
def f_HM_findLeft_191_b (i_row : Nat → Int) (k191 : Int → Int → Int → Int → Int → Int → Int → (Nat → Int) → (Nat → Int) → (Nat → Int) → (Nat → Int) → (Nat → Int) → (Nat → Int) → (Nat → Int) → (Nat → Int) → (Nat → Int) → (Nat → Int) → (Nat → Int) → (Nat → Int) → Option (Int × Int × Int × Int × Int × (Nat → Int) × (Nat → Int) × (Nat → Int) × (Nat → Int) × (Nat → Int) × (Nat → Int) × (Nat → Int) × (Nat → Int) × (Nat → Int) × (Nat → Int) × (Nat → Int) × (Nat → Int))) (x1 : Int) (x3 : Int) (i_law : Int) (i_broken : Int) (i_value : Int) (i_sum : Int) (i_nStates : Int) (i_set : Nat → Int) (i_rest : Nat → Int) (i_weights : Nat → Int) (i_states : Nat → Int) (i_table : Nat → Int) (i_nexts : Nat → Int) (i_left : Nat → Int) (i_costs : Nat → Int) (i_small : Nat → Int) (i_tall : Nat → Int) (i_safes : Nat → Int) (i_cheapest : Nat → Int) : Option (Int × Int × Int × Int × Int × (Nat → Int) × (Nat → Int) × (Nat → Int) × (Nat → Int) × (Nat → Int) × (Nat → Int) × (Nat → Int) × (Nat → Int) × (Nat → Int) × (Nat → Int) × (Nat → Int) × (Nat → Int)) :=
  if zi_w x3 = 0 then
    some (i_law, i_broken, i_value, i_sum, i_nStates, i_set, i_rest, i_weights, i_states, i_table, i_nexts, i_left, i_costs, i_small, i_tall, i_safes, i_cheapest)
  else
    zn (i_nStates - 1) fun v1 =>
    f_HM_findLeft_205 i_row k191 zfu x1 0 v1 i_law i_broken i_value i_sum i_nStates i_set i_rest i_weights i_states i_table i_nexts i_left i_costs i_small i_tall i_safes i_cheapest
def f_HM_findLeft_191 (i_row : Nat → Int) : Nat → Int → Int → Int → Int → Int → Int → Int → (Nat → Int) → (Nat → Int) → (Nat → Int) → (Nat → Int) → (Nat → Int) → (Nat → Int) → (Nat → Int) → (Nat → Int) → (Nat → Int) → (Nat → Int) → (Nat → Int) → (Nat → Int) → Option (Int × Int × Int × Int × Int × (Nat → Int) × (Nat → Int) × (Nat → Int) × (Nat → Int) × (Nat → Int) × (Nat → Int) × (Nat → Int) × (Nat → Int) × (Nat → Int) × (Nat → Int) × (Nat → Int) × (Nat → Int))
  | 0 => fun _ _ _ _ _ _ _ _ _ _ _ _ _ _ _ _ _ _ _ => none
  | n + 1 => fun y0 y1 y2 y3 y4 y5 y6 y7 y8 y9 y10 y11 y12 y13 y14 y15 y16 y17 y18 => f_HM_findLeft_191_b i_row (f_HM_findLeft_191 i_row n) y0 y1 y2 y3 y4 y5 y6 y7 y8 y9 y10 y11 y12 y13 y14 y15 y16 y17 y18
def f_HM_findLeft_177 (i_row : Nat → Int) (k7 : Int → Int → Int → Int → Int → Int → Int → Int → (Nat → Int) → (Nat → Int) → (Nat → Int) → (Nat → Int) → (Nat → Int) → (Nat → Int) → (Nat → Int) → (Nat → Int) → (Nat → Int) → (Nat → Int) → (Nat → Int) → (Nat → Int) → Option (Int × Int × Int × Int × Int × (Nat → Int) × (Nat → Int) × (Nat → Int) × (Nat → Int) × (Nat → Int) × (Nat → Int) × (Nat → Int) × (Nat → Int) × (Nat → Int) × (Nat → Int) × (Nat → Int) × (Nat → Int))) (k59 : Int → Int → Int → Int → Int → Int → Int → Int → Int → (Nat → Int) → (Nat → Int) → (Nat → Int) → (Nat → Int) → (Nat → Int) → (Nat → Int) → (Nat → Int) → (Nat → Int) → (Nat → Int) → (Nat → Int) → (Nat → Int) → (Nat → Int) → Option (Int × Int × Int × Int × Int × (Nat → Int) × (Nat → Int) × (Nat → Int) × (Nat → Int) × (Nat → Int) × (Nat → Int) × (Nat → Int) × (Nat → Int) × (Nat → Int) × (Nat → Int) × (Nat → Int) × (Nat → Int))) (x1 : Int) (x2 : Int) (x3 : Int) (x4 : Int) (i_law : Int) (i_broken : Int) (i_value : Int) (i_sum : Int) (i_nStates : Int) (i_set : Nat → Int) (i_rest : Nat → Int) (i_weights : Nat → Int) (i_states : Nat → Int) (i_table : Nat → Int) (i_nexts : Nat → Int) (i_left : Nat → Int) (i_costs : Nat → Int) (i_small : Nat → Int) (i_tall : Nat → Int) (i_safes : Nat → Int) (i_cheapest : Nat → Int) : Option (Int × Int × Int × Int × Int × (Nat → Int) × (Nat → Int) × (Nat → Int) × (Nat → Int) × (Nat → Int) × (Nat → Int) × (Nat → Int) × (Nat → Int) × (Nat → Int) × (Nat → Int) × (Nat → Int) × (Nat → Int)) :=
  zn (x4 + 1) fun v1 =>
  k59 x1 x2 x3 v1 i_law i_broken i_value i_sum i_nStates i_set i_rest i_weights i_states i_table i_nexts i_left i_costs i_small i_tall i_safes i_cheapest
def f_HM_findLeft_170 (i_row : Nat → Int) (k7 : Int → Int → Int → Int → Int → Int → Int → Int → (Nat → Int) → (Nat → Int) → (Nat → Int) → (Nat → Int) → (Nat → Int) → (Nat → Int) → (Nat → Int) → (Nat → Int) → (Nat → Int) → (Nat → Int) → (Nat → Int) → (Nat → Int) → Option (Int × Int × Int × Int × Int × (Nat → Int) × (Nat → Int) × (Nat → Int) × (Nat → Int) × (Nat → Int) × (Nat → Int) × (Nat → Int) × (Nat → Int) × (Nat → Int) × (Nat → Int) × (Nat → Int) × (Nat → Int))) (k59 : Int → Int → Int → Int → Int → Int → Int → Int → Int → (Nat → Int) → (Nat → Int) → (Nat → Int) → (Nat → Int) → (Nat → Int) → (Nat → Int) → (Nat → Int) → (Nat → Int) → (Nat → Int) → (Nat → Int) → (Nat → Int) → (Nat → Int) → Option (Int × Int × Int × Int × Int × (Nat → Int) × (Nat → Int) × (Nat → Int) × (Nat → Int) × (Nat → Int) × (Nat → Int) × (Nat → Int) × (Nat → Int) × (Nat → Int) × (Nat → Int) × (Nat → Int) × (Nat → Int))) (k84 : Int → Int → Int → Int → Int → Int → Int → Int → Int → Int → (Nat → Int) → (Nat → Int) → (Nat → Int) → (Nat → Int) → (Nat → Int) → (Nat → Int) → (Nat → Int) → (Nat → Int) → (Nat → Int) → (Nat → Int) → (Nat → Int) → (Nat → Int) → Option (Int × Int × Int × Int × Int × (Nat → Int) × (Nat → Int) × (Nat → Int) × (Nat → Int) × (Nat → Int) × (Nat → Int) × (Nat → Int) × (Nat → Int) × (Nat → Int) × (Nat → Int) × (Nat → Int) × (Nat → Int))) (x1 : Int) (x2 : Int) (x3 : Int) (x4 : Int) (x5 : Int) (s1 : Int) (s2 : Int) (i_law : Int) (i_broken : Int) (i_value : Int) (i_sum : Int) (i_nStates : Int) (i_set : Nat → Int) (i_rest : Nat → Int) (i_weights : Nat → Int) (i_states : Nat → Int) (i_table : Nat → Int) (i_nexts : Nat → Int) (i_left : Nat → Int) (i_costs : Nat → Int) (i_small : Nat → Int) (i_tall : Nat → Int) (i_safes : Nat → Int) (i_cheapest : Nat → Int) : Option (Int × Int × Int × Int × Int × (Nat → Int) × (Nat → Int) × (Nat → Int) × (Nat → Int) × (Nat → Int) × (Nat → Int) × (Nat → Int) × (Nat → Int) × (Nat → Int) × (Nat → Int) × (Nat → Int) × (Nat → Int)) :=
  zs 107520 i_cheapest s1 s2 fun a1 =>
  zn (x5 + 1) fun v2 =>
  k84 x1 x2 x3 x4 v2 i_law i_broken i_value i_sum i_nStates i_set i_rest i_weights i_states i_table i_nexts i_left i_costs i_small i_tall i_safes a1
def f_HM_findLeft_84_b (i_row : Nat → Int) (k7 : Int → Int → Int → Int → Int → Int → Int → Int → (Nat → Int) → (Nat → Int) → (Nat → Int) → (Nat → Int) → (Nat → Int) → (Nat → Int) → (Nat → Int) → (Nat → Int) → (Nat → Int) → (Nat → Int) → (Nat → Int) → (Nat → Int) → Option (Int × Int × Int × Int × Int × (Nat → Int) × (Nat → Int) × (Nat → Int) × (Nat → Int) × (Nat → Int) × (Nat → Int) × (Nat → Int) × (Nat → Int) × (Nat → Int) × (Nat → Int) × (Nat → Int) × (Nat → Int))) (k59 : Int → Int → Int → Int → Int → Int → Int → Int → Int → (Nat → Int) → (Nat → Int) → (Nat → Int) → (Nat → Int) → (Nat → Int) → (Nat → Int) → (Nat → Int) → (Nat → Int) → (Nat → Int) → (Nat → Int) → (Nat → Int) → (Nat → Int) → Option (Int × Int × Int × Int × Int × (Nat → Int) × (Nat → Int) × (Nat → Int) × (Nat → Int) × (Nat → Int) × (Nat → Int) × (Nat → Int) × (Nat → Int) × (Nat → Int) × (Nat → Int) × (Nat → Int) × (Nat → Int))) (k84 : Int → Int → Int → Int → Int → Int → Int → Int → Int → Int → (Nat → Int) → (Nat → Int) → (Nat → Int) → (Nat → Int) → (Nat → Int) → (Nat → Int) → (Nat → Int) → (Nat → Int) → (Nat → Int) → (Nat → Int) → (Nat → Int) → (Nat → Int) → Option (Int × Int × Int × Int × Int × (Nat → Int) × (Nat → Int) × (Nat → Int) × (Nat → Int) × (Nat → Int) × (Nat → Int) × (Nat → Int) × (Nat → Int) × (Nat → Int) × (Nat → Int) × (Nat → Int) × (Nat → Int))) (x1 : Int) (x2 : Int) (x3 : Int) (x4 : Int) (x5 : Int) (i_law : Int) (i_broken : Int) (i_value : Int) (i_sum : Int) (i_nStates : Int) (i_set : Nat → Int) (i_rest : Nat → Int) (i_weights : Nat → Int) (i_states : Nat → Int) (i_table : Nat → Int) (i_nexts : Nat → Int) (i_left : Nat → Int) (i_costs : Nat → Int) (i_small : Nat → Int) (i_tall : Nat → Int) (i_safes : Nat → Int) (i_cheapest : Nat → Int) : Option (Int × Int × Int × Int × Int × (Nat → Int) × (Nat → Int) × (Nat → Int) × (Nat → Int) × (Nat → Int) × (Nat → Int) × (Nat → Int) × (Nat → Int) × (Nat → Int) × (Nat → Int) × (Nat → Int) × (Nat → Int)) :=
  zg 5580 i_row 1 fun v1 =>
  if zi_w v1 ≤ zi_w x5 then
    f_HM_findLeft_177 i_row k7 k59 x1 x2 x3 x4 i_law i_broken i_value i_sum i_nStates i_set i_rest i_weights i_states i_table i_nexts i_left i_costs i_small i_tall i_safes i_cheapest
  else
    zn (16 * x3) fun v2 =>
    zn (v2 + x4) fun v3 =>
    zg 107520 i_nexts v3 fun v4 =>
    if zi_w v4 = zi_w (-1) then
      f_HM_findLeft_177 i_row k7 k59 x1 x2 x3 x4 i_law i_broken i_value i_sum i_nStates i_set i_rest i_weights i_states i_table i_nexts i_left i_costs i_small i_tall i_safes i_cheapest
    else
      zd3 (f_HM_price x1 x3 x4 x5 x2 i_states i_costs i_small i_tall) fun v5 a6 a7 =>
      zn (16 * x3) fun v8 =>
      zn (v8 + x4) fun v9 =>
      zn (16 * x3) fun v10 =>
      zn (v10 + x4) fun v11 =>
      zg 107520 i_cheapest v11 fun v12 =>
      if zl_w v12 ≤ zl_w v5 then
        zn (16 * x3) fun v13 =>
        zn (v13 + x4) fun v14 =>
        zg 107520 i_cheapest v14 fun v15 =>
        f_HM_findLeft_170 i_row k7 k59 k84 x1 x2 x3 x4 x5 v9 v15 i_law i_broken i_value i_sum i_nStates i_set i_rest i_weights i_states i_table i_nexts i_left i_costs a6 a7 i_safes i_cheapest
      else
        f_HM_findLeft_170 i_row k7 k59 k84 x1 x2 x3 x4 x5 v9 v5 i_law i_broken i_value i_sum i_nStates i_set i_rest i_weights i_states i_table i_nexts i_left i_costs a6 a7 i_safes i_cheapest
def f_HM_findLeft_84 (i_row : Nat → Int) (k7 : Int → Int → Int → Int → Int → Int → Int → Int → (Nat → Int) → (Nat → Int) → (Nat → Int) → (Nat → Int) → (Nat → Int) → (Nat → Int) → (Nat → Int) → (Nat → Int) → (Nat → Int) → (Nat → Int) → (Nat → Int) → (Nat → Int) → Option (Int × Int × Int × Int × Int × (Nat → Int) × (Nat → Int) × (Nat → Int) × (Nat → Int) × (Nat → Int) × (Nat → Int) × (Nat → Int) × (Nat → Int) × (Nat → Int) × (Nat → Int) × (Nat → Int) × (Nat → Int))) (k59 : Int → Int → Int → Int → Int → Int → Int → Int → Int → (Nat → Int) → (Nat → Int) → (Nat → Int) → (Nat → Int) → (Nat → Int) → (Nat → Int) → (Nat → Int) → (Nat → Int) → (Nat → Int) → (Nat → Int) → (Nat → Int) → (Nat → Int) → Option (Int × Int × Int × Int × Int × (Nat → Int) × (Nat → Int) × (Nat → Int) × (Nat → Int) × (Nat → Int) × (Nat → Int) × (Nat → Int) × (Nat → Int) × (Nat → Int) × (Nat → Int) × (Nat → Int) × (Nat → Int))) : Nat → Int → Int → Int → Int → Int → Int → Int → Int → Int → Int → (Nat → Int) → (Nat → Int) → (Nat → Int) → (Nat → Int) → (Nat → Int) → (Nat → Int) → (Nat → Int) → (Nat → Int) → (Nat → Int) → (Nat → Int) → (Nat → Int) → (Nat → Int) → Option (Int × Int × Int × Int × Int × (Nat → Int) × (Nat → Int) × (Nat → Int) × (Nat → Int) × (Nat → Int) × (Nat → Int) × (Nat → Int) × (Nat → Int) × (Nat → Int) × (Nat → Int) × (Nat → Int) × (Nat → Int))
  | 0 => fun _ _ _ _ _ _ _ _ _ _ _ _ _ _ _ _ _ _ _ _ _ _ => none
  | n + 1 => fun y0 y1 y2 y3 y4 y5 y6 y7 y8 y9 y10 y11 y12 y13 y14 y15 y16 y17 y18 y19 y20 y21 => f_HM_findLeft_84_b i_row k7 k59 (f_HM_findLeft_84 i_row k7 k59 n) y0 y1 y2 y3 y4 y5 y6 y7 y8 y9 y10 y11 y12 y13 y14 y15 y16 y17 y18 y19 y20 y21
def f_HM_findLeft_59_b (i_row : Nat → Int) (k7 : Int → Int → Int → Int → Int → Int → Int → Int → (Nat → Int) → (Nat → Int) → (Nat → Int) → (Nat → Int) → (Nat → Int) → (Nat → Int) → (Nat → Int) → (Nat → Int) → (Nat → Int) → (Nat → Int) → (Nat → Int) → (Nat → Int) → Option (Int × Int × Int × Int × Int × (Nat → Int) × (Nat → Int) × (Nat → Int) × (Nat → Int) × (Nat → Int) × (Nat → Int) × (Nat → Int) × (Nat → Int) × (Nat → Int) × (Nat → Int) × (Nat → Int) × (Nat → Int))) (k59 : Int → Int → Int → Int → Int → Int → Int → Int → Int → (Nat → Int) → (Nat → Int) → (Nat → Int) → (Nat → Int) → (Nat → Int) → (Nat → Int) → (Nat → Int) → (Nat → Int) → (Nat → Int) → (Nat → Int) → (Nat → Int) → (Nat → Int) → Option (Int × Int × Int × Int × Int × (Nat → Int) × (Nat → Int) × (Nat → Int) × (Nat → Int) × (Nat → Int) × (Nat → Int) × (Nat → Int) × (Nat → Int) × (Nat → Int) × (Nat → Int) × (Nat → Int) × (Nat → Int))) (x1 : Int) (x2 : Int) (x3 : Int) (x4 : Int) (i_law : Int) (i_broken : Int) (i_value : Int) (i_sum : Int) (i_nStates : Int) (i_set : Nat → Int) (i_rest : Nat → Int) (i_weights : Nat → Int) (i_states : Nat → Int) (i_table : Nat → Int) (i_nexts : Nat → Int) (i_left : Nat → Int) (i_costs : Nat → Int) (i_small : Nat → Int) (i_tall : Nat → Int) (i_safes : Nat → Int) (i_cheapest : Nat → Int) : Option (Int × Int × Int × Int × Int × (Nat → Int) × (Nat → Int) × (Nat → Int) × (Nat → Int) × (Nat → Int) × (Nat → Int) × (Nat → Int) × (Nat → Int) × (Nat → Int) × (Nat → Int) × (Nat → Int) × (Nat → Int)) :=
  if zi_w 16 ≤ zi_w x4 then
    zn (x3 + 1) fun v1 =>
    k7 x1 x2 v1 i_law i_broken i_value i_sum i_nStates i_set i_rest i_weights i_states i_table i_nexts i_left i_costs i_small i_tall i_safes i_cheapest
  else
    zn (16 * x3) fun v2 =>
    zn (v2 + x4) fun v3 =>
    zs 107520 i_cheapest v3 1000000000000000 fun a4 =>
    f_HM_findLeft_84 i_row k7 k59 zfu x1 x2 x3 x4 0 i_law i_broken i_value i_sum i_nStates i_set i_rest i_weights i_states i_table i_nexts i_left i_costs i_small i_tall i_safes a4
def f_HM_findLeft_59 (i_row : Nat → Int) (k7 : Int → Int → Int → Int → Int → Int → Int → Int → (Nat → Int) → (Nat → Int) → (Nat → Int) → (Nat → Int) → (Nat → Int) → (Nat → Int) → (Nat → Int) → (Nat → Int) → (Nat → Int) → (Nat → Int) → (Nat → Int) → (Nat → Int) → Option (Int × Int × Int × Int × Int × (Nat → Int) × (Nat → Int) × (Nat → Int) × (Nat → Int) × (Nat → Int) × (Nat → Int) × (Nat → Int) × (Nat → Int) × (Nat → Int) × (Nat → Int) × (Nat → Int) × (Nat → Int))) : Nat → Int → Int → Int → Int → Int → Int → Int → Int → Int → (Nat → Int) → (Nat → Int) → (Nat → Int) → (Nat → Int) → (Nat → Int) → (Nat → Int) → (Nat → Int) → (Nat → Int) → (Nat → Int) → (Nat → Int) → (Nat → Int) → (Nat → Int) → Option (Int × Int × Int × Int × Int × (Nat → Int) × (Nat → Int) × (Nat → Int) × (Nat → Int) × (Nat → Int) × (Nat → Int) × (Nat → Int) × (Nat → Int) × (Nat → Int) × (Nat → Int) × (Nat → Int) × (Nat → Int))
  | 0 => fun _ _ _ _ _ _ _ _ _ _ _ _ _ _ _ _ _ _ _ _ _ => none
  | n + 1 => fun y0 y1 y2 y3 y4 y5 y6 y7 y8 y9 y10 y11 y12 y13 y14 y15 y16 y17 y18 y19 y20 => f_HM_findLeft_59_b i_row k7 (f_HM_findLeft_59 i_row k7 n) y0 y1 y2 y3 y4 y5 y6 y7 y8 y9 y10 y11 y12 y13 y14 y15 y16 y17 y18 y19 y20
def f_HM_findLeft_45 (i_row : Nat → Int) (k7 : Int → Int → Int → Int → Int → Int → Int → Int → (Nat → Int) → (Nat → Int) → (Nat → Int) → (Nat → Int) → (Nat → Int) → (Nat → Int) → (Nat → Int) → (Nat → Int) → (Nat → Int) → (Nat → Int) → (Nat → Int) → (Nat → Int) → Option (Int × Int × Int × Int × Int × (Nat → Int) × (Nat → Int) × (Nat → Int) × (Nat → Int) × (Nat → Int) × (Nat → Int) × (Nat → Int) × (Nat → Int) × (Nat → Int) × (Nat → Int) × (Nat → Int) × (Nat → Int))) (x1 : Int) (x2 : Int) (x3 : Int) (s1 : Int) (s2 : Int) (i_law : Int) (i_broken : Int) (i_value : Int) (i_sum : Int) (i_nStates : Int) (i_set : Nat → Int) (i_rest : Nat → Int) (i_weights : Nat → Int) (i_states : Nat → Int) (i_table : Nat → Int) (i_nexts : Nat → Int) (i_left : Nat → Int) (i_costs : Nat → Int) (i_small : Nat → Int) (i_tall : Nat → Int) (i_safes : Nat → Int) (i_cheapest : Nat → Int) : Option (Int × Int × Int × Int × Int × (Nat → Int) × (Nat → Int) × (Nat → Int) × (Nat → Int) × (Nat → Int) × (Nat → Int) × (Nat → Int) × (Nat → Int) × (Nat → Int) × (Nat → Int) × (Nat → Int) × (Nat → Int)) :=
  zs 6720 i_left s1 s2 fun a1 =>
  zd1 (f_HM_isSafe i_row i_tall) fun v2 =>
  if ¬ (zi_w v2 = 0 ∨ zi_w v2 = 1) then none else zs 6720 i_safes x3 v2 fun a3 =>
  f_HM_findLeft_59 i_row k7 zfu x1 x2 x3 0 i_law i_broken i_value i_sum i_nStates i_set i_rest i_weights i_states i_table i_nexts a1 i_costs i_small i_tall a3 i_cheapest
def f_HM_findLeft_7_b (i_row : Nat → Int) (k7 : Int → Int → Int → Int → Int → Int → Int → Int → (Nat → Int) → (Nat → Int) → (Nat → Int) → (Nat → Int) → (Nat → Int) → (Nat → Int) → (Nat → Int) → (Nat → Int) → (Nat → Int) → (Nat → Int) → (Nat → Int) → (Nat → Int) → Option (Int × Int × Int × Int × Int × (Nat → Int) × (Nat → Int) × (Nat → Int) × (Nat → Int) × (Nat → Int) × (Nat → Int) × (Nat → Int) × (Nat → Int) × (Nat → Int) × (Nat → Int) × (Nat → Int) × (Nat → Int))) (x1 : Int) (x2 : Int) (x3 : Int) (i_law : Int) (i_broken : Int) (i_value : Int) (i_sum : Int) (i_nStates : Int) (i_set : Nat → Int) (i_rest : Nat → Int) (i_weights : Nat → Int) (i_states : Nat → Int) (i_table : Nat → Int) (i_nexts : Nat → Int) (i_left : Nat → Int) (i_costs : Nat → Int) (i_small : Nat → Int) (i_tall : Nat → Int) (i_safes : Nat → Int) (i_cheapest : Nat → Int) : Option (Int × Int × Int × Int × Int × (Nat → Int) × (Nat → Int) × (Nat → Int) × (Nat → Int) × (Nat → Int) × (Nat → Int) × (Nat → Int) × (Nat → Int) × (Nat → Int) × (Nat → Int) × (Nat → Int) × (Nat → Int)) :=
  if zi_w i_nStates ≤ zi_w x3 then
    f_HM_findLeft_191 i_row zfu x1 1 i_law i_broken i_value i_sum i_nStates i_set i_rest i_weights i_states i_table i_nexts i_left i_costs i_small i_tall i_safes i_cheapest
  else
    zg 6720 i_states x3 fun v1 =>
    zd2 (f_HM_openSmall v1 x2 i_small i_tall) fun a2 a3 =>
    zd1 (f_HM_isGoal i_row a3) fun v4 =>
    if zi_w v4 = 0 then
      f_HM_findLeft_45 i_row k7 x1 x2 x3 x3 1000000000000000 i_law i_broken i_value i_sum i_nStates i_set i_rest i_weights i_states i_table i_nexts i_left i_costs a2 a3 i_safes i_cheapest
    else
      f_HM_findLeft_45 i_row k7 x1 x2 x3 x3 0 i_law i_broken i_value i_sum i_nStates i_set i_rest i_weights i_states i_table i_nexts i_left i_costs a2 a3 i_safes i_cheapest
def f_HM_findLeft_7 (i_row : Nat → Int) : Nat → Int → Int → Int → Int → Int → Int → Int → Int → (Nat → Int) → (Nat → Int) → (Nat → Int) → (Nat → Int) → (Nat → Int) → (Nat → Int) → (Nat → Int) → (Nat → Int) → (Nat → Int) → (Nat → Int) → (Nat → Int) → (Nat → Int) → Option (Int × Int × Int × Int × Int × (Nat → Int) × (Nat → Int) × (Nat → Int) × (Nat → Int) × (Nat → Int) × (Nat → Int) × (Nat → Int) × (Nat → Int) × (Nat → Int) × (Nat → Int) × (Nat → Int) × (Nat → Int))
  | 0 => fun _ _ _ _ _ _ _ _ _ _ _ _ _ _ _ _ _ _ _ _ => none
  | n + 1 => fun y0 y1 y2 y3 y4 y5 y6 y7 y8 y9 y10 y11 y12 y13 y14 y15 y16 y17 y18 y19 => f_HM_findLeft_7_b i_row (f_HM_findLeft_7 i_row n) y0 y1 y2 y3 y4 y5 y6 y7 y8 y9 y10 y11 y12 y13 y14 y15 y16 y17 y18 y19
def f_HM_findLeft (x1 : Int) (x2 : Int) (i_row : Nat → Int) (i_law : Int) (i_broken : Int) (i_value : Int) (i_sum : Int) (i_nStates : Int) (i_set : Nat → Int) (i_rest : Nat → Int) (i_weights : Nat → Int) (i_states : Nat → Int) (i_table : Nat → Int) (i_nexts : Nat → Int) (i_left : Nat → Int) (i_costs : Nat → Int) (i_small : Nat → Int) (i_tall : Nat → Int) (i_safes : Nat → Int) (i_cheapest : Nat → Int) : Option (Int × Int × Int × Int × Int × (Nat → Int) × (Nat → Int) × (Nat → Int) × (Nat → Int) × (Nat → Int) × (Nat → Int) × (Nat → Int) × (Nat → Int) × (Nat → Int) × (Nat → Int) × (Nat → Int) × (Nat → Int)) :=
  zd14 (f_HM_findStates x2 i_row i_law i_broken i_value i_sum i_nStates i_set i_rest i_weights i_states i_table i_nexts i_costs i_small i_tall) fun v1 v2 v3 v4 v5 a6 a7 a8 a9 a10 a11 a12 a13 a14 =>
  f_HM_findLeft_7 i_row zfu x1 x2 0 v1 v2 v3 v4 v5 a6 a7 a8 a9 a10 a11 i_left a12 a13 a14 i_safes i_cheapest
def f_HM_plan_118_b (i_row : Nat → Int) (k118 : Int → Int → Int → Int → Int → Int → Int → Int → Int → Int → Int → Int → Int → (Nat → Int) → (Nat → Int) → (Nat → Int) → (Nat → Int) → (Nat → Int) → (Nat → Int) → (Nat → Int) → (Nat → Int) → (Nat → Int) → (Nat → Int) → (Nat → Int) → (Nat → Int) → Option (Int × Int × Int × Int × Int × Int × Int × (Nat → Int) × (Nat → Int) × (Nat → Int) × (Nat → Int) × (Nat → Int) × (Nat → Int) × (Nat → Int) × (Nat → Int) × (Nat → Int) × (Nat → Int) × (Nat → Int) × (Nat → Int))) (x1 : Int) (x2 : Int) (x3 : Int) (x4 : Int) (x5 : Int) (x6 : Int) (x7 : Int) (i_thrown : Int) (i_law : Int) (i_broken : Int) (i_value : Int) (i_sum : Int) (i_nStates : Int) (i_set : Nat → Int) (i_rest : Nat → Int) (i_weights : Nat → Int) (i_states : Nat → Int) (i_table : Nat → Int) (i_nexts : Nat → Int) (i_left : Nat → Int) (i_costs : Nat → Int) (i_small : Nat → Int) (i_tall : Nat → Int) (i_safes : Nat → Int) (i_cheapest : Nat → Int) : Option (Int × Int × Int × Int × Int × Int × Int × (Nat → Int) × (Nat → Int) × (Nat → Int) × (Nat → Int) × (Nat → Int) × (Nat → Int) × (Nat → Int) × (Nat → Int) × (Nat → Int) × (Nat → Int) × (Nat → Int) × (Nat → Int)) :=
  if zi_w x2 < zi_w x7 then
    if zi_w x3 ≠ 0 then
      if zi_w x3 ≠ zi_w 1 then
        if zi_w 6 = 0 then none else zn (zi_rem x6 6) fun v1 =>
        some (v1, i_thrown, i_law, i_broken, i_value, i_sum, i_nStates, i_set, i_rest, i_weights, i_states, i_table, i_nexts, i_left, i_costs, i_small, i_tall, i_safes, i_cheapest)
      else
        if zi_w 6 = 0 then none else zn (zi_div x6 6) fun v2 =>
        if zi_w 4 = 0 then none else zn (zi_rem v2 4) fun v3 =>
        some (v3, i_thrown, i_law, i_broken, i_value, i_sum, i_nStates, i_set, i_rest, i_weights, i_states, i_table, i_nexts, i_left, i_costs, i_small, i_tall, i_safes, i_cheapest)
    else
      if zi_w 24 = 0 then none else zn (zi_div x6 24) fun v4 =>
      some (v4, i_thrown, i_law, i_broken, i_value, i_sum, i_nStates, i_set, i_rest, i_weights, i_states, i_table, i_nexts, i_left, i_costs, i_small, i_tall, i_safes, i_cheapest)
  else
    zg 6720 i_left x5 fun v5 =>
    if zl_w v5 ≠ zl_w 0 then
      zd3 (f_HM_firstMove x1 x5 x4 i_row i_states i_nexts i_left i_costs i_safes i_small i_tall) fun v6 a7 a8 =>
      zn (16 * x5) fun v9 =>
      if zi_w 6 = 0 then none else zn (zi_div v6 6) fun v10 =>
      zn (v9 + v10) fun v11 =>
      zg 107520 i_nexts v11 fun v12 =>
      zn (x7 + 1) fun v13 =>
      k118 x1 x2 x3 x4 v12 v6 v13 i_thrown i_law i_broken i_value i_sum i_nStates i_set i_rest i_weights i_states i_table i_nexts i_left i_costs a7 a8 i_safes i_cheapest
    else
      some ((-1), i_thrown, i_law, i_broken, i_value, i_sum, i_nStates, i_set, i_rest, i_weights, i_states, i_table, i_nexts, i_left, i_costs, i_small, i_tall, i_safes, i_cheapest)
def f_HM_plan_118 (i_row : Nat → Int) : Nat → Int → Int → Int → Int → Int → Int → Int → Int → Int → Int → Int → Int → Int → (Nat → Int) → (Nat → Int) → (Nat → Int) → (Nat → Int) → (Nat → Int) → (Nat → Int) → (Nat → Int) → (Nat → Int) → (Nat → Int) → (Nat → Int) → (Nat → Int) → (Nat → Int) → Option (Int × Int × Int × Int × Int × Int × Int × (Nat → Int) × (Nat → Int) × (Nat → Int) × (Nat → Int) × (Nat → Int) × (Nat → Int) × (Nat → Int) × (Nat → Int) × (Nat → Int) × (Nat → Int) × (Nat → Int) × (Nat → Int))
  | 0 => fun _ _ _ _ _ _ _ _ _ _ _ _ _ _ _ _ _ _ _ _ _ _ _ _ _ => none
  | n + 1 => fun y0 y1 y2 y3 y4 y5 y6 y7 y8 y9 y10 y11 y12 y13 y14 y15 y16 y17 y18 y19 y20 y21 y22 y23 y24 => f_HM_plan_118_b i_row (f_HM_plan_118 i_row n) y0 y1 y2 y3 y4 y5 y6 y7 y8 y9 y10 y11 y12 y13 y14 y15 y16 y17 y18 y19 y20 y21 y22 y23 y24
def f_HM_plan (x1 : Int) (x2 : Int) (x3 : Int) (i_row : Nat → Int) (i_thrown : Int) (i_law : Int) (i_broken : Int) (i_value : Int) (i_sum : Int) (i_nStates : Int) (i_set : Nat → Int) (i_rest : Nat → Int) (i_weights : Nat → Int) (i_states : Nat → Int) (i_table : Nat → Int) (i_nexts : Nat → Int) (i_left : Nat → Int) (i_costs : Nat → Int) (i_small : Nat → Int) (i_tall : Nat → Int) (i_safes : Nat → Int) (i_cheapest : Nat → Int) : Option (Int × Int × Int × Int × Int × Int × Int × (Nat → Int) × (Nat → Int) × (Nat → Int) × (Nat → Int) × (Nat → Int) × (Nat → Int) × (Nat → Int) × (Nat → Int) × (Nat → Int) × (Nat → Int) × (Nat → Int) × (Nat → Int)) :=
  zd1 (f_HM_stones i_row) fun v1 =>
  zn (zi_w x1) fun v2 =>
  zd1 (f_HM_in v2 0 2) fun v3 =>
  if zi_w v3 = 0 then
    some ((-1), 0, i_law, i_broken, i_value, i_sum, i_nStates, i_set, i_rest, i_weights, i_states, i_table, i_nexts, i_left, i_costs, i_small, i_tall, i_safes, i_cheapest)
  else
    zn (zi_w x3) fun v4 =>
    zd1 (f_HM_in v4 0 2) fun v5 =>
    if zi_w v5 = 0 then
      some ((-1), 0, i_law, i_broken, i_value, i_sum, i_nStates, i_set, i_rest, i_weights, i_states, i_table, i_nexts, i_left, i_costs, i_small, i_tall, i_safes, i_cheapest)
    else
      zd1 (f_HM_columns i_row) fun v6 =>
      if zi_w 4 < zi_w v6 then
        some ((-1), 0, i_law, i_broken, i_value, i_sum, i_nStates, i_set, i_rest, i_weights, i_states, i_table, i_nexts, i_left, i_costs, i_small, i_tall, i_safes, i_cheapest)
      else
        if zi_w 5 < zi_w v1 then
          some ((-1), 0, i_law, i_broken, i_value, i_sum, i_nStates, i_set, i_rest, i_weights, i_states, i_table, i_nexts, i_left, i_costs, i_small, i_tall, i_safes, i_cheapest)
        else
          if zi_w (-1) ≤ zi_w x2 then
            zd17 (f_HM_findLeft x1 v1 i_row i_law i_broken i_value i_sum i_nStates i_set i_rest i_weights i_states i_table i_nexts i_left i_costs i_small i_tall i_safes i_cheapest) fun v7 v8 v9 v10 v11 a12 a13 a14 a15 a16 a17 a18 a19 a20 a21 a22 a23 =>
            zg 6720 a18 0 fun v24 =>
            if zl_w v24 < zl_w 1000000000000000 then
              if zi_w x2 ≠ zi_w (-1) then
                f_HM_plan_118 i_row zfu x1 x2 x3 v1 0 (-1) 0 0 v7 v8 v9 v10 v11 a12 a13 a14 a15 a16 a17 a18 a19 a20 a21 a22 a23
              else
                if zi_w x1 ≠ zi_w 2 then
                  zg 6720 a18 0 fun v25 =>
                  some (v25, 0, v7, v8, v9, v10, v11, a12, a13, a14, a15, a16, a17, a18, a19, a20, a21, a22, a23)
                else
                  zg 6720 a18 0 fun v26 =>
                  if zl_w 10000 = 0 then none else zn (zl_div v26 10000) fun v27 =>
                  some (v27, 0, v7, v8, v9, v10, v11, a12, a13, a14, a15, a16, a17, a18, a19, a20, a21, a22, a23)
            else
              some ((-1), 0, v7, v8, v9, v10, v11, a12, a13, a14, a15, a16, a17, a18, a19, a20, a21, a22, a23)
          else
            some ((-1), 0, i_law, i_broken, i_value, i_sum, i_nStates, i_set, i_rest, i_weights, i_states, i_table, i_nexts, i_left, i_costs, i_small, i_tall, i_safes, i_cheapest)
def f_HM_weighs_141 (i_row : Nat → Int) (k49 : Int → Int → Int → (Nat → Int) → Option (Int × Int × (Nat → Int))) (k59 : Int → Int → Int → Int → (Nat → Int) → Option (Int × Int × (Nat → Int))) (k91 : Int → Int → Int → Int → Int → Int → (Nat → Int) → Option (Int × Int × (Nat → Int))) (x1 : Int) (x2 : Int) (x3 : Int) (x4 : Int) (x5 : Int) (s1 : Int) (s2 : Int) (i_thrown : Int) (i_sets : Nat → Int) : Option (Int × Int × (Nat → Int)) :=
  zs 3601 i_sets s1 s2 fun a1 =>
  zn (x5 + (-1)) fun v2 =>
  k91 x1 x2 x3 x4 v2 i_thrown a1
def f_HM_weighs_91_b (i_row : Nat → Int) (k49 : Int → Int → Int → (Nat → Int) → Option (Int × Int × (Nat → Int))) (k59 : Int → Int → Int → Int → (Nat → Int) → Option (Int × Int × (Nat → Int))) (k91 : Int → Int → Int → Int → Int → Int → (Nat → Int) → Option (Int × Int × (Nat → Int))) (x1 : Int) (x2 : Int) (x3 : Int) (x4 : Int) (x5 : Int) (i_thrown : Int) (i_sets : Nat → Int) : Option (Int × Int × (Nat → Int)) :=
  if zi_w x5 < zi_w x4 then
    zn (x3 + 1) fun v1 =>
    k59 x1 x2 v1 i_thrown i_sets
  else
    zg 3601 i_sets x5 fun v2 =>
    zn (x5 - x4) fun v3 =>
    zg 3601 i_sets v3 fun v4 =>
    zn (v2 + v4) fun v5 =>
    if zl_w v5 ≤ zl_w 1000000000 then
      f_HM_weighs_141 i_row k49 k59 k91 x1 x2 x3 x4 x5 x5 v5 i_thrown i_sets
    else
      f_HM_weighs_141 i_row k49 k59 k91 x1 x2 x3 x4 x5 x5 1000000000 i_thrown i_sets
def f_HM_weighs_91 (i_row : Nat → Int) (k49 : Int → Int → Int → (Nat → Int) → Option (Int × Int × (Nat → Int))) (k59 : Int → Int → Int → Int → (Nat → Int) → Option (Int × Int × (Nat → Int))) : Nat → Int → Int → Int → Int → Int → Int → (Nat → Int) → Option (Int × Int × (Nat → Int))
  | 0 => fun _ _ _ _ _ _ _ => none
  | n + 1 => fun y0 y1 y2 y3 y4 y5 y6 => f_HM_weighs_91_b i_row k49 k59 (f_HM_weighs_91 i_row k49 k59 n) y0 y1 y2 y3 y4 y5 y6
def f_HM_weighs_59_b (i_row : Nat → Int) (k49 : Int → Int → Int → (Nat → Int) → Option (Int × Int × (Nat → Int))) (k59 : Int → Int → Int → Int → (Nat → Int) → Option (Int × Int × (Nat → Int))) (x1 : Int) (x2 : Int) (x3 : Int) (i_thrown : Int) (i_sets : Nat → Int) : Option (Int × Int × (Nat → Int)) :=
  zn (9 + x2) fun v1 =>
  zg 5580 i_row v1 fun v2 =>
  if zi_w v2 ≤ zi_w x3 then
    zn (x2 + 1) fun v3 =>
    k49 x1 v3 i_thrown i_sets
  else
    zn (10 * x2) fun v4 =>
    zn (21 + v4) fun v5 =>
    zn (v5 + x3) fun v6 =>
    zg 5580 i_row v6 fun v7 =>
    f_HM_weighs_91 i_row k49 k59 zfu x1 x2 x3 v7 x1 i_thrown i_sets
def f_HM_weighs_59 (i_row : Nat → Int) (k49 : Int → Int → Int → (Nat → Int) → Option (Int × Int × (Nat → Int))) : Nat → Int → Int → Int → Int → (Nat → Int) → Option (Int × Int × (Nat → Int))
  | 0 => fun _ _ _ _ _ => none
  | n + 1 => fun y0 y1 y2 y3 y4 => f_HM_weighs_59_b i_row k49 (f_HM_weighs_59 i_row k49 n) y0 y1 y2 y3 y4
def f_HM_weighs_49_b (i_row : Nat → Int) (k49 : Int → Int → Int → (Nat → Int) → Option (Int × Int × (Nat → Int))) (x1 : Int) (x2 : Int) (i_thrown : Int) (i_sets : Nat → Int) : Option (Int × Int × (Nat → Int)) :=
  zd1 (f_HM_columns i_row) fun v1 =>
  if zi_w v1 ≤ zi_w x2 then
    zg 3601 i_sets x1 fun v2 =>
    some (v2, i_thrown, i_sets)
  else
    f_HM_weighs_59 i_row k49 zfu x1 x2 0 i_thrown i_sets
def f_HM_weighs_49 (i_row : Nat → Int) : Nat → Int → Int → Int → (Nat → Int) → Option (Int × Int × (Nat → Int))
  | 0 => fun _ _ _ _ => none
  | n + 1 => fun y0 y1 y2 y3 => f_HM_weighs_49_b i_row (f_HM_weighs_49 i_row n) y0 y1 y2 y3
def f_HM_weighs_40 (i_row : Nat → Int) (k21 : Int → Int → Int → (Nat → Int) → Option (Int × Int × (Nat → Int))) (x1 : Int) (x2 : Int) (s1 : Int) (s2 : Int) (i_thrown : Int) (i_sets : Nat → Int) : Option (Int × Int × (Nat → Int)) :=
  zs 3601 i_sets s1 s2 fun a1 =>
  zn (x2 + 1) fun v2 =>
  k21 x1 v2 i_thrown a1
def f_HM_weighs_21_b (i_row : Nat → Int) (k21 : Int → Int → Int → (Nat → Int) → Option (Int × Int × (Nat → Int))) (x1 : Int) (x2 : Int) (i_thrown : Int) (i_sets : Nat → Int) : Option (Int × Int × (Nat → Int)) :=
  if zi_w x1 < zi_w x2 then
    f_HM_weighs_49 i_row zfu x1 0 i_thrown i_sets
  else
    if zi_w x2 ≠ 0 then
      f_HM_weighs_40 i_row k21 x1 x2 x2 0 i_thrown i_sets
    else
      f_HM_weighs_40 i_row k21 x1 x2 x2 1 i_thrown i_sets
def f_HM_weighs_21 (i_row : Nat → Int) : Nat → Int → Int → Int → (Nat → Int) → Option (Int × Int × (Nat → Int))
  | 0 => fun _ _ _ _ => none
  | n + 1 => fun y0 y1 y2 y3 => f_HM_weighs_21_b i_row (f_HM_weighs_21 i_row n) y0 y1 y2 y3
def f_HM_weighs (x1 : Int) (i_row : Nat → Int) (i_thrown : Int) (i_sets : Nat → Int) : Option (Int × Int × (Nat → Int)) :=
  zn (zi_w x1) fun v1 =>
  zd1 (f_HM_in v1 0 3600) fun v2 =>
  if zi_w v2 ≠ 0 then
    f_HM_weighs_21 i_row zfu x1 0 0 i_sets
  else
    some ((-1), 0, i_sets)
def f_HM_trips (x1 : Int) (x2 : Int) (i_thrown : Int) (i_status : Int) (i_refusals : Nat → Int) (i_row : Nat → Int) : Option (Int × Int × Int × (Nat → Int) × (Nat → Int)) :=
  zn (zi_w x2) fun v1 =>
  zd1 (f_HM_in v1 0 20) fun v2 =>
  if zi_w v2 ≠ 0 then
    zd1 (f_HM_isChild x1 i_row) fun v3 =>
    if zi_w v3 = 0 then
      zd3 (f_HM_tell (-2) i_status i_refusals) fun v4 v5 a6 =>
      some (v4, 0, v5, a6, i_row)
    else
      zn (3 * x1) fun v7 =>
      zn (153 + v7) fun v8 =>
      zn (v8 + 2) fun v9 =>
      zd3 (f_HM_change v9 x2 i_status i_row) fun v10 v11 a12 =>
      some (v10, 0, v11, i_refusals, a12)
  else
    zd3 (f_HM_tell (-1) i_status i_refusals) fun v13 v14 a15 =>
    some (v13, 0, v14, a15, i_row)
def f_HM_bestToWeigh_85 (i_row : Nat → Int) (i_withOne : Nat → Int) (k9 : Int → Int → Int → Int → Option (Int)) (x1 : Int) (x2 : Int) (x4 : Int) (s0 : Int) : Option (Int) :=
  zn (x4 + 1) fun v1 =>
  k9 x1 x2 s0 v1
def f_HM_bestToWeigh_72 (i_row : Nat → Int) (i_withOne : Nat → Int) (k9 : Int → Int → Int → Int → Option (Int)) (x1 : Int) (x3 : Int) (x4 : Int) (x5 : Int) (s0 : Int) : Option (Int) :=
  if zi_w x3 ≤ zi_w x5 then
    f_HM_bestToWeigh_85 i_row i_withOne k9 x1 s0 x4 x3
  else
    f_HM_bestToWeigh_85 i_row i_withOne k9 x1 s0 x4 x5
def f_HM_bestToWeigh_58 (i_row : Nat → Int) (i_withOne : Nat → Int) (k9 : Int → Int → Int → Int → Option (Int)) (x1 : Int) (x2 : Int) (x3 : Int) (x4 : Int) (s0 : Int) : Option (Int) :=
  if zi_w x3 ≤ zi_w s0 then
    f_HM_bestToWeigh_72 i_row i_withOne k9 x1 x3 x4 s0 x2
  else
    f_HM_bestToWeigh_72 i_row i_withOne k9 x1 x3 x4 s0 x4
def f_HM_bestToWeigh_9_b (i_row : Nat → Int) (i_withOne : Nat → Int) (k9 : Int → Int → Int → Int → Option (Int)) (x1 : Int) (x2 : Int) (x3 : Int) (x4 : Int) : Option (Int) :=
  zg 5580 i_row 1 fun v1 =>
  if zi_w v1 ≤ zi_w x4 then
    some x2
  else
    zg 6 i_withOne x4 fun v2 =>
    zg 6 i_withOne x4 fun v3 =>
    zn (x1 - v3) fun v4 =>
    if zi_w v2 ≤ zi_w v4 then
      zg 6 i_withOne x4 fun v5 =>
      zn (x1 - v5) fun v6 =>
      f_HM_bestToWeigh_58 i_row i_withOne k9 x1 x2 x3 x4 v6
    else
      zg 6 i_withOne x4 fun v7 =>
      f_HM_bestToWeigh_58 i_row i_withOne k9 x1 x2 x3 x4 v7
def f_HM_bestToWeigh_9 (i_row : Nat → Int) (i_withOne : Nat → Int) : Nat → Int → Int → Int → Int → Option (Int)
  | 0 => fun _ _ _ _ => none
  | n + 1 => fun y0 y1 y2 y3 => f_HM_bestToWeigh_9_b i_row i_withOne (f_HM_bestToWeigh_9 i_row i_withOne n) y0 y1 y2 y3
def f_HM_bestToWeigh (x1 : Int) (i_row : Nat → Int) (i_withOne : Nat → Int) : Option (Int) :=
  zn (x1 + 1) fun v1 =>
  f_HM_bestToWeigh_9 i_row i_withOne zfu x1 (-1) v1 0
def f_HM_is (x0 : Int) (x1 : Int) : Option (Int) :=
  zn (zi_shr x0 x1) fun v1 =>
  zn (zi_and v1 1) fun v2 =>
  if zi_w v2 ≠ zi_w 1 then
    some 0
  else
    some 1
def f_HM_culprits_229 (i_row : Nat → Int) (k95 : Int → Int → Int → Int → Int → Int → Int → Int → Int → Int → (Nat → Int) → Option (Int × Int × (Nat → Int))) (x1 : Int) (x2 : Int) (x3 : Int) (x4 : Int) (x5 : Int) (x6 : Int) (x7 : Int) (x8 : Int) (x9 : Int) (i_thrown : Int) (i_withOne : Nat → Int) : Option (Int × Int × (Nat → Int)) :=
  zn (x9 + 1) fun v1 =>
  k95 x1 x2 x3 x4 x5 x6 x7 x8 v1 i_thrown i_withOne
def f_HM_culprits_199_b (i_row : Nat → Int) (k95 : Int → Int → Int → Int → Int → Int → Int → Int → Int → Int → (Nat → Int) → Option (Int × Int × (Nat → Int))) (k199 : Int → Int → Int → Int → Int → Int → Int → Int → Int → Int → Int → (Nat → Int) → Option (Int × Int × (Nat → Int))) (x1 : Int) (x2 : Int) (x3 : Int) (x4 : Int) (x5 : Int) (x6 : Int) (x7 : Int) (x8 : Int) (x9 : Int) (x11 : Int) (i_thrown : Int) (i_withOne : Nat → Int) : Option (Int × Int × (Nat → Int)) :=
  if zi_w x4 ≤ zi_w x11 then
    f_HM_culprits_229 i_row k95 x1 x2 x3 x4 x5 x6 x7 x8 x9 i_thrown i_withOne
  else
    zg 6 i_withOne x11 fun v1 =>
    zn (zi_shr x9 x11) fun v2 =>
    zn (zi_and v2 1) fun v3 =>
    zn (v1 + v3) fun v4 =>
    zs 6 i_withOne x11 v4 fun a5 =>
    zn (x11 + 1) fun v6 =>
    k199 x1 x2 x3 x4 x5 x6 x7 x8 x9 v6 i_thrown a5
def f_HM_culprits_199 (i_row : Nat → Int) (k95 : Int → Int → Int → Int → Int → Int → Int → Int → Int → Int → (Nat → Int) → Option (Int × Int × (Nat → Int))) : Nat → Int → Int → Int → Int → Int → Int → Int → Int → Int → Int → Int → (Nat → Int) → Option (Int × Int × (Nat → Int))
  | 0 => fun _ _ _ _ _ _ _ _ _ _ _ _ => none
  | n + 1 => fun y0 y1 y2 y3 y4 y5 y6 y7 y8 y9 y10 y11 => f_HM_culprits_199_b i_row k95 (f_HM_culprits_199 i_row k95 n) y0 y1 y2 y3 y4 y5 y6 y7 y8 y9 y10 y11
def f_HM_culprits_177 (i_row : Nat → Int) (k95 : Int → Int → Int → Int → Int → Int → Int → Int → Int → Int → (Nat → Int) → Option (Int × Int × (Nat → Int))) (x1 : Int) (x2 : Int) (x3 : Int) (x4 : Int) (x5 : Int) (x7 : Int) (x8 : Int) (x9 : Int) (s0 : Int) (i_thrown : Int) (i_withOne : Nat → Int) : Option (Int × Int × (Nat → Int)) :=
  zn (x5 + 1) fun v1 =>
  zn (zi_and x7 x9) fun v2 =>
  zn (zi_or x8 x9) fun v3 =>
  f_HM_culprits_199 i_row k95 zfu x1 x2 x3 x4 v1 s0 v2 v3 x9 0 i_thrown i_withOne
def f_HM_culprits_150 (i_row : Nat → Int) (k95 : Int → Int → Int → Int → Int → Int → Int → Int → Int → Int → (Nat → Int) → Option (Int × Int × (Nat → Int))) (k110 : Int → Int → Int → Int → Int → Int → Int → Int → Int → Int → Int → Int → (Nat → Int) → Option (Int × Int × (Nat → Int))) (x1 : Int) (x2 : Int) (x3 : Int) (x4 : Int) (x5 : Int) (x6 : Int) (x7 : Int) (x8 : Int) (x9 : Int) (x11 : Int) (s0 : Int) (s1 : Int) (i_thrown : Int) (i_withOne : Nat → Int) : Option (Int × Int × (Nat → Int)) :=
  zn (s0 + s1) fun v1 =>
  zn (x11 + 1) fun v2 =>
  k110 x1 x2 x3 x4 x5 x6 x7 x8 x9 v1 v2 i_thrown i_withOne
def f_HM_culprits_110_b (i_row : Nat → Int) (k95 : Int → Int → Int → Int → Int → Int → Int → Int → Int → Int → (Nat → Int) → Option (Int × Int × (Nat → Int))) (k110 : Int → Int → Int → Int → Int → Int → Int → Int → Int → Int → Int → Int → (Nat → Int) → Option (Int × Int × (Nat → Int))) (x1 : Int) (x2 : Int) (x3 : Int) (x4 : Int) (x5 : Int) (x6 : Int) (x7 : Int) (x8 : Int) (x9 : Int) (x10 : Int) (x11 : Int) (i_thrown : Int) (i_withOne : Nat → Int) : Option (Int × Int × (Nat → Int)) :=
  if zi_w x4 ≤ zi_w x11 then
    if zi_w x10 ≠ zi_w x2 then
      f_HM_culprits_229 i_row k95 x1 x2 x3 x4 x5 x6 x7 x8 x9 i_thrown i_withOne
    else
      if zi_w x5 ≠ 0 then
        f_HM_culprits_177 i_row k95 x1 x2 x3 x4 x5 x7 x8 x9 x6 i_thrown i_withOne
      else
        f_HM_culprits_177 i_row k95 x1 x2 x3 x4 x5 x7 x8 x9 x9 i_thrown i_withOne
  else
    zd1 (f_HM_is x9 x11) fun v1 =>
    if zi_w v1 = 0 then
      f_HM_culprits_150 i_row k95 k110 x1 x2 x3 x4 x5 x6 x7 x8 x9 x11 x10 0 i_thrown i_withOne
    else
      zn (3 * x11) fun v2 =>
      zn (153 + v2) fun v3 =>
      zn (v3 + 2) fun v4 =>
      zg 5580 i_row v4 fun v5 =>
      zn (x1 * v5) fun v6 =>
      f_HM_culprits_150 i_row k95 k110 x1 x2 x3 x4 x5 x6 x7 x8 x9 x11 x10 v6 i_thrown i_withOne
def f_HM_culprits_110 (i_row : Nat → Int) (k95 : Int → Int → Int → Int → Int → Int → Int → Int → Int → Int → (Nat → Int) → Option (Int × Int × (Nat → Int))) : Nat → Int → Int → Int → Int → Int → Int → Int → Int → Int → Int → Int → Int → (Nat → Int) → Option (Int × Int × (Nat → Int))
  | 0 => fun _ _ _ _ _ _ _ _ _ _ _ _ _ => none
  | n + 1 => fun y0 y1 y2 y3 y4 y5 y6 y7 y8 y9 y10 y11 y12 => f_HM_culprits_110_b i_row k95 (f_HM_culprits_110 i_row k95 n) y0 y1 y2 y3 y4 y5 y6 y7 y8 y9 y10 y11 y12
def f_HM_culprits_95_b (i_row : Nat → Int) (k95 : Int → Int → Int → Int → Int → Int → Int → Int → Int → Int → (Nat → Int) → Option (Int × Int × (Nat → Int))) (x1 : Int) (x2 : Int) (x3 : Int) (x4 : Int) (x5 : Int) (x6 : Int) (x7 : Int) (x8 : Int) (x9 : Int) (i_thrown : Int) (i_withOne : Nat → Int) : Option (Int × Int × (Nat → Int)) :=
  zn (zi_shl 1 x4) fun v1 =>
  if zi_w v1 ≤ zi_w x9 then
    if zi_w x3 ≠ 0 then
      if zi_w x5 ≠ 0 then
        if zi_w x3 ≠ zi_w 1 then
          if zi_w x3 ≠ zi_w 2 then
            if zi_w x3 ≠ zi_w 3 then
              zd1 (f_HM_bestToWeigh x5 i_row i_withOne) fun v2 =>
              some (v2, i_thrown, i_withOne)
            else
              zn (zi_shl 1 x4) fun v3 =>
              zn (v3 - 1) fun v4 =>
              zn (zi_xor x8 (-1)) fun v5 =>
              zn (zi_and v4 v5) fun v6 =>
              some (v6, i_thrown, i_withOne)
          else
            some (x7, i_thrown, i_withOne)
        else
          some (x6, i_thrown, i_withOne)
      else
        some ((-1), i_thrown, i_withOne)
    else
      some (x5, i_thrown, i_withOne)
  else
    f_HM_culprits_110 i_row k95 zfu x1 x2 x3 x4 x5 x6 x7 x8 x9 0 0 i_thrown i_withOne
def f_HM_culprits_95 (i_row : Nat → Int) : Nat → Int → Int → Int → Int → Int → Int → Int → Int → Int → Int → (Nat → Int) → Option (Int × Int × (Nat → Int))
  | 0 => fun _ _ _ _ _ _ _ _ _ _ _ => none
  | n + 1 => fun y0 y1 y2 y3 y4 y5 y6 y7 y8 y9 y10 => f_HM_culprits_95_b i_row (f_HM_culprits_95 i_row n) y0 y1 y2 y3 y4 y5 y6 y7 y8 y9 y10
def f_HM_culprits_71_b (i_row : Nat → Int) (k71 : Int → Int → Int → Int → Int → Int → Int → Int → Int → Int → (Nat → Int) → Option (Int × Int × (Nat → Int))) (x1 : Int) (x2 : Int) (x3 : Int) (x4 : Int) (x5 : Int) (x6 : Int) (x7 : Int) (x8 : Int) (x9 : Int) (i_thrown : Int) (i_withOne : Nat → Int) : Option (Int × Int × (Nat → Int)) :=
  if zi_w 6 ≤ zi_w x9 then
    f_HM_culprits_95 i_row zfu x1 x2 x3 x4 x5 x6 x7 x8 0 i_thrown i_withOne
  else
    zs 6 i_withOne x9 0 fun a1 =>
    zn (x9 + 1) fun v2 =>
    k71 x1 x2 x3 x4 x5 x6 x7 x8 v2 i_thrown a1
def f_HM_culprits_71 (i_row : Nat → Int) : Nat → Int → Int → Int → Int → Int → Int → Int → Int → Int → Int → (Nat → Int) → Option (Int × Int × (Nat → Int))
  | 0 => fun _ _ _ _ _ _ _ _ _ _ _ => none
  | n + 1 => fun y0 y1 y2 y3 y4 y5 y6 y7 y8 y9 y10 => f_HM_culprits_71_b i_row (f_HM_culprits_71 i_row n) y0 y1 y2 y3 y4 y5 y6 y7 y8 y9 y10
def f_HM_culprits (x1 : Int) (x2 : Int) (x3 : Int) (i_row : Nat → Int) (i_thrown : Int) (i_withOne : Nat → Int) : Option (Int × Int × (Nat → Int)) :=
  zn (zi_w x1) fun v1 =>
  zd1 (f_HM_in v1 1 9) fun v2 =>
  if zi_w v2 = 0 then
    some ((-1), 0, i_withOne)
  else
    zn (zi_w x2) fun v3 =>
    zd1 (f_HM_in v3 0 999) fun v4 =>
    if zi_w v4 = 0 then
      some ((-1), 0, i_withOne)
    else
      zn (zi_w x3) fun v5 =>
      zd1 (f_HM_in v5 0 4) fun v6 =>
      if zi_w v6 ≠ 0 then
        zg 5580 i_row 1 fun v7 =>
        zn (zi_shl 1 v7) fun v8 =>
        zn (v8 - 1) fun v9 =>
        f_HM_culprits_71 i_row zfu x1 x2 x3 v7 0 (-1) v9 0 0 0 i_withOne
      else
        some ((-1), 0, i_withOne)
def f_HM_settlex_55 (i_tried : Nat → Int) (x1 : Int) (x3 : Int) (i_bests : Nat → Int) (i_firsts : Nat → Int) : Option ((Nat → Int) × (Nat → Int)) :=
  zs 5 i_bests x1 x3 fun a1 =>
  zg 5 i_tried x1 fun v2 =>
  zs 5 i_firsts x1 v2 fun a3 =>
  some (a1, a3)
def f_HM_settlex_13 (i_tried : Nat → Int) (x1 : Int) (x3 : Int) (s0 : Int) (i_bests : Nat → Int) (i_firsts : Nat → Int) : Option ((Nat → Int) × (Nat → Int)) :=
  zg 5 i_bests x1 fun v1 =>
  if zi_w v1 = zi_w (-1000) then
    f_HM_settlex_55 i_tried x1 x3 i_bests i_firsts
  else
    if zi_w s0 = 0 then
      zg 5 i_bests x1 fun v2 =>
      if zi_w v2 ≤ zi_w x3 then
        some (i_bests, i_firsts)
      else
        f_HM_settlex_55 i_tried x1 x3 i_bests i_firsts
    else
      zg 5 i_bests x1 fun v3 =>
      if zi_w x3 ≤ zi_w v3 then
        some (i_bests, i_firsts)
      else
        f_HM_settlex_55 i_tried x1 x3 i_bests i_firsts
def f_HM_settlex (x1 : Int) (x2 : Int) (x3 : Int) (i_tried : Nat → Int) (i_bests : Nat → Int) (i_firsts : Nat → Int) : Option ((Nat → Int) × (Nat → Int)) :=
  zn (x1 + x2) fun v1 =>
  if zi_w 2 = 0 then none else zn (zi_rem v1 2) fun v2 =>
  if zi_w v2 ≠ 0 then
    f_HM_settlex_13 i_tried x1 x3 0 i_bests i_firsts
  else
    f_HM_settlex_13 i_tried x1 x3 1 i_bests i_firsts
def f_HM_isCarried_63 (i_row : Nat → Int) (i_high : Nat → Int) (i_heaps : Nat → Int) (k14 : Int → Int → Int → Int → Int → Int → Int → Int → (Nat → Int) → (Nat → Int) → Option (Int × Int × Int × Int × Int × (Nat → Int) × (Nat → Int))) (x2 : Int) (x3 : Int) (x5 : Int) (s0 : Int) (i_law : Int) (i_broken : Int) (i_value : Int) (i_sum : Int) (i_set : Nat → Int) (i_rest : Nat → Int) : Option (Int × Int × Int × Int × Int × (Nat → Int) × (Nat → Int)) :=
  zn (x5 + 1) fun v1 =>
  k14 x2 x3 s0 v1 i_law i_broken i_value i_sum i_set i_rest
def f_HM_isCarried_58 (i_row : Nat → Int) (i_high : Nat → Int) (i_heaps : Nat → Int) (k14 : Int → Int → Int → Int → Int → Int → Int → Int → (Nat → Int) → (Nat → Int) → Option (Int × Int × Int × Int × Int × (Nat → Int) × (Nat → Int))) (x2 : Int) (x3 : Int) (x5 : Int) (i_law : Int) (i_broken : Int) (i_value : Int) (i_sum : Int) (i_set : Nat → Int) (i_rest : Nat → Int) : Option (Int × Int × Int × Int × Int × (Nat → Int) × (Nat → Int)) :=
  f_HM_isCarried_63 i_row i_high i_heaps k14 x2 x3 x5 1 i_law i_broken i_value i_sum i_set i_rest
def f_HM_isCarried_14_b (i_row : Nat → Int) (i_high : Nat → Int) (i_heaps : Nat → Int) (k14 : Int → Int → Int → Int → Int → Int → Int → Int → (Nat → Int) → (Nat → Int) → Option (Int × Int × Int × Int × Int × (Nat → Int) × (Nat → Int))) (x2 : Int) (x3 : Int) (x4 : Int) (x5 : Int) (i_law : Int) (i_broken : Int) (i_value : Int) (i_sum : Int) (i_set : Nat → Int) (i_rest : Nat → Int) : Option (Int × Int × Int × Int × Int × (Nat → Int) × (Nat → Int)) :=
  zg 5580 i_row 1 fun v1 =>
  if zi_w v1 ≤ zi_w x5 then
    if ¬ (zi_w x4 = 0 ∨ zi_w x4 = 1) then none else
    some (x4, i_law, i_broken, i_value, i_sum, i_set, i_rest)
  else
    zd1 (f_HM_columns i_row) fun v2 =>
    if zi_w v2 ≤ zi_w x2 then
      if ¬ (zi_w x4 = 0 ∨ zi_w x4 = 1) then none else
      some (x4, i_law, i_broken, i_value, i_sum, i_set, i_rest)
    else
      zd1 (f_HM_columns i_row) fun v3 =>
      if zi_w v3 ≤ zi_w x3 then
        if ¬ (zi_w x4 = 0 ∨ zi_w x4 = 1) then none else
        some (x4, i_law, i_broken, i_value, i_sum, i_set, i_rest)
      else
        if zi_w x4 ≠ 0 then
          f_HM_isCarried_58 i_row i_high i_heaps k14 x2 x3 x5 i_law i_broken i_value i_sum i_set i_rest
        else
          zd7 (f_HM_carrying x5 x2 x3 i_row i_high i_heaps i_law i_broken i_value i_sum i_set i_rest) fun v4 v5 v6 v7 v8 a9 a10 =>
          if zi_w v4 = zi_w (-1) then
            f_HM_isCarried_63 i_row i_high i_heaps k14 x2 x3 x5 0 v5 v6 v7 v8 a9 a10
          else
            f_HM_isCarried_58 i_row i_high i_heaps k14 x2 x3 x5 v5 v6 v7 v8 a9 a10
def f_HM_isCarried_14 (i_row : Nat → Int) (i_high : Nat → Int) (i_heaps : Nat → Int) : Nat → Int → Int → Int → Int → Int → Int → Int → Int → (Nat → Int) → (Nat → Int) → Option (Int × Int × Int × Int × Int × (Nat → Int) × (Nat → Int))
  | 0 => fun _ _ _ _ _ _ _ _ _ _ => none
  | n + 1 => fun y0 y1 y2 y3 y4 y5 y6 y7 y8 y9 => f_HM_isCarried_14_b i_row i_high i_heaps (f_HM_isCarried_14 i_row i_high i_heaps n) y0 y1 y2 y3 y4 y5 y6 y7 y8 y9
def f_HM_isCarried (x1 : Int) (i_row : Nat → Int) (i_high : Nat → Int) (i_heaps : Nat → Int) (i_law : Int) (i_broken : Int) (i_value : Int) (i_sum : Int) (i_set : Nat → Int) (i_rest : Nat → Int) : Option (Int × Int × Int × Int × Int × (Nat → Int) × (Nat → Int)) :=
  if zi_w 4 = 0 then none else zn (zi_div x1 4) fun v1 =>
  if zi_w 4 = 0 then none else zn (zi_rem x1 4) fun v2 =>
  f_HM_isCarried_14 i_row i_high i_heaps zfu v1 v2 0 0 i_law i_broken i_value i_sum i_set i_rest
def f_HM_nextMove_29 (i_row : Nat → Int) (i_high : Nat → Int) (i_heaps : Nat → Int) (i_tried : Nat → Int) (i_bests : Nat → Int) (x1 : Int) (x2 : Int) (i_law : Int) (i_broken : Int) (i_value : Int) (i_sum : Int) (i_set : Nat → Int) (i_rest : Nat → Int) : Option (Int × Int × Int × Int × Int × (Nat → Int) × (Nat → Int)) :=
  if zi_w x2 < zi_w 16 then
    some (x2, i_law, i_broken, i_value, i_sum, i_set, i_rest)
  else
    zg 5 i_bests x1 fun v1 =>
    if zi_w v1 ≠ zi_w (-1000) then
      some (x2, i_law, i_broken, i_value, i_sum, i_set, i_rest)
    else
      zg 5 i_tried x1 fun v2 =>
      if zi_w 16 ≤ zi_w v2 then
        some (x2, i_law, i_broken, i_value, i_sum, i_set, i_rest)
      else
        some (17, i_law, i_broken, i_value, i_sum, i_set, i_rest)
def f_HM_nextMove_9_b (i_row : Nat → Int) (i_high : Nat → Int) (i_heaps : Nat → Int) (i_tried : Nat → Int) (i_bests : Nat → Int) (k9 : Int → Int → Int → Int → Int → Int → (Nat → Int) → (Nat → Int) → Option (Int × Int × Int × Int × Int × (Nat → Int) × (Nat → Int))) (x1 : Int) (x2 : Int) (i_law : Int) (i_broken : Int) (i_value : Int) (i_sum : Int) (i_set : Nat → Int) (i_rest : Nat → Int) : Option (Int × Int × Int × Int × Int × (Nat → Int) × (Nat → Int)) :=
  if zi_w 16 ≤ zi_w x2 then
    f_HM_nextMove_29 i_row i_high i_heaps i_tried i_bests x1 x2 i_law i_broken i_value i_sum i_set i_rest
  else
    zd7 (f_HM_isCarried x2 i_row i_high i_heaps i_law i_broken i_value i_sum i_set i_rest) fun v1 v2 v3 v4 v5 a6 a7 =>
    if zi_w v1 ≠ 0 then
      f_HM_nextMove_29 i_row i_high i_heaps i_tried i_bests x1 x2 v2 v3 v4 v5 a6 a7
    else
      zn (x2 + 1) fun v8 =>
      k9 x1 v8 v2 v3 v4 v5 a6 a7
def f_HM_nextMove_9 (i_row : Nat → Int) (i_high : Nat → Int) (i_heaps : Nat → Int) (i_tried : Nat → Int) (i_bests : Nat → Int) : Nat → Int → Int → Int → Int → Int → Int → (Nat → Int) → (Nat → Int) → Option (Int × Int × Int × Int × Int × (Nat → Int) × (Nat → Int))
  | 0 => fun _ _ _ _ _ _ _ _ => none
  | n + 1 => fun y0 y1 y2 y3 y4 y5 y6 y7 => f_HM_nextMove_9_b i_row i_high i_heaps i_tried i_bests (f_HM_nextMove_9 i_row i_high i_heaps i_tried i_bests n) y0 y1 y2 y3 y4 y5 y6 y7
def f_HM_nextMove (x1 : Int) (i_row : Nat → Int) (i_high : Nat → Int) (i_heaps : Nat → Int) (i_tried : Nat → Int) (i_bests : Nat → Int) (i_law : Int) (i_broken : Int) (i_value : Int) (i_sum : Int) (i_set : Nat → Int) (i_rest : Nat → Int) : Option (Int × Int × Int × Int × Int × (Nat → Int) × (Nat → Int)) :=
  zg 5 i_tried x1 fun v1 =>
  zn (v1 + 1) fun v2 =>
  f_HM_nextMove_9 i_row i_high i_heaps i_tried i_bests zfu x1 v2 i_law i_broken i_value i_sum i_set i_rest
def f_HM_unmove (x1 : Int) (i_high : Nat → Int) (i_heaps : Nat → Int) : Option ((Nat → Int) × (Nat → Int)) :=
  if zi_w 16 ≤ zi_w x1 then
    some (i_high, i_heaps)
  else
    if zi_w 4 = 0 then none else zn (zi_rem x1 4) fun v1 =>
    if zi_w 4 = 0 then none else zn (zi_div x1 4) fun v2 =>
    zd2 (f_HM_shift v1 v2 i_high i_heaps) fun a3 a4 =>
    some (a3, a4)
def f_HM_duel_224 (i_row : Nat → Int) (k72 : Int → Int → Int → Int → Int → Int → Int → Int → Int → (Nat → Int) → (Nat → Int) → (Nat → Int) → (Nat → Int) → (Nat → Int) → (Nat → Int) → (Nat → Int) → Option (Int × Int × Int × Int × Int × Int × (Nat → Int) × (Nat → Int) × (Nat → Int) × (Nat → Int) × (Nat → Int) × (Nat → Int) × (Nat → Int))) (x1 : Int) (x2 : Int) (x3 : Int) (x4 : Int) (i_thrown : Int) (i_law : Int) (i_broken : Int) (i_value : Int) (i_sum : Int) (i_set : Nat → Int) (i_rest : Nat → Int) (i_high : Nat → Int) (i_heaps : Nat → Int) (i_tried : Nat → Int) (i_bests : Nat → Int) (i_firsts : Nat → Int) : Option (Int × Int × Int × Int × Int × Int × (Nat → Int) × (Nat → Int) × (Nat → Int) × (Nat → Int) × (Nat → Int) × (Nat → Int) × (Nat → Int)) :=
  k72 x1 x2 x3 x4 i_thrown i_law i_broken i_value i_sum i_set i_rest i_high i_heaps i_tried i_bests i_firsts
def f_HM_duel_166 (i_row : Nat → Int) (k72 : Int → Int → Int → Int → Int → Int → Int → Int → Int → (Nat → Int) → (Nat → Int) → (Nat → Int) → (Nat → Int) → (Nat → Int) → (Nat → Int) → (Nat → Int) → Option (Int × Int × Int × Int × Int × Int × (Nat → Int) × (Nat → Int) × (Nat → Int) × (Nat → Int) × (Nat → Int) × (Nat → Int) × (Nat → Int))) (x1 : Int) (x2 : Int) (x3 : Int) (x4 : Int) (i_thrown : Int) (i_law : Int) (i_broken : Int) (i_value : Int) (i_sum : Int) (i_set : Nat → Int) (i_rest : Nat → Int) (i_high : Nat → Int) (i_heaps : Nat → Int) (i_tried : Nat → Int) (i_bests : Nat → Int) (i_firsts : Nat → Int) : Option (Int × Int × Int × Int × Int × Int × (Nat → Int) × (Nat → Int) × (Nat → Int) × (Nat → Int) × (Nat → Int) × (Nat → Int) × (Nat → Int)) :=
  f_HM_duel_224 i_row k72 x1 x2 x3 x4 i_thrown i_law i_broken i_value i_sum i_set i_rest i_high i_heaps i_tried i_bests i_firsts
def f_HM_duel_136 (i_row : Nat → Int) (k72 : Int → Int → Int → Int → Int → Int → Int → Int → Int → (Nat → Int) → (Nat → Int) → (Nat → Int) → (Nat → Int) → (Nat → Int) → (Nat → Int) → (Nat → Int) → Option (Int × Int × Int × Int × Int × Int × (Nat → Int) × (Nat → Int) × (Nat → Int) × (Nat → Int) × (Nat → Int) × (Nat → Int) × (Nat → Int))) (x1 : Int) (x2 : Int) (x3 : Int) (x4 : Int) (s0 : Int) (i_thrown : Int) (i_law : Int) (i_broken : Int) (i_value : Int) (i_sum : Int) (i_set : Nat → Int) (i_rest : Nat → Int) (i_high : Nat → Int) (i_heaps : Nat → Int) (i_tried : Nat → Int) (i_bests : Nat → Int) (i_firsts : Nat → Int) : Option (Int × Int × Int × Int × Int × Int × (Nat → Int) × (Nat → Int) × (Nat → Int) × (Nat → Int) × (Nat → Int) × (Nat → Int) × (Nat → Int)) :=
  zn (x4 + (-1)) fun v1 =>
  if zi_w v1 < 0 then
    f_HM_duel_166 i_row k72 x1 x2 x3 v1 i_thrown i_law i_broken i_value i_sum i_set i_rest i_high i_heaps i_tried i_bests i_firsts
  else
    zg 5 i_tried v1 fun v2 =>
    zd2 (f_HM_unmove v2 i_high i_heaps) fun a3 a4 =>
    zd2 (f_HM_settlex v1 x2 s0 i_tried i_bests i_firsts) fun a5 a6 =>
    f_HM_duel_166 i_row k72 x1 x2 x3 v1 i_thrown i_law i_broken i_value i_sum i_set i_rest a3 a4 i_tried a5 a6
def f_HM_duel_116 (i_row : Nat → Int) (k72 : Int → Int → Int → Int → Int → Int → Int → Int → Int → (Nat → Int) → (Nat → Int) → (Nat → Int) → (Nat → Int) → (Nat → Int) → (Nat → Int) → (Nat → Int) → Option (Int × Int × Int × Int × Int × Int × (Nat → Int) × (Nat → Int) × (Nat → Int) × (Nat → Int) × (Nat → Int) × (Nat → Int) × (Nat → Int))) (x1 : Int) (x2 : Int) (x3 : Int) (x4 : Int) (i_thrown : Int) (i_law : Int) (i_broken : Int) (i_value : Int) (i_sum : Int) (i_set : Nat → Int) (i_rest : Nat → Int) (i_high : Nat → Int) (i_heaps : Nat → Int) (i_tried : Nat → Int) (i_bests : Nat → Int) (i_firsts : Nat → Int) : Option (Int × Int × Int × Int × Int × Int × (Nat → Int) × (Nat → Int) × (Nat → Int) × (Nat → Int) × (Nat → Int) × (Nat → Int) × (Nat → Int)) :=
  if zi_w x4 ≠ zi_w x1 then
    zg 5 i_bests x4 fun v1 =>
    f_HM_duel_136 i_row k72 x1 x2 x3 x4 v1 i_thrown i_law i_broken i_value i_sum i_set i_rest i_high i_heaps i_tried i_bests i_firsts
  else
    zd1 (f_HM_allShades i_row i_high) fun v2 =>
    f_HM_duel_136 i_row k72 x1 x2 x3 x4 v2 i_thrown i_law i_broken i_value i_sum i_set i_rest i_high i_heaps i_tried i_bests i_firsts
def f_HM_duel_197 (i_row : Nat → Int) (k72 : Int → Int → Int → Int → Int → Int → Int → Int → Int → (Nat → Int) → (Nat → Int) → (Nat → Int) → (Nat → Int) → (Nat → Int) → (Nat → Int) → (Nat → Int) → Option (Int × Int × Int × Int × Int × Int × (Nat → Int) × (Nat → Int) × (Nat → Int) × (Nat → Int) × (Nat → Int) × (Nat → Int) × (Nat → Int))) (x1 : Int) (x2 : Int) (x3 : Int) (x4 : Int) (i_thrown : Int) (i_law : Int) (i_broken : Int) (i_value : Int) (i_sum : Int) (i_set : Nat → Int) (i_rest : Nat → Int) (i_high : Nat → Int) (i_heaps : Nat → Int) (i_tried : Nat → Int) (i_bests : Nat → Int) (i_firsts : Nat → Int) : Option (Int × Int × Int × Int × Int × Int × (Nat → Int) × (Nat → Int) × (Nat → Int) × (Nat → Int) × (Nat → Int) × (Nat → Int) × (Nat → Int)) :=
  zn (x4 + 1) fun v1 =>
  if zi_w x1 ≤ zi_w v1 then
    f_HM_duel_224 i_row k72 x1 x2 x3 v1 i_thrown i_law i_broken i_value i_sum i_set i_rest i_high i_heaps i_tried i_bests i_firsts
  else
    zs 5 i_tried v1 (-1) fun a2 =>
    zs 5 i_bests v1 (-1000) fun a3 =>
    f_HM_duel_224 i_row k72 x1 x2 x3 v1 i_thrown i_law i_broken i_value i_sum i_set i_rest i_high i_heaps a2 a3 i_firsts
def f_HM_duel_94 (i_row : Nat → Int) (k72 : Int → Int → Int → Int → Int → Int → Int → Int → Int → (Nat → Int) → (Nat → Int) → (Nat → Int) → (Nat → Int) → (Nat → Int) → (Nat → Int) → (Nat → Int) → Option (Int × Int × Int × Int × Int × Int × (Nat → Int) × (Nat → Int) × (Nat → Int) × (Nat → Int) × (Nat → Int) × (Nat → Int) × (Nat → Int))) (x1 : Int) (x2 : Int) (x3 : Int) (x4 : Int) (s0 : Int) (i_thrown : Int) (i_law : Int) (i_broken : Int) (i_value : Int) (i_sum : Int) (i_set : Nat → Int) (i_rest : Nat → Int) (i_high : Nat → Int) (i_heaps : Nat → Int) (i_tried : Nat → Int) (i_bests : Nat → Int) (i_firsts : Nat → Int) : Option (Int × Int × Int × Int × Int × Int × (Nat → Int) × (Nat → Int) × (Nat → Int) × (Nat → Int) × (Nat → Int) × (Nat → Int) × (Nat → Int)) :=
  if zi_w x4 = zi_w x1 then
    f_HM_duel_116 i_row k72 x1 x2 x3 x4 i_thrown i_law i_broken i_value i_sum i_set i_rest i_high i_heaps i_tried i_bests i_firsts
  else
    if zi_w s0 = zi_w 16 then
      f_HM_duel_116 i_row k72 x1 x2 x3 x4 i_thrown i_law i_broken i_value i_sum i_set i_rest i_high i_heaps i_tried i_bests i_firsts
    else
      if zi_w s0 ≠ zi_w 18 then
        zs 5 i_tried x4 s0 fun a1 =>
        if zi_w 16 ≤ zi_w s0 then
          f_HM_duel_197 i_row k72 x1 x2 x3 x4 i_thrown i_law i_broken i_value i_sum i_set i_rest i_high i_heaps a1 i_bests i_firsts
        else
          if zi_w 4 = 0 then none else zn (zi_div s0 4) fun v2 =>
          if zi_w 4 = 0 then none else zn (zi_rem s0 4) fun v3 =>
          zd2 (f_HM_shift v2 v3 i_high i_heaps) fun a4 a5 =>
          f_HM_duel_197 i_row k72 x1 x2 x3 x4 i_thrown i_law i_broken i_value i_sum i_set i_rest a4 a5 a1 i_bests i_firsts
      else
        f_HM_duel_116 i_row k72 x1 x2 x3 x4 i_thrown i_law i_broken i_value i_sum i_set i_rest i_high i_heaps i_tried i_bests i_firsts
def f_HM_duel_72_b (i_row : Nat → Int) (k72 : Int → Int → Int → Int → Int → Int → Int → Int → Int → (Nat → Int) → (Nat → Int) → (Nat → Int) → (Nat → Int) → (Nat → Int) → (Nat → Int) → (Nat → Int) → Option (Int × Int × Int × Int × Int × Int × (Nat → Int) × (Nat → Int) × (Nat → Int) × (Nat → Int) × (Nat → Int) × (Nat → Int) × (Nat → Int))) (x1 : Int) (x2 : Int) (x3 : Int) (x4 : Int) (i_thrown : Int) (i_law : Int) (i_broken : Int) (i_value : Int) (i_sum : Int) (i_set : Nat → Int) (i_rest : Nat → Int) (i_high : Nat → Int) (i_heaps : Nat → Int) (i_tried : Nat → Int) (i_bests : Nat → Int) (i_firsts : Nat → Int) : Option (Int × Int × Int × Int × Int × Int × (Nat → Int) × (Nat → Int) × (Nat → Int) × (Nat → Int) × (Nat → Int) × (Nat → Int) × (Nat → Int)) :=
  if zi_w x4 < 0 then
    if zi_w x3 ≠ 0 then
      zg 5 i_firsts 0 fun v1 =>
      if zi_w v1 ≤ zi_w 15 then
        if zi_w x3 ≠ zi_w 1 then
          zg 5 i_firsts 0 fun v2 =>
          if zi_w 4 = 0 then none else zn (zi_rem v2 4) fun v3 =>
          some (v3, i_thrown, i_law, i_broken, i_value, i_sum, i_set, i_rest, i_high, i_heaps, i_tried, i_bests, i_firsts)
        else
          zg 5 i_firsts 0 fun v4 =>
          if zi_w 4 = 0 then none else zn (zi_div v4 4) fun v5 =>
          some (v5, i_thrown, i_law, i_broken, i_value, i_sum, i_set, i_rest, i_high, i_heaps, i_tried, i_bests, i_firsts)
      else
        some ((-1), i_thrown, i_law, i_broken, i_value, i_sum, i_set, i_rest, i_high, i_heaps, i_tried, i_bests, i_firsts)
    else
      zg 5 i_bests 0 fun v6 =>
      some (v6, i_thrown, i_law, i_broken, i_value, i_sum, i_set, i_rest, i_high, i_heaps, i_tried, i_bests, i_firsts)
  else
    if zi_w x1 ≤ zi_w x4 then
      f_HM_duel_94 i_row k72 x1 x2 x3 x4 16 i_thrown i_law i_broken i_value i_sum i_set i_rest i_high i_heaps i_tried i_bests i_firsts
    else
      zd7 (f_HM_nextMove x4 i_row i_high i_heaps i_tried i_bests i_law i_broken i_value i_sum i_set i_rest) fun v7 v8 v9 v10 v11 a12 a13 =>
      f_HM_duel_94 i_row k72 x1 x2 x3 x4 v7 i_thrown v8 v9 v10 v11 a12 a13 i_high i_heaps i_tried i_bests i_firsts
def f_HM_duel_72 (i_row : Nat → Int) : Nat → Int → Int → Int → Int → Int → Int → Int → Int → Int → (Nat → Int) → (Nat → Int) → (Nat → Int) → (Nat → Int) → (Nat → Int) → (Nat → Int) → (Nat → Int) → Option (Int × Int × Int × Int × Int × Int × (Nat → Int) × (Nat → Int) × (Nat → Int) × (Nat → Int) × (Nat → Int) × (Nat → Int) × (Nat → Int))
  | 0 => fun _ _ _ _ _ _ _ _ _ _ _ _ _ _ _ _ => none
  | n + 1 => fun y0 y1 y2 y3 y4 y5 y6 y7 y8 y9 y10 y11 y12 y13 y14 y15 => f_HM_duel_72_b i_row (f_HM_duel_72 i_row n) y0 y1 y2 y3 y4 y5 y6 y7 y8 y9 y10 y11 y12 y13 y14 y15
def f_HM_duel (x1 : Int) (x2 : Int) (x3 : Int) (i_row : Nat → Int) (i_thrown : Int) (i_law : Int) (i_broken : Int) (i_value : Int) (i_sum : Int) (i_set : Nat → Int) (i_rest : Nat → Int) (i_high : Nat → Int) (i_heaps : Nat → Int) (i_tried : Nat → Int) (i_bests : Nat → Int) (i_firsts : Nat → Int) : Option (Int × Int × Int × Int × Int × Int × (Nat → Int) × (Nat → Int) × (Nat → Int) × (Nat → Int) × (Nat → Int) × (Nat → Int) × (Nat → Int)) :=
  zn (zi_w x1) fun v1 =>
  zd1 (f_HM_in v1 1 4) fun v2 =>
  if zi_w v2 = 0 then
    some ((-1), 0, i_law, i_broken, i_value, i_sum, i_set, i_rest, i_high, i_heaps, i_tried, i_bests, i_firsts)
  else
    zn (zi_w x2) fun v3 =>
    zd1 (f_HM_in v3 0 1) fun v4 =>
    if zi_w v4 = 0 then
      some ((-1), 0, i_law, i_broken, i_value, i_sum, i_set, i_rest, i_high, i_heaps, i_tried, i_bests, i_firsts)
    else
      zn (zi_w x3) fun v5 =>
      zd1 (f_HM_in v5 0 2) fun v6 =>
      if zi_w v6 = 0 then
        some ((-1), 0, i_law, i_broken, i_value, i_sum, i_set, i_rest, i_high, i_heaps, i_tried, i_bests, i_firsts)
      else
        zd1 (f_HM_columns i_row) fun v7 =>
        if zi_w v7 ≤ zi_w 4 then
          zd2 (f_HM_load i_row i_high i_heaps) fun a8 a9 =>
          zs 5 i_tried 0 (-1) fun a10 =>
          zs 5 i_bests 0 (-1000) fun a11 =>
          f_HM_duel_72 i_row zfu x1 x2 x3 0 0 i_law i_broken i_value i_sum i_set i_rest a8 a9 a10 a11 i_firsts
        else
          some ((-1), 0, i_law, i_broken, i_value, i_sum, i_set, i_rest, i_high, i_heaps, i_tried, i_bests, i_firsts)
def f_HM_layers_87 (i_row : Nat → Int) (k35 : Int → Int → Int → Int → Option (Int × Int)) (x1 : Int) (x3 : Int) (s0 : Int) (s1 : Int) (i_thrown : Int) : Option (Int × Int) :=
  zn (s0 + s1) fun v1 =>
  zn (x3 + 1) fun v2 =>
  k35 x1 v1 v2 i_thrown
def f_HM_layers_35_b (i_row : Nat → Int) (k35 : Int → Int → Int → Int → Option (Int × Int)) (x1 : Int) (x2 : Int) (x3 : Int) (i_thrown : Int) : Option (Int × Int) :=
  zn (9 + x1) fun v1 =>
  zg 5580 i_row v1 fun v2 =>
  if zi_w v2 ≤ zi_w x3 then
    some (x2, i_thrown)
  else
    zn (10 * x1) fun v3 =>
    zn (21 + v3) fun v4 =>
    zn (v4 + x3) fun v5 =>
    zg 5580 i_row v5 fun v6 =>
    zn (10 * x1) fun v7 =>
    zn (21 + v7) fun v8 =>
    zn (v8 + x3) fun v9 =>
    zn (v9 - 1) fun v10 =>
    zg 5580 i_row v10 fun v11 =>
    if zi_w v6 ≤ zi_w v11 then
      f_HM_layers_87 i_row k35 x1 x3 x2 0 i_thrown
    else
      f_HM_layers_87 i_row k35 x1 x3 x2 1 i_thrown
def f_HM_layers_35 (i_row : Nat → Int) : Nat → Int → Int → Int → Int → Option (Int × Int)
  | 0 => fun _ _ _ _ => none
  | n + 1 => fun y0 y1 y2 y3 => f_HM_layers_35_b i_row (f_HM_layers_35 i_row n) y0 y1 y2 y3
def f_HM_layers_32 (i_row : Nat → Int) (x1 : Int) (s0 : Int) (i_thrown : Int) : Option (Int × Int) :=
  f_HM_layers_35 i_row zfu x1 s0 1 i_thrown
def f_HM_layers (x1 : Int) (i_row : Nat → Int) (i_thrown : Int) : Option (Int × Int) :=
  zd1 (f_HM_isColumn x1 i_row) fun v1 =>
  if zi_w v1 ≠ 0 then
    zn (9 + x1) fun v2 =>
    zg 5580 i_row v2 fun v3 =>
    if zi_w v3 ≤ 0 then
      f_HM_layers_32 i_row x1 0 0
    else
      f_HM_layers_32 i_row x1 1 0
  else
    some ((-1), 0)
def f_HM_rain_29 (i_row : Nat → Int) (i_thrown : Int) (i_status : Int) (i_state : Int) (i_wet : Int) (i_refusals : Nat → Int) (i_high : Nat → Int) (i_heaps : Nat → Int) (i_rained : Nat → Int) : Option (Int × Int × Int × Int × Int × (Nat → Int) × (Nat → Int) × (Nat → Int) × (Nat → Int)) :=
  zd3 (f_HM_tell (-1) i_status i_refusals) fun v1 v2 a3 =>
  some (v1, i_thrown, v2, i_state, i_wet, a3, i_high, i_heaps, i_rained)
def f_HM_rain_220_b (i_row : Nat → Int) (k180 : Int → Int → Int → Int → Int → Int → (Nat → Int) → (Nat → Int) → (Nat → Int) → (Nat → Int) → Option (Int × Int × Int × Int × Int × (Nat → Int) × (Nat → Int) × (Nat → Int) × (Nat → Int))) (k220 : Int → Int → Int → Int → Int → Int → Int → (Nat → Int) → (Nat → Int) → (Nat → Int) → (Nat → Int) → Option (Int × Int × Int × Int × Int × (Nat → Int) × (Nat → Int) × (Nat → Int) × (Nat → Int))) (x3 : Int) (x4 : Int) (x5 : Int) (i_thrown : Int) (i_status : Int) (i_state : Int) (i_wet : Int) (i_refusals : Nat → Int) (i_high : Nat → Int) (i_heaps : Nat → Int) (i_rained : Nat → Int) : Option (Int × Int × Int × Int × Int × (Nat → Int) × (Nat → Int) × (Nat → Int) × (Nat → Int)) :=
  zg 12 i_high x4 fun v1 =>
  if zi_w v1 ≤ zi_w x5 then
    zn (x4 + 1) fun v2 =>
    k180 x3 v2 i_thrown i_status i_state i_wet i_refusals i_high i_heaps i_rained
  else
    zn (2 * x4) fun v3 =>
    zn (v3 + 1) fun v4 =>
    zg 24 i_rained v4 fun v5 =>
    zn (10 * x4) fun v6 =>
    zn (v6 + x5) fun v7 =>
    zg 120 i_heaps v7 fun v8 =>
    zn (v5 + v8) fun v9 =>
    zs 24 i_rained v4 v9 fun a10 =>
    zn (x5 + 1) fun v11 =>
    k220 x3 x4 v11 i_thrown i_status i_state i_wet i_refusals i_high i_heaps a10
def f_HM_rain_220 (i_row : Nat → Int) (k180 : Int → Int → Int → Int → Int → Int → (Nat → Int) → (Nat → Int) → (Nat → Int) → (Nat → Int) → Option (Int × Int × Int × Int × Int × (Nat → Int) × (Nat → Int) × (Nat → Int) × (Nat → Int))) : Nat → Int → Int → Int → Int → Int → Int → Int → (Nat → Int) → (Nat → Int) → (Nat → Int) → (Nat → Int) → Option (Int × Int × Int × Int × Int × (Nat → Int) × (Nat → Int) × (Nat → Int) × (Nat → Int))
  | 0 => fun _ _ _ _ _ _ _ _ _ _ _ => none
  | n + 1 => fun y0 y1 y2 y3 y4 y5 y6 y7 y8 y9 y10 => f_HM_rain_220_b i_row k180 (f_HM_rain_220 i_row k180 n) y0 y1 y2 y3 y4 y5 y6 y7 y8 y9 y10
def f_HM_rain_180_b (i_row : Nat → Int) (k180 : Int → Int → Int → Int → Int → Int → (Nat → Int) → (Nat → Int) → (Nat → Int) → (Nat → Int) → Option (Int × Int × Int × Int × Int × (Nat → Int) × (Nat → Int) × (Nat → Int) × (Nat → Int))) (x3 : Int) (x4 : Int) (i_thrown : Int) (i_status : Int) (i_state : Int) (i_wet : Int) (i_refusals : Nat → Int) (i_high : Nat → Int) (i_heaps : Nat → Int) (i_rained : Nat → Int) : Option (Int × Int × Int × Int × Int × (Nat → Int) × (Nat → Int) × (Nat → Int) × (Nat → Int)) :=
  if zi_w i_wet ≤ zi_w x4 then
    zd3 (f_HM_tell x3 i_status i_refusals) fun v1 v2 a3 =>
    some (v1, i_thrown, v2, i_state, i_wet, a3, i_high, i_heaps, i_rained)
  else
    zn (2 * x4) fun v4 =>
    zg 12 i_high x4 fun v5 =>
    zs 24 i_rained v4 v5 fun a6 =>
    zn (2 * x4) fun v7 =>
    zn (v7 + 1) fun v8 =>
    zs 24 a6 v8 0 fun a9 =>
    f_HM_rain_220 i_row k180 zfu x3 x4 0 i_thrown i_status i_state i_wet i_refusals i_high i_heaps a9
def f_HM_rain_180 (i_row : Nat → Int) : Nat → Int → Int → Int → Int → Int → Int → (Nat → Int) → (Nat → Int) → (Nat → Int) → (Nat → Int) → Option (Int × Int × Int × Int × Int × (Nat → Int) × (Nat → Int) × (Nat → Int) × (Nat → Int))
  | 0 => fun _ _ _ _ _ _ _ _ _ _ => none
  | n + 1 => fun y0 y1 y2 y3 y4 y5 y6 y7 y8 y9 => f_HM_rain_180_b i_row (f_HM_rain_180 i_row n) y0 y1 y2 y3 y4 y5 y6 y7 y8 y9
def f_HM_rain_177 (i_row : Nat → Int) (x3 : Int) (i_thrown : Int) (i_status : Int) (i_state : Int) (i_wet : Int) (i_refusals : Nat → Int) (i_high : Nat → Int) (i_heaps : Nat → Int) (i_rained : Nat → Int) : Option (Int × Int × Int × Int × Int × (Nat → Int) × (Nat → Int) × (Nat → Int) × (Nat → Int)) :=
  f_HM_rain_180 i_row zfu x3 0 i_thrown i_status i_state i_wet i_refusals i_high i_heaps i_rained
def f_HM_rain_166 (i_row : Nat → Int) (k58 : Int → Int → Int → Int → Int → Int → Int → (Nat → Int) → (Nat → Int) → (Nat → Int) → (Nat → Int) → Option (Int × Int × Int × Int × Int × (Nat → Int) × (Nat → Int) × (Nat → Int) × (Nat → Int))) (x2 : Int) (x3 : Int) (x4 : Int) (i_thrown : Int) (i_status : Int) (i_state : Int) (i_wet : Int) (i_refusals : Nat → Int) (i_high : Nat → Int) (i_heaps : Nat → Int) (i_rained : Nat → Int) : Option (Int × Int × Int × Int × Int × (Nat → Int) × (Nat → Int) × (Nat → Int) × (Nat → Int)) :=
  zd3 (f_HM_slideAll i_row i_high i_heaps) fun v1 a2 a3 =>
  zn (x4 + 1) fun v4 =>
  k58 x2 x3 v4 i_thrown i_status i_state i_wet i_refusals a2 a3 i_rained
def f_HM_rain_152 (i_row : Nat → Int) (k58 : Int → Int → Int → Int → Int → Int → Int → (Nat → Int) → (Nat → Int) → (Nat → Int) → (Nat → Int) → Option (Int × Int × Int × Int × Int × (Nat → Int) × (Nat → Int) × (Nat → Int) × (Nat → Int))) (x2 : Int) (x3 : Int) (x4 : Int) (x5 : Int) (i_thrown : Int) (i_status : Int) (i_state : Int) (i_wet : Int) (i_refusals : Nat → Int) (i_high : Nat → Int) (i_heaps : Nat → Int) (i_rained : Nat → Int) : Option (Int × Int × Int × Int × Int × (Nat → Int) × (Nat → Int) × (Nat → Int) × (Nat → Int)) :=
  zg 12 i_high x5 fun v1 =>
  zn (v1 - 1) fun v2 =>
  zs 12 i_high x5 v2 fun a3 =>
  zn (x3 + 1) fun v4 =>
  f_HM_rain_166 i_row k58 x2 v4 x4 i_thrown i_status i_state i_wet i_refusals a3 i_heaps i_rained
def f_HM_rain_58_b (i_row : Nat → Int) (k58 : Int → Int → Int → Int → Int → Int → Int → (Nat → Int) → (Nat → Int) → (Nat → Int) → (Nat → Int) → Option (Int × Int × Int × Int × Int × (Nat → Int) × (Nat → Int) × (Nat → Int) × (Nat → Int))) (x2 : Int) (x3 : Int) (x4 : Int) (i_thrown : Int) (i_status : Int) (i_state : Int) (i_wet : Int) (i_refusals : Nat → Int) (i_high : Nat → Int) (i_heaps : Nat → Int) (i_rained : Nat → Int) : Option (Int × Int × Int × Int × Int × (Nat → Int) × (Nat → Int) × (Nat → Int) × (Nat → Int)) :=
  if zi_w x2 ≤ zi_w x4 then
    f_HM_rain_177 i_row x3 i_thrown i_status i_state i_wet i_refusals i_high i_heaps i_rained
  else
    if zi_w i_wet ≤ 0 then
      f_HM_rain_177 i_row x3 i_thrown i_status i_state i_wet i_refusals i_high i_heaps i_rained
    else
      zn (i_state * 1103) fun v1 =>
      zn (v1 + 12345) fun v2 =>
      if zl_w 1000003 = 0 then none else zn (zl_rem v2 1000003) fun v3 =>
      zn (zi_w i_wet) fun v4 =>
      if zl_w v4 = 0 then none else zn (zl_rem v3 v4) fun v5 =>
      zg 12 i_high v5 fun v6 =>
      if zi_w v6 ≤ 0 then
        f_HM_rain_166 i_row k58 x2 x3 x4 i_thrown i_status v3 i_wet i_refusals i_high i_heaps i_rained
      else
        zn (v5 + 1) fun v7 =>
        if zi_w i_wet ≤ zi_w v7 then
          f_HM_rain_152 i_row k58 x2 x3 x4 v5 i_thrown i_status v3 i_wet i_refusals i_high i_heaps i_rained
        else
          zn (v5 + 1) fun v8 =>
          zg 12 i_high v8 fun v9 =>
          if zi_w 10 ≤ zi_w v9 then
            f_HM_rain_152 i_row k58 x2 x3 x4 v5 i_thrown i_status v3 i_wet i_refusals i_high i_heaps i_rained
          else
            zn (v5 + 1) fun v10 =>
            zd2 (f_HM_shift v5 v10 i_high i_heaps) fun a11 a12 =>
            f_HM_rain_166 i_row k58 x2 x3 x4 i_thrown i_status v3 i_wet i_refusals a11 a12 i_rained
def f_HM_rain_58 (i_row : Nat → Int) : Nat → Int → Int → Int → Int → Int → Int → Int → (Nat → Int) → (Nat → Int) → (Nat → Int) → (Nat → Int) → Option (Int × Int × Int × Int × Int × (Nat → Int) × (Nat → Int) × (Nat → Int) × (Nat → Int))
  | 0 => fun _ _ _ _ _ _ _ _ _ _ _ => none
  | n + 1 => fun y0 y1 y2 y3 y4 y5 y6 y7 y8 y9 y10 => f_HM_rain_58_b i_row (f_HM_rain_58 i_row n) y0 y1 y2 y3 y4 y5 y6 y7 y8 y9 y10
def f_HM_rain (x1 : Int) (x2 : Int) (i_row : Nat → Int) (i_thrown : Int) (i_status : Int) (i_state : Int) (i_wet : Int) (i_refusals : Nat → Int) (i_high : Nat → Int) (i_heaps : Nat → Int) (i_rained : Nat → Int) : Option (Int × Int × Int × Int × Int × (Nat → Int) × (Nat → Int) × (Nat → Int) × (Nat → Int)) :=
  zn (zi_w x1) fun v1 =>
  zd1 (f_HM_in v1 0 1000000) fun v2 =>
  if zi_w v2 = 0 then
    f_HM_rain_29 i_row 0 i_status i_state i_wet i_refusals i_high i_heaps i_rained
  else
    zn (zi_w x2) fun v3 =>
    zd1 (f_HM_in v3 1 40) fun v4 =>
    if zi_w v4 ≠ 0 then
      zd2 (f_HM_load i_row i_high i_heaps) fun a5 a6 =>
      zn (zi_w x1) fun v7 =>
      zd1 (f_HM_columns i_row) fun v8 =>
      f_HM_rain_58 i_row zfu x2 0 0 0 i_status v7 v8 i_refusals a5 a6 i_rained
    else
      f_HM_rain_29 i_row 0 i_status i_state i_wet i_refusals i_high i_heaps i_rained
def f_HM_rained (x1 : Int) (x2 : Int) (i_wet : Int) (i_rained : Nat → Int) (i_thrown : Int) : Option (Int × Int) :=
  zn (zi_w x1) fun v1 =>
  zn (zi_w i_wet) fun v2 =>
  zn (v2 - 1) fun v3 =>
  zd1 (f_HM_in v1 0 v3) fun v4 =>
  if zi_w v4 = 0 then
    some ((-1), 0)
  else
    zn (zi_w x2) fun v5 =>
    zd1 (f_HM_in v5 0 1) fun v6 =>
    if zi_w v6 = 0 then
      some ((-1), 0)
    else
      zn (2 * x1) fun v7 =>
      zn (v7 + x2) fun v8 =>
      zg 24 i_rained v8 fun v9 =>
      some (v9, 0)
def f_HM_count (x1 : Int) (i_taped : Int) (i_refusals : Nat → Int) (i_row : Nat → Int) (i_thrown : Int) : Option (Int × Int) :=
  if zi_w x1 = 0 then
    zd1 (f_HM_columns i_row) fun v1 =>
    some (v1, 0)
  else if zi_w x1 = 1 then
    zd1 (f_HM_stones i_row) fun v2 =>
    some (v2, 0)
  else if zi_w x1 = 2 then
    zg 5580 i_row 1 fun v3 =>
    some (v3, 0)
  else if zi_w x1 = 3 then
    zg 5580 i_row 2 fun v4 =>
    some (v4, 0)
  else if zi_w x1 = 4 then
    zg 5580 i_row 3 fun v5 =>
    some (v5, 0)
  else if zi_w x1 = 5 then
    some (i_taped, 0)
  else if zi_w x1 = 6 then
    zg 7 i_refusals 1 fun v6 =>
    some (v6, 0)
  else if zi_w x1 = 7 then
    zg 7 i_refusals 2 fun v7 =>
    some (v7, 0)
  else if zi_w x1 = 8 then
    zg 7 i_refusals 3 fun v8 =>
    some (v8, 0)
  else if zi_w x1 = 9 then
    zg 7 i_refusals 5 fun v9 =>
    some (v9, 0)
  else if zi_w x1 = 10 then
    zg 7 i_refusals 6 fun v10 =>
    some (v10, 0)
  else if zi_w x1 = 11 then
    zg 5580 i_row 4 fun v11 =>
    some (v11, 0)
  else
    zn (zi_w x1) fun v12 =>
    zd1 (f_HM_in v12 12 15) fun v13 =>
    if zi_w v13 = 0 then
      some ((-1), 0)
    else
      zn (5 + x1) fun v14 =>
      zn (v14 - 12) fun v15 =>
      zg 5580 i_row v15 fun v16 =>
      some (v16, 0)
def f_HM_status (i_status : Int) (i_thrown : Int) : Option (Int × Int) :=
  some (i_status, 0)
def f_LW_law_1304 (L : Nat) (zx : Nat → Int) (k18 : Int → (Nat → Int) → (Nat → Nat → Int) → Option (Int)) (x3 : Int) (σ : Nat → Int) (τ : Nat → Nat → Int) : Option (Int) :=
  zn (x3 + 6) fun v1 =>
  k18 v1 σ τ
def f_LW_law_18_b (L : Nat) (zx : Nat → Int)  (k18 : Int → (Nat → Int) → (Nat → Nat → Int) → Option (Int)) (x3 : Int) (σ : Nat → Int) (τ : Nat → Nat → Int) : Option (Int) :=
  zn (L : Int) fun v2 =>
  zn (v2 - 6) fun v3 =>
  if zi_w v3 < zi_w x3 then
    some 1
  else
    zg L zx x3 fun v4 =>
    zn (zi_and v4 63) fun v5 =>
    if zi_w v5 = 0 then
      zd7 (f_HS_column (σ 3) (σ 30) (τ 2) (σ 49) (τ 39) (τ 63)) fun v6 v7 v8 a9 v10 a11 a12 =>
      zd5 (f_HM_column (σ 4) (σ 5) (τ 3) (τ 4)) fun v13 v14 v15 a16 a17 =>
      if zi_w v6 = zi_w v13 then
        f_LW_law_1304 L zx k18 x3 (zst σ [(3, v7), (4, v14), (5, v15), (30, v8), (49, v10)]) (zta τ [(2, a9), (3, a16), (4, a17), (39, a11), (63, a12)])
      else
        some 0
    else if zi_w v5 = 1 then
      zn (x3 + 1) fun v18 =>
      zg L zx v18 fun v19 =>
      zn (x3 + 2) fun v20 =>
      zg L zx v20 fun v21 =>
      zd6 (f_HS_stone v19 v21 (σ 49) (σ 3) (σ 30) (τ 2) (τ 63) (τ 64)) fun v22 v23 v24 a25 a26 a27 =>
      zn (x3 + 1) fun v28 =>
      zg L zx v28 fun v29 =>
      zn (x3 + 2) fun v30 =>
      zg L zx v30 fun v31 =>
      zd5 (f_HM_stone v29 v31 (σ 4) (σ 5) (τ 3) (τ 4)) fun v32 v33 v34 a35 a36 =>
      f_LW_law_1304 L zx k18 x3 (zst σ [(3, v23), (4, v33), (5, v34), (30, v24)]) (zta τ [(2, a25), (3, a35), (4, a36), (63, a26), (64, a27)])
    else if zi_w v5 = 2 then
      zn (x3 + 1) fun v37 =>
      zg L zx v37 fun v38 =>
      zd5 (f_HS_lift v38 (σ 49) (τ 64) (σ 3) (σ 30) (τ 2) (τ 63)) fun v39 v40 v41 a42 a43 =>
      zn (x3 + 1) fun v44 =>
      zg L zx v44 fun v45 =>
      zd5 (f_HM_lift v45 (σ 4) (σ 5) (τ 3) (τ 4)) fun v46 v47 v48 a49 a50 =>
      f_LW_law_1304 L zx k18 x3 (zst σ [(3, v40), (4, v47), (5, v48), (30, v41)]) (zta τ [(2, a42), (3, a49), (4, a50), (63, a43)])
    else if zi_w v5 = 3 then
      zn (x3 + 1) fun v51 =>
      zg L zx v51 fun v52 =>
      zn (x3 + 2) fun v53 =>
      zg L zx v53 fun v54 =>
      zd1 (f_HS_of v52 v54 (σ 49) (τ 63) (τ 64)) fun v55 =>
      zn (x3 + 1) fun v56 =>
      zg L zx v56 fun v57 =>
      zn (x3 + 2) fun v58 =>
      zg L zx v58 fun v59 =>
      zd2 (f_HM_of v57 v59 (τ 4) (σ 4)) fun v60 v61 =>
      f_LW_law_1304 L zx k18 x3 (zst σ [(4, v61)]) τ
    else if zi_w v5 = 4 then
      zn (x3 + 1) fun v62 =>
      zg L zx v62 fun v63 =>
      zd1 (f_HS_weight v63 (σ 49) (τ 63) (τ 64)) fun v64 =>
      zn (x3 + 1) fun v65 =>
      zg L zx v65 fun v66 =>
      zd2 (f_HM_weight v66 (τ 4) (σ 4)) fun v67 v68 =>
      f_LW_law_1304 L zx k18 x3 (zst σ [(4, v68)]) τ
    else if zi_w v5 = 5 then
      zn (x3 + 1) fun v69 =>
      zg L zx v69 fun v70 =>
      zd8 (f_HS_child v70 (σ 3) (σ 26) (σ 30) (τ 2) (τ 34) (τ 35) (τ 36)) fun v71 v72 v73 v74 a75 a76 a77 a78 =>
      zn (x3 + 1) fun v79 =>
      zg L zx v79 fun v80 =>
      zd5 (f_HM_child v80 (σ 4) (σ 5) (τ 3) (τ 4)) fun v81 v82 v83 a84 a85 =>
      f_LW_law_1304 L zx k18 x3 (zst σ [(3, v72), (4, v82), (5, v83), (26, v73), (30, v74)]) (zta τ [(2, a75), (3, a84), (4, a85), (34, a76), (35, a77), (36, a78)])
    else if zi_w v5 = 6 then
      zn (x3 + 1) fun v86 =>
      zg L zx v86 fun v87 =>
      zn (x3 + 2) fun v88 =>
      zg L zx v88 fun v89 =>
      zd5 (f_HS_expel v87 v89 (σ 26) (σ 3) (σ 30) (τ 2) (τ 35)) fun v90 v91 v92 a93 a94 =>
      zn (x3 + 1) fun v95 =>
      zg L zx v95 fun v96 =>
      zn (x3 + 2) fun v97 =>
      zg L zx v97 fun v98 =>
      zd5 (f_HM_expel v96 v98 (σ 4) (σ 5) (τ 3) (τ 4)) fun v99 v100 v101 a102 a103 =>
      f_LW_law_1304 L zx k18 x3 (zst σ [(3, v91), (4, v100), (5, v101), (30, v92)]) (zta τ [(2, a93), (3, a102), (4, a103), (35, a94)])
    else if zi_w v5 = 7 then
      zn (x3 + 1) fun v104 =>
      zg L zx v104 fun v105 =>
      zn (x3 + 2) fun v106 =>
      zg L zx v106 fun v107 =>
      zd1 (f_HS_fact v105 v107 (σ 26) (τ 34) (τ 35) (τ 36)) fun v108 =>
      zn (x3 + 1) fun v109 =>
      zg L zx v109 fun v110 =>
      zn (x3 + 2) fun v111 =>
      zg L zx v111 fun v112 =>
      zd2 (f_HM_fact v110 v112 (τ 4) (σ 4)) fun v113 v114 =>
      f_LW_law_1304 L zx k18 x3 (zst σ [(4, v114)]) τ
    else if zi_w v5 = 8 then
      zn (x3 + 1) fun v115 =>
      zg L zx v115 fun v116 =>
      zd6 (f_HS_parish v116 (σ 49) (σ 3) (σ 27) (σ 30) (τ 2) (τ 37)) fun v117 v118 v119 v120 a121 a122 =>
      zn (x3 + 1) fun v123 =>
      zg L zx v123 fun v124 =>
      zd5 (f_HM_parish v124 (σ 4) (σ 5) (τ 3) (τ 4)) fun v125 v126 v127 a128 a129 =>
      f_LW_law_1304 L zx k18 x3 (zst σ [(3, v118), (4, v126), (5, v127), (27, v119), (30, v120)]) (zta τ [(2, a121), (3, a128), (4, a129), (37, a122)])
    else if zi_w v5 = 9 then
      zn (x3 + 1) fun v130 =>
      zg L zx v130 fun v131 =>
      zn (x3 + 2) fun v132 =>
      zg L zx v132 fun v133 =>
      zd5 (f_HS_terms v131 v133 (σ 3) (σ 30) (τ 2) (τ 38)) fun v134 v135 v136 a137 a138 =>
      zn (x3 + 1) fun v139 =>
      zg L zx v139 fun v140 =>
      zn (x3 + 2) fun v141 =>
      zg L zx v141 fun v142 =>
      zd5 (f_HM_terms v140 v142 (σ 4) (σ 5) (τ 3) (τ 4)) fun v143 v144 v145 a146 a147 =>
      f_LW_law_1304 L zx k18 x3 (zst σ [(3, v135), (4, v144), (5, v145), (30, v136)]) (zta τ [(2, a137), (3, a146), (4, a147), (38, a138)])
    else if zi_w v5 = 10 then
      zn (x3 + 1) fun v148 =>
      zg L zx v148 fun v149 =>
      zn (x3 + 2) fun v150 =>
      zg L zx v150 fun v151 =>
      zn (x3 + 3) fun v152 =>
      zg L zx v152 fun v153 =>
      zn (x3 + 4) fun v154 =>
      zg L zx v154 fun v155 =>
      zn (x3 + 5) fun v156 =>
      zg L zx v156 fun v157 =>
      zd3 (f_HS_feed v149 v151 v153 v155 v157 (σ 0) (τ 1)) fun v158 v159 a160 =>
      zn (x3 + 1) fun v161 =>
      zg L zx v161 fun v162 =>
      zn (x3 + 2) fun v163 =>
      zg L zx v163 fun v164 =>
      zn (x3 + 3) fun v165 =>
      zg L zx v165 fun v166 =>
      zn (x3 + 4) fun v167 =>
      zg L zx v167 fun v168 =>
      zn (x3 + 5) fun v169 =>
      zg L zx v169 fun v170 =>
      zd4 (f_HM_feed v162 v164 v166 v168 v170 (σ 4) (σ 7) (τ 7)) fun v171 v172 v173 a174 =>
      f_LW_law_1304 L zx k18 x3 (zst σ [(0, v159), (4, v172), (7, v173)]) (zta τ [(1, a160), (7, a174)])
    else if zi_w v5 = 11 then
      zn (x3 + 1) fun v175 =>
      zg L zx v175 fun v176 =>
      zd2 (f_HS_end v176 (σ 0)) fun v177 v178 =>
      zn (x3 + 1) fun v179 =>
      zg L zx v179 fun v180 =>
      zd3 (f_HM_end v180 (σ 4) (σ 7)) fun v181 v182 v183 =>
      f_LW_law_1304 L zx k18 x3 (zst σ [(0, v178), (4, v182), (7, v183)]) τ
    else if zi_w v5 = 12 then
      zd8 (f_HS_row (τ 1) (σ 49) (σ 0) (σ 2) (σ 3) (σ 30) (τ 2) (τ 63) (τ 64)) fun v184 v185 v186 v187 v188 a189 a190 a191 =>
      zd7 (f_HM_row (τ 7) (σ 4) (σ 5) (σ 6) (σ 7) (τ 3) (τ 4)) fun v192 v193 v194 v195 v196 a197 a198 =>
      f_LW_law_1304 L zx k18 x3 (zst σ [(0, v185), (2, v186), (3, v187), (4, v193), (5, v194), (6, v195), (7, v196), (30, v188)]) (zta τ [(2, a189), (3, a197), (4, a198), (63, a190), (64, a191)])
    else if zi_w v5 = 13 then
      zd1 (f_HS_gravel (σ 2)) fun v199 =>
      zd2 (f_HM_gravel (σ 6) (σ 4)) fun v200 v201 =>
      f_LW_law_1304 L zx k18 x3 (zst σ [(4, v201)]) τ
    else if zi_w v5 = 14 then
      zd16 (f_HS_law (τ 1) (σ 0) (σ 1) (σ 3) (σ 28) (σ 30) (τ 2) (σ 31) (σ 32) (σ 33) (τ 40) (τ 41) (τ 42) (τ 43) (τ 44) (τ 45)) fun v202 v203 v204 v205 v206 v207 a208 v209 v210 v211 a212 a213 a214 a215 a216 a217 =>
      zd22 (f_HM_law (τ 7) (τ 13) (σ 4) (σ 5) (σ 7) (σ 8) (σ 9) (σ 10) (σ 11) (σ 12) (σ 13) (σ 14) (σ 15) (σ 16) (σ 17) (σ 18) (τ 3) (τ 4) (τ 8) (τ 9) (τ 10) (τ 11) (τ 12)) fun v218 v219 v220 v221 v222 v223 v224 v225 v226 v227 v228 v229 v230 v231 v232 a233 a234 a235 a236 a237 a238 a239 =>
      f_LW_law_1304 L zx k18 x3 (zst σ [(0, v203), (1, v204), (3, v205), (4, v219), (5, v220), (7, v221), (8, v222), (9, v223), (10, v224), (11, v225), (12, v226), (13, v227), (14, v228), (15, v229), (16, v230), (17, v231), (18, v232), (28, v206), (30, v207), (31, v209), (32, v210), (33, v211)]) (zta τ [(2, a208), (3, a233), (4, a234), (8, a235), (9, a236), (10, a237), (11, a238), (12, a239), (40, a212), (41, a213), (42, a214), (43, a215), (44, a216), (45, a217)])
    else if zi_w v5 = 15 then
      zd1 (f_HS_fault (σ 1)) fun v240 =>
      zd2 (f_HM_fault (σ 12) (σ 4)) fun v241 v242 =>
      f_LW_law_1304 L zx k18 x3 (zst σ [(4, v242)]) τ
    else if zi_w v5 = 16 then
      zn (x3 + 1) fun v243 =>
      zg L zx v243 fun v244 =>
      zd5 (f_HS_force v244 (σ 28) (σ 3) (σ 29) (σ 30) (τ 2)) fun v245 v246 v247 v248 a249 =>
      zn (x3 + 1) fun v250 =>
      zg L zx v250 fun v251 =>
      zd5 (f_HM_force v251 (σ 4) (σ 5) (τ 3) (τ 4)) fun v252 v253 v254 a255 a256 =>
      f_LW_law_1304 L zx k18 x3 (zst σ [(3, v246), (4, v253), (5, v254), (29, v247), (30, v248)]) (zta τ [(2, a249), (3, a255), (4, a256)])
    else if zi_w v5 = 17 then
      zn (x3 + 1) fun v257 =>
      zg L zx v257 fun v258 =>
      zn (x3 + 2) fun v259 =>
      zg L zx v259 fun v260 =>
      zn (x3 + 3) fun v261 =>
      zg L zx v261 fun v262 =>
      zd6 (f_HS_can v258 v260 v262 (σ 26) (σ 28) (σ 29) (σ 49) (τ 34) (τ 35) (τ 38) (τ 40) (τ 41) (τ 63) (τ 64) (σ 34) (σ 35) (σ 36) (τ 46) (τ 47)) fun v263 v264 v265 v266 a267 a268 =>
      zn (x3 + 1) fun v269 =>
      zg L zx v269 fun v270 =>
      zn (x3 + 2) fun v271 =>
      zg L zx v271 fun v272 =>
      zn (x3 + 3) fun v273 =>
      zg L zx v273 fun v274 =>
      zd10 (f_HM_can v270 v272 v274 (τ 4) (σ 4) (σ 19) (σ 20) (σ 21) (σ 22) (τ 14) (τ 15) (τ 16) (τ 17)) fun v275 v276 v277 v278 v279 v280 a281 a282 a283 a284 =>
      f_LW_law_1304 L zx k18 x3 (zst σ [(4, v276), (19, v277), (20, v278), (21, v279), (22, v280), (34, v264), (35, v265), (36, v266)]) (zta τ [(14, a281), (15, a282), (16, a283), (17, a284), (46, a267), (47, a268)])
    else if zi_w v5 = 18 then
      zn (x3 + 1) fun v285 =>
      zg L zx v285 fun v286 =>
      zn (x3 + 2) fun v287 =>
      zg L zx v287 fun v288 =>
      zn (x3 + 3) fun v289 =>
      zg L zx v289 fun v290 =>
      zd6 (f_HS_tires v286 v288 v290 (σ 26) (σ 28) (σ 29) (σ 49) (τ 34) (τ 35) (τ 38) (τ 40) (τ 41) (τ 63) (τ 64) (σ 34) (σ 35) (σ 36) (τ 46) (τ 47)) fun v291 v292 v293 v294 a295 a296 =>
      zn (x3 + 1) fun v297 =>
      zg L zx v297 fun v298 =>
      zn (x3 + 2) fun v299 =>
      zg L zx v299 fun v300 =>
      zn (x3 + 3) fun v301 =>
      zg L zx v301 fun v302 =>
      zd10 (f_HM_tires v298 v300 v302 (τ 4) (σ 4) (σ 19) (σ 20) (σ 21) (σ 22) (τ 14) (τ 15) (τ 16) (τ 17)) fun v303 v304 v305 v306 v307 v308 a309 a310 a311 a312 =>
      f_LW_law_1304 L zx k18 x3 (zst σ [(4, v304), (19, v305), (20, v306), (21, v307), (22, v308), (34, v292), (35, v293), (36, v294)]) (zta τ [(14, a309), (15, a310), (16, a311), (17, a312), (46, a295), (47, a296)])
    else if zi_w v5 = 19 then
      zn (x3 + 1) fun v313 =>
      zg L zx v313 fun v314 =>
      zn (x3 + 2) fun v315 =>
      zg L zx v315 fun v316 =>
      zn (x3 + 3) fun v317 =>
      zg L zx v317 fun v318 =>
      zd11 (f_HS_carry v314 v316 v318 (σ 26) (σ 28) (σ 29) (σ 49) (τ 34) (τ 35) (τ 38) (τ 40) (τ 41) (σ 3) (σ 30) (τ 2) (σ 34) (σ 35) (σ 36) (τ 46) (τ 47) (τ 63) (τ 64)) fun v319 v320 v321 a322 v323 v324 v325 a326 a327 a328 a329 =>
      zn (x3 + 1) fun v330 =>
      zg L zx v330 fun v331 =>
      zn (x3 + 2) fun v332 =>
      zg L zx v332 fun v333 =>
      zn (x3 + 3) fun v334 =>
      zg L zx v334 fun v335 =>
      zd13 (f_HM_carry v331 v333 v335 (σ 4) (σ 5) (σ 19) (σ 20) (σ 21) (σ 22) (τ 3) (τ 4) (τ 14) (τ 15) (τ 16) (τ 17)) fun v336 v337 v338 v339 v340 v341 v342 a343 a344 a345 a346 a347 a348 =>
      f_LW_law_1304 L zx k18 x3 (zst σ [(3, v320), (4, v337), (5, v338), (19, v339), (20, v340), (21, v341), (22, v342), (30, v321), (34, v323), (35, v324), (36, v325)]) (zta τ [(2, a322), (3, a343), (4, a344), (14, a345), (15, a346), (16, a347), (17, a348), (46, a326), (47, a327), (63, a328), (64, a329)])
    else if zi_w v5 = 20 then
      zn (x3 + 1) fun v349 =>
      zg L zx v349 fun v350 =>
      zn (x3 + 2) fun v351 =>
      zg L zx v351 fun v352 =>
      zn (x3 + 3) fun v353 =>
      zg L zx v353 fun v354 =>
      zn (x3 + 4) fun v355 =>
      zg L zx v355 fun v356 =>
      zd11 (f_HS_exchange v350 v352 v354 v356 (σ 26) (σ 28) (σ 29) (σ 49) (τ 34) (τ 35) (τ 38) (τ 40) (τ 41) (σ 3) (σ 30) (τ 2) (σ 34) (σ 35) (σ 36) (τ 46) (τ 47) (τ 63) (τ 64)) fun v357 v358 v359 a360 v361 v362 v363 a364 a365 a366 a367 =>
      zn (x3 + 1) fun v368 =>
      zg L zx v368 fun v369 =>
      zn (x3 + 2) fun v370 =>
      zg L zx v370 fun v371 =>
      zn (x3 + 3) fun v372 =>
      zg L zx v372 fun v373 =>
      zn (x3 + 4) fun v374 =>
      zg L zx v374 fun v375 =>
      zd13 (f_HM_exchange v369 v371 v373 v375 (σ 4) (σ 5) (σ 19) (σ 20) (σ 21) (σ 22) (τ 3) (τ 4) (τ 14) (τ 15) (τ 16) (τ 17)) fun v376 v377 v378 v379 v380 v381 v382 a383 a384 a385 a386 a387 a388 =>
      f_LW_law_1304 L zx k18 x3 (zst σ [(3, v358), (4, v377), (5, v378), (19, v379), (20, v380), (21, v381), (22, v382), (30, v359), (34, v361), (35, v362), (36, v363)]) (zta τ [(2, a360), (3, a383), (4, a384), (14, a385), (15, a386), (16, a387), (17, a388), (46, a364), (47, a365), (63, a366), (64, a367)])
    else if zi_w v5 = 21 then
      zd1 (f_HS_steep (σ 49) (τ 38) (τ 63)) fun v389 =>
      zd4 (f_HM_steep (τ 4) (σ 4) (τ 16) (τ 17)) fun v390 v391 a392 a393 =>
      f_LW_law_1304 L zx k18 x3 (zst σ [(4, v391)]) (zta τ [(16, a392), (17, a393)])
    else if zi_w v5 = 22 then
      zd4 (f_HS_slide (σ 49) (τ 38) (σ 30) (τ 63) (τ 64)) fun v394 v395 a396 a397 =>
      zd5 (f_HM_slide (σ 4) (τ 4) (τ 16) (τ 17)) fun v398 v399 a400 a401 a402 =>
      f_LW_law_1304 L zx k18 x3 (zst σ [(4, v399), (30, v395)]) (zta τ [(4, a400), (16, a401), (17, a402), (63, a396), (64, a397)])
    else if zi_w v5 = 23 then
      zn (x3 + 1) fun v403 =>
      zg L zx v403 fun v404 =>
      zd1 (f_HS_shade v404 (σ 27) (σ 49) (τ 37) (τ 38) (τ 63)) fun v405 =>
      zn (x3 + 1) fun v406 =>
      zg L zx v406 fun v407 =>
      zd4 (f_HM_shade v407 (τ 4) (σ 4) (τ 16) (τ 17)) fun v408 v409 a410 a411 =>
      f_LW_law_1304 L zx k18 x3 (zst σ [(4, v409)]) (zta τ [(16, a410), (17, a411)])
    else if zi_w v5 = 24 then
      zn (x3 + 1) fun v412 =>
      zg L zx v412 fun v413 =>
      zn (x3 + 2) fun v414 =>
      zg L zx v414 fun v415 =>
      zn (x3 + 3) fun v416 =>
      zg L zx v416 fun v417 =>
      zn (x3 + 4) fun v418 =>
      zg L zx v418 fun v419 =>
      zd8 (f_HS_gains v413 v415 v417 v419 (σ 26) (σ 27) (σ 28) (σ 29) (σ 49) (τ 34) (τ 35) (τ 37) (τ 38) (τ 40) (τ 41) (σ 34) (σ 35) (σ 36) (τ 46) (τ 47) (τ 63) (τ 64)) fun v420 v421 v422 v423 a424 a425 a426 a427 =>
      zn (x3 + 1) fun v428 =>
      zg L zx v428 fun v429 =>
      zn (x3 + 2) fun v430 =>
      zg L zx v430 fun v431 =>
      zn (x3 + 3) fun v432 =>
      zg L zx v432 fun v433 =>
      zn (x3 + 4) fun v434 =>
      zg L zx v434 fun v435 =>
      zd10 (f_HM_gains v429 v431 v433 v435 (τ 4) (σ 4) (σ 19) (σ 20) (σ 21) (σ 22) (τ 14) (τ 15) (τ 16) (τ 17)) fun v436 v437 v438 v439 v440 v441 a442 a443 a444 a445 =>
      f_LW_law_1304 L zx k18 x3 (zst σ [(4, v437), (19, v438), (20, v439), (21, v440), (22, v441), (34, v421), (35, v422), (36, v423)]) (zta τ [(14, a442), (15, a443), (16, a444), (17, a445), (46, a424), (47, a425), (63, a426), (64, a427)])
    else if zi_w v5 = 25 then
      zn (x3 + 1) fun v446 =>
      zg L zx v446 fun v447 =>
      zn (x3 + 2) fun v448 =>
      zg L zx v448 fun v449 =>
      zd5 (f_HS_goal v447 v449 (σ 49) (σ 3) (σ 30) (τ 2) (τ 39)) fun v450 v451 v452 a453 a454 =>
      zn (x3 + 1) fun v455 =>
      zg L zx v455 fun v456 =>
      zn (x3 + 2) fun v457 =>
      zg L zx v457 fun v458 =>
      zd5 (f_HM_goal v456 v458 (σ 4) (σ 5) (τ 3) (τ 4)) fun v459 v460 v461 a462 a463 =>
      f_LW_law_1304 L zx k18 x3 (zst σ [(3, v451), (4, v460), (5, v461), (30, v452)]) (zta τ [(2, a453), (3, a462), (4, a463), (39, a454)])
    else if zi_w v5 = 26 then
      zn (x3 + 1) fun v464 =>
      zg L zx v464 fun v465 =>
      zn (x3 + 2) fun v466 =>
      zg L zx v466 fun v467 =>
      zn (x3 + 3) fun v468 =>
      zg L zx v468 fun v469 =>
      zd32 (f_HS_plan v465 v467 v469 (σ 26) (σ 28) (σ 29) (σ 30) (σ 49) (τ 34) (τ 35) (τ 38) (τ 39) (τ 40) (τ 41) (τ 63) (τ 64) (σ 34) (σ 35) (σ 36) (σ 37) (σ 38) (σ 39) (τ 46) (τ 47) (τ 48) (τ 49) (τ 50) (τ 51) (τ 52) (τ 53) (τ 54) (τ 55) (τ 56) (τ 57) (τ 58) (σ 64) (σ 65) (σ 66) (σ 67) (σ 68) (σ 69) (σ 70) (σ 71) (σ 72) (τ 89) (τ 90) (τ 91)) fun v470 v471 v472 v473 v474 v475 v476 a477 a478 a479 a480 a481 a482 a483 a484 a485 a486 a487 a488 a489 v490 v491 v492 v493 v494 v495 v496 v497 v498 a499 a500 a501 =>
      zn (x3 + 1) fun v502 =>
      zg L zx v502 fun v503 =>
      zn (x3 + 2) fun v504 =>
      zg L zx v504 fun v505 =>
      zn (x3 + 3) fun v506 =>
      zg L zx v506 fun v507 =>
      zd19 (f_HM_plan v503 v505 v507 (τ 4) (σ 4) (σ 19) (σ 20) (σ 21) (σ 22) (σ 23) (τ 14) (τ 15) (τ 18) (τ 19) (τ 20) (τ 21) (τ 22) (τ 23) (τ 24) (τ 25) (τ 26) (τ 27)) fun v508 v509 v510 v511 v512 v513 v514 a515 a516 a517 a518 a519 a520 a521 a522 a523 a524 a525 a526 =>
      f_LW_law_1304 L zx k18 x3 (zst σ [(4, v509), (19, v510), (20, v511), (21, v512), (22, v513), (23, v514), (34, v471), (35, v472), (36, v473), (37, v474), (38, v475), (39, v476), (64, v490), (65, v491), (66, v492), (67, v493), (68, v494), (69, v495), (70, v496), (71, v497), (72, v498)]) (zta τ [(14, a515), (15, a516), (18, a517), (19, a518), (20, a519), (21, a520), (22, a521), (23, a522), (24, a523), (25, a524), (26, a525), (27, a526), (46, a477), (47, a478), (48, a479), (49, a480), (50, a481), (51, a482), (52, a483), (53, a484), (54, a485), (55, a486), (56, a487), (57, a488), (58, a489), (89, a499), (90, a500), (91, a501)])
    else if zi_w v5 = 27 then
      zn (x3 + 1) fun v527 =>
      zg L zx v527 fun v528 =>
      zd3 (f_HS_weighs v528 (σ 30) (σ 49) (τ 63) (τ 64) (σ 44) (τ 61)) fun v529 v530 a531 =>
      zn (x3 + 1) fun v532 =>
      zg L zx v532 fun v533 =>
      zd3 (f_HM_weighs v533 (τ 4) (σ 4) (τ 28)) fun v534 v535 a536 =>
      f_LW_law_1304 L zx k18 x3 (zst σ [(4, v535), (44, v530)]) (zta τ [(28, a536), (61, a531)])
    else if zi_w v5 = 28 then
      zn (x3 + 1) fun v537 =>
      zg L zx v537 fun v538 =>
      zn (x3 + 2) fun v539 =>
      zg L zx v539 fun v540 =>
      zd5 (f_HS_trips v538 v540 (σ 26) (σ 3) (σ 30) (τ 2) (τ 36)) fun v541 v542 v543 a544 a545 =>
      zn (x3 + 1) fun v546 =>
      zg L zx v546 fun v547 =>
      zn (x3 + 2) fun v548 =>
      zg L zx v548 fun v549 =>
      zd5 (f_HM_trips v547 v549 (σ 4) (σ 5) (τ 3) (τ 4)) fun v550 v551 v552 a553 a554 =>
      f_LW_law_1304 L zx k18 x3 (zst σ [(3, v542), (4, v551), (5, v552), (30, v543)]) (zta τ [(2, a544), (3, a553), (4, a554), (36, a545)])
    else if zi_w v5 = 29 then
      zn (x3 + 1) fun v555 =>
      zg L zx v555 fun v556 =>
      zn (x3 + 2) fun v557 =>
      zg L zx v557 fun v558 =>
      zn (x3 + 3) fun v559 =>
      zg L zx v559 fun v560 =>
      zd6 (f_HS_culprits v556 v558 v560 (σ 26) (τ 36) (σ 45) (σ 46) (σ 47) (σ 48) (τ 62)) fun v561 v562 v563 v564 v565 a566 =>
      zn (x3 + 1) fun v567 =>
      zg L zx v567 fun v568 =>
      zn (x3 + 2) fun v569 =>
      zg L zx v569 fun v570 =>
      zn (x3 + 3) fun v571 =>
      zg L zx v571 fun v572 =>
      zd3 (f_HM_culprits v568 v570 v572 (τ 4) (σ 4) (τ 29)) fun v573 v574 a575 =>
      f_LW_law_1304 L zx k18 x3 (zst σ [(4, v574), (45, v562), (46, v563), (47, v564), (48, v565)]) (zta τ [(29, a575), (62, a566)])
    else if zi_w v5 = 30 then
      zn (x3 + 1) fun v576 =>
      zg L zx v576 fun v577 =>
      zn (x3 + 2) fun v578 =>
      zg L zx v578 fun v579 =>
      zn (x3 + 3) fun v580 =>
      zg L zx v580 fun v581 =>
      zd16 (f_HS_duel v577 v579 v581 (σ 26) (σ 27) (σ 28) (σ 29) (σ 30) (σ 49) (τ 34) (τ 35) (τ 37) (τ 38) (τ 40) (τ 41) (τ 63) (τ 64) (σ 34) (σ 35) (σ 36) (σ 40) (σ 41) (σ 42) (σ 43) (τ 46) (τ 47) (τ 48) (σ 60) (τ 59) (τ 60) (τ 81) (τ 82)) fun v582 v583 v584 v585 v586 v587 v588 v589 a590 a591 a592 v593 a594 a595 a596 a597 =>
      zn (x3 + 1) fun v598 =>
      zg L zx v598 fun v599 =>
      zn (x3 + 2) fun v600 =>
      zg L zx v600 fun v601 =>
      zn (x3 + 3) fun v602 =>
      zg L zx v602 fun v603 =>
      zd13 (f_HM_duel v599 v601 v603 (τ 4) (σ 4) (σ 19) (σ 20) (σ 21) (σ 22) (τ 14) (τ 15) (τ 16) (τ 17) (τ 30) (τ 31) (τ 32)) fun v604 v605 v606 v607 v608 v609 a610 a611 a612 a613 a614 a615 a616 =>
      f_LW_law_1304 L zx k18 x3 (zst σ [(4, v605), (19, v606), (20, v607), (21, v608), (22, v609), (34, v583), (35, v584), (36, v585), (40, v586), (41, v587), (42, v588), (43, v589), (60, v593)]) (zta τ [(14, a610), (15, a611), (16, a612), (17, a613), (30, a614), (31, a615), (32, a616), (46, a590), (47, a591), (48, a592), (59, a594), (60, a595), (81, a596), (82, a597)])
    else if zi_w v5 = 31 then
      zn (x3 + 1) fun v617 =>
      zg L zx v617 fun v618 =>
      zd1 (f_HS_layers v618 (σ 49) (τ 63) (τ 64)) fun v619 =>
      zn (x3 + 1) fun v620 =>
      zg L zx v620 fun v621 =>
      zd2 (f_HM_layers v621 (τ 4) (σ 4)) fun v622 v623 =>
      f_LW_law_1304 L zx k18 x3 (zst σ [(4, v623)]) τ
    else if zi_w v5 = 32 then
      zn (x3 + 1) fun v624 =>
      zg L zx v624 fun v625 =>
      zn (x3 + 2) fun v626 =>
      zg L zx v626 fun v627 =>
      zd7 (f_HS_rain v625 v627 (σ 49) (τ 38) (τ 63) (τ 64) (σ 3) (σ 30) (τ 2) (σ 61) (τ 83) (τ 84)) fun v628 v629 v630 a631 v632 a633 a634 =>
      zn (x3 + 1) fun v635 =>
      zg L zx v635 fun v636 =>
      zn (x3 + 2) fun v637 =>
      zg L zx v637 fun v638 =>
      zd9 (f_HM_rain v636 v638 (τ 4) (σ 4) (σ 5) (σ 24) (σ 25) (τ 3) (τ 16) (τ 17) (τ 33)) fun v639 v640 v641 v642 v643 a644 a645 a646 a647 =>
      f_LW_law_1304 L zx k18 x3 (zst σ [(3, v629), (4, v640), (5, v641), (24, v642), (25, v643), (30, v630), (61, v632)]) (zta τ [(2, a631), (3, a644), (16, a645), (17, a646), (33, a647), (83, a633), (84, a634)])
    else if zi_w v5 = 33 then
      zn (x3 + 1) fun v648 =>
      zg L zx v648 fun v649 =>
      zn (x3 + 2) fun v650 =>
      zg L zx v650 fun v651 =>
      zd1 (f_HS_rained v649 v651 (σ 61) (τ 83) (τ 84)) fun v652 =>
      zn (x3 + 1) fun v653 =>
      zg L zx v653 fun v654 =>
      zn (x3 + 2) fun v655 =>
      zg L zx v655 fun v656 =>
      zd2 (f_HM_rained v654 v656 (σ 25) (τ 33) (σ 4)) fun v657 v658 =>
      f_LW_law_1304 L zx k18 x3 (zst σ [(4, v658)]) τ
    else if zi_w v5 = 34 then
      zn (x3 + 1) fun v659 =>
      zg L zx v659 fun v660 =>
      zd35 (f_HS_image v660 (σ 26) (σ 27) (σ 28) (σ 29) (σ 49) (τ 34) (τ 35) (τ 36) (τ 37) (τ 38) (τ 39) (τ 40) (τ 41) (τ 63) (τ 64) (σ 3) (σ 30) (τ 0) (τ 2) (σ 50) (σ 51) (σ 52) (σ 53) (σ 55) (σ 56) (σ 57) (σ 58) (σ 62) (τ 65) (τ 66) (τ 67) (τ 68) (τ 69) (τ 70) (τ 71) (τ 72) (σ 63) (τ 73) (τ 74) (τ 75) (τ 76) (τ 77) (τ 78) (τ 79) (τ 80) (τ 85) (τ 86) (τ 87) (τ 88)) fun v661 v662 v663 a664 a665 v666 v667 v668 v669 v670 v671 v672 v673 v674 a675 a676 a677 a678 a679 a680 a681 a682 v683 a684 a685 a686 a687 a688 a689 a690 a691 a692 a693 a694 a695 =>
      zn (x3 + 1) fun v696 =>
      zg L zx v696 fun v697 =>
      zd6 (f_HM_image v697 (τ 4) (σ 4) (σ 5) (τ 3) (τ 5) (τ 6)) fun v698 v699 v700 a701 a702 a703 =>
      f_LW_law_1304 L zx k18 x3 (zst σ [(3, v662), (4, v699), (5, v700), (30, v663), (50, v666), (51, v667), (52, v668), (53, v669), (55, v670), (56, v671), (57, v672), (58, v673), (62, v674), (63, v683)]) (zta τ [(0, a664), (2, a665), (3, a701), (5, a702), (6, a703), (65, a675), (66, a676), (67, a677), (68, a678), (69, a679), (70, a680), (71, a681), (72, a682), (73, a684), (74, a685), (75, a686), (76, a687), (77, a688), (78, a689), (79, a690), (80, a691), (85, a692), (86, a693), (87, a694), (88, a695)])
    else if zi_w v5 = 35 then
      zn (x3 + 1) fun v704 =>
      zg L zx v704 fun v705 =>
      zd19 (f_HS_back v705 (τ 0) (σ 50) (σ 51) (σ 52) (σ 53) (σ 55) (σ 56) (σ 57) (σ 58) (σ 62) (τ 65) (τ 66) (τ 67) (τ 68) (τ 69) (τ 70) (τ 71) (τ 72) (σ 63) (τ 73) (τ 74) (τ 75) (τ 76) (τ 77) (τ 78) (τ 79) (τ 80) (τ 85) (τ 86) (τ 87) (τ 88) (σ 3) (σ 26) (σ 27) (σ 28) (σ 29) (σ 30) (τ 2) (σ 49) (τ 34) (τ 35) (τ 36) (τ 37) (τ 38) (τ 39) (τ 40) (τ 41) (τ 63) (τ 64)) fun v706 v707 v708 v709 v710 v711 v712 a713 v714 a715 a716 a717 a718 a719 a720 a721 a722 a723 a724 =>
      zn (x3 + 1) fun v725 =>
      zg L zx v725 fun v726 =>
      zd5 (f_HM_back v726 (τ 5) (τ 6) (σ 4) (σ 5) (τ 3) (τ 4)) fun v727 v728 v729 a730 a731 =>
      f_LW_law_1304 L zx k18 x3 (zst σ [(3, v707), (4, v728), (5, v729), (26, v708), (27, v709), (28, v710), (29, v711), (30, v712), (49, v714)]) (zta τ [(2, a713), (3, a730), (4, a731), (34, a715), (35, a716), (36, a717), (37, a718), (38, a719), (39, a720), (40, a721), (41, a722), (63, a723), (64, a724)])
    else if zi_w v5 = 36 then
      zn (x3 + 1) fun v732 =>
      zg L zx v732 fun v733 =>
      zd1 (f_HS_count v733 (σ 0) (σ 26) (σ 27) (σ 28) (σ 29) (τ 2) (σ 49) (τ 38) (τ 63)) fun v734 =>
      zn (x3 + 1) fun v735 =>
      zg L zx v735 fun v736 =>
      zd2 (f_HM_count v736 (σ 7) (τ 3) (τ 4) (σ 4)) fun v737 v738 =>
      f_LW_law_1304 L zx k18 x3 (zst σ [(4, v738)]) τ
    else if zi_w v5 = 37 then
      zd1 (f_HS_status (σ 3)) fun v739 =>
      zd2 (f_HM_status (σ 5) (σ 4)) fun v740 v741 =>
      f_LW_law_1304 L zx k18 x3 (zst σ [(4, v741)]) τ
    else
      f_LW_law_1304 L zx k18 x3 σ τ
def f_LW_law_18 (L : Nat) (zx : Nat → Int)  : Nat → Int → (Nat → Int) → (Nat → Nat → Int) → Option (Int)
  | 0 => fun _ _ _ => none
  | n + 1 => fun y0 y1 y2 => f_LW_law_18_b L zx  (f_LW_law_18 L zx n) y0 y1 y2

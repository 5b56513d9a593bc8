/-- WorldHall$Floor.only(I)J -/
def f_X0_only (x0 : Int32) (w : xSt) : Option (Int64 × xSt) :=
  some ((1 : Int64) <<< (x0.toInt64 &&& 63), w)
def f_X0_init_b133 (k49 : Nat → Int32 → Int32 → Int64 → Int64 → Int64 → Int32 → xSt → Option (Unit × xSt)) (x0 : Nat) (x1 : Int32) (x2 : Int32) (x3 : Int64) (x5 : Int64) (x9 : Int32) (s0 : Int64) (s1 : Int64) (w : xSt) : Option (Unit × xSt) :=
  gd (isC w x0 0) <|
  gd (isC w (wR w x0 6) 21) <|
  gd (inR (0 : Int32) (wN w (wR w x0 6))) <|
  bd (f_X0_only x9 w) fun v62 w63 =>
  gd (isC w63 (wR w x0 6) 21) <|
  gd (inR (0 : Int32) (wN w63 (wR w x0 6))) <|
  lt1 (sL w63 (wR w x0 6) (0 : Int32).toNatClampNeg ((wL w (wR w x0 6) (0 : Int32).toNatClampNeg) ||| v62)) fun w67 =>
  gd (isC w67 x0 0) <|
  gd (isC w67 (wR w67 x0 7) 20) <|
  gd (inR x9 (wN w67 (wR w67 x0 7))) <|
  lt1 (sI w67 (wR w67 x0 7) x9.toNatClampNeg (50 : Int32)) fun w72 =>
  k49 x0 x1 x2 x3 x5 (s0 ||| s1) (x9 + (1 : Int32)) w72
def f_X0_init_b106 (k49 : Nat → Int32 → Int32 → Int64 → Int64 → Int64 → Int32 → xSt → Option (Unit × xSt)) (x0 : Nat) (x1 : Int32) (x2 : Int32) (x3 : Int64) (x7 : Int64) (x9 : Int32) (x11 : Int32) (s0 : Int64) (s1 : Int64) (w : xSt) : Option (Unit × xSt) :=
  if x11 = 0 then
    bd (f_X0_only x9 w) fun v52 w53 =>
    f_X0_init_b133 k49 x0 x1 x2 x3 (s0 ||| s1) x9 x7 v52 w53
  else
    if x11 = (x2 - (1 : Int32)) then
      bd (f_X0_only x9 w) fun v56 w57 =>
      f_X0_init_b133 k49 x0 x1 x2 x3 (s0 ||| s1) x9 x7 v56 w57
    else
      f_X0_init_b133 k49 x0 x1 x2 x3 (s0 ||| s1) x9 x7 (0 : Int64) w
def f_X0_init_b85 (k49 : Nat → Int32 → Int32 → Int64 → Int64 → Int64 → Int32 → xSt → Option (Unit × xSt)) (x0 : Nat) (x1 : Int32) (x2 : Int32) (x5 : Int64) (x7 : Int64) (x9 : Int32) (x10 : Int32) (x11 : Int32) (s0 : Int64) (s1 : Int64) (w : xSt) : Option (Unit × xSt) :=
  if x10 = (x1 - (1 : Int32)) then
    bd (f_X0_only x9 w) fun v48 w49 =>
    f_X0_init_b106 k49 x0 x1 x2 (s0 ||| s1) x7 x9 x11 x5 v48 w49
  else
    f_X0_init_b106 k49 x0 x1 x2 (s0 ||| s1) x7 x9 x11 x5 (0 : Int64) w
def f_X0_init_l49 : Nat → Nat → Int32 → Int32 → Int64 → Int64 → Int64 → Int32 → xSt → Option (Unit × xSt)
  | 0 => fun _ _ _ _ _ _ _ _ => none
  | n + 1 => fun x0 x1 x2 x3 x5 x7 x9 w =>
    gd (isC w x0 0) <|
    if (wI w x0 2) ≤ x9 then
      lt1 (sL w x0 3 x3) fun w33 =>
      lt1 (sL w33 x0 4 x5) fun w36 =>
      lt1 (sL w36 x0 5 ((x7 ||| x3) ||| x5)) fun w39 =>
      some ((), w39)
    else
      gd (¬ x1 = 0) <|
      gd (¬ x1 = 0) <|
      if (x9 - x9 / x1 * x1) = 0 then
        bd (f_X0_only x9 w) fun v44 w45 =>
        f_X0_init_b85 (f_X0_init_l49 n) x0 x1 x2 x5 x7 x9 (x9 - x9 / x1 * x1) (x9 / x1) x3 v44 w45
      else
        f_X0_init_b85 (f_X0_init_l49 n) x0 x1 x2 x5 x7 x9 (x9 - x9 / x1 * x1) (x9 / x1) x3 (0 : Int64) w
theorem f_X0_init_l49_s (n : Nat) (x0 : Nat) (x1 : Int32) (x2 : Int32) (x3 : Int64) (x5 : Int64) (x7 : Int64) (x9 : Int32) (w : xSt) : f_X0_init_l49 (n + 1) x0 x1 x2 x3 x5 x7 x9 w = (
    gd (isC w x0 0) <|
    if (wI w x0 2) ≤ x9 then
      lt1 (sL w x0 3 x3) fun w33 =>
      lt1 (sL w33 x0 4 x5) fun w36 =>
      lt1 (sL w36 x0 5 ((x7 ||| x3) ||| x5)) fun w39 =>
      some ((), w39)
    else
      gd (¬ x1 = 0) <|
      gd (¬ x1 = 0) <|
      if (x9 - x9 / x1 * x1) = 0 then
        bd (f_X0_only x9 w) fun v44 w45 =>
        f_X0_init_b85 (f_X0_init_l49 n) x0 x1 x2 x5 x7 x9 (x9 - x9 / x1 * x1) (x9 / x1) x3 v44 w45
      else
        f_X0_init_b85 (f_X0_init_l49 n) x0 x1 x2 x5 x7 x9 (x9 - x9 / x1 * x1) (x9 / x1) x3 (0 : Int64) w) := rfl
/-- WorldHall$Floor.<init>(II)V -/
def f_X0_init (x0 : Nat) (x1 : Int32) (x2 : Int32) (w : xSt) : Option (Unit × xSt) :=
  gd (isC w x0 0) <|
  lt1 (sI w x0 0 x1) fun w2 =>
  lt1 (sI w2 x0 1 x2) fun w5 =>
  lt1 (sI w5 x0 2 (x1 * x2)) fun w8 =>
  gd (wZ w8 + 1 < 1000) <|
  lt1 (wZ w8 + 1) fun q11 =>
  lt1 (nA w8 21 (4 : Int32).toNatClampNeg) fun w13 =>
  lt1 (sR w13 x0 6 q11) fun w18 =>
  gd (wZ w18 + 1 < 1000) <|
  gd (inR (wI w18 x0 2) 65) <|
  lt1 (wZ w18 + 1) fun q23 =>
  lt1 (nA w18 20 (wI w18 x0 2).toNatClampNeg) fun w25 =>
  lt1 (sR w25 x0 7 q23) fun w29 =>
  f_X0_init_l49 xFu x0 x1 x2 (0 : Int64) (0 : Int64) (0 : Int64) (0 : Int32) w29
/-- WorldHall$Floor.has(I)Z -/
def f_X0_has (x0 : Nat) (x1 : Int32) (w : xSt) : Option (Int32 × xSt) :=
  if x1 < 0 then
    some ((0 : Int32), w)
  else
    gd (isC w x0 0) <|
    if (wI w x0 2) ≤ x1 then
      some ((0 : Int32), w)
    else
      some ((1 : Int32), w)
/-- WorldHall$Floor.columnOf(I)I -/
def f_X0_columnOf (x0 : Nat) (x1 : Int32) (w : xSt) : Option (Int32 × xSt) :=
  gd (isC w x0 0) <|
  gd (¬ (wI w x0 0) = 0) <|
  some (x1 - x1 / (wI w x0 0) * (wI w x0 0), w)
/-- WorldHall$Floor.lineOf(I)I -/
def f_X0_lineOf (x0 : Nat) (x1 : Int32) (w : xSt) : Option (Int32 × xSt) :=
  gd (isC w x0 0) <|
  gd (¬ (wI w x0 0) = 0) <|
  some (x1 / (wI w x0 0), w)
/-- WorldHall$Floor.onEdge(I)Z -/
def f_X0_onEdge (x0 : Nat) (x1 : Int32) (w : xSt) : Option (Int32 × xSt) :=
  gd (isC w x0 0) <|
  bd (f_X0_only x1 w) fun v2 w3 =>
  if (lg_cmp ((wL w x0 5) &&& v2) (0 : Int64)) = 0 then
    some ((0 : Int32), w3)
  else
    some ((1 : Int32), w3)
/-- WorldHall$Floor.open()J -/
def f_X0_open (x0 : Nat) (w : xSt) : Option (Int64 × xSt) :=
  gd (isC w x0 0) <|
  gd (isC w (wR w x0 6) 21) <|
  gd (inR (0 : Int32) (wN w (wR w x0 6))) <|
  gd (inR (1 : Int32) (wN w (wR w x0 6))) <|
  some ((wL w (wR w x0 6) (0 : Int32).toNatClampNeg) ||| (wL w (wR w x0 6) (1 : Int32).toNatClampNeg), w)
/-- WorldHall$Floor.isOpen(I)Z -/
def f_X0_isOpen (x0 : Nat) (x1 : Int32) (w : xSt) : Option (Int32 × xSt) :=
  gd (isC w x0 0) <|
  bd (f_X0_open x0 w) fun v1 w2 =>
  bd (f_X0_only x1 w2) fun v5 w6 =>
  if (lg_cmp (v1 &&& v5) (0 : Int64)) = 0 then
    some ((0 : Int32), w6)
  else
    some ((1 : Int32), w6)
def f_X0_kindOf_l2 : Nat → Nat → Int32 → Int32 → xSt → Option (Int32 × xSt)
  | 0 => fun _ _ _ _ => none
  | n + 1 => fun x0 x1 x2 w =>
    if (4 : Int32) ≤ x2 then
      some ((0 : Int32), w)
    else
      gd (isC w x0 0) <|
      gd (isC w (wR w x0 6) 21) <|
      gd (inR x2 (wN w (wR w x0 6))) <|
      bd (f_X0_only x1 w) fun v5 w6 =>
      if (lg_cmp ((wL w (wR w x0 6) x2.toNatClampNeg) &&& v5) (0 : Int64)) = 0 then
        f_X0_kindOf_l2 n x0 x1 (x2 + (1 : Int32)) w6
      else
        some (x2, w6)
theorem f_X0_kindOf_l2_s (n : Nat) (x0 : Nat) (x1 : Int32) (x2 : Int32) (w : xSt) : f_X0_kindOf_l2 (n + 1) x0 x1 x2 w = (
    if (4 : Int32) ≤ x2 then
      some ((0 : Int32), w)
    else
      gd (isC w x0 0) <|
      gd (isC w (wR w x0 6) 21) <|
      gd (inR x2 (wN w (wR w x0 6))) <|
      bd (f_X0_only x1 w) fun v5 w6 =>
      if (lg_cmp ((wL w (wR w x0 6) x2.toNatClampNeg) &&& v5) (0 : Int64)) = 0 then
        f_X0_kindOf_l2 n x0 x1 (x2 + (1 : Int32)) w6
      else
        some (x2, w6)) := rfl
/-- WorldHall$Floor.kindOf(I)I -/
def f_X0_kindOf (x0 : Nat) (x1 : Int32) (w : xSt) : Option (Int32 × xSt) :=
  f_X0_kindOf_l2 xFu x0 x1 (1 : Int32) w
def f_X0_setKind_l2 : Nat → Nat → Int32 → Int32 → Int32 → xSt → Option (Unit × xSt)
  | 0 => fun _ _ _ _ _ => none
  | n + 1 => fun x0 x1 x2 x3 w =>
    if (4 : Int32) ≤ x3 then
      gd (isC w x0 0) <|
      gd (isC w (wR w x0 6) 21) <|
      gd (inR x2 (wN w (wR w x0 6))) <|
      bd (f_X0_only x1 w) fun v5 w6 =>
      gd (isC w6 (wR w x0 6) 21) <|
      gd (inR x2 (wN w6 (wR w x0 6))) <|
      lt1 (sL w6 (wR w x0 6) x2.toNatClampNeg ((wL w (wR w x0 6) x2.toNatClampNeg) ||| v5)) fun w10 =>
      some ((), w10)
    else
      gd (isC w x0 0) <|
      gd (isC w (wR w x0 6) 21) <|
      gd (inR x3 (wN w (wR w x0 6))) <|
      bd (f_X0_only x1 w) fun v15 w16 =>
      gd (isC w16 (wR w x0 6) 21) <|
      gd (inR x3 (wN w16 (wR w x0 6))) <|
      lt1 (sL w16 (wR w x0 6) x3.toNatClampNeg ((wL w (wR w x0 6) x3.toNatClampNeg) &&& (v15 ^^^ (-1 : Int64)))) fun w20 =>
      f_X0_setKind_l2 n x0 x1 x2 (x3 + (1 : Int32)) w20
theorem f_X0_setKind_l2_s (n : Nat) (x0 : Nat) (x1 : Int32) (x2 : Int32) (x3 : Int32) (w : xSt) : f_X0_setKind_l2 (n + 1) x0 x1 x2 x3 w = (
    if (4 : Int32) ≤ x3 then
      gd (isC w x0 0) <|
      gd (isC w (wR w x0 6) 21) <|
      gd (inR x2 (wN w (wR w x0 6))) <|
      bd (f_X0_only x1 w) fun v5 w6 =>
      gd (isC w6 (wR w x0 6) 21) <|
      gd (inR x2 (wN w6 (wR w x0 6))) <|
      lt1 (sL w6 (wR w x0 6) x2.toNatClampNeg ((wL w (wR w x0 6) x2.toNatClampNeg) ||| v5)) fun w10 =>
      some ((), w10)
    else
      gd (isC w x0 0) <|
      gd (isC w (wR w x0 6) 21) <|
      gd (inR x3 (wN w (wR w x0 6))) <|
      bd (f_X0_only x1 w) fun v15 w16 =>
      gd (isC w16 (wR w x0 6) 21) <|
      gd (inR x3 (wN w16 (wR w x0 6))) <|
      lt1 (sL w16 (wR w x0 6) x3.toNatClampNeg ((wL w (wR w x0 6) x3.toNatClampNeg) &&& (v15 ^^^ (-1 : Int64)))) fun w20 =>
      f_X0_setKind_l2 n x0 x1 x2 (x3 + (1 : Int32)) w20) := rfl
/-- WorldHall$Floor.setKind(II)V -/
def f_X0_setKind (x0 : Nat) (x1 : Int32) (x2 : Int32) (w : xSt) : Option (Unit × xSt) :=
  f_X0_setKind_l2 xFu x0 x1 x2 (0 : Int32) w
def f_X0_area_l43 : Nat → Nat → Int32 → Int32 → Int64 → Int64 → Int32 → xSt → Option (Int64 × xSt)
  | 0 => fun _ _ _ _ _ _ _ => none
  | n + 1 => fun x0 x1 x3 x4 x6 x8 w =>
    if x3 ≤ x8 then
      some (x6, w)
    else
      gd (isC w x0 0) <|
      f_X0_area_l43 n x0 x1 x3 x4 (x6 ||| (x4 <<< ((x1 + (x8 * (wI w x0 0))).toInt64 &&& 63))) (x8 + (1 : Int32)) w
theorem f_X0_area_l43_s (n : Nat) (x0 : Nat) (x1 : Int32) (x3 : Int32) (x4 : Int64) (x6 : Int64) (x8 : Int32) (w : xSt) : f_X0_area_l43 (n + 1) x0 x1 x3 x4 x6 x8 w = (
    if x3 ≤ x8 then
      some (x6, w)
    else
      gd (isC w x0 0) <|
      f_X0_area_l43 n x0 x1 x3 x4 (x6 ||| (x4 <<< ((x1 + (x8 * (wI w x0 0))).toInt64 &&& 63))) (x8 + (1 : Int32)) w) := rfl
/-- WorldHall$Floor.area(III)J -/
def f_X0_area (x0 : Nat) (x1 : Int32) (x2 : Int32) (x3 : Int32) (w : xSt) : Option (Int64 × xSt) :=
  gd (isC w x0 0) <|
  bd (f_X0_columnOf x0 x1 w) fun v1 w2 =>
  gd (isC w2 x0 0) <|
  if (wI w2 x0 0) < (v1 + x2) then
    some ((0 : Int64), w2)
  else
    bd (f_X0_lineOf x0 x1 w2) fun v7 w8 =>
    gd (isC w8 x0 0) <|
    if (v7 + x3) ≤ (wI w8 x0 1) then
      f_X0_area_l43 xFu x0 x1 x3 (((1 : Int64) <<< (x2.toInt64 &&& 63)) - (1 : Int64)) (0 : Int64) (0 : Int32) w8
    else
      some ((0 : Int64), w8)
/-- WorldHall$Floor.beside(J)J -/
def f_X0_beside (x0 : Nat) (x1 : Int64) (w : xSt) : Option (Int64 × xSt) :=
  gd (isC w x0 0) <|
  some (((lushr x1 (wI w x0 0)) ||| (x1 <<< ((wI w x0 0).toInt64 &&& 63))) ||| (((x1 &&& ((wL w x0 4) ^^^ (-1 : Int64))) <<< ((1 : Int32).toInt64 &&& 63)) ||| (lushr (x1 &&& ((wL w x0 3) ^^^ (-1 : Int64))) (1 : Int32))), w)
/-- java/lang/Math.min(II)I -/
def f_J9_min_7cf53 (x0 : Int32) (x1 : Int32) (w : xSt) : Option (Int32 × xSt) :=
  if x1 < x0 then
    some (x1, w)
  else
    some (x0, w)
def f_X0_spread_l17 : Nat → Nat → Int64 → Int64 → Int32 → Int32 → xSt → Option (Int64 × xSt)
  | 0 => fun _ _ _ _ _ _ => none
  | n + 1 => fun x0 x3 x6 x8 x9 w =>
    if x8 ≤ x9 then
      some (x6, w)
    else
      gd (isC w x0 0) <|
      bd (f_X0_beside x0 x6 w) fun v6 w7 =>
      if (lg_cmp (x6 ||| (v6 &&& x3)) x6) = 0 then
        some (x6, w7)
      else
        f_X0_spread_l17 n x0 x3 (x6 ||| (v6 &&& x3)) x8 (x9 + (1 : Int32)) w7
theorem f_X0_spread_l17_s (n : Nat) (x0 : Nat) (x3 : Int64) (x6 : Int64) (x8 : Int32) (x9 : Int32) (w : xSt) : f_X0_spread_l17 (n + 1) x0 x3 x6 x8 x9 w = (
    if x8 ≤ x9 then
      some (x6, w)
    else
      gd (isC w x0 0) <|
      bd (f_X0_beside x0 x6 w) fun v6 w7 =>
      if (lg_cmp (x6 ||| (v6 &&& x3)) x6) = 0 then
        some (x6, w7)
      else
        f_X0_spread_l17 n x0 x3 (x6 ||| (v6 &&& x3)) x8 (x9 + (1 : Int32)) w7) := rfl
/-- WorldHall$Floor.spread(JJI)J -/
def f_X0_spread (x0 : Nat) (x1 : Int64) (x3 : Int64) (x5 : Int32) (w : xSt) : Option (Int64 × xSt) :=
  gd (isC w x0 0) <|
  bd (f_J9_min_7cf53 x5 (wI w x0 2) w) fun v2 w3 =>
  f_X0_spread_l17 xFu x0 x3 x1 v2 (0 : Int32) w3
def f_X0_carries_l3 : Nat → Nat → Int64 → Int32 → Int32 → xSt → Option (Int32 × xSt)
  | 0 => fun _ _ _ _ _ => none
  | n + 1 => fun x0 x1 x3 x4 w =>
    gd (isC w x0 0) <|
    if (wI w x0 2) ≤ x4 then
      some ((1 : Int32), w)
    else
      bd (f_X0_only x4 w) fun v3 w4 =>
      if (lg_cmp (x1 &&& v3) (0 : Int64)) = 0 then
        f_X0_carries_l3 n x0 x1 x3 (x4 + (1 : Int32)) w4
      else
        gd (isC w4 x0 0) <|
        gd (isC w4 (wR w4 x0 7) 20) <|
        gd (inR x4 (wN w4 (wR w4 x0 7))) <|
        if x3 ≤ (wI w4 (wR w4 x0 7) x4.toNatClampNeg) then
          f_X0_carries_l3 n x0 x1 x3 (x4 + (1 : Int32)) w4
        else
          some ((0 : Int32), w4)
theorem f_X0_carries_l3_s (n : Nat) (x0 : Nat) (x1 : Int64) (x3 : Int32) (x4 : Int32) (w : xSt) : f_X0_carries_l3 (n + 1) x0 x1 x3 x4 w = (
    gd (isC w x0 0) <|
    if (wI w x0 2) ≤ x4 then
      some ((1 : Int32), w)
    else
      bd (f_X0_only x4 w) fun v3 w4 =>
      if (lg_cmp (x1 &&& v3) (0 : Int64)) = 0 then
        f_X0_carries_l3 n x0 x1 x3 (x4 + (1 : Int32)) w4
      else
        gd (isC w4 x0 0) <|
        gd (isC w4 (wR w4 x0 7) 20) <|
        gd (inR x4 (wN w4 (wR w4 x0 7))) <|
        if x3 ≤ (wI w4 (wR w4 x0 7) x4.toNatClampNeg) then
          f_X0_carries_l3 n x0 x1 x3 (x4 + (1 : Int32)) w4
        else
          some ((0 : Int32), w4)) := rfl
/-- WorldHall$Floor.carries(JI)Z -/
def f_X0_carries (x0 : Nat) (x1 : Int64) (x3 : Int32) (w : xSt) : Option (Int32 × xSt) :=
  f_X0_carries_l3 xFu x0 x1 x3 (0 : Int32) w
/-- WorldHall$Gate.<init>()V -/
def f_X1_init (x0 : Nat) (w : xSt) : Option (Unit × xSt) :=
  gd (isC w x0 1) <|
  lt1 (sI w x0 0 (1000 : Int32)) fun w2 =>
  some ((), w2)
/-- java/lang/Math.max(II)I -/
def f_J9_max_7cf53 (x0 : Int32) (x1 : Int32) (w : xSt) : Option (Int32 × xSt) :=
  if x0 < x1 then
    some (x1, w)
  else
    some (x0, w)
/-- WorldHall$Gate.pass(III)V -/
def f_X1_pass (x0 : Nat) (x1 : Int32) (x2 : Int32) (x3 : Int32) (w : xSt) : Option (Unit × xSt) :=
  gd (isC w x0 1) <|
  lt1 (sI w x0 2 ((wI w x0 2) + (1 : Int32))) fun w2 =>
  bd (f_J9_min_7cf53 x2 (wI w2 x0 3) w2) fun v5 w6 =>
  gd (isC w6 x0 1) <|
  lt1 (sI w6 x0 3 ((wI w2 x0 3) - v5)) fun w9 =>
  lt1 (sI w9 x0 4 ((wI w9 x0 4) + x1)) fun w12 =>
  bd (f_J9_max_7cf53 (0 : Int32) ((wI w12 x0 0) - (wI w12 x0 3)) w12) fun v15 w16 =>
  bd (f_J9_min_7cf53 (wI w12 x0 4) v15 w16) fun v18 w19 =>
  gd (isC w19 x0 1) <|
  lt1 (sI w19 x0 4 ((wI w19 x0 4) - v18)) fun w22 =>
  lt1 (sI w22 x0 3 ((wI w22 x0 3) + v18)) fun w25 =>
  lt1 (sI w25 x0 5 ((wI w25 x0 5) + (v18 * x3))) fun w28 =>
  lt1 (sI w28 x0 6 ((wI w28 x0 6) + (v18 * x3))) fun w31 =>
  some ((), w31)
/-- WorldHall$Gate.beginNextDay()V -/
def f_X1_beginNextDay (x0 : Nat) (w : xSt) : Option (Unit × xSt) :=
  gd (isC w x0 1) <|
  lt1 (sI w x0 1 ((wI w x0 1) + (1 : Int32))) fun w2 =>
  lt1 (sI w2 x0 2 (0 : Int32)) fun w5 =>
  lt1 (sI w5 x0 3 (0 : Int32)) fun w8 =>
  lt1 (sI w8 x0 4 (0 : Int32)) fun w11 =>
  lt1 (sI w11 x0 5 (0 : Int32)) fun w14 =>
  some ((), w14)
/-- WorldHall$Goods.<init>(LWorldHall$Floor;LWorldHall$Plan;)V -/
def f_X2_init (x0 : Nat) (x1 : Nat) (x2 : Nat) (w : xSt) : Option (Unit × xSt) :=
  gd (isC w x0 2) <|
  lt1 (sR w x0 0 x1) fun w2 =>
  lt1 (sR w2 x0 1 x2) fun w5 =>
  some ((), w5)
def f_X2_stocked_l4 : Nat → Nat → Int32 → Int32 → xSt → Option (Int32 × xSt)
  | 0 => fun _ _ _ _ => none
  | n + 1 => fun x0 x1 x2 w =>
    gd (isC w x0 2) <|
    gd (isC w (wR w x0 1) 5) <|
    if (wI w (wR w x0 1) 2) ≤ x2 then
      some (x1, w)
    else
      gd (isC w (wR w (wR w x0 1) 1) 24) <|
      gd (inR x2 (wN w (wR w (wR w x0 1) 1))) <|
      gd (isC w (wR w (wR w (wR w x0 1) 1) x2.toNatClampNeg) 6) <|
      if (wI w (wR w (wR w (wR w x0 1) 1) x2.toNatClampNeg) 8) = 0 then
        f_X2_stocked_l4 n x0 (x1 ||| (0 : Int32)) (x2 + (1 : Int32)) w
      else
        f_X2_stocked_l4 n x0 (x1 ||| ((1 : Int32) <<< (x2 &&& 31))) (x2 + (1 : Int32)) w
theorem f_X2_stocked_l4_s (n : Nat) (x0 : Nat) (x1 : Int32) (x2 : Int32) (w : xSt) : f_X2_stocked_l4 (n + 1) x0 x1 x2 w = (
    gd (isC w x0 2) <|
    gd (isC w (wR w x0 1) 5) <|
    if (wI w (wR w x0 1) 2) ≤ x2 then
      some (x1, w)
    else
      gd (isC w (wR w (wR w x0 1) 1) 24) <|
      gd (inR x2 (wN w (wR w (wR w x0 1) 1))) <|
      gd (isC w (wR w (wR w (wR w x0 1) 1) x2.toNatClampNeg) 6) <|
      if (wI w (wR w (wR w (wR w x0 1) 1) x2.toNatClampNeg) 8) = 0 then
        f_X2_stocked_l4 n x0 (x1 ||| (0 : Int32)) (x2 + (1 : Int32)) w
      else
        f_X2_stocked_l4 n x0 (x1 ||| ((1 : Int32) <<< (x2 &&& 31))) (x2 + (1 : Int32)) w) := rfl
/-- WorldHall$Goods.stocked()I -/
def f_X2_stocked (x0 : Nat) (w : xSt) : Option (Int32 × xSt) :=
  f_X2_stocked_l4 xFu x0 (0 : Int32) (0 : Int32) w
/-- WorldHall$Goods.holds(II)Z -/
def f_X2_holds (x0 : Int32) (x1 : Int32) (w : xSt) : Option (Int32 × xSt) :=
  if (x0 &&& ((1 : Int32) <<< (x1 &&& 31))) = 0 then
    some ((0 : Int32), w)
  else
    some ((1 : Int32), w)
def f_X2_isReached_l11 : Nat → Nat → Nat → Int32 → Int64 → Int32 → xSt → Option (Int32 × xSt)
  | 0 => fun _ _ _ _ _ _ => none
  | n + 1 => fun x0 x1 x2 x3 x5 w =>
    gd (isC w x0 2) <|
    gd (isC w (wR w x0 1) 5) <|
    if (wI w (wR w x0 1) 2) ≤ x5 then
      gd (isC w (wR w x0 0) 0) <|
      gd (isC w (wR w (wR w x0 0) 6) 21) <|
      gd (inR (1 : Int32) (wN w (wR w (wR w x0 0) 6))) <|
      bd (f_X0_spread (wR w x0 0) (wL w (wR w (wR w x0 0) 6) (1 : Int32).toNatClampNeg) x3 (wI w (wR w x0 0) 2) w) fun v12 w13 =>
      gd (isC w13 x1 6) <|
      if (lg_cmp (v12 &&& (wL w13 x1 7)) (0 : Int64)) = 0 then
        some ((0 : Int32), w13)
      else
        some ((1 : Int32), w13)
    else
      bd (f_X2_holds x2 x5 w) fun v17 w18 =>
      if v17 = 0 then
        f_X2_isReached_l11 n x0 x1 x2 (x3 &&& (-1 : Int64)) (x5 + (1 : Int32)) w18
      else
        gd (isC w18 x0 2) <|
        gd (isC w18 (wR w18 x0 1) 5) <|
        gd (isC w18 (wR w18 (wR w18 x0 1) 1) 24) <|
        gd (inR x5 (wN w18 (wR w18 (wR w18 x0 1) 1))) <|
        gd (isC w18 (wR w18 (wR w18 (wR w18 x0 1) 1) x5.toNatClampNeg) 6) <|
        f_X2_isReached_l11 n x0 x1 x2 (x3 &&& ((wL w18 (wR w18 (wR w18 (wR w18 x0 1) 1) x5.toNatClampNeg) 7) ^^^ (-1 : Int64))) (x5 + (1 : Int32)) w18
theorem f_X2_isReached_l11_s (n : Nat) (x0 : Nat) (x1 : Nat) (x2 : Int32) (x3 : Int64) (x5 : Int32) (w : xSt) : f_X2_isReached_l11 (n + 1) x0 x1 x2 x3 x5 w = (
    gd (isC w x0 2) <|
    gd (isC w (wR w x0 1) 5) <|
    if (wI w (wR w x0 1) 2) ≤ x5 then
      gd (isC w (wR w x0 0) 0) <|
      gd (isC w (wR w (wR w x0 0) 6) 21) <|
      gd (inR (1 : Int32) (wN w (wR w (wR w x0 0) 6))) <|
      bd (f_X0_spread (wR w x0 0) (wL w (wR w (wR w x0 0) 6) (1 : Int32).toNatClampNeg) x3 (wI w (wR w x0 0) 2) w) fun v12 w13 =>
      gd (isC w13 x1 6) <|
      if (lg_cmp (v12 &&& (wL w13 x1 7)) (0 : Int64)) = 0 then
        some ((0 : Int32), w13)
      else
        some ((1 : Int32), w13)
    else
      bd (f_X2_holds x2 x5 w) fun v17 w18 =>
      if v17 = 0 then
        f_X2_isReached_l11 n x0 x1 x2 (x3 &&& (-1 : Int64)) (x5 + (1 : Int32)) w18
      else
        gd (isC w18 x0 2) <|
        gd (isC w18 (wR w18 x0 1) 5) <|
        gd (isC w18 (wR w18 (wR w18 x0 1) 1) 24) <|
        gd (inR x5 (wN w18 (wR w18 (wR w18 x0 1) 1))) <|
        gd (isC w18 (wR w18 (wR w18 (wR w18 x0 1) 1) x5.toNatClampNeg) 6) <|
        f_X2_isReached_l11 n x0 x1 x2 (x3 &&& ((wL w18 (wR w18 (wR w18 (wR w18 x0 1) 1) x5.toNatClampNeg) 7) ^^^ (-1 : Int64))) (x5 + (1 : Int32)) w18) := rfl
/-- WorldHall$Goods.isReached(LWorldHall$Stand;I)Z -/
def f_X2_isReached (x0 : Nat) (x1 : Nat) (x2 : Int32) (w : xSt) : Option (Int32 × xSt) :=
  gd (isC w x0 2) <|
  gd (isC w (wR w x0 0) 0) <|
  bd (f_X0_open (wR w x0 0) w) fun v2 w3 =>
  f_X2_isReached_l11 xFu x0 x1 x2 v2 (0 : Int32) w3
/-- WorldHall$Goods.mayComeIn(LWorldHall$Stand;)Z -/
def f_X2_mayComeIn (x0 : Nat) (x1 : Nat) (w : xSt) : Option (Int32 × xSt) :=
  gd (isC w x1 6) <|
  if (wI w x1 8) = 0 then
    gd (isC w x0 2) <|
    bd (f_X2_stocked x0 w) fun v3 w4 =>
    gd (isC w4 x0 2) <|
    bd (f_X2_isReached x0 x1 v3 w4) fun v7 w8 =>
    if v7 = 0 then
      some ((0 : Int32), w8)
    else
      some ((1 : Int32), w8)
  else
    some ((0 : Int32), w)
/-- WorldHall$Stand.isLaid()Z -/
def f_X6_isLaid (x0 : Nat) (w : xSt) : Option (Int32 × xSt) :=
  gd (isC w x0 6) <|
  if (wI w x0 6) = (-1 : Int32) then
    some ((0 : Int32), w)
  else
    some ((1 : Int32), w)
def f_X2_laid_l4 : Nat → Nat → Int32 → Int32 → xSt → Option (Int32 × xSt)
  | 0 => fun _ _ _ _ => none
  | n + 1 => fun x0 x1 x2 w =>
    gd (isC w x0 2) <|
    gd (isC w (wR w x0 1) 5) <|
    if (wI w (wR w x0 1) 2) ≤ x2 then
      some (x1, w)
    else
      gd (isC w (wR w (wR w x0 1) 1) 24) <|
      gd (inR x2 (wN w (wR w (wR w x0 1) 1))) <|
      gd (isC w (wR w (wR w (wR w x0 1) 1) x2.toNatClampNeg) 6) <|
      bd (f_X6_isLaid (wR w (wR w (wR w x0 1) 1) x2.toNatClampNeg) w) fun v6 w7 =>
      if v6 = 0 then
        f_X2_laid_l4 n x0 (x1 ||| (0 : Int32)) (x2 + (1 : Int32)) w7
      else
        f_X2_laid_l4 n x0 (x1 ||| ((1 : Int32) <<< (x2 &&& 31))) (x2 + (1 : Int32)) w7
theorem f_X2_laid_l4_s (n : Nat) (x0 : Nat) (x1 : Int32) (x2 : Int32) (w : xSt) : f_X2_laid_l4 (n + 1) x0 x1 x2 w = (
    gd (isC w x0 2) <|
    gd (isC w (wR w x0 1) 5) <|
    if (wI w (wR w x0 1) 2) ≤ x2 then
      some (x1, w)
    else
      gd (isC w (wR w (wR w x0 1) 1) 24) <|
      gd (inR x2 (wN w (wR w (wR w x0 1) 1))) <|
      gd (isC w (wR w (wR w (wR w x0 1) 1) x2.toNatClampNeg) 6) <|
      bd (f_X6_isLaid (wR w (wR w (wR w x0 1) 1) x2.toNatClampNeg) w) fun v6 w7 =>
      if v6 = 0 then
        f_X2_laid_l4 n x0 (x1 ||| (0 : Int32)) (x2 + (1 : Int32)) w7
      else
        f_X2_laid_l4 n x0 (x1 ||| ((1 : Int32) <<< (x2 &&& 31))) (x2 + (1 : Int32)) w7) := rfl
/-- WorldHall$Goods.laid()I -/
def f_X2_laid (x0 : Nat) (w : xSt) : Option (Int32 × xSt) :=
  f_X2_laid_l4 xFu x0 (0 : Int32) (0 : Int32) w
/-- java/lang/Integer.bitCount(I)I -/
def f_J6_bitCount_0f7a4 (x0 : Int32) (w : xSt) : Option (Int32 × xSt) :=
  some ((((((((x0 - ((iushr x0 (1 : Int32)) &&& (1431655765 : Int32))) &&& (858993459 : Int32)) + ((iushr (x0 - ((iushr x0 (1 : Int32)) &&& (1431655765 : Int32))) (2 : Int32)) &&& (858993459 : Int32))) + (iushr (((x0 - ((iushr x0 (1 : Int32)) &&& (1431655765 : Int32))) &&& (858993459 : Int32)) + ((iushr (x0 - ((iushr x0 (1 : Int32)) &&& (1431655765 : Int32))) (2 : Int32)) &&& (858993459 : Int32))) (4 : Int32))) &&& (252645135 : Int32)) + (iushr (((((x0 - ((iushr x0 (1 : Int32)) &&& (1431655765 : Int32))) &&& (858993459 : Int32)) + ((iushr (x0 - ((iushr x0 (1 : Int32)) &&& (1431655765 : Int32))) (2 : Int32)) &&& (858993459 : Int32))) + (iushr (((x0 - ((iushr x0 (1 : Int32)) &&& (1431655765 : Int32))) &&& (858993459 : Int32)) + ((iushr (x0 - ((iushr x0 (1 : Int32)) &&& (1431655765 : Int32))) (2 : Int32)) &&& (858993459 : Int32))) (4 : Int32))) &&& (252645135 : Int32)) (8 : Int32))) + (iushr ((((((x0 - ((iushr x0 (1 : Int32)) &&& (1431655765 : Int32))) &&& (858993459 : Int32)) + ((iushr (x0 - ((iushr x0 (1 : Int32)) &&& (1431655765 : Int32))) (2 : Int32)) &&& (858993459 : Int32))) + (iushr (((x0 - ((iushr x0 (1 : Int32)) &&& (1431655765 : Int32))) &&& (858993459 : Int32)) + ((iushr (x0 - ((iushr x0 (1 : Int32)) &&& (1431655765 : Int32))) (2 : Int32)) &&& (858993459 : Int32))) (4 : Int32))) &&& (252645135 : Int32)) + (iushr (((((x0 - ((iushr x0 (1 : Int32)) &&& (1431655765 : Int32))) &&& (858993459 : Int32)) + ((iushr (x0 - ((iushr x0 (1 : Int32)) &&& (1431655765 : Int32))) (2 : Int32)) &&& (858993459 : Int32))) + (iushr (((x0 - ((iushr x0 (1 : Int32)) &&& (1431655765 : Int32))) &&& (858993459 : Int32)) + ((iushr (x0 - ((iushr x0 (1 : Int32)) &&& (1431655765 : Int32))) (2 : Int32)) &&& (858993459 : Int32))) (4 : Int32))) &&& (252645135 : Int32)) (8 : Int32))) (16 : Int32))) &&& (63 : Int32), w)
def f_X2_canFollow_l26 (k9 : Nat → Int32 → Int32 → Int32 → xSt → Option (Int32 × xSt)) : Nat → Nat → Int32 → Int32 → Int32 → Int32 → Int32 → xSt → Option (Int32 × xSt)
  | 0 => fun _ _ _ _ _ _ _ => none
  | n + 1 => fun x0 x2 x3 x4 x5 x6 w =>
    gd (isC w x0 2) <|
    gd (isC w (wR w x0 1) 5) <|
    if (wI w (wR w x0 1) 2) ≤ x6 then
      if x3 = x5 then
        some ((0 : Int32), w)
      else
        k9 x0 x2 x3 (x4 + (1 : Int32)) w
    else
      bd (f_X2_holds x3 x6 w) fun v7 w8 =>
      if v7 = 0 then
        f_X2_canFollow_l26 k9 n x0 x2 x3 x4 x5 (x6 + (1 : Int32)) w8
      else
        gd (isC w8 x0 2) <|
        gd (isC w8 (wR w8 x0 1) 5) <|
        gd (isC w8 (wR w8 (wR w8 x0 1) 1) 24) <|
        gd (inR x6 (wN w8 (wR w8 (wR w8 x0 1) 1))) <|
        bd (f_X2_isReached x0 (wR w8 (wR w8 (wR w8 x0 1) 1) x6.toNatClampNeg) ((x2 ||| x3) &&& (((1 : Int32) <<< (x6 &&& 31)) ^^^ (-1 : Int32))) w8) fun v15 w16 =>
        if v15 = 0 then
          f_X2_canFollow_l26 k9 n x0 x2 x3 x4 x5 (x6 + (1 : Int32)) w16
        else
          f_X2_canFollow_l26 k9 n x0 x2 (x3 &&& (((1 : Int32) <<< (x6 &&& 31)) ^^^ (-1 : Int32))) x4 x5 (x6 + (1 : Int32)) w16
theorem f_X2_canFollow_l26_s (k9 : Nat → Int32 → Int32 → Int32 → xSt → Option (Int32 × xSt)) (n : Nat) (x0 : Nat) (x2 : Int32) (x3 : Int32) (x4 : Int32) (x5 : Int32) (x6 : Int32) (w : xSt) : f_X2_canFollow_l26 k9 (n + 1) x0 x2 x3 x4 x5 x6 w = (
    gd (isC w x0 2) <|
    gd (isC w (wR w x0 1) 5) <|
    if (wI w (wR w x0 1) 2) ≤ x6 then
      if x3 = x5 then
        some ((0 : Int32), w)
      else
        k9 x0 x2 x3 (x4 + (1 : Int32)) w
    else
      bd (f_X2_holds x3 x6 w) fun v7 w8 =>
      if v7 = 0 then
        f_X2_canFollow_l26 k9 n x0 x2 x3 x4 x5 (x6 + (1 : Int32)) w8
      else
        gd (isC w8 x0 2) <|
        gd (isC w8 (wR w8 x0 1) 5) <|
        gd (isC w8 (wR w8 (wR w8 x0 1) 1) 24) <|
        gd (inR x6 (wN w8 (wR w8 (wR w8 x0 1) 1))) <|
        bd (f_X2_isReached x0 (wR w8 (wR w8 (wR w8 x0 1) 1) x6.toNatClampNeg) ((x2 ||| x3) &&& (((1 : Int32) <<< (x6 &&& 31)) ^^^ (-1 : Int32))) w8) fun v15 w16 =>
        if v15 = 0 then
          f_X2_canFollow_l26 k9 n x0 x2 x3 x4 x5 (x6 + (1 : Int32)) w16
        else
          f_X2_canFollow_l26 k9 n x0 x2 (x3 &&& (((1 : Int32) <<< (x6 &&& 31)) ^^^ (-1 : Int32))) x4 x5 (x6 + (1 : Int32)) w16) := rfl
def f_X2_canFollow_b107 (x3 : Int32) (w : xSt) : Option (Int32 × xSt) :=
  if x3 = 0 then
    some ((1 : Int32), w)
  else
    some ((0 : Int32), w)
def f_X2_canFollow_l9 : Nat → Nat → Int32 → Int32 → Int32 → xSt → Option (Int32 × xSt)
  | 0 => fun _ _ _ _ _ => none
  | n + 1 => fun x0 x2 x3 x4 w =>
    if (9 : Int32) ≤ x4 then
      f_X2_canFollow_b107 x3 w
    else
      if x3 = 0 then
        f_X2_canFollow_b107 x3 w
      else
        f_X2_canFollow_l26 (f_X2_canFollow_l9 n) xFu x0 x2 x3 x4 x3 (0 : Int32) w
theorem f_X2_canFollow_l9_s (n : Nat) (x0 : Nat) (x2 : Int32) (x3 : Int32) (x4 : Int32) (w : xSt) : f_X2_canFollow_l9 (n + 1) x0 x2 x3 x4 w = (
    if (9 : Int32) ≤ x4 then
      f_X2_canFollow_b107 x3 w
    else
      if x3 = 0 then
        f_X2_canFollow_b107 x3 w
      else
        f_X2_canFollow_l26 (f_X2_canFollow_l9 n) xFu x0 x2 x3 x4 x3 (0 : Int32) w) := rfl
/-- WorldHall$Goods.canFollow(II)Z -/
def f_X2_canFollow (x0 : Nat) (x1 : Int32) (x2 : Int32) (w : xSt) : Option (Int32 × xSt) :=
  f_X2_canFollow_l9 xFu x0 x2 (x1 &&& (x2 ^^^ (-1 : Int32))) (0 : Int32) w
def f_X2_firstThatLeavesARow_l2 : Nat → Nat → Int32 → Int32 → Int32 → xSt → Option (Int32 × xSt)
  | 0 => fun _ _ _ _ _ => none
  | n + 1 => fun x0 x1 x2 x3 w =>
    gd (isC w x0 2) <|
    gd (isC w (wR w x0 1) 5) <|
    if (wI w (wR w x0 1) 2) ≤ x3 then
      some ((-1 : Int32), w)
    else
      bd (f_X2_holds (x1 &&& (x2 ^^^ (-1 : Int32))) x3 w) fun v4 w5 =>
      if v4 = 0 then
        f_X2_firstThatLeavesARow_l2 n x0 x1 x2 (x3 + (1 : Int32)) w5
      else
        gd (isC w5 x0 2) <|
        gd (isC w5 (wR w5 x0 1) 5) <|
        gd (isC w5 (wR w5 (wR w5 x0 1) 1) 24) <|
        gd (inR x3 (wN w5 (wR w5 (wR w5 x0 1) 1))) <|
        bd (f_X2_isReached x0 (wR w5 (wR w5 (wR w5 x0 1) 1) x3.toNatClampNeg) x2 w5) fun v12 w13 =>
        if v12 = 0 then
          f_X2_firstThatLeavesARow_l2 n x0 x1 x2 (x3 + (1 : Int32)) w13
        else
          gd (isC w13 x0 2) <|
          bd (f_X2_canFollow x0 x1 (x2 ||| ((1 : Int32) <<< (x3 &&& 31))) w13) fun v16 w17 =>
          if v16 = 0 then
            f_X2_firstThatLeavesARow_l2 n x0 x1 x2 (x3 + (1 : Int32)) w17
          else
            some (x3, w17)
theorem f_X2_firstThatLeavesARow_l2_s (n : Nat) (x0 : Nat) (x1 : Int32) (x2 : Int32) (x3 : Int32) (w : xSt) : f_X2_firstThatLeavesARow_l2 (n + 1) x0 x1 x2 x3 w = (
    gd (isC w x0 2) <|
    gd (isC w (wR w x0 1) 5) <|
    if (wI w (wR w x0 1) 2) ≤ x3 then
      some ((-1 : Int32), w)
    else
      bd (f_X2_holds (x1 &&& (x2 ^^^ (-1 : Int32))) x3 w) fun v4 w5 =>
      if v4 = 0 then
        f_X2_firstThatLeavesARow_l2 n x0 x1 x2 (x3 + (1 : Int32)) w5
      else
        gd (isC w5 x0 2) <|
        gd (isC w5 (wR w5 x0 1) 5) <|
        gd (isC w5 (wR w5 (wR w5 x0 1) 1) 24) <|
        gd (inR x3 (wN w5 (wR w5 (wR w5 x0 1) 1))) <|
        bd (f_X2_isReached x0 (wR w5 (wR w5 (wR w5 x0 1) 1) x3.toNatClampNeg) x2 w5) fun v12 w13 =>
        if v12 = 0 then
          f_X2_firstThatLeavesARow_l2 n x0 x1 x2 (x3 + (1 : Int32)) w13
        else
          gd (isC w13 x0 2) <|
          bd (f_X2_canFollow x0 x1 (x2 ||| ((1 : Int32) <<< (x3 &&& 31))) w13) fun v16 w17 =>
          if v16 = 0 then
            f_X2_firstThatLeavesARow_l2 n x0 x1 x2 (x3 + (1 : Int32)) w17
          else
            some (x3, w17)) := rfl
/-- WorldHall$Goods.firstThatLeavesARow(II)I -/
def f_X2_firstThatLeavesARow (x0 : Nat) (x1 : Int32) (x2 : Int32) (w : xSt) : Option (Int32 × xSt) :=
  f_X2_firstThatLeavesARow_l2 xFu x0 x1 x2 (0 : Int32) w
def f_X2_inOrder_l27 : Nat → Nat → Int32 → Int32 → Int32 → Int32 → Int32 → xSt → Option (Int32 × xSt)
  | 0 => fun _ _ _ _ _ _ _ => none
  | n + 1 => fun x0 x1 x2 x3 x4 x5 w =>
    if x1 < x5 then
      some (x4, w)
    else
      gd (isC w x0 2) <|
      bd (f_X2_firstThatLeavesARow x0 x2 x3 w) fun v11 w12 =>
      if v11 = (-1 : Int32) then
        some ((-1 : Int32), w12)
      else
        f_X2_inOrder_l27 n x0 x1 x2 (x3 ||| ((1 : Int32) <<< (v11 &&& 31))) v11 (x5 + (1 : Int32)) w12
theorem f_X2_inOrder_l27_s (n : Nat) (x0 : Nat) (x1 : Int32) (x2 : Int32) (x3 : Int32) (x4 : Int32) (x5 : Int32) (w : xSt) : f_X2_inOrder_l27 (n + 1) x0 x1 x2 x3 x4 x5 w = (
    if x1 < x5 then
      some (x4, w)
    else
      gd (isC w x0 2) <|
      bd (f_X2_firstThatLeavesARow x0 x2 x3 w) fun v11 w12 =>
      if v11 = (-1 : Int32) then
        some ((-1 : Int32), w12)
      else
        f_X2_inOrder_l27 n x0 x1 x2 (x3 ||| ((1 : Int32) <<< (v11 &&& 31))) v11 (x5 + (1 : Int32)) w12) := rfl
/-- WorldHall$Goods.inOrder(I)I -/
def f_X2_inOrder (x0 : Nat) (x1 : Int32) (w : xSt) : Option (Int32 × xSt) :=
  gd (isC w x0 2) <|
  bd (f_X2_laid x0 w) fun v1 w2 =>
  if x1 < 0 then
    some ((-1 : Int32), w2)
  else
    bd (f_J6_bitCount_0f7a4 v1 w2) fun v6 w7 =>
    if x1 < v6 then
      f_X2_inOrder_l27 xFu x0 x1 v1 (0 : Int32) (-1 : Int32) (0 : Int32) w7
    else
      some ((-1 : Int32), w7)
def f_X3_init_l38 : Nat → Nat → Int32 → xSt → Option (Unit × xSt)
  | 0 => fun _ _ _ => none
  | n + 1 => fun x0 x1 w =>
    gd (isC w x0 3) <|
    gd (isC w (wR w x0 2) 20) <|
    if (Int32.ofNat (wN w (wR w x0 2))) ≤ x1 then
      some ((), w)
    else
      gd (inR x1 (wN w (wR w x0 2))) <|
      lt1 (sI w (wR w x0 2) x1.toNatClampNeg (-1 : Int32)) fun w45 =>
      f_X3_init_l38 n x0 (x1 + (1 : Int32)) w45
theorem f_X3_init_l38_s (n : Nat) (x0 : Nat) (x1 : Int32) (w : xSt) : f_X3_init_l38 (n + 1) x0 x1 w = (
    gd (isC w x0 3) <|
    gd (isC w (wR w x0 2) 20) <|
    if (Int32.ofNat (wN w (wR w x0 2))) ≤ x1 then
      some ((), w)
    else
      gd (inR x1 (wN w (wR w x0 2))) <|
      lt1 (sI w (wR w x0 2) x1.toNatClampNeg (-1 : Int32)) fun w45 =>
      f_X3_init_l38 n x0 (x1 + (1 : Int32)) w45) := rfl
/-- WorldHall$Jury.<init>()V -/
def f_X3_init (x0 : Nat) (w : xSt) : Option (Unit × xSt) :=
  gd (isC w x0 3) <|
  gd (wZ w + 1 < 1000) <|
  lt1 (wZ w + 1) fun q3 =>
  lt1 (nA w 20 (12 : Int32).toNatClampNeg) fun w5 =>
  lt1 (sR w5 x0 0 q3) fun w9 =>
  gd (wZ w9 + 1 < 1000) <|
  lt1 (wZ w9 + 1) fun q12 =>
  lt1 (nA w9 20 (12 : Int32).toNatClampNeg) fun w14 =>
  lt1 (sR w14 x0 1 q12) fun w19 =>
  gd (wZ w19 + 1 < 1000) <|
  lt1 (wZ w19 + 1) fun q22 =>
  lt1 (nA w19 20 (108 : Int32).toNatClampNeg) fun w24 =>
  lt1 (sR w24 x0 2 q22) fun w29 =>
  gd (wZ w29 + 1 < 1000) <|
  lt1 (wZ w29 + 1) fun q32 =>
  lt1 (nA w29 20 (108 : Int32).toNatClampNeg) fun w34 =>
  lt1 (sR w34 x0 3 q32) fun w39 =>
  f_X3_init_l38 xFu x0 (0 : Int32) w39
/-- WorldHall$Jury.has(I)Z -/
def f_X3_has (x0 : Nat) (x1 : Int32) (w : xSt) : Option (Int32 × xSt) :=
  if x1 < 0 then
    some ((0 : Int32), w)
  else
    gd (isC w x0 3) <|
    if (wI w x0 4) ≤ x1 then
      some ((0 : Int32), w)
    else
      some ((1 : Int32), w)
/-- WorldHall$Jury.add(II)I -/
def f_X3_add (x0 : Nat) (x1 : Int32) (x2 : Int32) (w : xSt) : Option (Int32 × xSt) :=
  gd (isC w x0 3) <|
  gd (isC w (wR w x0 0) 20) <|
  gd (inR (wI w x0 4) (wN w (wR w x0 0))) <|
  lt1 (sI w (wR w x0 0) (wI w x0 4).toNatClampNeg x1) fun w4 =>
  gd (isC w4 (wR w4 x0 1) 20) <|
  gd (inR (wI w4 x0 4) (wN w4 (wR w4 x0 1))) <|
  lt1 (sI w4 (wR w4 x0 1) (wI w4 x0 4).toNatClampNeg x2) fun w9 =>
  lt1 (sI w9 x0 4 ((wI w9 x0 4) + (1 : Int32))) fun w12 =>
  some ((wI w12 x0 4) - (1 : Int32), w12)
/-- WorldHall$Jury.mayJudge(ILWorldHall$Stand;)Z -/
def f_X3_mayJudge (x0 : Nat) (x1 : Int32) (x2 : Nat) (w : xSt) : Option (Int32 × xSt) :=
  gd (isC w x0 3) <|
  gd (isC w (wR w x0 0) 20) <|
  gd (inR x1 (wN w (wR w x0 0))) <|
  gd (isC w x2 6) <|
  if (wI w (wR w x0 0) x1.toNatClampNeg) = (wI w x2 1) then
    some ((0 : Int32), w)
  else
    gd (isC w (wR w x0 1) 20) <|
    gd (inR x1 (wN w (wR w x0 1))) <|
    if (wI w (wR w x0 1) x1.toNatClampNeg) = (wI w x2 2) then
      some ((1 : Int32), w)
    else
      some ((0 : Int32), w)
/-- WorldHall$Jury.slot(II)I -/
def f_X3_slot (x0 : Int32) (x1 : Int32) (w : xSt) : Option (Int32 × xSt) :=
  some ((x0 * (9 : Int32)) + x1, w)
/-- WorldHall$Jury.give(IIII)I -/
def f_X3_give (x0 : Nat) (x1 : Int32) (x2 : Int32) (x3 : Int32) (x4 : Int32) (w : xSt) : Option (Int32 × xSt) :=
  gd (isC w x0 3) <|
  bd (f_X3_slot x1 x2 w) fun v2 w3 =>
  gd (isC w3 (wR w x0 2) 20) <|
  gd (inR v2 (wN w3 (wR w x0 2))) <|
  gd (isC w3 x0 3) <|
  bd (f_X3_slot x1 x2 w3) fun v8 w9 =>
  gd (isC w9 (wR w3 x0 2) 20) <|
  gd (inR v8 (wN w9 (wR w3 x0 2))) <|
  lt1 (sI w9 (wR w3 x0 2) v8.toNatClampNeg x3) fun w13 =>
  gd (isC w13 x0 3) <|
  bd (f_X3_slot x1 x2 w13) fun v16 w17 =>
  gd (isC w17 (wR w13 x0 3) 20) <|
  gd (inR v16 (wN w17 (wR w13 x0 3))) <|
  lt1 (sI w17 (wR w13 x0 3) v16.toNatClampNeg x4) fun w21 =>
  some (wI w3 (wR w x0 2) v2.toNatClampNeg, w21)
def f_X3_marksOf_l4 : Nat → Nat → Int32 → Int32 → Int32 → xSt → Option (Int32 × xSt)
  | 0 => fun _ _ _ _ _ => none
  | n + 1 => fun x0 x1 x2 x3 w =>
    gd (isC w x0 3) <|
    if (wI w x0 4) ≤ x3 then
      some (x2, w)
    else
      bd (f_X3_slot x3 x1 w) fun v3 w4 =>
      gd (isC w4 (wR w x0 2) 20) <|
      gd (inR v3 (wN w4 (wR w x0 2))) <|
      if (wI w4 (wR w x0 2) v3.toNatClampNeg) = (-1 : Int32) then
        f_X3_marksOf_l4 n x0 x1 (x2 + (0 : Int32)) (x3 + (1 : Int32)) w4
      else
        f_X3_marksOf_l4 n x0 x1 (x2 + (1 : Int32)) (x3 + (1 : Int32)) w4
theorem f_X3_marksOf_l4_s (n : Nat) (x0 : Nat) (x1 : Int32) (x2 : Int32) (x3 : Int32) (w : xSt) : f_X3_marksOf_l4 (n + 1) x0 x1 x2 x3 w = (
    gd (isC w x0 3) <|
    if (wI w x0 4) ≤ x3 then
      some (x2, w)
    else
      bd (f_X3_slot x3 x1 w) fun v3 w4 =>
      gd (isC w4 (wR w x0 2) 20) <|
      gd (inR v3 (wN w4 (wR w x0 2))) <|
      if (wI w4 (wR w x0 2) v3.toNatClampNeg) = (-1 : Int32) then
        f_X3_marksOf_l4 n x0 x1 (x2 + (0 : Int32)) (x3 + (1 : Int32)) w4
      else
        f_X3_marksOf_l4 n x0 x1 (x2 + (1 : Int32)) (x3 + (1 : Int32)) w4) := rfl
/-- WorldHall$Jury.marksOf(I)I -/
def f_X3_marksOf (x0 : Nat) (x1 : Int32) (w : xSt) : Option (Int32 × xSt) :=
  f_X3_marksOf_l4 xFu x0 x1 (0 : Int32) (0 : Int32) w
def f_X3_allMarks_l4 : Nat → Nat → Int32 → Int32 → xSt → Option (Int32 × xSt)
  | 0 => fun _ _ _ _ => none
  | n + 1 => fun x0 x1 x2 w =>
    if (9 : Int32) ≤ x2 then
      some (x1, w)
    else
      gd (isC w x0 3) <|
      bd (f_X3_marksOf x0 x2 w) fun v2 w3 =>
      f_X3_allMarks_l4 n x0 (x1 + v2) (x2 + (1 : Int32)) w3
theorem f_X3_allMarks_l4_s (n : Nat) (x0 : Nat) (x1 : Int32) (x2 : Int32) (w : xSt) : f_X3_allMarks_l4 (n + 1) x0 x1 x2 w = (
    if (9 : Int32) ≤ x2 then
      some (x1, w)
    else
      gd (isC w x0 3) <|
      bd (f_X3_marksOf x0 x2 w) fun v2 w3 =>
      f_X3_allMarks_l4 n x0 (x1 + v2) (x2 + (1 : Int32)) w3) := rfl
/-- WorldHall$Jury.allMarks()I -/
def f_X3_allMarks (x0 : Nat) (w : xSt) : Option (Int32 × xSt) :=
  f_X3_allMarks_l4 xFu x0 (0 : Int32) (0 : Int32) w
def f_X3_average_l8 : Nat → Nat → Int32 → Int32 → Int32 → Int32 → Int32 → xSt → Option (Int32 × xSt)
  | 0 => fun _ _ _ _ _ _ _ => none
  | n + 1 => fun x0 x1 x2 x3 x4 x5 w =>
    gd (isC w x0 3) <|
    if (wI w x0 4) ≤ x5 then
      if (2 : Int32) ≤ x4 then
        gd (¬ x4 = 0) <|
        some (x3 / x4, w)
      else
        some ((-1 : Int32), w)
    else
      bd (f_X3_slot x5 x1 w) fun v5 w6 =>
      gd (isC w6 x0 3) <|
      gd (isC w6 (wR w6 x0 2) 20) <|
      gd (inR v5 (wN w6 (wR w6 x0 2))) <|
      if (wI w6 (wR w6 x0 2) v5.toNatClampNeg) = (-1 : Int32) then
        f_X3_average_l8 n x0 x1 x2 x3 x4 (x5 + (1 : Int32)) w6
      else
        gd (isC w6 (wR w6 x0 3) 20) <|
        gd (inR v5 (wN w6 (wR w6 x0 3))) <|
        if x2 < (wI w6 (wR w6 x0 3) v5.toNatClampNeg) then
          f_X3_average_l8 n x0 x1 x2 x3 x4 (x5 + (1 : Int32)) w6
        else
          f_X3_average_l8 n x0 x1 x2 (x3 + (wI w6 (wR w6 x0 2) v5.toNatClampNeg)) (x4 + (1 : Int32)) (x5 + (1 : Int32)) w6
theorem f_X3_average_l8_s (n : Nat) (x0 : Nat) (x1 : Int32) (x2 : Int32) (x3 : Int32) (x4 : Int32) (x5 : Int32) (w : xSt) : f_X3_average_l8 (n + 1) x0 x1 x2 x3 x4 x5 w = (
    gd (isC w x0 3) <|
    if (wI w x0 4) ≤ x5 then
      if (2 : Int32) ≤ x4 then
        gd (¬ x4 = 0) <|
        some (x3 / x4, w)
      else
        some ((-1 : Int32), w)
    else
      bd (f_X3_slot x5 x1 w) fun v5 w6 =>
      gd (isC w6 x0 3) <|
      gd (isC w6 (wR w6 x0 2) 20) <|
      gd (inR v5 (wN w6 (wR w6 x0 2))) <|
      if (wI w6 (wR w6 x0 2) v5.toNatClampNeg) = (-1 : Int32) then
        f_X3_average_l8 n x0 x1 x2 x3 x4 (x5 + (1 : Int32)) w6
      else
        gd (isC w6 (wR w6 x0 3) 20) <|
        gd (inR v5 (wN w6 (wR w6 x0 3))) <|
        if x2 < (wI w6 (wR w6 x0 3) v5.toNatClampNeg) then
          f_X3_average_l8 n x0 x1 x2 x3 x4 (x5 + (1 : Int32)) w6
        else
          f_X3_average_l8 n x0 x1 x2 (x3 + (wI w6 (wR w6 x0 2) v5.toNatClampNeg)) (x4 + (1 : Int32)) (x5 + (1 : Int32)) w6) := rfl
/-- WorldHall$Jury.average(II)I -/
def f_X3_average (x0 : Nat) (x1 : Int32) (x2 : Int32) (w : xSt) : Option (Int32 × xSt) :=
  f_X3_average_l8 xFu x0 x1 x2 (0 : Int32) (0 : Int32) (0 : Int32) w
/-- WorldHall$Lost.<init>()V -/
def f_X4_init (x0 : Nat) (w : xSt) : Option (Unit × xSt) :=
  gd (isC w x0 4) <|
  some ((), w)
/-- WorldHall$Lost.isBehindLatest(I)Z -/
def f_X4_isBehindLatest (x0 : Nat) (x1 : Int32) (w : xSt) : Option (Int32 × xSt) :=
  gd (isC w x0 4) <|
  if (wI w x0 0) = 0 then
    some ((1 : Int32), w)
  else
    if x1 ≤ (wI w x0 2) then
      some ((0 : Int32), w)
    else
      some ((1 : Int32), w)
/-- WorldHall$Lost.add(II)I -/
def f_X4_add (x0 : Nat) (x1 : Int32) (x2 : Int32) (w : xSt) : Option (Int32 × xSt) :=
  gd (isC w x0 4) <|
  lt1 (sI w x0 1 x1) fun w2 =>
  lt1 (sI w2 x0 2 x2) fun w5 =>
  lt1 (sI w5 x0 0 ((wI w5 x0 0) + (1 : Int32))) fun w8 =>
  some (wI w8 x0 0, w8)
/-- WorldHall$Lost.forget()I -/
def f_X4_forget (x0 : Nat) (w : xSt) : Option (Int32 × xSt) :=
  gd (isC w x0 4) <|
  lt1 (sI w x0 0 (0 : Int32)) fun w2 =>
  some (wI w x0 0, w2)
/-- WorldHall$Plan.<init>(LWorldHall$Floor;)V -/
def f_X5_init (x0 : Nat) (x1 : Nat) (w : xSt) : Option (Unit × xSt) :=
  gd (isC w x0 5) <|
  lt1 (sR w x0 0 x1) fun w2 =>
  gd (wZ w2 + 1 < 1000) <|
  lt1 (wZ w2 + 1) fun q5 =>
  lt1 (nA w2 24 (9 : Int32).toNatClampNeg) fun w7 =>
  lt1 (sR w7 x0 1 q5) fun w12 =>
  lt1 (sI w12 x0 3 (1 : Int32)) fun w15 =>
  some ((), w15)
/-- WorldHall$Plan.find(I)LWorldHall$Stand; -/
def f_X5_find (x0 : Nat) (x1 : Int32) (w : xSt) : Option (Nat × xSt) :=
  if x1 < 0 then
    some (0, w)
  else
    gd (isC w x0 5) <|
    if (wI w x0 2) ≤ x1 then
      some (0, w)
    else
      gd (isC w (wR w x0 1) 24) <|
      gd (inR x1 (wN w (wR w x0 1))) <|
      some (wR w (wR w x0 1) x1.toNatClampNeg, w)
/-- WorldHall$Plan.add(LWorldHall$Stand;)I -/
def f_X5_add (x0 : Nat) (x1 : Nat) (w : xSt) : Option (Int32 × xSt) :=
  gd (isC w x0 5) <|
  gd (isC w (wR w x0 1) 24) <|
  gd (inR (wI w x0 2) (wN w (wR w x0 1))) <|
  gd (isC w x1 6) <|
  lt1 (sR w (wR w x0 1) (wI w x0 2).toNatClampNeg x1) fun w5 =>
  lt1 (sI w5 x0 2 ((wI w5 x0 2) + (1 : Int32))) fun w8 =>
  some ((wI w8 x0 2) - (1 : Int32), w8)
/-- WorldHall$Plan.put(LWorldHall$Stand;I)V -/
def f_X5_put (x0 : Nat) (x1 : Nat) (x2 : Int32) (w : xSt) : Option (Unit × xSt) :=
  gd (isC w x1 6) <|
  lt1 (sI w x1 6 x2) fun w2 =>
  gd (isC w2 x0 5) <|
  gd (isC w2 (wR w2 x0 0) 0) <|
  bd (f_X0_area (wR w2 x0 0) x2 (wI w2 x1 3) (wI w2 x1 4) w2) fun v6 w7 =>
  gd (isC w7 x1 6) <|
  lt1 (sL w7 x1 7 v6) fun w11 =>
  some ((), w11)
def f_X5_laidOnes_l4 : Nat → Nat → Int32 → Int32 → xSt → Option (Int32 × xSt)
  | 0 => fun _ _ _ _ => none
  | n + 1 => fun x0 x1 x2 w =>
    gd (isC w x0 5) <|
    if (wI w x0 2) ≤ x2 then
      some (x1, w)
    else
      gd (isC w (wR w x0 1) 24) <|
      gd (inR x2 (wN w (wR w x0 1))) <|
      gd (isC w (wR w (wR w x0 1) x2.toNatClampNeg) 6) <|
      bd (f_X6_isLaid (wR w (wR w x0 1) x2.toNatClampNeg) w) fun v5 w6 =>
      if v5 = 0 then
        f_X5_laidOnes_l4 n x0 (x1 + (0 : Int32)) (x2 + (1 : Int32)) w6
      else
        f_X5_laidOnes_l4 n x0 (x1 + (1 : Int32)) (x2 + (1 : Int32)) w6
theorem f_X5_laidOnes_l4_s (n : Nat) (x0 : Nat) (x1 : Int32) (x2 : Int32) (w : xSt) : f_X5_laidOnes_l4 (n + 1) x0 x1 x2 w = (
    gd (isC w x0 5) <|
    if (wI w x0 2) ≤ x2 then
      some (x1, w)
    else
      gd (isC w (wR w x0 1) 24) <|
      gd (inR x2 (wN w (wR w x0 1))) <|
      gd (isC w (wR w (wR w x0 1) x2.toNatClampNeg) 6) <|
      bd (f_X6_isLaid (wR w (wR w x0 1) x2.toNatClampNeg) w) fun v5 w6 =>
      if v5 = 0 then
        f_X5_laidOnes_l4 n x0 (x1 + (0 : Int32)) (x2 + (1 : Int32)) w6
      else
        f_X5_laidOnes_l4 n x0 (x1 + (1 : Int32)) (x2 + (1 : Int32)) w6) := rfl
/-- WorldHall$Plan.laidOnes()I -/
def f_X5_laidOnes (x0 : Nat) (w : xSt) : Option (Int32 × xSt) :=
  f_X5_laidOnes_l4 xFu x0 (0 : Int32) (0 : Int32) w
def f_X5_withGoods_l4 : Nat → Nat → Int32 → Int32 → xSt → Option (Int32 × xSt)
  | 0 => fun _ _ _ _ => none
  | n + 1 => fun x0 x1 x2 w =>
    gd (isC w x0 5) <|
    if (wI w x0 2) ≤ x2 then
      some (x1, w)
    else
      gd (isC w (wR w x0 1) 24) <|
      gd (inR x2 (wN w (wR w x0 1))) <|
      gd (isC w (wR w (wR w x0 1) x2.toNatClampNeg) 6) <|
      if (wI w (wR w (wR w x0 1) x2.toNatClampNeg) 8) = 0 then
        f_X5_withGoods_l4 n x0 (x1 + (0 : Int32)) (x2 + (1 : Int32)) w
      else
        f_X5_withGoods_l4 n x0 (x1 + (1 : Int32)) (x2 + (1 : Int32)) w
theorem f_X5_withGoods_l4_s (n : Nat) (x0 : Nat) (x1 : Int32) (x2 : Int32) (w : xSt) : f_X5_withGoods_l4 (n + 1) x0 x1 x2 w = (
    gd (isC w x0 5) <|
    if (wI w x0 2) ≤ x2 then
      some (x1, w)
    else
      gd (isC w (wR w x0 1) 24) <|
      gd (inR x2 (wN w (wR w x0 1))) <|
      gd (isC w (wR w (wR w x0 1) x2.toNatClampNeg) 6) <|
      if (wI w (wR w (wR w x0 1) x2.toNatClampNeg) 8) = 0 then
        f_X5_withGoods_l4 n x0 (x1 + (0 : Int32)) (x2 + (1 : Int32)) w
      else
        f_X5_withGoods_l4 n x0 (x1 + (1 : Int32)) (x2 + (1 : Int32)) w) := rfl
/-- WorldHall$Plan.withGoods()I -/
def f_X5_withGoods (x0 : Nat) (w : xSt) : Option (Int32 × xSt) :=
  f_X5_withGoods_l4 xFu x0 (0 : Int32) (0 : Int32) w
def f_X5_handedOver_l4 : Nat → Nat → Int32 → Int32 → xSt → Option (Int32 × xSt)
  | 0 => fun _ _ _ _ => none
  | n + 1 => fun x0 x1 x2 w =>
    gd (isC w x0 5) <|
    if (wI w x0 2) ≤ x2 then
      some (x1, w)
    else
      gd (isC w (wR w x0 1) 24) <|
      gd (inR x2 (wN w (wR w x0 1))) <|
      gd (isC w (wR w (wR w x0 1) x2.toNatClampNeg) 6) <|
      if (wI w (wR w (wR w x0 1) x2.toNatClampNeg) 10) = 0 then
        f_X5_handedOver_l4 n x0 (x1 + (0 : Int32)) (x2 + (1 : Int32)) w
      else
        f_X5_handedOver_l4 n x0 (x1 + (1 : Int32)) (x2 + (1 : Int32)) w
theorem f_X5_handedOver_l4_s (n : Nat) (x0 : Nat) (x1 : Int32) (x2 : Int32) (w : xSt) : f_X5_handedOver_l4 (n + 1) x0 x1 x2 w = (
    gd (isC w x0 5) <|
    if (wI w x0 2) ≤ x2 then
      some (x1, w)
    else
      gd (isC w (wR w x0 1) 24) <|
      gd (inR x2 (wN w (wR w x0 1))) <|
      gd (isC w (wR w (wR w x0 1) x2.toNatClampNeg) 6) <|
      if (wI w (wR w (wR w x0 1) x2.toNatClampNeg) 10) = 0 then
        f_X5_handedOver_l4 n x0 (x1 + (0 : Int32)) (x2 + (1 : Int32)) w
      else
        f_X5_handedOver_l4 n x0 (x1 + (1 : Int32)) (x2 + (1 : Int32)) w) := rfl
/-- WorldHall$Plan.handedOver()I -/
def f_X5_handedOver (x0 : Nat) (w : xSt) : Option (Int32 × xSt) :=
  f_X5_handedOver_l4 xFu x0 (0 : Int32) (0 : Int32) w
def f_X5_emptyAll_l7 : Nat → Nat → Int32 → Int32 → xSt → Option (Int32 × xSt)
  | 0 => fun _ _ _ _ => none
  | n + 1 => fun x0 x1 x2 w =>
    gd (isC w x0 5) <|
    if (wI w x0 2) ≤ x2 then
      some (x1, w)
    else
      gd (isC w (wR w x0 1) 24) <|
      gd (inR x2 (wN w (wR w x0 1))) <|
      gd (isC w (wR w (wR w x0 1) x2.toNatClampNeg) 6) <|
      lt1 (sI w (wR w (wR w x0 1) x2.toNatClampNeg) 8 (0 : Int32)) fun w10 =>
      f_X5_emptyAll_l7 n x0 x1 (x2 + (1 : Int32)) w10
theorem f_X5_emptyAll_l7_s (n : Nat) (x0 : Nat) (x1 : Int32) (x2 : Int32) (w : xSt) : f_X5_emptyAll_l7 (n + 1) x0 x1 x2 w = (
    gd (isC w x0 5) <|
    if (wI w x0 2) ≤ x2 then
      some (x1, w)
    else
      gd (isC w (wR w x0 1) 24) <|
      gd (inR x2 (wN w (wR w x0 1))) <|
      gd (isC w (wR w (wR w x0 1) x2.toNatClampNeg) 6) <|
      lt1 (sI w (wR w (wR w x0 1) x2.toNatClampNeg) 8 (0 : Int32)) fun w10 =>
      f_X5_emptyAll_l7 n x0 x1 (x2 + (1 : Int32)) w10) := rfl
/-- WorldHall$Plan.emptyAll()I -/
def f_X5_emptyAll (x0 : Nat) (w : xSt) : Option (Int32 × xSt) :=
  gd (isC w x0 5) <|
  bd (f_X5_withGoods x0 w) fun v1 w2 =>
  f_X5_emptyAll_l7 xFu x0 v1 (0 : Int32) w2
def f_X5_standOn_l2 : Nat → Nat → Int32 → Int32 → xSt → Option (Int32 × xSt)
  | 0 => fun _ _ _ _ => none
  | n + 1 => fun x0 x1 x2 w =>
    gd (isC w x0 5) <|
    if (wI w x0 2) ≤ x2 then
      some ((-1 : Int32), w)
    else
      gd (isC w (wR w x0 1) 24) <|
      gd (inR x2 (wN w (wR w x0 1))) <|
      gd (isC w (wR w (wR w x0 1) x2.toNatClampNeg) 6) <|
      bd (f_X0_only x1 w) fun v6 w7 =>
      if (lg_cmp ((wL w (wR w (wR w x0 1) x2.toNatClampNeg) 7) &&& v6) (0 : Int64)) = 0 then
        f_X5_standOn_l2 n x0 x1 (x2 + (1 : Int32)) w7
      else
        some (x2, w7)
theorem f_X5_standOn_l2_s (n : Nat) (x0 : Nat) (x1 : Int32) (x2 : Int32) (w : xSt) : f_X5_standOn_l2 (n + 1) x0 x1 x2 w = (
    gd (isC w x0 5) <|
    if (wI w x0 2) ≤ x2 then
      some ((-1 : Int32), w)
    else
      gd (isC w (wR w x0 1) 24) <|
      gd (inR x2 (wN w (wR w x0 1))) <|
      gd (isC w (wR w (wR w x0 1) x2.toNatClampNeg) 6) <|
      bd (f_X0_only x1 w) fun v6 w7 =>
      if (lg_cmp ((wL w (wR w (wR w x0 1) x2.toNatClampNeg) 7) &&& v6) (0 : Int64)) = 0 then
        f_X5_standOn_l2 n x0 x1 (x2 + (1 : Int32)) w7
      else
        some (x2, w7)) := rfl
/-- WorldHall$Plan.standOn(I)I -/
def f_X5_standOn (x0 : Nat) (x1 : Int32) (w : xSt) : Option (Int32 × xSt) :=
  f_X5_standOn_l2 xFu x0 x1 (0 : Int32) w
def f_X5_covered_l5 : Nat → Nat → Nat → Int64 → Int32 → xSt → Option (Int64 × xSt)
  | 0 => fun _ _ _ _ _ => none
  | n + 1 => fun x0 x1 x2 x4 w =>
    gd (isC w x0 5) <|
    if (wI w x0 2) ≤ x4 then
      some (x2, w)
    else
      gd (isC w (wR w x0 1) 24) <|
      gd (inR x4 (wN w (wR w x0 1))) <|
      gd ((wR w (wR w x0 1) x4.toNatClampNeg) ≤ wZ w) <|
      gd (x1 ≤ wZ w) <|
      if (wR w (wR w x0 1) x4.toNatClampNeg) = x1 then
        f_X5_covered_l5 n x0 x1 (x2 ||| (0 : Int64)) (x4 + (1 : Int32)) w
      else
        gd (isC w (wR w (wR w x0 1) x4.toNatClampNeg) 6) <|
        f_X5_covered_l5 n x0 x1 (x2 ||| (wL w (wR w (wR w x0 1) x4.toNatClampNeg) 7)) (x4 + (1 : Int32)) w
theorem f_X5_covered_l5_s (n : Nat) (x0 : Nat) (x1 : Nat) (x2 : Int64) (x4 : Int32) (w : xSt) : f_X5_covered_l5 (n + 1) x0 x1 x2 x4 w = (
    gd (isC w x0 5) <|
    if (wI w x0 2) ≤ x4 then
      some (x2, w)
    else
      gd (isC w (wR w x0 1) 24) <|
      gd (inR x4 (wN w (wR w x0 1))) <|
      gd ((wR w (wR w x0 1) x4.toNatClampNeg) ≤ wZ w) <|
      gd (x1 ≤ wZ w) <|
      if (wR w (wR w x0 1) x4.toNatClampNeg) = x1 then
        f_X5_covered_l5 n x0 x1 (x2 ||| (0 : Int64)) (x4 + (1 : Int32)) w
      else
        gd (isC w (wR w (wR w x0 1) x4.toNatClampNeg) 6) <|
        f_X5_covered_l5 n x0 x1 (x2 ||| (wL w (wR w (wR w x0 1) x4.toNatClampNeg) 7)) (x4 + (1 : Int32)) w) := rfl
/-- WorldHall$Plan.covered(LWorldHall$Stand;)J -/
def f_X5_covered (x0 : Nat) (x1 : Nat) (w : xSt) : Option (Int64 × xSt) :=
  f_X5_covered_l5 xFu x0 x1 (0 : Int64) (0 : Int32) w
/-- WorldHall$Plan.between(IIII)I -/
def f_X5_between (x0 : Int32) (x1 : Int32) (x2 : Int32) (x3 : Int32) (w : xSt) : Option (Int32 × xSt) :=
  bd (f_J9_max_7cf53 ((x2 - x0) - x1) ((x0 - x2) - x3) w) fun v1 w2 =>
  some (v1, w2)
def f_X5_isTooNear_l2 : Nat → Nat → Nat → Int32 → Int32 → xSt → Option (Int32 × xSt)
  | 0 => fun _ _ _ _ _ => none
  | n + 1 => fun x0 x1 x2 x3 w =>
    gd (isC w x0 5) <|
    if (wI w x0 2) ≤ x3 then
      some ((0 : Int32), w)
    else
      gd (isC w (wR w x0 1) 24) <|
      gd (inR x3 (wN w (wR w x0 1))) <|
      gd ((wR w (wR w x0 1) x3.toNatClampNeg) ≤ wZ w) <|
      gd (x1 ≤ wZ w) <|
      if (wR w (wR w x0 1) x3.toNatClampNeg) = x1 then
        f_X5_isTooNear_l2 n x0 x1 x2 (x3 + (1 : Int32)) w
      else
        gd (isC w (wR w (wR w x0 1) x3.toNatClampNeg) 6) <|
        bd (f_X6_isLaid (wR w (wR w x0 1) x3.toNatClampNeg) w) fun v8 w9 =>
        if v8 = 0 then
          f_X5_isTooNear_l2 n x0 x1 x2 (x3 + (1 : Int32)) w9
        else
          gd (isC w9 (wR w (wR w x0 1) x3.toNatClampNeg) 6) <|
          gd (isC w9 x1 6) <|
          if (wI w9 (wR w (wR w x0 1) x3.toNatClampNeg) 2) = (wI w9 x1 2) then
            f_X5_isTooNear_l2 n x0 x1 x2 (x3 + (1 : Int32)) w9
          else
            gd (isC w9 x0 5) <|
            gd (isC w9 (wR w9 x0 0) 0) <|
            bd (f_X0_columnOf (wR w9 x0 0) x2 w9) fun v17 w18 =>
            gd (isC w18 x1 6) <|
            gd (isC w18 x0 5) <|
            gd (isC w18 (wR w (wR w x0 1) x3.toNatClampNeg) 6) <|
            gd (isC w18 (wR w18 x0 0) 0) <|
            bd (f_X0_columnOf (wR w18 x0 0) (wI w18 (wR w (wR w x0 1) x3.toNatClampNeg) 6) w18) fun v24 w25 =>
            gd (isC w25 (wR w (wR w x0 1) x3.toNatClampNeg) 6) <|
            bd (f_X5_between v17 (wI w18 x1 3) v24 (wI w25 (wR w (wR w x0 1) x3.toNatClampNeg) 3) w25) fun v29 w30 =>
            gd (isC w30 x0 5) <|
            if (wI w30 x0 3) ≤ v29 then
              f_X5_isTooNear_l2 n x0 x1 x2 (x3 + (1 : Int32)) w30
            else
              gd (isC w30 (wR w30 x0 0) 0) <|
              bd (f_X0_lineOf (wR w30 x0 0) x2 w30) fun v34 w35 =>
              gd (isC w35 x1 6) <|
              gd (isC w35 x0 5) <|
              gd (isC w35 (wR w (wR w x0 1) x3.toNatClampNeg) 6) <|
              gd (isC w35 (wR w35 x0 0) 0) <|
              bd (f_X0_lineOf (wR w35 x0 0) (wI w35 (wR w (wR w x0 1) x3.toNatClampNeg) 6) w35) fun v41 w42 =>
              gd (isC w42 (wR w (wR w x0 1) x3.toNatClampNeg) 6) <|
              bd (f_X5_between v34 (wI w35 x1 4) v41 (wI w42 (wR w (wR w x0 1) x3.toNatClampNeg) 4) w42) fun v46 w47 =>
              gd (isC w47 x0 5) <|
              if (wI w47 x0 3) ≤ v46 then
                f_X5_isTooNear_l2 n x0 x1 x2 (x3 + (1 : Int32)) w47
              else
                some ((1 : Int32), w47)
theorem f_X5_isTooNear_l2_s (n : Nat) (x0 : Nat) (x1 : Nat) (x2 : Int32) (x3 : Int32) (w : xSt) : f_X5_isTooNear_l2 (n + 1) x0 x1 x2 x3 w = (
    gd (isC w x0 5) <|
    if (wI w x0 2) ≤ x3 then
      some ((0 : Int32), w)
    else
      gd (isC w (wR w x0 1) 24) <|
      gd (inR x3 (wN w (wR w x0 1))) <|
      gd ((wR w (wR w x0 1) x3.toNatClampNeg) ≤ wZ w) <|
      gd (x1 ≤ wZ w) <|
      if (wR w (wR w x0 1) x3.toNatClampNeg) = x1 then
        f_X5_isTooNear_l2 n x0 x1 x2 (x3 + (1 : Int32)) w
      else
        gd (isC w (wR w (wR w x0 1) x3.toNatClampNeg) 6) <|
        bd (f_X6_isLaid (wR w (wR w x0 1) x3.toNatClampNeg) w) fun v8 w9 =>
        if v8 = 0 then
          f_X5_isTooNear_l2 n x0 x1 x2 (x3 + (1 : Int32)) w9
        else
          gd (isC w9 (wR w (wR w x0 1) x3.toNatClampNeg) 6) <|
          gd (isC w9 x1 6) <|
          if (wI w9 (wR w (wR w x0 1) x3.toNatClampNeg) 2) = (wI w9 x1 2) then
            f_X5_isTooNear_l2 n x0 x1 x2 (x3 + (1 : Int32)) w9
          else
            gd (isC w9 x0 5) <|
            gd (isC w9 (wR w9 x0 0) 0) <|
            bd (f_X0_columnOf (wR w9 x0 0) x2 w9) fun v17 w18 =>
            gd (isC w18 x1 6) <|
            gd (isC w18 x0 5) <|
            gd (isC w18 (wR w (wR w x0 1) x3.toNatClampNeg) 6) <|
            gd (isC w18 (wR w18 x0 0) 0) <|
            bd (f_X0_columnOf (wR w18 x0 0) (wI w18 (wR w (wR w x0 1) x3.toNatClampNeg) 6) w18) fun v24 w25 =>
            gd (isC w25 (wR w (wR w x0 1) x3.toNatClampNeg) 6) <|
            bd (f_X5_between v17 (wI w18 x1 3) v24 (wI w25 (wR w (wR w x0 1) x3.toNatClampNeg) 3) w25) fun v29 w30 =>
            gd (isC w30 x0 5) <|
            if (wI w30 x0 3) ≤ v29 then
              f_X5_isTooNear_l2 n x0 x1 x2 (x3 + (1 : Int32)) w30
            else
              gd (isC w30 (wR w30 x0 0) 0) <|
              bd (f_X0_lineOf (wR w30 x0 0) x2 w30) fun v34 w35 =>
              gd (isC w35 x1 6) <|
              gd (isC w35 x0 5) <|
              gd (isC w35 (wR w (wR w x0 1) x3.toNatClampNeg) 6) <|
              gd (isC w35 (wR w35 x0 0) 0) <|
              bd (f_X0_lineOf (wR w35 x0 0) (wI w35 (wR w (wR w x0 1) x3.toNatClampNeg) 6) w35) fun v41 w42 =>
              gd (isC w42 (wR w (wR w x0 1) x3.toNatClampNeg) 6) <|
              bd (f_X5_between v34 (wI w35 x1 4) v41 (wI w42 (wR w (wR w x0 1) x3.toNatClampNeg) 4) w42) fun v46 w47 =>
              gd (isC w47 x0 5) <|
              if (wI w47 x0 3) ≤ v46 then
                f_X5_isTooNear_l2 n x0 x1 x2 (x3 + (1 : Int32)) w47
              else
                some ((1 : Int32), w47)) := rfl
/-- WorldHall$Plan.isTooNear(LWorldHall$Stand;I)Z -/
def f_X5_isTooNear (x0 : Nat) (x1 : Nat) (x2 : Int32) (w : xSt) : Option (Int32 × xSt) :=
  f_X5_isTooNear_l2 xFu x0 x1 x2 (0 : Int32) w
/-- WorldHall$Stand.isAkin(LWorldHall$Stand;)Z -/
def f_X6_isAkin (x0 : Nat) (x1 : Nat) (w : xSt) : Option (Int32 × xSt) :=
  gd (isC w x0 6) <|
  gd (isC w x1 6) <|
  if (wI w x0 1) = (wI w x1 1) then
    if (wI w x0 2) = (wI w x1 2) then
      some ((1 : Int32), w)
    else
      some ((0 : Int32), w)
  else
    some ((0 : Int32), w)
def f_X5_hasKinLaid_l2 : Nat → Nat → Nat → Int32 → Int32 → xSt → Option (Int32 × xSt)
  | 0 => fun _ _ _ _ _ => none
  | n + 1 => fun x0 x1 x2 x3 w =>
    gd (isC w x0 5) <|
    if (wI w x0 2) ≤ x3 then
      some ((0 : Int32), w)
    else
      gd (isC w (wR w x0 1) 24) <|
      gd (inR x3 (wN w (wR w x0 1))) <|
      gd ((wR w (wR w x0 1) x3.toNatClampNeg) ≤ wZ w) <|
      gd (x1 ≤ wZ w) <|
      if (wR w (wR w x0 1) x3.toNatClampNeg) = x1 then
        f_X5_hasKinLaid_l2 n x0 x1 x2 (x3 + (1 : Int32)) w
      else
        gd (isC w (wR w (wR w x0 1) x3.toNatClampNeg) 6) <|
        bd (f_X6_isLaid (wR w (wR w x0 1) x3.toNatClampNeg) w) fun v8 w9 =>
        if v8 = 0 then
          f_X5_hasKinLaid_l2 n x0 x1 x2 (x3 + (1 : Int32)) w9
        else
          gd (isC w9 (wR w (wR w x0 1) x3.toNatClampNeg) 6) <|
          bd (f_X6_isAkin (wR w (wR w x0 1) x3.toNatClampNeg) x1 w9) fun v13 w14 =>
          if v13 = 0 then
            f_X5_hasKinLaid_l2 n x0 x1 x2 (x3 + (1 : Int32)) w14
          else
            if x2 = 0 then
              some ((1 : Int32), w14)
            else
              gd (isC w14 (wR w (wR w x0 1) x3.toNatClampNeg) 6) <|
              if (wI w14 (wR w (wR w x0 1) x3.toNatClampNeg) 0) = (4 : Int32) then
                some ((1 : Int32), w14)
              else
                f_X5_hasKinLaid_l2 n x0 x1 x2 (x3 + (1 : Int32)) w14
theorem f_X5_hasKinLaid_l2_s (n : Nat) (x0 : Nat) (x1 : Nat) (x2 : Int32) (x3 : Int32) (w : xSt) : f_X5_hasKinLaid_l2 (n + 1) x0 x1 x2 x3 w = (
    gd (isC w x0 5) <|
    if (wI w x0 2) ≤ x3 then
      some ((0 : Int32), w)
    else
      gd (isC w (wR w x0 1) 24) <|
      gd (inR x3 (wN w (wR w x0 1))) <|
      gd ((wR w (wR w x0 1) x3.toNatClampNeg) ≤ wZ w) <|
      gd (x1 ≤ wZ w) <|
      if (wR w (wR w x0 1) x3.toNatClampNeg) = x1 then
        f_X5_hasKinLaid_l2 n x0 x1 x2 (x3 + (1 : Int32)) w
      else
        gd (isC w (wR w (wR w x0 1) x3.toNatClampNeg) 6) <|
        bd (f_X6_isLaid (wR w (wR w x0 1) x3.toNatClampNeg) w) fun v8 w9 =>
        if v8 = 0 then
          f_X5_hasKinLaid_l2 n x0 x1 x2 (x3 + (1 : Int32)) w9
        else
          gd (isC w9 (wR w (wR w x0 1) x3.toNatClampNeg) 6) <|
          bd (f_X6_isAkin (wR w (wR w x0 1) x3.toNatClampNeg) x1 w9) fun v13 w14 =>
          if v13 = 0 then
            f_X5_hasKinLaid_l2 n x0 x1 x2 (x3 + (1 : Int32)) w14
          else
            if x2 = 0 then
              some ((1 : Int32), w14)
            else
              gd (isC w14 (wR w (wR w x0 1) x3.toNatClampNeg) 6) <|
              if (wI w14 (wR w (wR w x0 1) x3.toNatClampNeg) 0) = (4 : Int32) then
                some ((1 : Int32), w14)
              else
                f_X5_hasKinLaid_l2 n x0 x1 x2 (x3 + (1 : Int32)) w14) := rfl
/-- WorldHall$Plan.hasKinLaid(LWorldHall$Stand;Z)Z -/
def f_X5_hasKinLaid (x0 : Nat) (x1 : Nat) (x2 : Int32) (w : xSt) : Option (Int32 × xSt) :=
  f_X5_hasKinLaid_l2 xFu x0 x1 x2 (0 : Int32) w
/-- WorldHall$Plan.hasItsNeed(LWorldHall$Stand;J)Z -/
def f_X5_hasItsNeed (x0 : Nat) (x1 : Nat) (x2 : Int64) (w : xSt) : Option (Int32 × xSt) :=
  gd (isC w x1 6) <|
  if (wI w x1 0) = (1 : Int32) then
    gd (isC w x0 5) <|
    gd (isC w (wR w x0 0) 0) <|
    if (lg_cmp (x2 &&& (wL w (wR w x0 0) 5)) (0 : Int64)) = 0 then
      some ((0 : Int32), w)
    else
      some ((1 : Int32), w)
  else
    if (wI w x1 0) = (2 : Int32) then
      gd (isC w x0 5) <|
      gd (isC w (wR w x0 0) 0) <|
      bd (f_X0_beside (wR w x0 0) x2 w) fun v8 w9 =>
      gd (isC w9 x0 5) <|
      gd (isC w9 (wR w9 x0 0) 0) <|
      gd (isC w9 (wR w9 (wR w9 x0 0) 6) 21) <|
      gd (inR (2 : Int32) (wN w9 (wR w9 (wR w9 x0 0) 6))) <|
      if (lg_cmp (v8 &&& (wL w9 (wR w9 (wR w9 x0 0) 6) (2 : Int32).toNatClampNeg)) (0 : Int64)) = 0 then
        some ((0 : Int32), w9)
      else
        some ((1 : Int32), w9)
    else
      if (wI w x1 0) = (3 : Int32) then
        gd (isC w x0 5) <|
        gd (isC w (wR w x0 0) 0) <|
        bd (f_X0_beside (wR w x0 0) x2 w) fun v19 w20 =>
        gd (isC w20 x0 5) <|
        gd (isC w20 (wR w20 x0 0) 0) <|
        gd (isC w20 (wR w20 (wR w20 x0 0) 6) 21) <|
        gd (inR (3 : Int32) (wN w20 (wR w20 (wR w20 x0 0) 6))) <|
        if (lg_cmp (v19 &&& (wL w20 (wR w20 (wR w20 x0 0) 6) (3 : Int32).toNatClampNeg)) (0 : Int64)) = 0 then
          some ((0 : Int32), w20)
        else
          some ((1 : Int32), w20)
      else
        if (wI w x1 0) = (4 : Int32) then
          gd (isC w x0 5) <|
          bd (f_X5_hasKinLaid x0 x1 (0 : Int32) w) fun v29 w30 =>
          if v29 = 0 then
            some ((1 : Int32), w30)
          else
            some ((0 : Int32), w30)
        else
          some ((1 : Int32), w)

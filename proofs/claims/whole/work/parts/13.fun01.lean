/-- WorldHall$Plan.hindrance(LWorldHall$Stand;I)I -/
def f_X5_hindrance (x0 : Nat) (x1 : Nat) (x2 : Int32) (w : xSt) : Option (Int32 × xSt) :=
  gd (isC w x0 5) <|
  gd (isC w x1 6) <|
  gd (isC w (wR w x0 0) 0) <|
  bd (f_X0_area (wR w x0 0) x2 (wI w x1 3) (wI w x1 4) w) fun v3 w4 =>
  if (lg_cmp v3 (0 : Int64)) = 0 then
    some ((1 : Int32), w4)
  else
    gd (isC w4 x0 5) <|
    gd (isC w4 (wR w4 x0 0) 0) <|
    gd (isC w4 (wR w4 (wR w4 x0 0) 6) 21) <|
    gd (inR (0 : Int32) (wN w4 (wR w4 (wR w4 x0 0) 6))) <|
    if (lg_cmp (v3 &&& ((wL w4 (wR w4 (wR w4 x0 0) 6) (0 : Int32).toNatClampNeg) ^^^ (-1 : Int64))) (0 : Int64)) = 0 then
      bd (f_X5_covered x0 x1 w4) fun v13 w14 =>
      if (lg_cmp (v3 &&& v13) (0 : Int64)) = 0 then
        gd (isC w14 x0 5) <|
        bd (f_X5_isTooNear x0 x1 x2 w14) fun v17 w18 =>
        if v17 = 0 then
          gd (isC w18 x0 5) <|
          gd (isC w18 x1 6) <|
          gd (isC w18 (wR w18 x0 0) 0) <|
          bd (f_X0_carries (wR w18 x0 0) v3 (wI w18 x1 5) w18) fun v24 w25 =>
          if v24 = 0 then
            some ((5 : Int32), w25)
          else
            gd (isC w25 x0 5) <|
            bd (f_X5_hasItsNeed x0 x1 v3 w25) fun v29 w30 =>
            if v29 = 0 then
              some ((6 : Int32), w30)
            else
              gd (isC w30 x0 5) <|
              bd (f_X5_hasKinLaid x0 x1 (1 : Int32) w30) fun v34 w35 =>
              if v34 = 0 then
                some ((0 : Int32), w35)
              else
                some ((7 : Int32), w35)
        else
          some ((4 : Int32), w18)
      else
        some ((3 : Int32), w14)
    else
      some ((2 : Int32), w4)
/-- java/lang/Math.abs(I)I -/
def f_J9_abs_0f7a4 (x0 : Int32) (w : xSt) : Option (Int32 × xSt) :=
  if 0 ≤ x0 then
    some (x0, w)
  else
    some (-x0, w)
/-- WorldHall$Plan.distance(II)I -/
def f_X5_distance (x0 : Nat) (x1 : Int32) (x2 : Int32) (w : xSt) : Option (Int32 × xSt) :=
  gd (isC w x0 5) <|
  gd (isC w (wR w x0 0) 0) <|
  bd (f_X0_columnOf (wR w x0 0) x1 w) fun v2 w3 =>
  gd (isC w3 x0 5) <|
  gd (isC w3 (wR w3 x0 0) 0) <|
  bd (f_X0_columnOf (wR w3 x0 0) x2 w3) fun v7 w8 =>
  bd (f_J9_abs_0f7a4 (v2 - v7) w8) fun v11 w12 =>
  gd (isC w12 x0 5) <|
  gd (isC w12 (wR w12 x0 0) 0) <|
  bd (f_X0_lineOf (wR w12 x0 0) x1 w12) fun v15 w16 =>
  gd (isC w16 x0 5) <|
  gd (isC w16 (wR w16 x0 0) 0) <|
  bd (f_X0_lineOf (wR w16 x0 0) x2 w16) fun v20 w21 =>
  bd (f_J9_abs_0f7a4 (v15 - v20) w21) fun v24 w25 =>
  some (v11 + v24, w25)
def f_X6_tiesTo_b16 (x0 : Nat) (x1 : Nat) (s0 : Int32) (w : xSt) : Option (Int32 × xSt) :=
  gd (isC w x0 6) <|
  gd (isC w x1 6) <|
  if (wI w x0 1) = (wI w x1 1) then
    some (s0 + (1 : Int32), w)
  else
    some (s0 + (0 : Int32), w)
/-- WorldHall$Stand.tiesTo(LWorldHall$Stand;)I -/
def f_X6_tiesTo (x0 : Nat) (x1 : Nat) (w : xSt) : Option (Int32 × xSt) :=
  gd (isC w x0 6) <|
  gd (isC w x1 6) <|
  if (wI w x0 2) = (wI w x1 2) then
    f_X6_tiesTo_b16 x0 x1 (1 : Int32) w
  else
    f_X6_tiesTo_b16 x0 x1 (0 : Int32) w
def f_X5_shareAt_l5 : Nat → Nat → Nat → Int32 → Int32 → Int32 → xSt → Option (Int32 × xSt)
  | 0 => fun _ _ _ _ _ _ => none
  | n + 1 => fun x0 x1 x2 x3 x4 w =>
    gd (isC w x0 5) <|
    if (wI w x0 2) ≤ x4 then
      some (x3, w)
    else
      gd (isC w (wR w x0 1) 24) <|
      gd (inR x4 (wN w (wR w x0 1))) <|
      gd ((wR w (wR w x0 1) x4.toNatClampNeg) ≤ wZ w) <|
      gd (x1 ≤ wZ w) <|
      if (wR w (wR w x0 1) x4.toNatClampNeg) = x1 then
        f_X5_shareAt_l5 n x0 x1 x2 x3 (x4 + (1 : Int32)) w
      else
        gd (isC w (wR w (wR w x0 1) x4.toNatClampNeg) 6) <|
        bd (f_X6_isLaid (wR w (wR w x0 1) x4.toNatClampNeg) w) fun v8 w9 =>
        if v8 = 0 then
          f_X5_shareAt_l5 n x0 x1 x2 x3 (x4 + (1 : Int32)) w9
        else
          gd (isC w9 (wR w (wR w x0 1) x4.toNatClampNeg) 6) <|
          gd (isC w9 x0 5) <|
          bd (f_X5_distance x0 x2 (wI w9 (wR w (wR w x0 1) x4.toNatClampNeg) 6) w9) fun v14 w15 =>
          gd (isC w15 x1 6) <|
          bd (f_X6_tiesTo x1 (wR w (wR w x0 1) x4.toNatClampNeg) w15) fun v18 w19 =>
          f_X5_shareAt_l5 n x0 x1 x2 (x3 + (v14 * v18)) (x4 + (1 : Int32)) w19
theorem f_X5_shareAt_l5_s (n : Nat) (x0 : Nat) (x1 : Nat) (x2 : Int32) (x3 : Int32) (x4 : Int32) (w : xSt) : f_X5_shareAt_l5 (n + 1) x0 x1 x2 x3 x4 w = (
    gd (isC w x0 5) <|
    if (wI w x0 2) ≤ x4 then
      some (x3, w)
    else
      gd (isC w (wR w x0 1) 24) <|
      gd (inR x4 (wN w (wR w x0 1))) <|
      gd ((wR w (wR w x0 1) x4.toNatClampNeg) ≤ wZ w) <|
      gd (x1 ≤ wZ w) <|
      if (wR w (wR w x0 1) x4.toNatClampNeg) = x1 then
        f_X5_shareAt_l5 n x0 x1 x2 x3 (x4 + (1 : Int32)) w
      else
        gd (isC w (wR w (wR w x0 1) x4.toNatClampNeg) 6) <|
        bd (f_X6_isLaid (wR w (wR w x0 1) x4.toNatClampNeg) w) fun v8 w9 =>
        if v8 = 0 then
          f_X5_shareAt_l5 n x0 x1 x2 x3 (x4 + (1 : Int32)) w9
        else
          gd (isC w9 (wR w (wR w x0 1) x4.toNatClampNeg) 6) <|
          gd (isC w9 x0 5) <|
          bd (f_X5_distance x0 x2 (wI w9 (wR w (wR w x0 1) x4.toNatClampNeg) 6) w9) fun v14 w15 =>
          gd (isC w15 x1 6) <|
          bd (f_X6_tiesTo x1 (wR w (wR w x0 1) x4.toNatClampNeg) w15) fun v18 w19 =>
          f_X5_shareAt_l5 n x0 x1 x2 (x3 + (v14 * v18)) (x4 + (1 : Int32)) w19) := rfl
/-- WorldHall$Plan.shareAt(LWorldHall$Stand;I)I -/
def f_X5_shareAt (x0 : Nat) (x1 : Nat) (x2 : Int32) (w : xSt) : Option (Int32 × xSt) :=
  f_X5_shareAt_l5 xFu x0 x1 x2 (0 : Int32) (0 : Int32) w
def f_X5_wholePrice_l4 : Nat → Nat → Int32 → Int32 → xSt → Option (Int32 × xSt)
  | 0 => fun _ _ _ _ => none
  | n + 1 => fun x0 x1 x2 w =>
    gd (isC w x0 5) <|
    if (wI w x0 2) ≤ x2 then
      some (x1 / (2 : Int32), w)
    else
      gd (isC w (wR w x0 1) 24) <|
      gd (inR x2 (wN w (wR w x0 1))) <|
      gd (isC w (wR w (wR w x0 1) x2.toNatClampNeg) 6) <|
      bd (f_X6_isLaid (wR w (wR w x0 1) x2.toNatClampNeg) w) fun v5 w6 =>
      if v5 = 0 then
        f_X5_wholePrice_l4 n x0 x1 (x2 + (1 : Int32)) w6
      else
        gd (isC w6 x0 5) <|
        gd (isC w6 (wR w6 x0 1) 24) <|
        gd (inR x2 (wN w6 (wR w6 x0 1))) <|
        gd (isC w6 (wR w6 (wR w6 x0 1) x2.toNatClampNeg) 6) <|
        bd (f_X5_shareAt x0 (wR w6 (wR w6 x0 1) x2.toNatClampNeg) (wI w6 (wR w6 (wR w6 x0 1) x2.toNatClampNeg) 6) w6) fun v14 w15 =>
        f_X5_wholePrice_l4 n x0 (x1 + v14) (x2 + (1 : Int32)) w15
theorem f_X5_wholePrice_l4_s (n : Nat) (x0 : Nat) (x1 : Int32) (x2 : Int32) (w : xSt) : f_X5_wholePrice_l4 (n + 1) x0 x1 x2 w = (
    gd (isC w x0 5) <|
    if (wI w x0 2) ≤ x2 then
      some (x1 / (2 : Int32), w)
    else
      gd (isC w (wR w x0 1) 24) <|
      gd (inR x2 (wN w (wR w x0 1))) <|
      gd (isC w (wR w (wR w x0 1) x2.toNatClampNeg) 6) <|
      bd (f_X6_isLaid (wR w (wR w x0 1) x2.toNatClampNeg) w) fun v5 w6 =>
      if v5 = 0 then
        f_X5_wholePrice_l4 n x0 x1 (x2 + (1 : Int32)) w6
      else
        gd (isC w6 x0 5) <|
        gd (isC w6 (wR w6 x0 1) 24) <|
        gd (inR x2 (wN w6 (wR w6 x0 1))) <|
        gd (isC w6 (wR w6 (wR w6 x0 1) x2.toNatClampNeg) 6) <|
        bd (f_X5_shareAt x0 (wR w6 (wR w6 x0 1) x2.toNatClampNeg) (wI w6 (wR w6 (wR w6 x0 1) x2.toNatClampNeg) 6) w6) fun v14 w15 =>
        f_X5_wholePrice_l4 n x0 (x1 + v14) (x2 + (1 : Int32)) w15) := rfl
/-- WorldHall$Plan.wholePrice()I -/
def f_X5_wholePrice (x0 : Nat) (w : xSt) : Option (Int32 × xSt) :=
  f_X5_wholePrice_l4 xFu x0 (0 : Int32) (0 : Int32) w
def f_X5_cheaperCell_l18 : Nat → Nat → Nat → Int32 → Int32 → xSt → Option (Int32 × xSt)
  | 0 => fun _ _ _ _ _ => none
  | n + 1 => fun x0 x1 x2 x3 w =>
    gd (isC w x0 5) <|
    gd (isC w (wR w x0 0) 0) <|
    if (wI w (wR w x0 0) 2) ≤ x3 then
      some ((-1 : Int32), w)
    else
      bd (f_X5_shareAt x0 x1 x3 w) fun v10 w11 =>
      if x2 ≤ v10 then
        f_X5_cheaperCell_l18 n x0 x1 x2 (x3 + (1 : Int32)) w11
      else
        gd (isC w11 x0 5) <|
        bd (f_X5_hindrance x0 x1 x3 w11) fun v14 w15 =>
        if v14 = 0 then
          some (x3, w15)
        else
          f_X5_cheaperCell_l18 n x0 x1 x2 (x3 + (1 : Int32)) w15
theorem f_X5_cheaperCell_l18_s (n : Nat) (x0 : Nat) (x1 : Nat) (x2 : Int32) (x3 : Int32) (w : xSt) : f_X5_cheaperCell_l18 (n + 1) x0 x1 x2 x3 w = (
    gd (isC w x0 5) <|
    gd (isC w (wR w x0 0) 0) <|
    if (wI w (wR w x0 0) 2) ≤ x3 then
      some ((-1 : Int32), w)
    else
      bd (f_X5_shareAt x0 x1 x3 w) fun v10 w11 =>
      if x2 ≤ v10 then
        f_X5_cheaperCell_l18 n x0 x1 x2 (x3 + (1 : Int32)) w11
      else
        gd (isC w11 x0 5) <|
        bd (f_X5_hindrance x0 x1 x3 w11) fun v14 w15 =>
        if v14 = 0 then
          some (x3, w15)
        else
          f_X5_cheaperCell_l18 n x0 x1 x2 (x3 + (1 : Int32)) w15) := rfl
/-- WorldHall$Plan.cheaperCell(LWorldHall$Stand;)I -/
def f_X5_cheaperCell (x0 : Nat) (x1 : Nat) (w : xSt) : Option (Int32 × xSt) :=
  gd (isC w x1 6) <|
  gd (isC w x0 5) <|
  bd (f_X5_shareAt x0 x1 (wI w x1 6) w) fun v2 w3 =>
  if v2 = 0 then
    some ((-1 : Int32), w3)
  else
    f_X5_cheaperCell_l18 xFu x0 x1 v2 (0 : Int32) w3
def f_X5_moveFirst_b36 (k2 : Nat → Int32 → xSt → Option (Int32 × xSt)) (x0 : Nat) (x1 : Int32) (s0 : Int32) (w : xSt) : Option (Int32 × xSt) :=
  if s0 = (-1 : Int32) then
    k2 x0 (x1 + (1 : Int32)) w
  else
    gd (isC w x0 5) <|
    gd (isC w (wR w x0 1) 24) <|
    gd (inR x1 (wN w (wR w x0 1))) <|
    bd (f_X5_put x0 (wR w (wR w x0 1) x1.toNatClampNeg) s0 w) fun _ w20 =>
    some ((1 : Int32), w20)
def f_X5_moveFirst_l2 : Nat → Nat → Int32 → xSt → Option (Int32 × xSt)
  | 0 => fun _ _ _ => none
  | n + 1 => fun x0 x1 w =>
    gd (isC w x0 5) <|
    if (wI w x0 2) ≤ x1 then
      some ((0 : Int32), w)
    else
      gd (isC w (wR w x0 1) 24) <|
      gd (inR x1 (wN w (wR w x0 1))) <|
      gd (isC w (wR w (wR w x0 1) x1.toNatClampNeg) 6) <|
      bd (f_X6_isLaid (wR w (wR w x0 1) x1.toNatClampNeg) w) fun v5 w6 =>
      if v5 = 0 then
        f_X5_moveFirst_b36 (f_X5_moveFirst_l2 n) x0 x1 (-1 : Int32) w6
      else
        gd (isC w6 x0 5) <|
        gd (isC w6 (wR w6 x0 1) 24) <|
        gd (inR x1 (wN w6 (wR w6 x0 1))) <|
        bd (f_X5_cheaperCell x0 (wR w6 (wR w6 x0 1) x1.toNatClampNeg) w6) fun v13 w14 =>
        f_X5_moveFirst_b36 (f_X5_moveFirst_l2 n) x0 x1 v13 w14
theorem f_X5_moveFirst_l2_s (n : Nat) (x0 : Nat) (x1 : Int32) (w : xSt) : f_X5_moveFirst_l2 (n + 1) x0 x1 w = (
    gd (isC w x0 5) <|
    if (wI w x0 2) ≤ x1 then
      some ((0 : Int32), w)
    else
      gd (isC w (wR w x0 1) 24) <|
      gd (inR x1 (wN w (wR w x0 1))) <|
      gd (isC w (wR w (wR w x0 1) x1.toNatClampNeg) 6) <|
      bd (f_X6_isLaid (wR w (wR w x0 1) x1.toNatClampNeg) w) fun v5 w6 =>
      if v5 = 0 then
        f_X5_moveFirst_b36 (f_X5_moveFirst_l2 n) x0 x1 (-1 : Int32) w6
      else
        gd (isC w6 x0 5) <|
        gd (isC w6 (wR w6 x0 1) 24) <|
        gd (inR x1 (wN w6 (wR w6 x0 1))) <|
        bd (f_X5_cheaperCell x0 (wR w6 (wR w6 x0 1) x1.toNatClampNeg) w6) fun v13 w14 =>
        f_X5_moveFirst_b36 (f_X5_moveFirst_l2 n) x0 x1 v13 w14) := rfl
/-- WorldHall$Plan.moveFirst()Z -/
def f_X5_moveFirst (x0 : Nat) (w : xSt) : Option (Int32 × xSt) :=
  f_X5_moveFirst_l2 xFu x0 (0 : Int32) w
/-- WorldHall$Stand.<init>(IIIIII)V -/
def f_X6_init (x0 : Nat) (x1 : Int32) (x2 : Int32) (x3 : Int32) (x4 : Int32) (x5 : Int32) (x6 : Int32) (w : xSt) : Option (Unit × xSt) :=
  gd (isC w x0 6) <|
  lt1 (sI w x0 0 x1) fun w2 =>
  lt1 (sI w2 x0 1 x2) fun w5 =>
  lt1 (sI w5 x0 2 x3) fun w8 =>
  lt1 (sI w8 x0 3 x4) fun w11 =>
  lt1 (sI w11 x0 4 x5) fun w14 =>
  lt1 (sI w14 x0 5 x6) fun w17 =>
  lt1 (sI w17 x0 6 (-1 : Int32)) fun w20 =>
  lt1 (sI w20 x0 9 (-1 : Int32)) fun w23 =>
  some ((), w23)
/-- WorldHall$Stand.isSold()Z -/
def f_X6_isSold (x0 : Nat) (w : xSt) : Option (Int32 × xSt) :=
  gd (isC w x0 6) <|
  if (wI w x0 9) = (-1 : Int32) then
    some ((0 : Int32), w)
  else
    some ((1 : Int32), w)
/-- WorldHall$Stand.lift()V -/
def f_X6_lift (x0 : Nat) (w : xSt) : Option (Unit × xSt) :=
  gd (isC w x0 6) <|
  lt1 (sI w x0 6 (-1 : Int32)) fun w2 =>
  lt1 (sL w2 x0 7 (0 : Int64)) fun w5 =>
  some ((), w5)
/-- WorldHall$Tape.<init>()V -/
def f_X7_init (x0 : Nat) (w : xSt) : Option (Unit × xSt) :=
  gd (isC w x0 7) <|
  gd (wZ w + 1 < 1000) <|
  lt1 (wZ w + 1) fun q3 =>
  lt1 (nA w 22 (120 : Int32).toNatClampNeg) fun w5 =>
  lt1 (sR w5 x0 0 q3) fun w9 =>
  some ((), w9)
/-- WorldHall$Tape.hasRoom(I)Z -/
def f_X7_hasRoom (x0 : Nat) (x1 : Int32) (w : xSt) : Option (Int32 × xSt) :=
  gd (isC w x0 7) <|
  if (120 : Int32) < ((wI w x0 1) + x1) then
    some ((0 : Int32), w)
  else
    some ((1 : Int32), w)
def f_X7_add_l5 : Nat → Nat → Int64 → Int32 → xSt → Option (Unit × xSt)
  | 0 => fun _ _ _ _ => none
  | n + 1 => fun x0 x1 x4 w =>
    if x4 < 0 then
      some ((), w)
    else
      gd (isC w x0 7) <|
      gd (isC w (wR w x0 0) 22) <|
      gd (inR (wI w x0 1) (wN w (wR w x0 0))) <|
      lt1 (sI w (wR w x0 0) (wI w x0 1).toNatClampNeg (vp_nar .byte (((lushr x1 ((8 : Int32) * x4)).toInt32).toInt8.toInt32))) fun w5 =>
      lt1 (sI w5 x0 1 ((wI w5 x0 1) + (1 : Int32))) fun w8 =>
      f_X7_add_l5 n x0 x1 (x4 + (-1 : Int32)) w8
theorem f_X7_add_l5_s (n : Nat) (x0 : Nat) (x1 : Int64) (x4 : Int32) (w : xSt) : f_X7_add_l5 (n + 1) x0 x1 x4 w = (
    if x4 < 0 then
      some ((), w)
    else
      gd (isC w x0 7) <|
      gd (isC w (wR w x0 0) 22) <|
      gd (inR (wI w x0 1) (wN w (wR w x0 0))) <|
      lt1 (sI w (wR w x0 0) (wI w x0 1).toNatClampNeg (vp_nar .byte (((lushr x1 ((8 : Int32) * x4)).toInt32).toInt8.toInt32))) fun w5 =>
      lt1 (sI w5 x0 1 ((wI w5 x0 1) + (1 : Int32))) fun w8 =>
      f_X7_add_l5 n x0 x1 (x4 + (-1 : Int32)) w8) := rfl
/-- WorldHall$Tape.add(JI)V -/
def f_X7_add (x0 : Nat) (x1 : Int64) (x3 : Int32) (w : xSt) : Option (Unit × xSt) :=
  f_X7_add_l5 xFu x0 x1 (x3 - (1 : Int32)) w
/-- WorldHall$Tape.empty()V -/
def f_X7_empty (x0 : Nat) (w : xSt) : Option (Unit × xSt) :=
  gd (isC w x0 7) <|
  lt1 (sI w x0 1 (0 : Int32)) fun w2 =>
  some ((), w2)
/-- WorldHall$Tape.isAtEnd()Z -/
def f_X7_isAtEnd (x0 : Nat) (w : xSt) : Option (Int32 × xSt) :=
  gd (isC w x0 7) <|
  if (wI w x0 2) < (wI w x0 1) then
    some ((0 : Int32), w)
  else
    some ((1 : Int32), w)
/-- WorldHall$Tape.nameOf(I)Ljava/lang/String; -/
def f_X7_nameOf (x0 : Int32) (w : xSt) : Option (Nat × xSt) :=
  if x0 = (2 : Int32) then
    some (1, w)
  else
    if x0 = (3 : Int32) then
      some (0, w)
    else
      some (2, w)
/-- java/lang/String.isLatin1()Z -/
def f_J0_isLatin1_aae02 (x0 : Nat) (w : xSt) : Option (Int32 × xSt) :=
  if (1 : Int32) = 0 then
    some ((0 : Int32), w)
  else
    gd (x0 < 7) <|
    if (0 : Int32) = 0 then
      some ((1 : Int32), w)
    else
      some ((0 : Int32), w)
/-- jdk/internal/util/Preconditions.checkIndex(IILjava/util/function/BiFunction;)I -/
def f_J3_checkIndex_8e157 (x0 : Int32) (x1 : Int32) (w : xSt) : Option (Int32 × xSt) :=
  if x0 < 0 then
    none
  else
    if x0 < x1 then
      some (x0, w)
    else
      none
/-- java/lang/String.checkIndex(II)V -/
def f_J0_checkIndex_df160 (x0 : Int32) (x1 : Int32) (w : xSt) : Option (Unit × xSt) :=
  bd (f_J3_checkIndex_8e157 x0 x1 w) fun v1 w2 =>
  some ((), w2)
/-- java/lang/StringLatin1.charAt([BI)C -/
def f_J1_charAt_3b067 (x0 : Nat) (x1 : Int32) (w : xSt) : Option (Int32 × xSt) :=
  gd (x0 < 7) <|
  bd (f_J0_checkIndex_df160 x1 (Int32.ofNat (xlen.getD x0 0)) w) fun _ w2 =>
  gd (x0 < 7) <|
  gd (inR x1 (xlen.getD x0 0)) <|
  gd (vp_nar .char (((((xbyt.getD x0 []).getD x1.toNatClampNeg 0) &&& (255 : Int32)).toUInt32 % 65536).toInt32) = (((((xbyt.getD x0 []).getD x1.toNatClampNeg 0) &&& (255 : Int32)).toUInt32 % 65536).toInt32)) <|
  some (((((xbyt.getD x0 []).getD x1.toNatClampNeg 0) &&& (255 : Int32)).toUInt32 % 65536).toInt32, w2)
/-- java/lang/String.charAt(I)C -/
def f_J0_charAt_5068e (x0 : Nat) (x1 : Int32) (w : xSt) : Option (Int32 × xSt) :=
  gd (x0 < 7) <|
  bd (f_J0_isLatin1_aae02 x0 w) fun v1 w2 =>
  if v1 = 0 then
    gd (x0 < 7) <|
    none
  else
    gd (x0 < 7) <|
    bd (f_J1_charAt_3b067 x0 x1 w2) fun v8 w9 =>
    gd (vp_nar .char v8 = v8) <|
    some (v8, w9)
def f_X7_medalBegunHere_l2 : Nat → Nat → Int32 → xSt → Option (Int32 × xSt)
  | 0 => fun _ _ _ => none
  | n + 1 => fun x0 x2 w =>
    if x2 ≤ 0 then
      some ((0 : Int32), w)
    else
      gd (isC w x0 7) <|
      bd (f_X7_isAtEnd x0 w) fun v2 w3 =>
      if v2 = 0 then
        gd (isC w3 x0 7) <|
        gd (isC w3 (wR w3 x0 0) 22) <|
        gd (inR (wI w3 x0 2) (wN w3 (wR w3 x0 0))) <|
        bd (f_X7_nameOf x2 w3) fun v10 w11 =>
        gd (v10 < 7) <|
        bd (f_J0_charAt_5068e v10 (0 : Int32) w11) fun v13 w14 =>
        if (wI w3 (wR w3 x0 0) (wI w3 x0 2).toNatClampNeg) = v13 then
          some (x2, w14)
        else
          f_X7_medalBegunHere_l2 n x0 (x2 + (-1 : Int32)) w14
      else
        f_X7_medalBegunHere_l2 n x0 (x2 + (-1 : Int32)) w3
theorem f_X7_medalBegunHere_l2_s (n : Nat) (x0 : Nat) (x2 : Int32) (w : xSt) : f_X7_medalBegunHere_l2 (n + 1) x0 x2 w = (
    if x2 ≤ 0 then
      some ((0 : Int32), w)
    else
      gd (isC w x0 7) <|
      bd (f_X7_isAtEnd x0 w) fun v2 w3 =>
      if v2 = 0 then
        gd (isC w3 x0 7) <|
        gd (isC w3 (wR w3 x0 0) 22) <|
        gd (inR (wI w3 x0 2) (wN w3 (wR w3 x0 0))) <|
        bd (f_X7_nameOf x2 w3) fun v10 w11 =>
        gd (v10 < 7) <|
        bd (f_J0_charAt_5068e v10 (0 : Int32) w11) fun v13 w14 =>
        if (wI w3 (wR w3 x0 0) (wI w3 x0 2).toNatClampNeg) = v13 then
          some (x2, w14)
        else
          f_X7_medalBegunHere_l2 n x0 (x2 + (-1 : Int32)) w14
      else
        f_X7_medalBegunHere_l2 n x0 (x2 + (-1 : Int32)) w3) := rfl
/-- WorldHall$Tape.medalBegunHere(I)I -/
def f_X7_medalBegunHere (x0 : Nat) (x1 : Int32) (w : xSt) : Option (Int32 × xSt) :=
  f_X7_medalBegunHere_l2 xFu x0 x1 w
/-- java/lang/String.coder()B -/
def f_J0_coder_7d493 (x0 : Nat) (w : xSt) : Option (Int32 × xSt) :=
  if (1 : Int32) = 0 then
    gd ((1 : Int32) = 0 ∨ (1 : Int32) = 1) <|
    some ((1 : Int32), w)
  else
    gd (x0 < 7) <|
    gd ((0 : Int32) = 0 ∨ (0 : Int32) = 1) <|
    some ((0 : Int32), w)
/-- java/lang/String.length()I -/
def f_J0_length_8abf5 (x0 : Nat) (w : xSt) : Option (Int32 × xSt) :=
  gd (x0 < 7) <|
  gd (x0 < 7) <|
  gd (x0 < 7) <|
  bd (f_J0_coder_7d493 x0 w) fun v3 w4 =>
  some ((Int32.ofNat (xlen.getD x0 0)) >>> (v3 &&& 31), w4)
def f_X7_reads_l2 : Nat → Nat → Nat → Int32 → xSt → Option (Int32 × xSt)
  | 0 => fun _ _ _ _ => none
  | n + 1 => fun x0 x1 x2 w =>
    gd (x1 < 7) <|
    bd (f_J0_length_8abf5 x1 w) fun v1 w2 =>
    if v1 ≤ x2 then
      some ((1 : Int32), w2)
    else
      gd (isC w2 x0 7) <|
      bd (f_X7_isAtEnd x0 w2) fun v6 w7 =>
      if v6 = 0 then
        gd (isC w7 x0 7) <|
        gd (isC w7 (wR w7 x0 0) 22) <|
        gd (inR (wI w7 x0 2) (wN w7 (wR w7 x0 0))) <|
        gd (x1 < 7) <|
        bd (f_J0_charAt_5068e x1 x2 w7) fun v14 w15 =>
        if (wI w7 (wR w7 x0 0) (wI w7 x0 2).toNatClampNeg) = v14 then
          gd (isC w15 x0 7) <|
          lt1 (sI w15 x0 2 ((wI w15 x0 2) + (1 : Int32))) fun w20 =>
          f_X7_reads_l2 n x0 x1 (x2 + (1 : Int32)) w20
        else
          some ((0 : Int32), w15)
      else
        some ((0 : Int32), w7)
theorem f_X7_reads_l2_s (n : Nat) (x0 : Nat) (x1 : Nat) (x2 : Int32) (w : xSt) : f_X7_reads_l2 (n + 1) x0 x1 x2 w = (
    gd (x1 < 7) <|
    bd (f_J0_length_8abf5 x1 w) fun v1 w2 =>
    if v1 ≤ x2 then
      some ((1 : Int32), w2)
    else
      gd (isC w2 x0 7) <|
      bd (f_X7_isAtEnd x0 w2) fun v6 w7 =>
      if v6 = 0 then
        gd (isC w7 x0 7) <|
        gd (isC w7 (wR w7 x0 0) 22) <|
        gd (inR (wI w7 x0 2) (wN w7 (wR w7 x0 0))) <|
        gd (x1 < 7) <|
        bd (f_J0_charAt_5068e x1 x2 w7) fun v14 w15 =>
        if (wI w7 (wR w7 x0 0) (wI w7 x0 2).toNatClampNeg) = v14 then
          gd (isC w15 x0 7) <|
          lt1 (sI w15 x0 2 ((wI w15 x0 2) + (1 : Int32))) fun w20 =>
          f_X7_reads_l2 n x0 x1 (x2 + (1 : Int32)) w20
        else
          some ((0 : Int32), w15)
      else
        some ((0 : Int32), w7)) := rfl
/-- WorldHall$Tape.reads(Ljava/lang/String;)Z -/
def f_X7_reads (x0 : Nat) (x1 : Nat) (w : xSt) : Option (Int32 × xSt) :=
  f_X7_reads_l2 xFu x0 x1 (0 : Int32) w
/-- WorldHall$Tape.isDigitHere(C)Z -/
def f_X7_isDigitHere (x0 : Nat) (x1 : Int32) (w : xSt) : Option (Int32 × xSt) :=
  gd (isC w x0 7) <|
  bd (f_X7_isAtEnd x0 w) fun v1 w2 =>
  if v1 = 0 then
    gd (isC w2 x0 7) <|
    gd (isC w2 (wR w2 x0 0) 22) <|
    gd (inR (wI w2 x0 2) (wN w2 (wR w2 x0 0))) <|
    if (wI w2 (wR w2 x0 0) (wI w2 x0 2).toNatClampNeg) < (48 : Int32) then
      some ((0 : Int32), w2)
    else
      if x1 < (wI w2 (wR w2 x0 0) (wI w2 x0 2).toNatClampNeg) then
        some ((0 : Int32), w2)
      else
        some ((1 : Int32), w2)
  else
    some ((0 : Int32), w2)
def f_X7_readNumber_l4 : Nat → Nat → Int32 → Int32 → xSt → Option (Int32 × xSt)
  | 0 => fun _ _ _ _ => none
  | n + 1 => fun x0 x1 x2 w =>
    if (3 : Int32) ≤ x2 then
      some (x1, w)
    else
      gd (isC w x0 7) <|
      bd (f_X7_isDigitHere x0 (57 : Int32) w) fun v2 w3 =>
      if v2 = 0 then
        some (x1, w3)
      else
        bd (f_J9_max_7cf53 x1 (0 : Int32) w3) fun v7 w8 =>
        gd (isC w8 x0 7) <|
        gd (isC w8 (wR w8 x0 0) 22) <|
        gd (inR (wI w8 x0 2) (wN w8 (wR w8 x0 0))) <|
        lt1 (sI w8 x0 2 ((wI w8 x0 2) + (1 : Int32))) fun w13 =>
        f_X7_readNumber_l4 n x0 (((v7 * (10 : Int32)) + (wI w8 (wR w8 x0 0) (wI w8 x0 2).toNatClampNeg)) - (48 : Int32)) (x2 + (1 : Int32)) w13
theorem f_X7_readNumber_l4_s (n : Nat) (x0 : Nat) (x1 : Int32) (x2 : Int32) (w : xSt) : f_X7_readNumber_l4 (n + 1) x0 x1 x2 w = (
    if (3 : Int32) ≤ x2 then
      some (x1, w)
    else
      gd (isC w x0 7) <|
      bd (f_X7_isDigitHere x0 (57 : Int32) w) fun v2 w3 =>
      if v2 = 0 then
        some (x1, w3)
      else
        bd (f_J9_max_7cf53 x1 (0 : Int32) w3) fun v7 w8 =>
        gd (isC w8 x0 7) <|
        gd (isC w8 (wR w8 x0 0) 22) <|
        gd (inR (wI w8 x0 2) (wN w8 (wR w8 x0 0))) <|
        lt1 (sI w8 x0 2 ((wI w8 x0 2) + (1 : Int32))) fun w13 =>
        f_X7_readNumber_l4 n x0 (((v7 * (10 : Int32)) + (wI w8 (wR w8 x0 0) (wI w8 x0 2).toNatClampNeg)) - (48 : Int32)) (x2 + (1 : Int32)) w13) := rfl
/-- WorldHall$Tape.readNumber()I -/
def f_X7_readNumber (x0 : Nat) (w : xSt) : Option (Int32 × xSt) :=
  f_X7_readNumber_l4 xFu x0 (-1 : Int32) (0 : Int32) w
/-- WorldHall$Text.add(II)V -/
def f_X8_add (x0 : Nat) (x1 : Int32) (x2 : Int32) (w : xSt) : Option (Unit × xSt) :=
  gd (isC w x0 8) <|
  if (5 : Int32) ≤ (wI w x0 2) then
    some ((), w)
  else
    gd (isC w (wR w x0 0) 20) <|
    gd (inR (wI w x0 2) (wN w (wR w x0 0))) <|
    lt1 (sI w (wR w x0 0) (wI w x0 2).toNatClampNeg x1) fun w5 =>
    gd (isC w5 (wR w5 x0 1) 20) <|
    gd (inR (wI w5 x0 2) (wN w5 (wR w5 x0 1))) <|
    lt1 (sI w5 (wR w5 x0 1) (wI w5 x0 2).toNatClampNeg x2) fun w10 =>
    lt1 (sI w10 x0 2 ((wI w10 x0 2) + (1 : Int32))) fun w13 =>
    some ((), w13)
def f_X7_readMedals_l9 : Nat → Nat → Nat → Int32 → Int32 → xSt → Option (Int32 × xSt)
  | 0 => fun _ _ _ _ _ => none
  | n + 1 => fun x0 x1 x2 x3 w =>
    if (3 : Int32) ≤ x3 then
      some ((0 : Int32), w)
    else
      gd (isC w x0 7) <|
      bd (f_X7_medalBegunHere x0 x2 w) fun v5 w6 =>
      if v5 = 0 then
        some ((0 : Int32), w6)
      else
        bd (f_X7_nameOf v5 w6) fun v10 w11 =>
        gd (isC w11 x0 7) <|
        bd (f_X7_reads x0 v10 w11) fun v13 w14 =>
        if v13 = 0 then
          some ((0 : Int32), w14)
        else
          gd (isC w14 x0 7) <|
          bd (f_X7_reads x0 3 w14) fun v18 w19 =>
          if v18 = 0 then
            some ((0 : Int32), w19)
          else
            gd (isC w19 x0 7) <|
            bd (f_X7_readNumber x0 w19) fun v23 w24 =>
            if v23 = (-1 : Int32) then
              some ((0 : Int32), w24)
            else
              gd (isC w24 x1 8) <|
              bd (f_X8_add x1 v5 v23 w24) fun _ w28 =>
              gd (isC w28 x0 7) <|
              bd (f_X7_isAtEnd x0 w28) fun v31 w32 =>
              if v31 = 0 then
                if (v5 - (1 : Int32)) = 0 then
                  some ((0 : Int32), w32)
                else
                  gd (isC w32 x0 7) <|
                  bd (f_X7_reads x0 4 w32) fun v37 w38 =>
                  if v37 = 0 then
                    some ((0 : Int32), w38)
                  else
                    f_X7_readMedals_l9 n x0 x1 (v5 - (1 : Int32)) (x3 + (1 : Int32)) w38
              else
                some ((1 : Int32), w32)
theorem f_X7_readMedals_l9_s (n : Nat) (x0 : Nat) (x1 : Nat) (x2 : Int32) (x3 : Int32) (w : xSt) : f_X7_readMedals_l9 (n + 1) x0 x1 x2 x3 w = (
    if (3 : Int32) ≤ x3 then
      some ((0 : Int32), w)
    else
      gd (isC w x0 7) <|
      bd (f_X7_medalBegunHere x0 x2 w) fun v5 w6 =>
      if v5 = 0 then
        some ((0 : Int32), w6)
      else
        bd (f_X7_nameOf v5 w6) fun v10 w11 =>
        gd (isC w11 x0 7) <|
        bd (f_X7_reads x0 v10 w11) fun v13 w14 =>
        if v13 = 0 then
          some ((0 : Int32), w14)
        else
          gd (isC w14 x0 7) <|
          bd (f_X7_reads x0 3 w14) fun v18 w19 =>
          if v18 = 0 then
            some ((0 : Int32), w19)
          else
            gd (isC w19 x0 7) <|
            bd (f_X7_readNumber x0 w19) fun v23 w24 =>
            if v23 = (-1 : Int32) then
              some ((0 : Int32), w24)
            else
              gd (isC w24 x1 8) <|
              bd (f_X8_add x1 v5 v23 w24) fun _ w28 =>
              gd (isC w28 x0 7) <|
              bd (f_X7_isAtEnd x0 w28) fun v31 w32 =>
              if v31 = 0 then
                if (v5 - (1 : Int32)) = 0 then
                  some ((0 : Int32), w32)
                else
                  gd (isC w32 x0 7) <|
                  bd (f_X7_reads x0 4 w32) fun v37 w38 =>
                  if v37 = 0 then
                    some ((0 : Int32), w38)
                  else
                    f_X7_readMedals_l9 n x0 x1 (v5 - (1 : Int32)) (x3 + (1 : Int32)) w38
              else
                some ((1 : Int32), w32)) := rfl
/-- WorldHall$Tape.readMedals(LWorldHall$Text;)Z -/
def f_X7_readMedals (x0 : Nat) (x1 : Nat) (w : xSt) : Option (Int32 × xSt) :=
  gd (isC w x0 7) <|
  lt1 (sI w x0 2 (0 : Int32)) fun w2 =>
  f_X7_readMedals_l9 xFu x0 x1 (3 : Int32) (0 : Int32) w2
/-- WorldHall$Tape.readWeekday()I -/
def f_X7_readWeekday (x0 : Nat) (w : xSt) : Option (Int32 × xSt) :=
  gd (isC w x0 7) <|
  bd (f_X7_isDigitHere x0 (54 : Int32) w) fun v1 w2 =>
  if v1 = 0 then
    some ((-1 : Int32), w2)
  else
    gd (isC w2 x0 7) <|
    lt1 (sI w2 x0 2 ((wI w2 x0 2) + (1 : Int32))) fun w7 =>
    gd (isC w7 (wR w7 x0 0) 22) <|
    gd (inR ((wI w7 x0 2) - (1 : Int32)) (wN w7 (wR w7 x0 0))) <|
    some ((wI w7 (wR w7 x0 0) ((wI w7 x0 2) - (1 : Int32)).toNatClampNeg) - (48 : Int32), w7)
def f_X7_readDays_b57 (k23 : Nat → Nat → Int32 → Int32 → xSt → Option (Int32 × xSt)) (x0 : Nat) (x1 : Nat) (x2 : Int32) (x3 : Int32) (s0 : Int32) (w : xSt) : Option (Int32 × xSt) :=
  if s0 = (-1 : Int32) then
    some ((0 : Int32), w)
  else
    gd (isC w x0 7) <|
    bd (f_X7_reads x0 4 w) fun v30 w31 =>
    if v30 = 0 then
      some ((0 : Int32), w31)
    else
      gd (isC w31 x1 8) <|
      bd (f_X8_add x1 s0 x2 w31) fun _ w35 =>
      gd (isC w35 x0 7) <|
      bd (f_X7_readNumber x0 w35) fun v38 w39 =>
      k23 x0 x1 v38 (x3 + (1 : Int32)) w39
def f_X7_readDays_b94 (x0 : Nat) (x1 : Nat) (x2 : Int32) (w : xSt) : Option (Int32 × xSt) :=
  gd (isC w x1 8) <|
  bd (f_X8_add x1 (-1 : Int32) x2 w) fun _ w42 =>
  if x2 = (-1 : Int32) then
    some ((0 : Int32), w42)
  else
    gd (isC w42 x0 7) <|
    bd (f_X7_isAtEnd x0 w42) fun v46 w47 =>
    if v46 = 0 then
      some ((0 : Int32), w47)
    else
      some ((1 : Int32), w47)
def f_X7_readDays_l23 : Nat → Nat → Nat → Int32 → Int32 → xSt → Option (Int32 × xSt)
  | 0 => fun _ _ _ _ _ => none
  | n + 1 => fun x0 x1 x2 x3 w =>
    if (4 : Int32) ≤ x3 then
      f_X7_readDays_b94 x0 x1 x2 w
    else
      if x2 = (-1 : Int32) then
        f_X7_readDays_b94 x0 x1 x2 w
      else
        gd (isC w x0 7) <|
        bd (f_X7_isAtEnd x0 w) fun v15 w16 =>
        if v15 = 0 then
          gd (isC w16 x0 7) <|
          bd (f_X7_reads x0 6 w16) fun v20 w21 =>
          if v20 = 0 then
            f_X7_readDays_b57 (f_X7_readDays_l23 n) x0 x1 x2 x3 (-1 : Int32) w21
          else
            gd (isC w21 x0 7) <|
            bd (f_X7_readWeekday x0 w21) fun v25 w26 =>
            f_X7_readDays_b57 (f_X7_readDays_l23 n) x0 x1 x2 x3 v25 w26
        else
          f_X7_readDays_b94 x0 x1 x2 w16
theorem f_X7_readDays_l23_s (n : Nat) (x0 : Nat) (x1 : Nat) (x2 : Int32) (x3 : Int32) (w : xSt) : f_X7_readDays_l23 (n + 1) x0 x1 x2 x3 w = (
    if (4 : Int32) ≤ x3 then
      f_X7_readDays_b94 x0 x1 x2 w
    else
      if x2 = (-1 : Int32) then
        f_X7_readDays_b94 x0 x1 x2 w
      else
        gd (isC w x0 7) <|
        bd (f_X7_isAtEnd x0 w) fun v15 w16 =>
        if v15 = 0 then
          gd (isC w16 x0 7) <|
          bd (f_X7_reads x0 6 w16) fun v20 w21 =>
          if v20 = 0 then
            f_X7_readDays_b57 (f_X7_readDays_l23 n) x0 x1 x2 x3 (-1 : Int32) w21
          else
            gd (isC w21 x0 7) <|
            bd (f_X7_readWeekday x0 w21) fun v25 w26 =>
            f_X7_readDays_b57 (f_X7_readDays_l23 n) x0 x1 x2 x3 v25 w26
        else
          f_X7_readDays_b94 x0 x1 x2 w16) := rfl
/-- WorldHall$Tape.readDays(LWorldHall$Text;)Z -/
def f_X7_readDays (x0 : Nat) (x1 : Nat) (w : xSt) : Option (Int32 × xSt) :=
  gd (isC w x0 7) <|
  lt1 (sI w x0 2 (0 : Int32)) fun w2 =>
  bd (f_X7_reads x0 5 w2) fun v4 w5 =>
  if v4 = 0 then
    some ((0 : Int32), w5)
  else
    gd (isC w5 x0 7) <|
    bd (f_X7_readNumber x0 w5) fun v9 w10 =>
    f_X7_readDays_l23 xFu x0 x1 v9 (0 : Int32) w10
/-- WorldHall$Text.<init>()V -/
def f_X8_init (x0 : Nat) (w : xSt) : Option (Unit × xSt) :=
  gd (isC w x0 8) <|
  gd (wZ w + 1 < 1000) <|
  lt1 (wZ w + 1) fun q3 =>
  lt1 (nA w 20 (5 : Int32).toNatClampNeg) fun w5 =>
  lt1 (sR w5 x0 0 q3) fun w9 =>
  gd (wZ w9 + 1 < 1000) <|
  lt1 (wZ w9 + 1) fun q12 =>
  lt1 (nA w9 20 (5 : Int32).toNatClampNeg) fun w14 =>
  lt1 (sR w14 x0 1 q12) fun w19 =>
  some ((), w19)
/-- WorldHall$Text.begin(I)V -/
def f_X8_begin (x0 : Nat) (x1 : Int32) (w : xSt) : Option (Unit × xSt) :=
  gd (isC w x0 8) <|
  lt1 (sI w x0 3 x1) fun w2 =>
  lt1 (sI w2 x0 2 (0 : Int32)) fun w5 =>
  some ((), w5)
def f_X8_medalFor_l2 : Nat → Nat → Int32 → Int32 → xSt → Option (Int32 × xSt)
  | 0 => fun _ _ _ _ => none
  | n + 1 => fun x0 x1 x2 w =>
    gd (isC w x0 8) <|
    if (wI w x0 2) ≤ x2 then
      some ((0 : Int32), w)
    else
      gd (isC w (wR w x0 1) 20) <|
      gd (inR x2 (wN w (wR w x0 1))) <|
      if x1 < (wI w (wR w x0 1) x2.toNatClampNeg) then
        f_X8_medalFor_l2 n x0 x1 (x2 + (1 : Int32)) w
      else
        gd (isC w (wR w x0 0) 20) <|
        gd (inR x2 (wN w (wR w x0 0))) <|
        some (wI w (wR w x0 0) x2.toNatClampNeg, w)
theorem f_X8_medalFor_l2_s (n : Nat) (x0 : Nat) (x1 : Int32) (x2 : Int32) (w : xSt) : f_X8_medalFor_l2 (n + 1) x0 x1 x2 w = (
    gd (isC w x0 8) <|
    if (wI w x0 2) ≤ x2 then
      some ((0 : Int32), w)
    else
      gd (isC w (wR w x0 1) 20) <|
      gd (inR x2 (wN w (wR w x0 1))) <|
      if x1 < (wI w (wR w x0 1) x2.toNatClampNeg) then
        f_X8_medalFor_l2 n x0 x1 (x2 + (1 : Int32)) w
      else
        gd (isC w (wR w x0 0) 20) <|
        gd (inR x2 (wN w (wR w x0 0))) <|
        some (wI w (wR w x0 0) x2.toNatClampNeg, w)) := rfl
/-- WorldHall$Text.medalFor(I)I -/
def f_X8_medalFor (x0 : Nat) (x1 : Int32) (w : xSt) : Option (Int32 × xSt) :=
  f_X8_medalFor_l2 xFu x0 x1 (0 : Int32) w
/-- java/lang/Math.floorMod(II)I -/
def f_J9_floorMod_7cf53 (x0 : Int32) (x1 : Int32) (w : xSt) : Option (Int32 × xSt) :=
  gd (¬ x1 = 0) <|
  if 0 ≤ (x0 ^^^ x1) then
    some (x0 - x0 / x1 * x1, w)
  else
    if (x0 - x0 / x1 * x1) = 0 then
      some (x0 - x0 / x1 * x1, w)
    else
      some ((x0 - x0 / x1 * x1) + x1, w)
def f_X8_priceOf_l9 : Nat → Nat → Int32 → Int32 → xSt → Option (Int32 × xSt)
  | 0 => fun _ _ _ _ => none
  | n + 1 => fun x0 x2 x3 w =>
    gd (isC w x0 8) <|
    if (wI w x0 2) ≤ x3 then
      some ((0 : Int32), w)
    else
      gd (isC w (wR w x0 0) 20) <|
      gd (inR x3 (wN w (wR w x0 0))) <|
      if (wI w (wR w x0 0) x3.toNatClampNeg) = x2 then
        gd (isC w (wR w x0 1) 20) <|
        gd (inR x3 (wN w (wR w x0 1))) <|
        some (wI w (wR w x0 1) x3.toNatClampNeg, w)
      else
        if (wI w (wR w x0 0) x3.toNatClampNeg) = (-1 : Int32) then
          gd (isC w (wR w x0 1) 20) <|
          gd (inR x3 (wN w (wR w x0 1))) <|
          some (wI w (wR w x0 1) x3.toNatClampNeg, w)
        else
          f_X8_priceOf_l9 n x0 x2 (x3 + (1 : Int32)) w
theorem f_X8_priceOf_l9_s (n : Nat) (x0 : Nat) (x2 : Int32) (x3 : Int32) (w : xSt) : f_X8_priceOf_l9 (n + 1) x0 x2 x3 w = (
    gd (isC w x0 8) <|
    if (wI w x0 2) ≤ x3 then
      some ((0 : Int32), w)
    else
      gd (isC w (wR w x0 0) 20) <|
      gd (inR x3 (wN w (wR w x0 0))) <|
      if (wI w (wR w x0 0) x3.toNatClampNeg) = x2 then
        gd (isC w (wR w x0 1) 20) <|
        gd (inR x3 (wN w (wR w x0 1))) <|
        some (wI w (wR w x0 1) x3.toNatClampNeg, w)
      else
        if (wI w (wR w x0 0) x3.toNatClampNeg) = (-1 : Int32) then
          gd (isC w (wR w x0 1) 20) <|
          gd (inR x3 (wN w (wR w x0 1))) <|
          some (wI w (wR w x0 1) x3.toNatClampNeg, w)
        else
          f_X8_priceOf_l9 n x0 x2 (x3 + (1 : Int32)) w) := rfl
/-- WorldHall$Text.priceOf(I)I -/
def f_X8_priceOf (x0 : Nat) (x1 : Int32) (w : xSt) : Option (Int32 × xSt) :=
  bd (f_J9_floorMod_7cf53 x1 (7 : Int32) w) fun v1 w2 =>
  f_X8_priceOf_l9 xFu x0 v1 (0 : Int32) w2
def f_X9_init_l15 : Nat → Nat → Int32 → Nat → Nat → xSt → Option (Unit × xSt)
  | 0 => fun _ _ _ _ _ => none
  | n + 1 => fun x0 x1 bc bs w =>
    if (6 : Int32) ≤ x1 then
      some ((), w)
    else
      gd (isC w x0 9) <|
      gd (wZ w + 1 < 1000) <|
      gd (1 ≤ bc) <|
      gd (4 ≤ bs) <|
      lt1 (wZ w + 1) fun q18 =>
      lt1 (nA w 8 0) fun w20 =>
      gd (2 ≤ (bc - 1)) <|
      gd (10 ≤ (bs - 4)) <|
      bd (f_X8_init q18 w20) fun _ w23 =>
      gd (isC w23 (wR w x0 0) 25) <|
      gd (inR x1 (wN w23 (wR w x0 0))) <|
      gd (isC w23 q18 8) <|
      lt1 (sR w23 (wR w x0 0) x1.toNatClampNeg q18) fun w30 =>
      f_X9_init_l15 n x0 (x1 + (1 : Int32)) ((bc - 1) - 2) ((bs - 4) - 10) w30
theorem f_X9_init_l15_s (n : Nat) (x0 : Nat) (x1 : Int32) (bc bs : Nat) (w : xSt) : f_X9_init_l15 (n + 1) x0 x1 bc bs w = (
    if (6 : Int32) ≤ x1 then
      some ((), w)
    else
      gd (isC w x0 9) <|
      gd (wZ w + 1 < 1000) <|
      gd (1 ≤ bc) <|
      gd (4 ≤ bs) <|
      lt1 (wZ w + 1) fun q18 =>
      lt1 (nA w 8 0) fun w20 =>
      gd (2 ≤ (bc - 1)) <|
      gd (10 ≤ (bs - 4)) <|
      bd (f_X8_init q18 w20) fun _ w23 =>
      gd (isC w23 (wR w x0 0) 25) <|
      gd (inR x1 (wN w23 (wR w x0 0))) <|
      gd (isC w23 q18 8) <|
      lt1 (sR w23 (wR w x0 0) x1.toNatClampNeg q18) fun w30 =>
      f_X9_init_l15 n x0 (x1 + (1 : Int32)) ((bc - 1) - 2) ((bs - 4) - 10) w30) := rfl
/-- WorldHall$Texts.<init>()V -/
def f_X9_init (x0 : Nat) (w : xSt) : Option (Unit × xSt) :=
  gd (isC w x0 9) <|
  gd (wZ w + 1 < 1000) <|
  gd (1 ≤ 19) <|
  gd (6 ≤ 90) <|
  lt1 (wZ w + 1) fun q5 =>
  lt1 (nA w 25 (6 : Int32).toNatClampNeg) fun w7 =>
  lt1 (sR w7 x0 0 q5) fun w11 =>
  f_X9_init_l15 xFu x0 (0 : Int32) (19 - 1) (90 - 6) w11
/-- WorldHall$Texts.next()LWorldHall$Text; -/
def f_X9_next (x0 : Nat) (w : xSt) : Option (Nat × xSt) :=
  gd (isC w x0 9) <|
  if (6 : Int32) ≤ (wI w x0 1) then
    some (0, w)
  else
    gd (isC w (wR w x0 0) 25) <|
    gd (inR (wI w x0 1) (wN w (wR w x0 0))) <|
    some (wR w (wR w x0 0) (wI w x0 1).toNatClampNeg, w)
/-- WorldHall$Texts.keepNext()I -/
def f_X9_keepNext (x0 : Nat) (w : xSt) : Option (Int32 × xSt) :=
  gd (isC w x0 9) <|
  lt1 (sI w x0 1 ((wI w x0 1) + (1 : Int32))) fun w2 =>
  some (wI w2 x0 1, w2)
def f_X9_inForce_l4 : Nat → Nat → Int32 → Nat → Int32 → xSt → Option (Nat × xSt)
  | 0 => fun _ _ _ _ _ => none
  | n + 1 => fun x0 x1 x2 x3 w =>
    gd (isC w x0 9) <|
    if (wI w x0 1) ≤ x3 then
      some (x2, w)
    else
      gd (isC w (wR w x0 0) 25) <|
      gd (inR x3 (wN w (wR w x0 0))) <|
      gd (isC w (wR w (wR w x0 0) x3.toNatClampNeg) 8) <|
      if x1 < (wI w (wR w (wR w x0 0) x3.toNatClampNeg) 3) then
        f_X9_inForce_l4 n x0 x1 x2 (x3 + (1 : Int32)) w
      else
        gd (x2 < 1000) <|
        if x2 = 0 then
          f_X9_inForce_l4 n x0 x1 (wR w (wR w x0 0) x3.toNatClampNeg) (x3 + (1 : Int32)) w
        else
          gd (isC w x2 8) <|
          if (wI w (wR w (wR w x0 0) x3.toNatClampNeg) 3) < (wI w x2 3) then
            f_X9_inForce_l4 n x0 x1 x2 (x3 + (1 : Int32)) w
          else
            f_X9_inForce_l4 n x0 x1 (wR w (wR w x0 0) x3.toNatClampNeg) (x3 + (1 : Int32)) w
theorem f_X9_inForce_l4_s (n : Nat) (x0 : Nat) (x1 : Int32) (x2 : Nat) (x3 : Int32) (w : xSt) : f_X9_inForce_l4 (n + 1) x0 x1 x2 x3 w = (
    gd (isC w x0 9) <|
    if (wI w x0 1) ≤ x3 then
      some (x2, w)
    else
      gd (isC w (wR w x0 0) 25) <|
      gd (inR x3 (wN w (wR w x0 0))) <|
      gd (isC w (wR w (wR w x0 0) x3.toNatClampNeg) 8) <|
      if x1 < (wI w (wR w (wR w x0 0) x3.toNatClampNeg) 3) then
        f_X9_inForce_l4 n x0 x1 x2 (x3 + (1 : Int32)) w
      else
        gd (x2 < 1000) <|
        if x2 = 0 then
          f_X9_inForce_l4 n x0 x1 (wR w (wR w x0 0) x3.toNatClampNeg) (x3 + (1 : Int32)) w
        else
          gd (isC w x2 8) <|
          if (wI w (wR w (wR w x0 0) x3.toNatClampNeg) 3) < (wI w x2 3) then
            f_X9_inForce_l4 n x0 x1 x2 (x3 + (1 : Int32)) w
          else
            f_X9_inForce_l4 n x0 x1 (wR w (wR w x0 0) x3.toNatClampNeg) (x3 + (1 : Int32)) w) := rfl
/-- WorldHall$Texts.inForce(I)LWorldHall$Text; -/
def f_X9_inForce (x0 : Nat) (x1 : Int32) (w : xSt) : Option (Nat × xSt) :=
  f_X9_inForce_l4 xFu x0 x1 0 (0 : Int32) w
/-- WorldHall.<init>(II)V -/
def f_X10_init (x0 : Nat) (x1 : Int32) (x2 : Int32) (w : xSt) : Option (Unit × xSt) :=
  gd (isC w x0 10) <|
  gd (wZ w + 1 < 1000) <|
  lt1 (wZ w + 1) fun q3 =>
  lt1 (nA w 0 0) fun w5 =>
  bd (f_J9_floorMod_7cf53 x1 (6 : Int32) w5) fun v8 w9 =>
  bd (f_J9_floorMod_7cf53 x2 (6 : Int32) w9) fun v11 w12 =>
  gd (isC w12 q3 0) <|
  bd (f_X0_init q3 ((3 : Int32) + v8) ((3 : Int32) + v11) w12) fun _ w14 =>
  gd (isC w14 x0 10) <|
  lt1 (sR w14 x0 0 q3) fun w18 =>
  gd (wZ w18 + 1 < 1000) <|
  lt1 (wZ w18 + 1) fun q21 =>
  lt1 (nA w18 5 0) fun w23 =>
  bd (f_X5_init q21 (wR w23 x0 0) w23) fun _ w28 =>
  gd (isC w28 x0 10) <|
  lt1 (sR w28 x0 1 q21) fun w31 =>
  gd (wZ w31 + 1 < 1000) <|
  lt1 (wZ w31 + 1) fun q34 =>
  lt1 (nA w31 2 0) fun w36 =>
  bd (f_X2_init q34 (wR w36 x0 0) (wR w36 x0 1) w36) fun _ w41 =>
  gd (isC w41 x0 10) <|
  lt1 (sR w41 x0 2 q34) fun w44 =>
  gd (wZ w44 + 1 < 1000) <|
  lt1 (wZ w44 + 1) fun q47 =>
  lt1 (nA w44 7 0) fun w49 =>
  bd (f_X7_init q47 w49) fun _ w52 =>
  gd (isC w52 x0 10) <|
  lt1 (sR w52 x0 3 q47) fun w55 =>
  gd (wZ w55 + 1 < 1000) <|
  lt1 (wZ w55 + 1) fun q58 =>
  lt1 (nA w55 9 0) fun w60 =>
  bd (f_X9_init q58 w60) fun _ w63 =>
  gd (isC w63 x0 10) <|
  lt1 (sR w63 x0 4 q58) fun w66 =>
  gd (wZ w66 + 1 < 1000) <|
  lt1 (wZ w66 + 1) fun q69 =>
  lt1 (nA w66 9 0) fun w71 =>
  bd (f_X9_init q69 w71) fun _ w74 =>
  gd (isC w74 x0 10) <|
  lt1 (sR w74 x0 5 q69) fun w77 =>
  gd (wZ w77 + 1 < 1000) <|
  lt1 (wZ w77 + 1) fun q80 =>
  lt1 (nA w77 3 0) fun w82 =>
  bd (f_X3_init q80 w82) fun _ w85 =>
  gd (isC w85 x0 10) <|
  lt1 (sR w85 x0 6 q80) fun w88 =>
  gd (wZ w88 + 1 < 1000) <|
  lt1 (wZ w88 + 1) fun q91 =>
  lt1 (nA w88 1 0) fun w93 =>
  bd (f_X1_init q91 w93) fun _ w96 =>
  gd (isC w96 x0 10) <|
  lt1 (sR w96 x0 7 q91) fun w99 =>
  gd (wZ w99 + 1 < 1000) <|
  lt1 (wZ w99 + 1) fun q102 =>
  lt1 (nA w99 4 0) fun w104 =>
  bd (f_X4_init q102 w104) fun _ w107 =>
  gd (isC w107 x0 10) <|
  lt1 (sR w107 x0 8 q102) fun w110 =>
  lt1 (sI w110 x0 9 (180 : Int32)) fun w113 =>
  some ((), w113)
/-- WorldHall.within(III)Z -/
def f_X10_within (x0 : Int32) (x1 : Int32) (x2 : Int32) (w : xSt) : Option (Int32 × xSt) :=
  if x0 < x1 then
    some ((0 : Int32), w)
  else
    if x2 < x0 then
      some ((0 : Int32), w)
    else
      some ((1 : Int32), w)
def f_X10_cell_b41 (x0 : Nat) (x1 : Int32) (x2 : Int32) (w : xSt) : Option (Int32 × xSt) :=
  gd (isC w x0 10) <|
  gd (isC w (wR w x0 1) 5) <|
  bd (f_X5_laidOnes (wR w x0 1) w) fun v19 w20 =>
  if v19 ≤ 0 then
    gd (isC w20 x0 10) <|
    gd (isC w20 (wR w20 x0 0) 0) <|
    bd (f_X0_kindOf (wR w20 x0 0) x1 w20) fun v25 w26 =>
    gd (isC w26 x0 10) <|
    gd (isC w26 (wR w26 x0 0) 0) <|
    bd (f_X0_setKind (wR w26 x0 0) x1 x2 w26) fun _ w30 =>
    some (v25, w30)
  else
    some ((-3 : Int32), w20)
/-- WorldHall.cell(II)I -/
def f_X10_cell (x0 : Nat) (x1 : Int32) (x2 : Int32) (w : xSt) : Option (Int32 × xSt) :=
  gd (isC w x0 10) <|
  gd (isC w (wR w x0 0) 0) <|
  bd (f_X0_has (wR w x0 0) x1 w) fun v2 w3 =>
  if v2 = 0 then
    some ((-1 : Int32), w3)
  else
    bd (f_X10_within x2 (0 : Int32) (3 : Int32) w3) fun v7 w8 =>
    if v7 = 0 then
      some ((-2 : Int32), w8)
    else
      if x2 = (1 : Int32) then
        gd (isC w8 x0 10) <|
        gd (isC w8 (wR w8 x0 0) 0) <|
        bd (f_X0_onEdge (wR w8 x0 0) x1 w8) fun v13 w14 =>
        if v13 = 0 then
          some ((-2 : Int32), w14)
        else
          f_X10_cell_b41 x0 x1 x2 w14
      else
        f_X10_cell_b41 x0 x1 x2 w8
/-- WorldHall.bears(II)I -/
def f_X10_bears (x0 : Nat) (x1 : Int32) (x2 : Int32) (w : xSt) : Option (Int32 × xSt) :=
  gd (isC w x0 10) <|
  gd (isC w (wR w x0 0) 0) <|
  bd (f_X0_has (wR w x0 0) x1 w) fun v2 w3 =>
  if v2 = 0 then
    some ((-1 : Int32), w3)
  else
    bd (f_X10_within x2 (0 : Int32) (99 : Int32) w3) fun v7 w8 =>
    if v7 = 0 then
      some ((-2 : Int32), w8)
    else
      gd (isC w8 x0 10) <|
      gd (isC w8 (wR w8 x0 1) 5) <|
      bd (f_X5_laidOnes (wR w8 x0 1) w8) fun v12 w13 =>
      if v12 ≤ 0 then
        gd (isC w13 x0 10) <|
        gd (isC w13 (wR w13 x0 0) 0) <|
        gd (isC w13 (wR w13 (wR w13 x0 0) 7) 20) <|
        gd (inR x1 (wN w13 (wR w13 (wR w13 x0 0) 7))) <|
        lt1 (sI w13 (wR w13 (wR w13 x0 0) 7) x1.toNatClampNeg x2) fun w21 =>
        some (wI w13 (wR w13 (wR w13 x0 0) 7) x1.toNatClampNeg, w21)
      else
        some ((-3 : Int32), w13)
/-- WorldHall.aisle(I)I -/
def f_X10_aisle (x0 : Nat) (x1 : Int32) (w : xSt) : Option (Int32 × xSt) :=
  bd (f_X10_within x1 (0 : Int32) (3 : Int32) w) fun v1 w2 =>
  if v1 = 0 then
    some ((-2 : Int32), w2)
  else
    gd (isC w2 x0 10) <|
    gd (isC w2 (wR w2 x0 1) 5) <|
    bd (f_X5_laidOnes (wR w2 x0 1) w2) fun v6 w7 =>
    if v6 ≤ 0 then
      gd (isC w7 x0 10) <|
      gd (isC w7 (wR w7 x0 1) 5) <|
      lt1 (sI w7 (wR w7 x0 1) 3 x1) fun w13 =>
      some (wI w7 (wR w7 x0 1) 3, w13)
    else
      some ((-3 : Int32), w7)
/-- WorldHall.isLand(I)Z -/
def f_X10_isLand (x0 : Int32) (w : xSt) : Option (Int32 × xSt) :=
  bd (f_X10_within x0 (0 : Int32) (7 : Int32) w) fun v1 w2 =>
  gd (v1 = 0 ∨ v1 = 1) <|
  some (v1, w2)
/-- WorldHall.isClass(I)Z -/
def f_X10_isClass (x0 : Int32) (w : xSt) : Option (Int32 × xSt) :=
  bd (f_X10_within x0 (0 : Int32) (9 : Int32) w) fun v1 w2 =>
  gd (v1 = 0 ∨ v1 = 1) <|
  some (v1, w2)
/-- WorldHall.stand(IIIIII)I -/
def f_X10_stand (x0 : Nat) (x1 : Int32) (x2 : Int32) (x3 : Int32) (x4 : Int32) (x5 : Int32) (x6 : Int32) (w : xSt) : Option (Int32 × xSt) :=
  bd (f_X10_within x1 (0 : Int32) (4 : Int32) w) fun v1 w2 =>
  if v1 = 0 then
    some ((-2 : Int32), w2)
  else
    bd (f_X10_isLand x2 w2) fun v5 w6 =>
    if v5 = 0 then
      some ((-2 : Int32), w6)
    else
      bd (f_X10_isClass x3 w6) fun v9 w10 =>
      if v9 = 0 then
        some ((-2 : Int32), w10)
      else
        bd (f_X10_within x4 (1 : Int32) (4 : Int32) w10) fun v13 w14 =>
        if v13 = 0 then
          some ((-2 : Int32), w14)
        else
          bd (f_X10_within x5 (1 : Int32) (4 : Int32) w14) fun v17 w18 =>
          if v17 = 0 then
            some ((-2 : Int32), w18)
          else
            bd (f_X10_within x6 (0 : Int32) (99 : Int32) w18) fun v21 w22 =>
            if v21 = 0 then
              some ((-2 : Int32), w22)
            else
              gd (isC w22 x0 10) <|
              gd (isC w22 (wR w22 x0 1) 5) <|
              if (wI w22 (wR w22 x0 1) 2) < (9 : Int32) then
                gd (wZ w22 + 1 < 1000) <|
                lt1 (wZ w22 + 1) fun q29 =>
                lt1 (nA w22 6 0) fun w31 =>
                bd (f_X6_init q29 x1 x2 x3 x4 x5 x6 w31) fun _ w34 =>
                gd (isC w34 (wR w22 x0 1) 5) <|
                bd (f_X5_add (wR w22 x0 1) q29 w34) fun v36 w37 =>
                some (v36, w37)
              else
                some ((-4 : Int32), w22)
/-- WorldHall.hinders(II)I -/
def f_X10_hinders (x0 : Nat) (x1 : Int32) (x2 : Int32) (w : xSt) : Option (Int32 × xSt) :=
  gd (isC w x0 10) <|
  gd (isC w (wR w x0 1) 5) <|
  bd (f_X5_find (wR w x0 1) x1 w) fun v2 w3 =>
  gd (v2 < 1000) <|
  if v2 = 0 then
    some ((-1 : Int32), w3)
  else
    gd (isC w3 x0 10) <|
    gd (isC w3 (wR w3 x0 0) 0) <|
    bd (f_X0_has (wR w3 x0 0) x2 w3) fun v9 w10 =>
    if v9 = 0 then
      some ((-1 : Int32), w10)
    else
      gd (isC w10 x0 10) <|
      gd (isC w10 (wR w10 x0 1) 5) <|
      bd (f_X5_hindrance (wR w10 x0 1) v2 x2 w10) fun v15 w16 =>
      some (v15, w16)
/-- WorldHall.lay(II)I -/
def f_X10_lay (x0 : Nat) (x1 : Int32) (x2 : Int32) (w : xSt) : Option (Int32 × xSt) :=
  gd (isC w x0 10) <|
  gd (isC w (wR w x0 1) 5) <|
  bd (f_X5_find (wR w x0 1) x1 w) fun v2 w3 =>
  gd (v2 < 1000) <|
  if v2 = 0 then
    some ((-1 : Int32), w3)
  else
    gd (isC w3 x0 10) <|
    gd (isC w3 (wR w3 x0 0) 0) <|
    bd (f_X0_has (wR w3 x0 0) x2 w3) fun v9 w10 =>
    if v9 = 0 then
      some ((-1 : Int32), w10)
    else
      gd (isC w10 v2 6) <|
      if (wI w10 v2 8) = 0 then
        gd (isC w10 x0 10) <|
        gd (isC w10 (wR w10 x0 1) 5) <|
        bd (f_X5_hindrance (wR w10 x0 1) v2 x2 w10) fun v17 w18 =>
        if v17 = 0 then
          gd (isC w18 x0 10) <|
          gd (isC w18 (wR w18 x0 1) 5) <|
          bd (f_X5_put (wR w18 x0 1) v2 x2 w18) fun _ w23 =>
          some (v17, w23)
        else
          some (v17, w18)
      else
        some ((-3 : Int32), w10)
/-- WorldHall.take(I)I -/
def f_X10_take (x0 : Nat) (x1 : Int32) (w : xSt) : Option (Int32 × xSt) :=
  gd (isC w x0 10) <|
  gd (isC w (wR w x0 1) 5) <|
  bd (f_X5_find (wR w x0 1) x1 w) fun v2 w3 =>
  gd (v2 < 1000) <|
  if v2 = 0 then
    some ((-1 : Int32), w3)
  else
    gd (isC w3 v2 6) <|
    bd (f_X6_isLaid v2 w3) fun v8 w9 =>
    if v8 = 0 then
      some ((-1 : Int32), w9)
    else
      gd (isC w9 v2 6) <|
      if (wI w9 v2 8) = 0 then
        bd (f_X6_lift v2 w9) fun _ w15 =>
        some (wI w9 v2 6, w15)
      else
        some ((-3 : Int32), w9)
/-- WorldHall.about(II)I -/
def f_X10_about (x0 : Nat) (x1 : Int32) (x2 : Int32) (w : xSt) : Option (Int32 × xSt) :=
  gd (isC w x0 10) <|
  gd (isC w (wR w x0 1) 5) <|
  bd (f_X5_find (wR w x0 1) x1 w) fun v2 w3 =>
  gd (v2 < 1000) <|
  if v2 = 0 then
    some ((-1 : Int32), w3)
  else
    if x2 = (0 : Int32) then
      gd (isC w3 v2 6) <|
      some (wI w3 v2 0, w3)
    else
      if x2 = (1 : Int32) then
        gd (isC w3 v2 6) <|
        some (wI w3 v2 1, w3)
      else
        if x2 = (2 : Int32) then
          gd (isC w3 v2 6) <|
          some (wI w3 v2 2, w3)
        else
          if x2 = (3 : Int32) then
            gd (isC w3 v2 6) <|
            some (wI w3 v2 6, w3)
          else
            if x2 = (4 : Int32) then
              gd (isC w3 v2 6) <|
              if (wI w3 v2 8) = 0 then
                some ((0 : Int32), w3)
              else
                some ((1 : Int32), w3)
            else
              if x2 = (5 : Int32) then
                gd (isC w3 v2 6) <|
                some (wI w3 v2 9, w3)
              else
                if x2 = (6 : Int32) then
                  gd (isC w3 x0 10) <|
                  gd (isC w3 (wR w3 x0 6) 3) <|
                  bd (f_X3_marksOf (wR w3 x0 6) x1 w3) fun v23 w24 =>
                  some (v23, w24)
                else
                  some ((-1 : Int32), w3)
/-- WorldHall.at(I)I -/
def f_X10_at (x0 : Nat) (x1 : Int32) (w : xSt) : Option (Int32 × xSt) :=
  gd (isC w x0 10) <|
  gd (isC w (wR w x0 0) 0) <|
  bd (f_X0_has (wR w x0 0) x1 w) fun v2 w3 =>
  if v2 = 0 then
    some ((-1 : Int32), w3)
  else
    gd (isC w3 x0 10) <|
    gd (isC w3 (wR w3 x0 1) 5) <|
    bd (f_X5_standOn (wR w3 x0 1) x1 w3) fun v8 w9 =>
    some (v8, w9)
/-- WorldHall.price()I -/
def f_X10_price (x0 : Nat) (w : xSt) : Option (Int32 × xSt) :=
  gd (isC w x0 10) <|
  gd (isC w (wR w x0 1) 5) <|
  bd (f_X5_wholePrice (wR w x0 1) w) fun v2 w3 =>
  some (v2, w3)
def f_X10_better_l15 : Nat → Nat → Int32 → xSt → Option (Int32 × xSt)
  | 0 => fun _ _ _ => none
  | n + 1 => fun x0 x1 w =>
    if (50 : Int32) ≤ x1 then
      some (x1, w)
    else
      gd (isC w x0 10) <|
      gd (isC w (wR w x0 1) 5) <|
      bd (f_X5_moveFirst (wR w x0 1) w) fun v9 w10 =>
      if v9 = 0 then
        some (x1, w10)
      else
        f_X10_better_l15 n x0 (x1 + (1 : Int32)) w10
theorem f_X10_better_l15_s (n : Nat) (x0 : Nat) (x1 : Int32) (w : xSt) : f_X10_better_l15 (n + 1) x0 x1 w = (
    if (50 : Int32) ≤ x1 then
      some (x1, w)
    else
      gd (isC w x0 10) <|
      gd (isC w (wR w x0 1) 5) <|
      bd (f_X5_moveFirst (wR w x0 1) w) fun v9 w10 =>
      if v9 = 0 then
        some (x1, w10)
      else
        f_X10_better_l15 n x0 (x1 + (1 : Int32)) w10) := rfl
/-- WorldHall.better()I -/
def f_X10_better (x0 : Nat) (w : xSt) : Option (Int32 × xSt) :=
  gd (isC w x0 10) <|
  gd (isC w (wR w x0 1) 5) <|
  bd (f_X5_withGoods (wR w x0 1) w) fun v2 w3 =>
  if v2 ≤ 0 then
    f_X10_better_l15 xFu x0 (0 : Int32) w3
  else
    some ((-3 : Int32), w3)
/-- WorldHall.can(I)I -/
def f_X10_can (x0 : Nat) (x1 : Int32) (w : xSt) : Option (Int32 × xSt) :=
  gd (isC w x0 10) <|
  gd (isC w (wR w x0 1) 5) <|
  bd (f_X5_find (wR w x0 1) x1 w) fun v2 w3 =>
  gd (v2 < 1000) <|
  if v2 = 0 then
    some ((-1 : Int32), w3)
  else
    gd (isC w3 v2 6) <|
    bd (f_X6_isLaid v2 w3) fun v8 w9 =>
    if v8 = 0 then
      some ((-1 : Int32), w9)
    else
      gd (isC w9 x0 10) <|
      gd (isC w9 (wR w9 x0 2) 2) <|
      bd (f_X2_mayComeIn (wR w9 x0 2) v2 w9) fun v14 w15 =>
      if v14 = 0 then
        some ((0 : Int32), w15)
      else
        some ((1 : Int32), w15)
/-- WorldHall.bring(I)I -/
def f_X10_bring (x0 : Nat) (x1 : Int32) (w : xSt) : Option (Int32 × xSt) :=
  gd (isC w x0 10) <|
  gd (isC w (wR w x0 1) 5) <|
  bd (f_X5_find (wR w x0 1) x1 w) fun v2 w3 =>
  gd (v2 < 1000) <|
  if v2 = 0 then
    some ((-1 : Int32), w3)
  else
    gd (isC w3 v2 6) <|
    bd (f_X6_isLaid v2 w3) fun v8 w9 =>
    if v8 = 0 then
      some ((-1 : Int32), w9)
    else
      gd (isC w9 v2 6) <|
      if (wI w9 v2 8) = 0 then
        gd (isC w9 x0 10) <|
        gd (isC w9 (wR w9 x0 2) 2) <|
        bd (f_X2_mayComeIn (wR w9 x0 2) v2 w9) fun v16 w17 =>
        gd (isC w17 v2 6) <|
        gd (v16 = 0 ∨ v16 = 1) <|
        lt1 (sI w17 v2 8 v16) fun w22 =>
        if (wI w22 v2 8) = 0 then
          some ((0 : Int32), w22)
        else
          some ((1 : Int32), w22)
      else
        some ((-3 : Int32), w9)
/-- WorldHall.clear()I -/
def f_X10_clear (x0 : Nat) (w : xSt) : Option (Int32 × xSt) :=
  gd (isC w x0 10) <|
  gd (isC w (wR w x0 1) 5) <|
  bd (f_X5_emptyAll (wR w x0 1) w) fun v2 w3 =>
  some (v2, w3)
/-- WorldHall.row(I)I -/
def f_X10_row (x0 : Nat) (x1 : Int32) (w : xSt) : Option (Int32 × xSt) :=
  gd (isC w x0 10) <|
  gd (isC w (wR w x0 2) 2) <|
  bd (f_X2_inOrder (wR w x0 2) x1 w) fun v2 w3 =>
  some (v2, w3)
/-- WorldHall.feed(JI)I -/
def f_X10_feed (x0 : Nat) (x1 : Int64) (x3 : Int32) (w : xSt) : Option (Int32 × xSt) :=
  bd (f_X10_within x3 (1 : Int32) (8 : Int32) w) fun v1 w2 =>
  if v1 = 0 then
    some ((-2 : Int32), w2)
  else
    gd (isC w2 x0 10) <|
    gd (isC w2 (wR w2 x0 3) 7) <|
    bd (f_X7_hasRoom (wR w2 x0 3) x3 w2) fun v6 w7 =>
    if v6 = 0 then
      some ((-4 : Int32), w7)
    else
      gd (isC w7 x0 10) <|
      gd (isC w7 (wR w7 x0 3) 7) <|
      bd (f_X7_add (wR w7 x0 3) x1 x3 w7) fun _ w12 =>
      gd (isC w12 x0 10) <|
      gd (isC w12 (wR w12 x0 3) 7) <|
      some (wI w12 (wR w12 x0 3) 1, w12)
/-- WorldHall.isDay(I)Z -/
def f_X10_isDay (x0 : Int32) (w : xSt) : Option (Int32 × xSt) :=
  bd (f_X10_within x0 (0 : Int32) (999 : Int32) w) fun v1 w2 =>
  gd (v1 = 0 ∨ v1 = 1) <|
  some (v1, w2)
def f_X10_text_b80 (x0 : Nat) (x3 : Nat) (s0 : Int32) (w : xSt) : Option (Int32 × xSt) :=
  gd (isC w x0 10) <|
  gd (isC w (wR w x0 3) 7) <|
  bd (f_X7_empty (wR w x0 3) w) fun _ w34 =>
  if s0 = 0 then
    some ((-10 : Int32) - (wI w (wR w x0 3) 2), w34)
  else
    gd (isC w34 x3 9) <|
    bd (f_X9_keepNext x3 w34) fun v37 w38 =>
    some (v37, w38)
def f_X10_text_b34 (x0 : Nat) (x1 : Int32) (x2 : Int32) (s0 : Nat) (w : xSt) : Option (Int32 × xSt) :=
  gd (isC w s0 9) <|
  bd (f_X9_next s0 w) fun v12 w13 =>
  gd (v12 < 1000) <|
  if v12 = 0 then
    some ((-4 : Int32), w13)
  else
    gd (isC w13 v12 8) <|
    bd (f_X8_begin v12 x2 w13) fun _ w18 =>
    if x1 = 0 then
      gd (isC w18 x0 10) <|
      gd (isC w18 (wR w18 x0 3) 7) <|
      bd (f_X7_readMedals (wR w18 x0 3) v12 w18) fun v28 w29 =>
      f_X10_text_b80 x0 s0 v28 w29
    else
      gd (isC w18 x0 10) <|
      gd (isC w18 (wR w18 x0 3) 7) <|
      bd (f_X7_readDays (wR w18 x0 3) v12 w18) fun v23 w24 =>
      f_X10_text_b80 x0 s0 v23 w24
/-- WorldHall.text(II)I -/
def f_X10_text (x0 : Nat) (x1 : Int32) (x2 : Int32) (w : xSt) : Option (Int32 × xSt) :=
  bd (f_X10_within x1 (0 : Int32) (1 : Int32) w) fun v1 w2 =>
  if v1 = 0 then
    some ((-2 : Int32), w2)
  else
    bd (f_X10_isDay x2 w2) fun v5 w6 =>
    if v5 = 0 then
      some ((-2 : Int32), w6)
    else
      if x1 = 0 then
        gd (isC w6 x0 10) <|
        f_X10_text_b34 x0 x1 x2 (wR w6 x0 4) w6
      else
        gd (isC w6 x0 10) <|
        f_X10_text_b34 x0 x1 x2 (wR w6 x0 5) w6
/-- WorldHall.juror(II)I -/
def f_X10_juror (x0 : Nat) (x1 : Int32) (x2 : Int32) (w : xSt) : Option (Int32 × xSt) :=
  bd (f_X10_isLand x1 w) fun v1 w2 =>
  if v1 = 0 then
    some ((-2 : Int32), w2)
  else
    bd (f_X10_isClass x2 w2) fun v5 w6 =>
    if v5 = 0 then
      some ((-2 : Int32), w6)
    else
      gd (isC w6 x0 10) <|
      gd (isC w6 (wR w6 x0 6) 3) <|
      if (wI w6 (wR w6 x0 6) 4) < (12 : Int32) then
        bd (f_X3_add (wR w6 x0 6) x1 x2 w6) fun v12 w13 =>
        some (v12, w13)
      else
        some ((-4 : Int32), w6)
/-- WorldHall.mark(IIII)I -/
def f_X10_mark (x0 : Nat) (x1 : Int32) (x2 : Int32) (x3 : Int32) (x4 : Int32) (w : xSt) : Option (Int32 × xSt) :=
  gd (isC w x0 10) <|
  gd (isC w (wR w x0 1) 5) <|
  bd (f_X5_find (wR w x0 1) x2 w) fun v2 w3 =>
  gd (v2 < 1000) <|
  if v2 = 0 then
    some ((-5 : Int32), w3)
  else
    gd (isC w3 x0 10) <|
    gd (isC w3 (wR w3 x0 6) 3) <|
    bd (f_X3_has (wR w3 x0 6) x1 w3) fun v9 w10 =>
    if v9 = 0 then
      some ((-5 : Int32), w10)
    else
      bd (f_X10_within x3 (0 : Int32) (100 : Int32) w10) fun v14 w15 =>
      if v14 = 0 then
        some ((-2 : Int32), w15)
      else
        bd (f_X10_isDay x4 w15) fun v18 w19 =>
        if v18 = 0 then
          some ((-2 : Int32), w19)
        else
          gd (isC w19 x0 10) <|
          gd (isC w19 (wR w19 x0 6) 3) <|
          bd (f_X3_mayJudge (wR w19 x0 6) x1 v2 w19) fun v23 w24 =>
          if v23 = 0 then
            some ((-3 : Int32), w24)
          else
            gd (isC w24 x0 10) <|
            gd (isC w24 (wR w24 x0 6) 3) <|
            bd (f_X3_give (wR w24 x0 6) x1 x2 x3 x4 w24) fun v29 w30 =>
            some (v29, w30)
/-- WorldHall.mean(II)I -/
def f_X10_mean (x0 : Nat) (x1 : Int32) (x2 : Int32) (w : xSt) : Option (Int32 × xSt) :=
  gd (isC w x0 10) <|
  gd (isC w (wR w x0 1) 5) <|
  bd (f_X5_find (wR w x0 1) x1 w) fun v2 w3 =>
  gd (v2 < 1000) <|
  if v2 = 0 then
    some ((-1 : Int32), w3)
  else
    gd (isC w3 x0 10) <|
    gd (isC w3 (wR w3 x0 6) 3) <|
    bd (f_X3_average (wR w3 x0 6) x1 x2 w3) fun v9 w10 =>
    some (v9, w10)
/-- WorldHall.medal(II)I -/
def f_X10_medal (x0 : Nat) (x1 : Int32) (x2 : Int32) (w : xSt) : Option (Int32 × xSt) :=
  gd (isC w x0 10) <|
  gd (isC w (wR w x0 1) 5) <|
  bd (f_X5_find (wR w x0 1) x1 w) fun v2 w3 =>
  gd (v2 < 1000) <|
  if v2 = 0 then
    some ((-1 : Int32), w3)
  else
    gd (isC w3 x0 10) <|
    gd (isC w3 (wR w3 x0 6) 3) <|
    bd (f_X3_average (wR w3 x0 6) x1 x2 w3) fun v9 w10 =>
    gd (isC w10 x0 10) <|
    gd (isC w10 (wR w10 x0 4) 9) <|
    bd (f_X9_inForce (wR w10 x0 4) x2 w10) fun v14 w15 =>
    if v9 = (-1 : Int32) then
      some ((0 : Int32), w15)
    else
      gd (v14 < 1000) <|
      if v14 = 0 then
        some ((0 : Int32), w15)
      else
        gd (isC w15 v14 8) <|
        bd (f_X8_medalFor v14 v9 w15) fun v21 w22 =>
        some (v21, w22)
/-- WorldHall.entryPrice(I)I -/
def f_X10_entryPrice (x0 : Nat) (x1 : Int32) (w : xSt) : Option (Int32 × xSt) :=
  gd (isC w x0 10) <|
  gd (isC w (wR w x0 5) 9) <|
  bd (f_X9_inForce (wR w x0 5) x1 w) fun v2 w3 =>
  gd (v2 < 1000) <|
  if v2 = 0 then
    some ((0 : Int32), w3)
  else
    gd (isC w3 v2 8) <|
    bd (f_X8_priceOf v2 x1 w3) fun v8 w9 =>
    some (v8, w9)
/-- WorldHall.cost(I)I -/
def f_X10_cost (x0 : Nat) (x1 : Int32) (w : xSt) : Option (Int32 × xSt) :=
  if 0 ≤ x1 then
    gd (isC w x0 10) <|
    bd (f_X10_entryPrice x0 x1 w) fun v2 w3 =>
    some (v2, w3)
  else
    some ((-1 : Int32), w)
/-- WorldHall.most(I)I -/
def f_X10_most (x0 : Nat) (x1 : Int32) (w : xSt) : Option (Int32 × xSt) :=
  bd (f_X10_within x1 (1 : Int32) (20000 : Int32) w) fun v1 w2 =>
  if v1 = 0 then
    some ((-2 : Int32), w2)
  else
    gd (isC w2 x0 10) <|
    gd (isC w2 (wR w2 x0 7) 1) <|
    lt1 (sI w2 (wR w2 x0 7) 0 x1) fun w7 =>
    some (wI w2 (wR w2 x0 7) 0, w7)
/-- WorldHall.minute(II)I -/
def f_X10_minute (x0 : Nat) (x1 : Int32) (x2 : Int32) (w : xSt) : Option (Int32 × xSt) :=
  bd (f_X10_within x1 (0 : Int32) (2000 : Int32) w) fun v1 w2 =>
  if v1 = 0 then
    some ((-2 : Int32), w2)
  else
    bd (f_X10_within x2 (0 : Int32) (2000 : Int32) w2) fun v5 w6 =>
    if v5 = 0 then
      some ((-2 : Int32), w6)
    else
      gd (isC w6 x0 10) <|
      gd (isC w6 (wR w6 x0 7) 1) <|
      if (wI w6 (wR w6 x0 7) 2) < (600 : Int32) then
        bd (f_X10_entryPrice x0 (wI w6 (wR w6 x0 7) 1) w6) fun v12 w13 =>
        gd (isC w13 (wR w6 x0 7) 1) <|
        bd (f_X1_pass (wR w6 x0 7) x1 x2 v12 w13) fun _ w15 =>
        gd (isC w15 x0 10) <|
        gd (isC w15 (wR w15 x0 7) 1) <|
        some (wI w15 (wR w15 x0 7) 3, w15)
      else
        some ((-4 : Int32), w6)
/-- WorldHall.bell()I -/
def f_X10_bell (x0 : Nat) (w : xSt) : Option (Int32 × xSt) :=
  gd (isC w x0 10) <|
  gd (isC w (wR w x0 7) 1) <|
  if (wI w (wR w x0 7) 1) < (999 : Int32) then
    bd (f_X1_beginNextDay (wR w x0 7) w) fun _ w4 =>
    gd (isC w4 x0 10) <|
    gd (isC w4 (wR w4 x0 7) 1) <|
    some (wI w4 (wR w4 x0 7) 1, w4)
  else
    some ((-4 : Int32), w)
